set_option maxRecDepth 100000 in
set_option maxHeartbeats 4000000 in
theorem k3_X12_people {l : Launch} {Z : li_Z} (d : Nat) (hd : 5 ≤ d) (M0 : li_M) (hJ : li_J M0) : li_Met l Z YX12_people d [.ref (Z.2.2 175)] M0 (fun r M' => (∃ x : Int32, r = some (.int x)) ∧ li_fs (fun i k => i = 176 ∨ i = 177 ∨ i = 178 ∨ i = 182 ∨ i = 1000 ∨ (i = 175 ∧ k = 1) ∨ (i = 175 ∧ k = 10) ∨ (i = 175 ∧ k = 12) ∨ (i = 175 ∧ k = 13) ∨ (i = 175 ∧ k = 14) ∨ (i = 175 ∧ k = 15) ∨ (i = 175 ∧ k = 23) ∨ (i = 175 ∧ k = 48) ∨ (i = 175 ∧ k = 7)) M0 M' ∧ li_J M' ∧ (M'.1 175 7).toInt = 0) := by
  refine li_enter (by decide +kernel) (Nat.le_of_ble_eq_true rfl) ?_
  show li_T l Z YX12_people d 0 [(0, .ref (Z.2.2 175))] [] M0 _
  have hf : li_fs (fun i k => i = 176 ∨ i = 177 ∨ i = 178 ∨ i = 182 ∨ i = 1000 ∨ (i = 175 ∧ k = 1) ∨ (i = 175 ∧ k = 10) ∨ (i = 175 ∧ k = 12) ∨ (i = 175 ∧ k = 13) ∨ (i = 175 ∧ k = 14) ∨ (i = 175 ∧ k = 15) ∨ (i = 175 ∧ k = 23) ∨ (i = 175 ∧ k = 48) ∨ (i = 175 ∧ k = 7)) M0 M0 := li_fs_refl
  have rM0_1 := J_sl1 (M := M0) hJ
  have rM0_7 := J_sl7 (M := M0) hJ
  have rM0_15 := J_sl15 (M := M0) hJ
  refine li_aload_n 0 dX12_people_0 rfl ?_
  refine li_iconst 0 dX12_people_1 (by decide) ?_
  refine li_puti (k := 10) (N := 52) (T := TX12) (C0 := RX12) dX12_people_2 (by decide) sh_175 rfl rfl (by decide) li_in12 tyX12_ok nmX12 rfl rfl rfl rfl w_1414 ?_
  refine li_nm (fun M1 eM1 => ?_)
  have hf := li_fs_ui hf (Or.inr (Or.inr (Or.inr (Or.inr (Or.inr (Or.inr (Or.inl ⟨rfl, rfl⟩))))))) eM1
  have z0 : (0 : Int32).toInt = 0 := rfl
  have hJ := hJ.put (k := 10) (by decide) (rg_free rfl) eM1
  have rM1_1 := J_sl1 (M := M1) hJ
  have rM1_7 := J_sl7 (M := M1) hJ
  have rM1_15 := J_sl15 (M := M1) hJ
  have mM1_1 : (M1.1 175 1).toInt = (M0.1 175 1).toInt := by rw [eM1, li_ui_at, if_pos rfl, if_neg (by decide)]
  have mM1_7 : (M1.1 175 7).toInt = (M0.1 175 7).toInt := by rw [eM1, li_ui_at, if_pos rfl, if_neg (by decide)]
  have mM1_15 : (M1.1 175 15).toInt = (M0.1 175 15).toInt := by rw [eM1, li_ui_at, if_pos rfl, if_neg (by decide)]
  refine li_aload_n 0 dX12_people_5 rfl ?_
  refine li_aload_n 0 dX12_people_6 rfl ?_
  refine li_getr (k := 6) (N := 52) (T := TX12) (C0 := RX12) dX12_people_7 (by decide) sh_175 rfl rfl (by decide) (by decide) li_in12 w_1410 ?_
  refine li_aload_n 0 dX12_people_10 rfl ?_
  refine li_geti (k := 7) (N := 52) (T := TX12) (C0 := RX12) dX12_people_11 (by decide) sh_175 rfl rfl (by decide) li_in12 w_1411 ?_
  refine li_top (fun x2 ex2 => ?_)
  have gx2 : 0 ≤ x2.toInt ∧ x2.toInt ≤ 80 := by rw [ex2]; exact J_sl7 hJ
  have mx2 : x2.toInt = (M1.1 175 7).toInt := tl_slot ex2
  refine li_bipush 76 dX12_people_14 (by decide) ?_
  have z76 : (76 : Int32).toInt = 76 := rfl
  refine li_callV (n := 3) (As := [.ref (Z.2.2 180), .int x2, .int 76]) dX12_people_16 (k_X12_begin (d - 1) (by unfold li_rq; omega) x2 76 M1 hJ (show 0 ≤ (x2 : Int32).toInt ∧ (x2 : Int32).toInt ≤ (li_qn 180 : Int) by have := li_qn_fix; omega) (by omega)) (by omega) (Nat.le_of_ble_eq_true rfl) w_1577 w_1579 w_42 w_112 w_1580 (by decide +kernel) rfl (by decide) sh_175 rfl rfl (Nat.le_of_ble_eq_true rfl) (fun r M4 h5 => ?_)
  obtain ⟨rfl, h5, jM4, nM4⟩ := h5
  have hf := li_fs_trans hf h5 (fun i k => fun h => Or.elim h (fun h => Or.inr (Or.inr (Or.inr (Or.inr (Or.inr (Or.inr (Or.inr (Or.inl h)))))))) (fun h => Or.elim h (fun h => Or.inr (Or.inr (Or.inr (Or.inr (Or.inr (Or.inr (Or.inr (Or.inr (Or.inl h))))))))) (fun h => Or.elim h (fun h => Or.inr (Or.inr (Or.inr (Or.inr (Or.inr (Or.inr (Or.inr (Or.inr (Or.inr (Or.inl h)))))))))) (fun h => Or.elim h (fun h => Or.inr (Or.inr (Or.inr (Or.inr (Or.inr (Or.inr (Or.inr (Or.inr (Or.inr (Or.inr (Or.inl h))))))))))) (fun h => Or.inr (Or.inr (Or.inr (Or.inr (Or.inl h)))))))))
  have hJ := jM4
  have rM4_1 := J_sl1 (M := M4) hJ
  have rM4_7 := J_sl7 (M := M4) hJ
  have rM4_15 := J_sl15 (M := M4) hJ
  have mM4_1 : (M4.1 175 1).toInt = (M1.1 175 1).toInt := tl_slot (h5.1 175 1 (show ¬ ((175 = 175 ∧ 1 = 12) ∨ (175 = 175 ∧ 1 = 13) ∨ (175 = 175 ∧ 1 = 14) ∨ (175 = 175 ∧ 1 = 15) ∨ 175 = 1000) by decide))
  have mM4_7 : (M4.1 175 7).toInt = (M1.1 175 7).toInt := tl_slot (h5.1 175 7 (show ¬ ((175 = 175 ∧ 7 = 12) ∨ (175 = 175 ∧ 7 = 13) ∨ (175 = 175 ∧ 7 = 14) ∨ (175 = 175 ∧ 7 = 15) ∨ 175 = 1000) by decide))
  refine li_aload_n 0 dX12_people_19 rfl ?_
  refine li_iconst 0 dX12_people_20 (by decide) ?_
  refine li_puti (k := 7) (N := 52) (T := TX12) (C0 := RX12) dX12_people_21 (by decide) sh_175 rfl rfl (by decide) li_in12 tyX12_ok nmX12 rfl rfl rfl rfl w_1411 ?_
  refine li_nm (fun M6 eM6 => ?_)
  have hf := li_fs_ui hf (Or.inr (Or.inr (Or.inr (Or.inr (Or.inr (Or.inr (Or.inr (Or.inr (Or.inr (Or.inr (Or.inr (Or.inr (Or.inr (⟨rfl, rfl⟩)))))))))))))) eM6
  have z0 : (0 : Int32).toInt = 0 := rfl
  have hJ := J_pt7 hJ (show 0 ≤ (0 : Int32).toInt ∧ (0 : Int32).toInt ≤ 80 by omega) eM6
  have rM6_1 := J_sl1 (M := M6) hJ
  have rM6_7 := J_sl7 (M := M6) hJ
  have rM6_15 := J_sl15 (M := M6) hJ
  have mM6_1 : (M6.1 175 1).toInt = (M4.1 175 1).toInt := by rw [eM6, li_ui_at, if_pos rfl, if_neg (by decide)]
  have mM6_7 : (M6.1 175 7).toInt = 0 := by rw [eM6, li_ui_at, if_pos rfl, if_pos rfl]; rfl
  have mM6_15 : (M6.1 175 15).toInt = (M4.1 175 15).toInt := by rw [eM6, li_ui_at, if_pos rfl, if_neg (by decide)]
  refine li_aload_n 0 dX12_people_24 rfl ?_
  refine li_geti (k := 12) (N := 52) (T := TX12) (C0 := RX12) dX12_people_25 (by decide) sh_175 rfl rfl (by decide) li_in12 w_1416 ?_
  refine li_top (fun x7 ex7 => ?_)
  have gx7 : 0 ≤ x7.toInt ∧ x7.toInt ≤ 80 := by rw [ex7]; exact J_sl12 hJ
  have mx7 : x7.toInt = (M6.1 175 12).toInt := tl_slot ex7
  refine li_if_ne 33 dX12_people_28 (by decide) (fun c8 => ?_) (fun c8 => ?_)
  · have tc8 : ¬ x7.toInt = 0 := tl_ne c8
    refine li_iconst 0 dX12_people_33 (by decide) ?_
    refine li_istore_n [(1, .int 0), (0, .ref (Z.2.2 175))] dX12_people_34 (by decide) rfl ?_
    refine li_iconst 1 dX12_people_35 (by decide) ?_
    refine li_istore_n [(2, .int 1), (1, .int 0), (0, .ref (Z.2.2 175))] dX12_people_36 (by decide) rfl ?_
    have J117 : ∀ (x9 : Int32) (x10 : Int32) (M11 : li_M), li_fs (fun i k => i = 176 ∨ i = 177 ∨ i = 178 ∨ i = 182 ∨ i = 1000 ∨ (i = 175 ∧ k = 1) ∨ (i = 175 ∧ k = 10) ∨ (i = 175 ∧ k = 12) ∨ (i = 175 ∧ k = 13) ∨ (i = 175 ∧ k = 14) ∨ (i = 175 ∧ k = 15) ∨ (i = 175 ∧ k = 23) ∨ (i = 175 ∧ k = 48) ∨ (i = 175 ∧ k = 7)) M0 M11 → li_J M11 → 0 ≤ (x10 : Int32).toInt ∧ (M11.1 175 1).toInt + (x10 : Int32).toInt ≤ 7 ∧ (M11.1 175 1).toInt + (x10 : Int32).toInt ≤ 7 + (M11.1 175 15).toInt ∧ (M11.1 175 7).toInt = 0 → li_T l Z YX12_people d 117 [(2, .int x9), (1, .int x10), (0, .ref (Z.2.2 175))] [] M11 (fun r M' => (∃ x : Int32, r = some (.int x)) ∧ li_fs (fun i k => i = 176 ∨ i = 177 ∨ i = 178 ∨ i = 182 ∨ i = 1000 ∨ (i = 175 ∧ k = 1) ∨ (i = 175 ∧ k = 10) ∨ (i = 175 ∧ k = 12) ∨ (i = 175 ∧ k = 13) ∨ (i = 175 ∧ k = 14) ∨ (i = 175 ∧ k = 15) ∨ (i = 175 ∧ k = 23) ∨ (i = 175 ∧ k = 48) ∨ (i = 175 ∧ k = 7)) M0 M' ∧ li_J M' ∧ (M'.1 175 7).toInt = 0) := by
      intro x9 x10 M11 hf hJ hi
      have gx9 := tl_rg x9
      have gx10 := tl_rg x10
      have rM11_1 := J_sl1 (M := M11) hJ
      have rM11_7 := J_sl7 (M := M11) hJ
      have rM11_15 := J_sl15 (M := M11) hJ
      refine li_aload_n 2 dX12_people_117 rfl ?_
      refine li_geti (k := 14) (N := 52) (T := TX12) (C0 := RX12) dX12_people_118 (by decide) sh_175 rfl rfl (by decide) li_in12 w_1418 ?_
      refine li_top (fun x12 ex12 => ?_)
      have gx12 : 0 ≤ x12.toInt ∧ x12.toInt ≤ 81 := by rw [ex12]; exact J_sl14 hJ
      have mx12 : x12.toInt = (M11.1 175 14).toInt := tl_slot ex12
      refine li_aload_n 2 dX12_people_121 rfl ?_
      refine li_geti (k := 12) (N := 52) (T := TX12) (C0 := RX12) dX12_people_122 (by decide) sh_175 rfl rfl (by decide) li_in12 w_1416 ?_
      refine li_top (fun x13 ex13 => ?_)
      have gx13 : 0 ≤ x13.toInt ∧ x13.toInt ≤ 80 := by rw [ex13]; exact J_sl12 hJ
      have mx13 : x13.toInt = (M11.1 175 12).toInt := tl_slot ex13
      have J136 : ∀  (M15 : li_M), li_fs (fun i k => i = 176 ∨ i = 177 ∨ i = 178 ∨ i = 182 ∨ i = 1000 ∨ (i = 175 ∧ k = 1) ∨ (i = 175 ∧ k = 10) ∨ (i = 175 ∧ k = 12) ∨ (i = 175 ∧ k = 13) ∨ (i = 175 ∧ k = 14) ∨ (i = 175 ∧ k = 15) ∨ (i = 175 ∧ k = 23) ∨ (i = 175 ∧ k = 48) ∨ (i = 175 ∧ k = 7)) M0 M15 → li_J M15 → (M15.1 175 1).toInt + (x10 : Int32).toInt ≤ 7 ∧ (M15.1 175 1).toInt + (x10 : Int32).toInt ≤ 7 + (M15.1 175 15).toInt ∧ (M15.1 175 7).toInt = 0 → li_T l Z YX12_people d 136 [(2, .int x9), (1, .int x10), (0, .ref (Z.2.2 175))] [] M15 (fun r M' => (∃ x : Int32, r = some (.int x)) ∧ li_fs (fun i k => i = 176 ∨ i = 177 ∨ i = 178 ∨ i = 182 ∨ i = 1000 ∨ (i = 175 ∧ k = 1) ∨ (i = 175 ∧ k = 10) ∨ (i = 175 ∧ k = 12) ∨ (i = 175 ∧ k = 13) ∨ (i = 175 ∧ k = 14) ∨ (i = 175 ∧ k = 15) ∨ (i = 175 ∧ k = 23) ∨ (i = 175 ∧ k = 48) ∨ (i = 175 ∧ k = 7)) M0 M' ∧ li_J M' ∧ (M'.1 175 7).toInt = 0) := by
        intro  M15 hf hJ hi
        have rM15_1 := J_sl1 (M := M15) hJ
        have rM15_7 := J_sl7 (M := M15) hJ
        have rM15_15 := J_sl15 (M := M15) hJ
        refine li_aload_n 2 dX12_people_136 rfl ?_
        refine li_callV (n := 0) (As := []) dX12_people_137 (k_X12_fineW (d - 1) (by omega)  M15 hJ ) (by omega) (Nat.le_of_ble_eq_true rfl) w_1581 w_1583 w_43 w_112 w_1584 (by decide +kernel) rfl (by decide) sh_175 rfl rfl (Nat.le_of_ble_eq_true rfl) (fun r M17 h18 => ?_)
        obtain ⟨qx16, h18, jM17⟩ := h18
        have hf := li_fs_trans hf h18 (fun i k h => False.elim h)
        have hJ := jM17
        have rM17_1 := J_sl1 (M := M17) hJ
        have rM17_7 := J_sl7 (M := M17) hJ
        have rM17_15 := J_sl15 (M := M17) hJ
        have mM17_1 : (M17.1 175 1).toInt = (M15.1 175 1).toInt := tl_slot (h18.1 175 1 id)
        have mM17_7 : (M17.1 175 7).toInt = (M15.1 175 7).toInt := tl_slot (h18.1 175 7 id)
        have mM17_15 : (M17.1 175 15).toInt = (M15.1 175 15).toInt := tl_slot (h18.1 175 15 id)
        rcases qx16 with ⟨rfl, qx16⟩ | ⟨rfl, qx16⟩
        · skip
          refine li_if_ne 150 dX12_people_140 (by decide) (fun c => ?_) (fun c => absurd c (by decide))
          refine li_iconst 0 dX12_people_150 (by decide) ?_
          refine li_istore_n [(3, .int 0), (2, .int x9), (1, .int x10), (0, .ref (Z.2.2 175))] dX12_people_151 (by decide) rfl ?_
          have L152 : ∀ (n : Nat) (x20 : Int32) (M21 : li_M), ((x10 : Int32).toInt - (x20 : Int32).toInt).toNat < n → li_fs (fun i k => i = 176 ∨ i = 177 ∨ i = 178 ∨ i = 182 ∨ i = 1000 ∨ (i = 175 ∧ k = 1) ∨ (i = 175 ∧ k = 10) ∨ (i = 175 ∧ k = 12) ∨ (i = 175 ∧ k = 13) ∨ (i = 175 ∧ k = 14) ∨ (i = 175 ∧ k = 15) ∨ (i = 175 ∧ k = 23) ∨ (i = 175 ∧ k = 48) ∨ (i = 175 ∧ k = 7)) M0 M21 → li_J M21 → 0 ≤ (x20 : Int32).toInt ∧ (x20 : Int32).toInt ≤ (x10 : Int32).toInt ∧ (M21.1 175 1).toInt + (x10 : Int32).toInt - (x20 : Int32).toInt ≤ 6 ∧ (M21.1 175 7).toInt = 0 → li_T l Z YX12_people d 152 [(3, .int x20), (2, .int x9), (1, .int x10), (0, .ref (Z.2.2 175))] [] M21 (fun r M' => (∃ x : Int32, r = some (.int x)) ∧ li_fs (fun i k => i = 176 ∨ i = 177 ∨ i = 178 ∨ i = 182 ∨ i = 1000 ∨ (i = 175 ∧ k = 1) ∨ (i = 175 ∧ k = 10) ∨ (i = 175 ∧ k = 12) ∨ (i = 175 ∧ k = 13) ∨ (i = 175 ∧ k = 14) ∨ (i = 175 ∧ k = 15) ∨ (i = 175 ∧ k = 23) ∨ (i = 175 ∧ k = 48) ∨ (i = 175 ∧ k = 7)) M0 M' ∧ li_J M' ∧ (M'.1 175 7).toInt = 0) := by
            intro n
            induction n with
            | zero => intro x20 M21 hn; exact absurd hn (Nat.not_lt_zero _)
            | succ n ih152 =>
              intro x20 M21 hn hf hJ hi
              have gx20 := tl_rg x20
              have rM21_1 := J_sl1 (M := M21) hJ
              have rM21_7 := J_sl7 (M := M21) hJ
              have rM21_15 := J_sl15 (M := M21) hJ
              refine li_iload_n 0 dX12_people_152 rfl ?_
              refine li_iload_n 2 dX12_people_153 rfl ?_
              refine li_icmp_ge 254 dX12_people_154 (by decide) (fun c22 => ?_) (fun c22 => ?_)
              · have tc22 : x10.toInt ≤ x20.toInt := tl_le c22
                refine li_aload_n 3 dX12_people_254 rfl ?_
                refine li_iconst 0 dX12_people_255 (by decide) ?_
                refine li_puti (k := 23) (N := 52) (T := TX12) (C0 := RX12) dX12_people_256 (by decide) sh_175 rfl rfl (by decide) li_in12 tyX12_ok nmX12 rfl rfl rfl rfl w_1427 ?_
                refine li_nm (fun M23 eM23 => ?_)
                have hf := li_fs_ui hf (Or.inr (Or.inr (Or.inr (Or.inr (Or.inr (Or.inr (Or.inr (Or.inr (Or.inr (Or.inr (Or.inr (Or.inl ⟨rfl, rfl⟩)))))))))))) eM23
                have z0 : (0 : Int32).toInt = 0 := rfl
                have hJ := J_pt23 hJ (show 0 ≤ (0 : Int32).toInt ∧ (0 : Int32).toInt ≤ 12 by omega) eM23
                have rM23_1 := J_sl1 (M := M23) hJ
                have rM23_7 := J_sl7 (M := M23) hJ
                have rM23_15 := J_sl15 (M := M23) hJ
                have mM23_1 : (M23.1 175 1).toInt = (M21.1 175 1).toInt := by rw [eM23, li_ui_at, if_pos rfl, if_neg (by decide)]
                have mM23_7 : (M23.1 175 7).toInt = (M21.1 175 7).toInt := by rw [eM23, li_ui_at, if_pos rfl, if_neg (by decide)]
                have mM23_15 : (M23.1 175 15).toInt = (M21.1 175 15).toInt := by rw [eM23, li_ui_at, if_pos rfl, if_neg (by decide)]
                refine li_aload_n 3 dX12_people_259 rfl ?_
                refine li_dup dX12_people_260 rfl ?_
                refine li_geti (k := 48) (N := 52) (T := TX12) (C0 := RX12) dX12_people_261 (by decide) sh_175 rfl rfl (by decide) li_in12 w_1452 ?_
                refine li_top (fun x24 ex24 => ?_)
                have gx24 := tl_rg x24
                have mx24 : x24.toInt = (M23.1 175 48).toInt := tl_slot ex24
                refine li_iconst 1 dX12_people_264 (by decide) ?_
                refine li_iadd dX12_people_265 ?_
                refine li_top (fun x25 ex25 => ?_)
                have z1 : (1 : Int32).toInt = 1 := rfl
                try (have tx25 : x25.toInt = (x24 : Int32).toInt + (1 : Int32).toInt := tl_add ex25 (by omega))
                refine li_puti (k := 48) (N := 52) (T := TX12) (C0 := RX12) dX12_people_266 (by decide) sh_175 rfl rfl (by decide) li_in12 tyX12_ok nmX12 rfl rfl rfl rfl w_1452 ?_
                refine li_nm (fun M26 eM26 => ?_)
                have hf := li_fs_ui hf (Or.inr (Or.inr (Or.inr (Or.inr (Or.inr (Or.inr (Or.inr (Or.inr (Or.inr (Or.inr (Or.inr (Or.inr (Or.inl ⟨rfl, rfl⟩))))))))))))) eM26
                have hJ := hJ.put (k := 48) (by decide) (rg_free rfl) eM26
                have rM26_1 := J_sl1 (M := M26) hJ
                have rM26_7 := J_sl7 (M := M26) hJ
                have rM26_15 := J_sl15 (M := M26) hJ
                have mM26_1 : (M26.1 175 1).toInt = (M23.1 175 1).toInt := by rw [eM26, li_ui_at, if_pos rfl, if_neg (by decide)]
                have mM26_7 : (M26.1 175 7).toInt = (M23.1 175 7).toInt := by rw [eM26, li_ui_at, if_pos rfl, if_neg (by decide)]
                have mM26_15 : (M26.1 175 15).toInt = (M23.1 175 15).toInt := by rw [eM26, li_ui_at, if_pos rfl, if_neg (by decide)]
                refine li_iload_n 2 dX12_people_269 rfl ?_
                exact li_iret dX12_people_270 rfl rfl ⟨⟨_, rfl⟩, hf, hJ, (by omega)⟩
              · have tc22 : x20.toInt < x10.toInt := tl_nle c22
                refine li_aload_n 3 dX12_people_157 rfl ?_
                refine li_getr (k := 2) (N := 52) (T := TX12) (C0 := RX12) dX12_people_158 (by decide) sh_175 rfl rfl (by decide) (by decide) li_in12 w_1406 ?_
                refine li_aload_n 3 dX12_people_161 rfl ?_
                refine li_geti (k := 1) (N := 52) (T := TX12) (C0 := RX12) dX12_people_162 (by decide) sh_175 rfl rfl (by decide) li_in12 w_1405 ?_
                refine li_top (fun x27 ex27 => ?_)
                have gx27 : 0 ≤ x27.toInt ∧ x27.toInt ≤ 6 := by rw [ex27]; exact J_sl1 hJ
                have mx27 : x27.toInt = (M21.1 175 1).toInt := tl_slot ex27
                refine li_aload_n 3 dX12_people_165 rfl ?_
                refine li_getr (k := 16) (N := 52) (T := TX12) (C0 := RX12) dX12_people_166 (by decide) sh_175 rfl rfl (by decide) (by decide) li_in12 w_1420 ?_
                refine li_iconst 2 dX12_people_169 (by decide) ?_
                refine li_iload_n 0 dX12_people_170 rfl ?_
                refine li_imul dX12_people_171 ?_
                refine li_top (fun x28 ex28 => ?_)
                have z2 : (2 : Int32).toInt = 2 := rfl
                try (have tx28 : x28.toInt = 2 * (x20 : Int32).toInt := tl_mul ex28 (show -2147483648 ≤ 2 * (x20 : Int32).toInt ∧ 2 * (x20 : Int32).toInt ≤ 2147483647 by omega))
                refine li_iald dX12_people_172 (by decide) sh_182 (tl_in (by omega)) ?_
                refine li_top (fun x29 ex29 => ?_)
                have gx29 := tl_rg x29
                refine li_iast dX12_people_173 (by decide) sh_177 (tl_in (by omega)) ?_
                refine li_nm (fun M30 eM30 => ?_)
                have hf := li_fs_ui hf (Or.inr (Or.inl rfl)) eM30
                have hJ := hJ.st (by decide) (li_el_free (by unfold li_led; omega) (by decide) (by decide) (by unfold li_rq; omega)) eM30
                have rM30_1 := J_sl1 (M := M30) hJ
                have rM30_7 := J_sl7 (M := M30) hJ
                have rM30_15 := J_sl15 (M := M30) hJ
                have mM30_1 : (M30.1 175 1).toInt = (M21.1 175 1).toInt := by rw [eM30, li_ui_at, if_neg (by decide)]
                have mM30_7 : (M30.1 175 7).toInt = (M21.1 175 7).toInt := by rw [eM30, li_ui_at, if_neg (by decide)]
                have mM30_15 : (M30.1 175 15).toInt = (M21.1 175 15).toInt := by rw [eM30, li_ui_at, if_neg (by decide)]
                refine li_aload_n 3 dX12_people_174 rfl ?_
                refine li_getr (k := 3) (N := 52) (T := TX12) (C0 := RX12) dX12_people_175 (by decide) sh_175 rfl rfl (by decide) (by decide) li_in12 w_1407 ?_
                refine li_aload_n 3 dX12_people_178 rfl ?_
                refine li_geti (k := 1) (N := 52) (T := TX12) (C0 := RX12) dX12_people_179 (by decide) sh_175 rfl rfl (by decide) li_in12 w_1405 ?_
                refine li_top (fun x31 ex31 => ?_)
                have gx31 : 0 ≤ x31.toInt ∧ x31.toInt ≤ 6 := by rw [ex31]; exact J_sl1 hJ
                have mx31 : x31.toInt = (M30.1 175 1).toInt := tl_slot ex31
                refine li_aload_n 3 dX12_people_182 rfl ?_
                refine li_getr (k := 16) (N := 52) (T := TX12) (C0 := RX12) dX12_people_183 (by decide) sh_175 rfl rfl (by decide) (by decide) li_in12 w_1420 ?_
                refine li_iconst 2 dX12_people_186 (by decide) ?_
                refine li_iload_n 0 dX12_people_187 rfl ?_
                refine li_imul dX12_people_188 ?_
                refine li_top (fun x32 ex32 => ?_)
                have z2 : (2 : Int32).toInt = 2 := rfl
                try (have tx32 : x32.toInt = 2 * (x20 : Int32).toInt := tl_mul ex32 (show -2147483648 ≤ 2 * (x20 : Int32).toInt ∧ 2 * (x20 : Int32).toInt ≤ 2147483647 by omega))
                refine li_iconst 1 dX12_people_189 (by decide) ?_
                refine li_iadd dX12_people_190 ?_
                refine li_top (fun x33 ex33 => ?_)
                have z1 : (1 : Int32).toInt = 1 := rfl
                try (have tx33 : x33.toInt = (x32 : Int32).toInt + (1 : Int32).toInt := tl_add ex33 (by omega))
                refine li_iald dX12_people_191 (by decide) sh_182 (tl_in (by omega)) ?_
                refine li_top (fun x34 ex34 => ?_)
                have gx34 := tl_rg x34
                refine li_iast dX12_people_192 (by decide) sh_178 (tl_in (by omega)) ?_
                refine li_nm (fun M35 eM35 => ?_)
                have hf := li_fs_ui hf (Or.inr (Or.inr (Or.inl rfl))) eM35
                have hJ := hJ.st (by decide) (li_el_free (by unfold li_led; omega) (by decide) (by decide) (by unfold li_rq; omega)) eM35
                have rM35_1 := J_sl1 (M := M35) hJ
                have rM35_7 := J_sl7 (M := M35) hJ
                have rM35_15 := J_sl15 (M := M35) hJ
                have mM35_1 : (M35.1 175 1).toInt = (M30.1 175 1).toInt := by rw [eM35, li_ui_at, if_neg (by decide)]
                have mM35_7 : (M35.1 175 7).toInt = (M30.1 175 7).toInt := by rw [eM35, li_ui_at, if_neg (by decide)]
                have mM35_15 : (M35.1 175 15).toInt = (M30.1 175 15).toInt := by rw [eM35, li_ui_at, if_neg (by decide)]
                refine li_aload_n 3 dX12_people_193 rfl ?_
                refine li_getr (k := 0) (N := 52) (T := TX12) (C0 := RX12) dX12_people_194 (by decide) sh_175 rfl rfl (by decide) (by decide) li_in12 w_1404 ?_
                refine li_aload_n 3 dX12_people_197 rfl ?_
                refine li_geti (k := 1) (N := 52) (T := TX12) (C0 := RX12) dX12_people_198 (by decide) sh_175 rfl rfl (by decide) li_in12 w_1405 ?_
                refine li_top (fun x36 ex36 => ?_)
                have gx36 : 0 ≤ x36.toInt ∧ x36.toInt ≤ 6 := by rw [ex36]; exact J_sl1 hJ
                have mx36 : x36.toInt = (M35.1 175 1).toInt := tl_slot ex36
                refine li_aload_n 3 dX12_people_201 rfl ?_
                refine li_getr (k := 16) (N := 52) (T := TX12) (C0 := RX12) dX12_people_202 (by decide) sh_175 rfl rfl (by decide) (by decide) li_in12 w_1420 ?_
                refine li_iconst 2 dX12_people_205 (by decide) ?_
                refine li_iload_n 0 dX12_people_206 rfl ?_
                refine li_imul dX12_people_207 ?_
                refine li_top (fun x37 ex37 => ?_)
                have z2 : (2 : Int32).toInt = 2 := rfl
                try (have tx37 : x37.toInt = 2 * (x20 : Int32).toInt := tl_mul ex37 (show -2147483648 ≤ 2 * (x20 : Int32).toInt ∧ 2 * (x20 : Int32).toInt ≤ 2147483647 by omega))
                refine li_iconst 1 dX12_people_208 (by decide) ?_
                refine li_iadd dX12_people_209 ?_
                refine li_top (fun x38 ex38 => ?_)
                have z1 : (1 : Int32).toInt = 1 := rfl
                try (have tx38 : x38.toInt = (x37 : Int32).toInt + (1 : Int32).toInt := tl_add ex38 (by omega))
                refine li_iald dX12_people_210 (by decide) sh_182 (tl_in (by omega)) ?_
                refine li_top (fun x39 ex39 => ?_)
                have gx39 := tl_rg x39
                refine li_iast dX12_people_211 (by decide) sh_176 (tl_in (by omega)) ?_
                refine li_nm (fun M40 eM40 => ?_)
                have hf := li_fs_ui hf (Or.inl rfl) eM40
                try (have oM40 : (x36 : Int32).toInt % 51 = (x36 : Int32).toInt := by omega)
                have hJ := hJ.st (by decide) (li_el_led (by unfold li_led; omega) (by omega) (show ((x36 : Int32).toInt % 51 = 20 → 0 ≤ (x39 : Int32).toInt ∧ (x39 : Int32).toInt ≤ 6) ∧ (21 ≤ (x36 : Int32).toInt % 51 → ((x36 : Int32).toInt % 51 - 21) % 5 < 2 → 0 ≤ (x39 : Int32).toInt ∧ (x39 : Int32).toInt ≤ 5) by omega)) eM40
                have rM40_1 := J_sl1 (M := M40) hJ
                have rM40_7 := J_sl7 (M := M40) hJ
                have rM40_15 := J_sl15 (M := M40) hJ
                have mM40_1 : (M40.1 175 1).toInt = (M35.1 175 1).toInt := by rw [eM40, li_ui_at, if_neg (by decide)]
                have mM40_7 : (M40.1 175 7).toInt = (M35.1 175 7).toInt := by rw [eM40, li_ui_at, if_neg (by decide)]
                have mM40_15 : (M40.1 175 15).toInt = (M35.1 175 15).toInt := by rw [eM40, li_ui_at, if_neg (by decide)]
                refine li_aload_n 3 dX12_people_212 rfl ?_
                refine li_getr (k := 0) (N := 52) (T := TX12) (C0 := RX12) dX12_people_213 (by decide) sh_175 rfl rfl (by decide) (by decide) li_in12 w_1404 ?_
                refine li_bipush 6 dX12_people_216 (by decide) ?_
                refine li_aload_n 3 dX12_people_218 rfl ?_
                refine li_geti (k := 1) (N := 52) (T := TX12) (C0 := RX12) dX12_people_219 (by decide) sh_175 rfl rfl (by decide) li_in12 w_1405 ?_
                refine li_top (fun x41 ex41 => ?_)
                have gx41 : 0 ≤ x41.toInt ∧ x41.toInt ≤ 6 := by rw [ex41]; exact J_sl1 hJ
                have mx41 : x41.toInt = (M40.1 175 1).toInt := tl_slot ex41
                refine li_iadd dX12_people_222 ?_
                refine li_top (fun x42 ex42 => ?_)
                have z6 : (6 : Int32).toInt = 6 := rfl
                try (have tx42 : x42.toInt = (6 : Int32).toInt + (x41 : Int32).toInt := tl_add ex42 (by omega))
                refine li_iconst 0 dX12_people_223 (by decide) ?_
                have z0 : (0 : Int32).toInt = 0 := rfl
                refine li_iast dX12_people_224 (by decide) sh_176 (tl_in (by omega)) ?_
                refine li_nm (fun M43 eM43 => ?_)
                have hf := li_fs_ui hf (Or.inl rfl) eM43
                try (have oM43 : (x42 : Int32).toInt % 51 = (x42 : Int32).toInt := by omega)
                have hJ := hJ.st (by decide) (li_el_led (by unfold li_led; omega) (by omega) (show ((x42 : Int32).toInt % 51 = 20 → 0 ≤ (0 : Int32).toInt ∧ (0 : Int32).toInt ≤ 6) ∧ (21 ≤ (x42 : Int32).toInt % 51 → ((x42 : Int32).toInt % 51 - 21) % 5 < 2 → 0 ≤ (0 : Int32).toInt ∧ (0 : Int32).toInt ≤ 5) by omega)) eM43
                have rM43_1 := J_sl1 (M := M43) hJ
                have rM43_7 := J_sl7 (M := M43) hJ
                have rM43_15 := J_sl15 (M := M43) hJ
                have mM43_1 : (M43.1 175 1).toInt = (M40.1 175 1).toInt := by rw [eM43, li_ui_at, if_neg (by decide)]
                have mM43_7 : (M43.1 175 7).toInt = (M40.1 175 7).toInt := by rw [eM43, li_ui_at, if_neg (by decide)]
                have mM43_15 : (M43.1 175 15).toInt = (M40.1 175 15).toInt := by rw [eM43, li_ui_at, if_neg (by decide)]
                refine li_aload_n 3 dX12_people_225 rfl ?_
                refine li_getr (k := 0) (N := 52) (T := TX12) (C0 := RX12) dX12_people_226 (by decide) sh_175 rfl rfl (by decide) (by decide) li_in12 w_1404 ?_
                refine li_bipush 12 dX12_people_229 (by decide) ?_
                refine li_aload_n 3 dX12_people_231 rfl ?_
                refine li_geti (k := 1) (N := 52) (T := TX12) (C0 := RX12) dX12_people_232 (by decide) sh_175 rfl rfl (by decide) li_in12 w_1405 ?_
                refine li_top (fun x44 ex44 => ?_)
                have gx44 : 0 ≤ x44.toInt ∧ x44.toInt ≤ 6 := by rw [ex44]; exact J_sl1 hJ
                have mx44 : x44.toInt = (M43.1 175 1).toInt := tl_slot ex44
                refine li_iadd dX12_people_235 ?_
                refine li_top (fun x45 ex45 => ?_)
                have z12 : (12 : Int32).toInt = 12 := rfl
                try (have tx45 : x45.toInt = (12 : Int32).toInt + (x44 : Int32).toInt := tl_add ex45 (by omega))
                refine li_iconst 0 dX12_people_236 (by decide) ?_
                have z0 : (0 : Int32).toInt = 0 := rfl
                refine li_iast dX12_people_237 (by decide) sh_176 (tl_in (by omega)) ?_
                refine li_nm (fun M46 eM46 => ?_)
                have hf := li_fs_ui hf (Or.inl rfl) eM46
                try (have oM46 : (x45 : Int32).toInt % 51 = (x45 : Int32).toInt := by omega)
                have hJ := hJ.st (by decide) (li_el_led (by unfold li_led; omega) (by omega) (show ((x45 : Int32).toInt % 51 = 20 → 0 ≤ (0 : Int32).toInt ∧ (0 : Int32).toInt ≤ 6) ∧ (21 ≤ (x45 : Int32).toInt % 51 → ((x45 : Int32).toInt % 51 - 21) % 5 < 2 → 0 ≤ (0 : Int32).toInt ∧ (0 : Int32).toInt ≤ 5) by omega)) eM46
                have rM46_1 := J_sl1 (M := M46) hJ
                have rM46_7 := J_sl7 (M := M46) hJ
                have rM46_15 := J_sl15 (M := M46) hJ
                have mM46_1 : (M46.1 175 1).toInt = (M43.1 175 1).toInt := by rw [eM46, li_ui_at, if_neg (by decide)]
                have mM46_7 : (M46.1 175 7).toInt = (M43.1 175 7).toInt := by rw [eM46, li_ui_at, if_neg (by decide)]
                have mM46_15 : (M46.1 175 15).toInt = (M43.1 175 15).toInt := by rw [eM46, li_ui_at, if_neg (by decide)]
                refine li_aload_n 3 dX12_people_238 rfl ?_
                refine li_dup dX12_people_239 rfl ?_
                refine li_geti (k := 1) (N := 52) (T := TX12) (C0 := RX12) dX12_people_240 (by decide) sh_175 rfl rfl (by decide) li_in12 w_1405 ?_
                refine li_top (fun x47 ex47 => ?_)
                have gx47 : 0 ≤ x47.toInt ∧ x47.toInt ≤ 6 := by rw [ex47]; exact J_sl1 hJ
                have mx47 : x47.toInt = (M46.1 175 1).toInt := tl_slot ex47
                refine li_iconst 1 dX12_people_243 (by decide) ?_
                refine li_iadd dX12_people_244 ?_
                refine li_top (fun x48 ex48 => ?_)
                have z1 : (1 : Int32).toInt = 1 := rfl
                try (have tx48 : x48.toInt = (x47 : Int32).toInt + (1 : Int32).toInt := tl_add ex48 (by omega))
                refine li_puti (k := 1) (N := 52) (T := TX12) (C0 := RX12) dX12_people_245 (by decide) sh_175 rfl rfl (by decide) li_in12 tyX12_ok nmX12 rfl rfl rfl rfl w_1405 ?_
                refine li_nm (fun M49 eM49 => ?_)
                have hf := li_fs_ui hf (Or.inr (Or.inr (Or.inr (Or.inr (Or.inr (Or.inl ⟨rfl, rfl⟩)))))) eM49
                have hJ := J_pt1 hJ (show 0 ≤ (x48 : Int32).toInt ∧ (x48 : Int32).toInt ≤ 6 by omega) eM49
                have rM49_1 := J_sl1 (M := M49) hJ
                have rM49_7 := J_sl7 (M := M49) hJ
                have rM49_15 := J_sl15 (M := M49) hJ
                have mM49_1 : (M49.1 175 1).toInt = x48.toInt := by rw [eM49, li_ui_at, if_pos rfl, if_pos rfl]
                have mM49_7 : (M49.1 175 7).toInt = (M46.1 175 7).toInt := by rw [eM49, li_ui_at, if_pos rfl, if_neg (by decide)]
                have mM49_15 : (M49.1 175 15).toInt = (M46.1 175 15).toInt := by rw [eM49, li_ui_at, if_pos rfl, if_neg (by decide)]
                obtain ⟨x50, ex50⟩ : ∃ y : Int32, y = x20 + 1 := ⟨_, rfl⟩
                have z1 : (1 : Int32).toInt = 1 := rfl
                try (have tx50 : x50.toInt = (x20 : Int32).toInt + (1 : Int32).toInt := tl_add ex50 (by omega))
                refine li_iinc 0 [(3, .int x50), (2, .int x9), (1, .int x10), (0, .ref (Z.2.2 175))] x50 dX12_people_248 rfl (by rw [ex50]; rfl) (by decide) rfl ?_
                refine li_goto 152 dX12_people_251 (by decide) ?_
                refine li_pick [0, 1, 2, 3] [(3, .int x50), (2, .int x9), (1, .int x10), (0, .ref (Z.2.2 175))] rfl ?_
                exact ih152 x50 M49 (by omega) hf hJ (by omega)
          have z0 : (0 : Int32).toInt = 0 := rfl
          exact L152 _ 0 M17 (Nat.lt_succ_self _) hf hJ (by omega)
        · skip
          refine li_if_ne 150 dX12_people_140 (by decide) (fun c => absurd rfl c) (fun c => ?_)
          refine li_iconst (-1) dX12_people_143 (by decide) ?_
          refine li_aload_n 2 dX12_people_144 rfl ?_
          refine li_geti (k := 15) (N := 52) (T := TX12) (C0 := RX12) dX12_people_145 (by decide) sh_175 rfl rfl (by decide) li_in12 w_1419 ?_
          refine li_top (fun x52 ex52 => ?_)
          have gx52 : -1 ≤ x52.toInt ∧ x52.toInt ≤ 81 := by rw [ex52]; exact J_sl15 hJ
          have mx52 : x52.toInt = (M17.1 175 15).toInt := tl_slot ex52
          refine li_isub dX12_people_148 ?_
          refine li_top (fun x53 ex53 => ?_)
          have zm1 : ((-1) : Int32).toInt = -1 := rfl
          try (have tx53 : x53.toInt = ((-1) : Int32).toInt - (x52 : Int32).toInt := tl_sub ex53 (by omega))
          exact li_iret dX12_people_149 rfl rfl ⟨⟨_, rfl⟩, hf, hJ, (by omega)⟩
      refine li_icmp_ge 136 dX12_people_125 (by decide) (fun c14 => ?_) (fun c14 => ?_)
      · have tc14 : x13.toInt ≤ x12.toInt := tl_le c14
        refine li_pick [0, 1, 2] [(2, .int x9), (1, .int x10), (0, .ref (Z.2.2 175))] rfl ?_
        exact J136  M11 hf hJ (by omega)
      · have tc14 : x12.toInt < x13.toInt := tl_nle c14
        refine li_aload_n 2 dX12_people_128 rfl ?_
        refine li_aload_n 2 dX12_people_129 rfl ?_
        refine li_geti (k := 14) (N := 52) (T := TX12) (C0 := RX12) dX12_people_130 (by decide) sh_175 rfl rfl (by decide) li_in12 w_1418 ?_
        refine li_top (fun x54 ex54 => ?_)
        have gx54 : 0 ≤ x54.toInt ∧ x54.toInt ≤ 81 := by rw [ex54]; exact J_sl14 hJ
        have mx54 : x54.toInt = (M11.1 175 14).toInt := tl_slot ex54
        refine li_callV (n := 1) (As := [.int x54]) dX12_people_133 (k_X12_faultW (d - 1) (by omega) x54 M11 hJ (by omega)) (by omega) (Nat.le_of_ble_eq_true rfl) w_1585 w_1587 w_44 w_112 w_1588 (by decide +kernel) rfl (by decide) sh_175 rfl rfl (Nat.le_of_ble_eq_true rfl) (fun r M56 h57 => ?_)
        obtain ⟨rfl, h57, jM56, nM56⟩ := h57
        have hf := li_fs_trans hf h57 (fun i k => fun h => Or.inr (Or.inr (Or.inr (Or.inr (Or.inr (Or.inr (Or.inr (Or.inr (Or.inr (Or.inr (Or.inl h)))))))))))
        have hJ := jM56
        have rM56_1 := J_sl1 (M := M56) hJ
        have rM56_7 := J_sl7 (M := M56) hJ
        have rM56_15 := J_sl15 (M := M56) hJ
        have mM56_1 : (M56.1 175 1).toInt = (M11.1 175 1).toInt := tl_slot (h57.1 175 1 (show ¬ ((175 = 175 ∧ 1 = 15)) by decide))
        have mM56_7 : (M56.1 175 7).toInt = (M11.1 175 7).toInt := tl_slot (h57.1 175 7 (show ¬ ((175 = 175 ∧ 7 = 15)) by decide))
        refine li_pick [0, 1, 2] [(2, .int x9), (1, .int x10), (0, .ref (Z.2.2 175))] rfl ?_
        exact J136  M56 hf hJ (by omega)
    have L37 : ∀ (n : Nat) (x58 : Int32) (x59 : Int32) (M60 : li_M), (8 - (x59 : Int32).toInt).toNat < n → li_fs (fun i k => i = 176 ∨ i = 177 ∨ i = 178 ∨ i = 182 ∨ i = 1000 ∨ (i = 175 ∧ k = 1) ∨ (i = 175 ∧ k = 10) ∨ (i = 175 ∧ k = 12) ∨ (i = 175 ∧ k = 13) ∨ (i = 175 ∧ k = 14) ∨ (i = 175 ∧ k = 15) ∨ (i = 175 ∧ k = 23) ∨ (i = 175 ∧ k = 48) ∨ (i = 175 ∧ k = 7)) M0 M60 → li_J M60 → 0 ≤ (x59 : Int32).toInt ∧ (M60.1 175 1).toInt + (x59 : Int32).toInt ≤ 7 ∧ (M60.1 175 1).toInt + (x59 : Int32).toInt ≤ 7 + (M60.1 175 15).toInt ∧ (M60.1 175 7).toInt = 0 → li_T l Z YX12_people d 37 [(2, .int x58), (1, .int x59), (0, .ref (Z.2.2 175))] [] M60 (fun r M' => (∃ x : Int32, r = some (.int x)) ∧ li_fs (fun i k => i = 176 ∨ i = 177 ∨ i = 178 ∨ i = 182 ∨ i = 1000 ∨ (i = 175 ∧ k = 1) ∨ (i = 175 ∧ k = 10) ∨ (i = 175 ∧ k = 12) ∨ (i = 175 ∧ k = 13) ∨ (i = 175 ∧ k = 14) ∨ (i = 175 ∧ k = 15) ∨ (i = 175 ∧ k = 23) ∨ (i = 175 ∧ k = 48) ∨ (i = 175 ∧ k = 7)) M0 M' ∧ li_J M' ∧ (M'.1 175 7).toInt = 0) := by
      intro n
      induction n with
      | zero => intro x58 x59 M60 hn; exact absurd hn (Nat.not_lt_zero _)
      | succ n ih37 =>
        intro x58 x59 M60 hn hf hJ hi
        have gx58 := tl_rg x58
        have gx59 := tl_rg x59
        have rM60_1 := J_sl1 (M := M60) hJ
        have rM60_7 := J_sl7 (M := M60) hJ
        have rM60_15 := J_sl15 (M := M60) hJ
        refine li_iload_n 0 dX12_people_37 rfl ?_
        refine li_if_eq 117 dX12_people_38 (by decide) (fun c61 => ?_) (fun c61 => ?_)
        · have tc61 : x58.toInt = 0 := tl_eq c61
          refine li_pick [0, 1, 2] [(2, .int x58), (1, .int x59), (0, .ref (Z.2.2 175))] rfl ?_
          exact J117 x58 x59 M60 hf hJ (by omega)
        · have tc61 : ¬ x58.toInt = 0 := tl_ne c61
          refine li_aload_n 2 dX12_people_41 rfl ?_
          refine li_callV (n := 0) (As := []) dX12_people_42 (k_X12_fineW (d - 1) (by omega)  M60 hJ ) (by omega) (Nat.le_of_ble_eq_true rfl) w_1581 w_1583 w_43 w_112 w_1584 (by decide +kernel) rfl (by decide) sh_175 rfl rfl (Nat.le_of_ble_eq_true rfl) (fun r M63 h64 => ?_)
          obtain ⟨qx62, h64, jM63⟩ := h64
          have hf := li_fs_trans hf h64 (fun i k h => False.elim h)
          have hJ := jM63
          have rM63_1 := J_sl1 (M := M63) hJ
          have rM63_7 := J_sl7 (M := M63) hJ
          have rM63_15 := J_sl15 (M := M63) hJ
          have mM63_1 : (M63.1 175 1).toInt = (M60.1 175 1).toInt := tl_slot (h64.1 175 1 id)
          have mM63_7 : (M63.1 175 7).toInt = (M60.1 175 7).toInt := tl_slot (h64.1 175 7 id)
          have mM63_15 : (M63.1 175 15).toInt = (M60.1 175 15).toInt := tl_slot (h64.1 175 15 id)
          rcases qx62 with ⟨rfl, qx62⟩ | ⟨rfl, qx62⟩
          · skip
            refine li_if_eq 117 dX12_people_45 (by decide) (fun c => absurd c (by decide)) (fun c => ?_)
            refine li_aload_n 2 dX12_people_48 rfl ?_
            refine li_geti (k := 1) (N := 52) (T := TX12) (C0 := RX12) dX12_people_49 (by decide) sh_175 rfl rfl (by decide) li_in12 w_1405 ?_
            refine li_top (fun x66 ex66 => ?_)
            have gx66 : 0 ≤ x66.toInt ∧ x66.toInt ≤ 6 := by rw [ex66]; exact J_sl1 hJ
            have mx66 : x66.toInt = (M63.1 175 1).toInt := tl_slot ex66
            refine li_iload_n 1 dX12_people_52 rfl ?_
            refine li_iadd dX12_people_53 ?_
            refine li_top (fun x67 ex67 => ?_)
            try (have tx67 : x67.toInt = (x66 : Int32).toInt + (x59 : Int32).toInt := tl_add ex67 (by omega))
            refine li_bipush 6 dX12_people_54 (by decide) ?_
            have J104 : ∀  (M69 : li_M), li_fs (fun i k => i = 176 ∨ i = 177 ∨ i = 178 ∨ i = 182 ∨ i = 1000 ∨ (i = 175 ∧ k = 1) ∨ (i = 175 ∧ k = 10) ∨ (i = 175 ∧ k = 12) ∨ (i = 175 ∧ k = 13) ∨ (i = 175 ∧ k = 14) ∨ (i = 175 ∧ k = 15) ∨ (i = 175 ∧ k = 23) ∨ (i = 175 ∧ k = 48) ∨ (i = 175 ∧ k = 7)) M0 M69 → li_J M69 → (M69.1 175 1).toInt + (x59 : Int32).toInt ≤ 6 ∧ (M69.1 175 1).toInt + (x59 : Int32).toInt ≤ 6 + (M69.1 175 15).toInt ∧ (M69.1 175 7).toInt = 0 → li_T l Z YX12_people d 104 [(2, .int x58), (1, .int x59), (0, .ref (Z.2.2 175))] [] M69 (fun r M' => (∃ x : Int32, r = some (.int x)) ∧ li_fs (fun i k => i = 176 ∨ i = 177 ∨ i = 178 ∨ i = 182 ∨ i = 1000 ∨ (i = 175 ∧ k = 1) ∨ (i = 175 ∧ k = 10) ∨ (i = 175 ∧ k = 12) ∨ (i = 175 ∧ k = 13) ∨ (i = 175 ∧ k = 14) ∨ (i = 175 ∧ k = 15) ∨ (i = 175 ∧ k = 23) ∨ (i = 175 ∧ k = 48) ∨ (i = 175 ∧ k = 7)) M0 M' ∧ li_J M' ∧ (M'.1 175 7).toInt = 0) := by
              intro  M69 hf hJ hi
              have rM69_1 := J_sl1 (M := M69) hJ
              have rM69_7 := J_sl7 (M := M69) hJ
              have rM69_15 := J_sl15 (M := M69) hJ
              obtain ⟨x70, ex70⟩ : ∃ y : Int32, y = x59 + 1 := ⟨_, rfl⟩
              have z1 : (1 : Int32).toInt = 1 := rfl
              try (have tx70 : x70.toInt = (x59 : Int32).toInt + (1 : Int32).toInt := tl_add ex70 (by omega))
              refine li_iinc 1 [(1, .int x70), (2, .int x58), (0, .ref (Z.2.2 175))] x70 dX12_people_104 rfl (by rw [ex70]; rfl) (by decide) rfl ?_
              refine li_aload_n 2 dX12_people_107 rfl ?_
              refine li_bipush 59 dX12_people_108 (by decide) ?_
              have z59 : (59 : Int32).toInt = 59 := rfl
              refine li_callV (n := 1) (As := [.int 59]) dX12_people_110 (k_X12_passesW (d - 1) (by omega) 59 M69 hJ (by omega)) (by omega) (Nat.le_of_ble_eq_true rfl) w_1605 w_1607 w_49 w_112 w_1608 (by decide +kernel) rfl (by decide) sh_175 rfl rfl (Nat.le_of_ble_eq_true rfl) (fun r M72 h73 => ?_)
              obtain ⟨qx71, h73, jM72⟩ := h73
              have hf := li_fs_trans hf h73 (fun i k => fun h => Or.inr (Or.inr (Or.inr (Or.inr (Or.inr (Or.inr (Or.inr (Or.inr (Or.inr (Or.inl h))))))))))
              have hJ := jM72
              have rM72_1 := J_sl1 (M := M72) hJ
              have rM72_7 := J_sl7 (M := M72) hJ
              have rM72_15 := J_sl15 (M := M72) hJ
              have mM72_1 : (M72.1 175 1).toInt = (M69.1 175 1).toInt := tl_slot (h73.1 175 1 (show ¬ ((175 = 175 ∧ 1 = 14)) by decide))
              have mM72_7 : (M72.1 175 7).toInt = (M69.1 175 7).toInt := tl_slot (h73.1 175 7 (show ¬ ((175 = 175 ∧ 7 = 14)) by decide))
              have mM72_15 : (M72.1 175 15).toInt = (M69.1 175 15).toInt := tl_slot (h73.1 175 15 (show ¬ ((175 = 175 ∧ 15 = 14)) by decide))
              rcases qx71 with ⟨rfl, qx71⟩ | ⟨rfl, qx71⟩
              · skip
                refine li_istore_n [(2, .int 1), (1, .int x70), (0, .ref (Z.2.2 175))] dX12_people_113 (by decide) rfl ?_
                refine li_goto 37 dX12_people_114 (by decide) ?_
                refine li_pick [0, 1, 2] [(2, .int 1), (1, .int x70), (0, .ref (Z.2.2 175))] rfl ?_
                have z1 : (1 : Int32).toInt = 1 := rfl
                exact ih37 1 x70 M72 (by omega) hf hJ (by omega)
              · skip
                refine li_istore_n [(2, .int 0), (1, .int x70), (0, .ref (Z.2.2 175))] dX12_people_113 (by decide) rfl ?_
                refine li_goto 37 dX12_people_114 (by decide) ?_
                refine li_pick [0, 1, 2] [(2, .int 0), (1, .int x70), (0, .ref (Z.2.2 175))] rfl ?_
                have z0 : (0 : Int32).toInt = 0 := rfl
                exact ih37 0 x70 M72 (by omega) hf hJ (by omega)
            refine li_icmp_ne 70 dX12_people_56 (by decide) (fun c68 => ?_) (fun c68 => ?_)
            · have tc68 : ¬ x67.toInt = 6 := tl_ne c68
              refine li_aload_n 2 dX12_people_70 rfl ?_
              refine li_getr (k := 16) (N := 52) (T := TX12) (C0 := RX12) dX12_people_71 (by decide) sh_175 rfl rfl (by decide) (by decide) li_in12 w_1420 ?_
              refine li_iconst 2 dX12_people_74 (by decide) ?_
              refine li_iload_n 1 dX12_people_75 rfl ?_
              refine li_imul dX12_people_76 ?_
              refine li_top (fun x74 ex74 => ?_)
              have z2 : (2 : Int32).toInt = 2 := rfl
              try (have tx74 : x74.toInt = 2 * (x59 : Int32).toInt := tl_mul ex74 (show -2147483648 ≤ 2 * (x59 : Int32).toInt ∧ 2 * (x59 : Int32).toInt ≤ 2147483647 by omega))
              refine li_aload_n 2 dX12_people_77 rfl ?_
              refine li_iconst 2 dX12_people_78 (by decide) ?_
              have z2 : (2 : Int32).toInt = 2 := rfl
              refine li_callV (n := 1) (As := [.int 2]) dX12_people_79 (k_X12_numberW (d - 1) (by omega) 2 M63 hJ ) (by omega) (Nat.le_of_ble_eq_true rfl) w_1589 w_1591 w_45 w_112 w_1592 (by decide +kernel) rfl (by decide) sh_175 rfl rfl (Nat.le_of_ble_eq_true rfl) (fun r M76 h77 => ?_)
              obtain ⟨⟨x75, rfl, qx75⟩, h77, jM76⟩ := h77
              have gx75 := tl_rg x75
              have hf := li_fs_trans hf h77 (fun i k => fun h => Or.elim h (fun h => Or.inr (Or.inr (Or.inr (Or.inr (Or.inr (Or.inr (Or.inr (Or.inr (Or.inr (Or.inl h)))))))))) (fun h => Or.inr (Or.inr (Or.inr (Or.inr (Or.inr (Or.inr (Or.inr (Or.inr (Or.inr (Or.inr (Or.inl h))))))))))))
              have hJ := jM76
              have rM76_1 := J_sl1 (M := M76) hJ
              have rM76_7 := J_sl7 (M := M76) hJ
              have rM76_15 := J_sl15 (M := M76) hJ
              have mM76_1 : (M76.1 175 1).toInt = (M63.1 175 1).toInt := tl_slot (h77.1 175 1 (show ¬ ((175 = 175 ∧ 1 = 14) ∨ (175 = 175 ∧ 1 = 15)) by decide))
              have mM76_7 : (M76.1 175 7).toInt = (M63.1 175 7).toInt := tl_slot (h77.1 175 7 (show ¬ ((175 = 175 ∧ 7 = 14) ∨ (175 = 175 ∧ 7 = 15)) by decide))
              refine li_iast dX12_people_82 (by decide) sh_182 (tl_in (by omega)) ?_
              refine li_nm (fun M78 eM78 => ?_)
              have hf := li_fs_ui hf (Or.inr (Or.inr (Or.inr (Or.inl rfl)))) eM78
              have hJ := hJ.st (by decide) (li_el_free (by unfold li_led; omega) (by decide) (by decide) (by unfold li_rq; omega)) eM78
              have rM78_1 := J_sl1 (M := M78) hJ
              have rM78_7 := J_sl7 (M := M78) hJ
              have rM78_15 := J_sl15 (M := M78) hJ
              have mM78_1 : (M78.1 175 1).toInt = (M76.1 175 1).toInt := by rw [eM78, li_ui_at, if_neg (by decide)]
              have mM78_7 : (M78.1 175 7).toInt = (M76.1 175 7).toInt := by rw [eM78, li_ui_at, if_neg (by decide)]
              have mM78_15 : (M78.1 175 15).toInt = (M76.1 175 15).toInt := by rw [eM78, li_ui_at, if_neg (by decide)]
              refine li_aload_n 2 dX12_people_83 rfl ?_
              refine li_bipush 58 dX12_people_84 (by decide) ?_
              have z58 : (58 : Int32).toInt = 58 := rfl
              refine li_callV (n := 1) (As := [.int 58]) dX12_people_86 (k_X12_needW (d - 1) (by omega) 58 M78 hJ (by omega)) (by omega) (Nat.le_of_ble_eq_true rfl) w_1601 w_1603 w_48 w_112 w_1604 (by decide +kernel) rfl (by decide) sh_175 rfl rfl (Nat.le_of_ble_eq_true rfl) (fun r M80 h81 => ?_)
              obtain ⟨rfl, h81, jM80, nM80⟩ := h81
              have hf := li_fs_trans hf h81 (fun i k => fun h => Or.elim h (fun h => Or.inr (Or.inr (Or.inr (Or.inr (Or.inr (Or.inr (Or.inr (Or.inr (Or.inr (Or.inl h)))))))))) (fun h => Or.inr (Or.inr (Or.inr (Or.inr (Or.inr (Or.inr (Or.inr (Or.inr (Or.inr (Or.inr (Or.inl h))))))))))))
              have hJ := jM80
              have rM80_1 := J_sl1 (M := M80) hJ
              have rM80_7 := J_sl7 (M := M80) hJ
              have rM80_15 := J_sl15 (M := M80) hJ
              have mM80_1 : (M80.1 175 1).toInt = (M78.1 175 1).toInt := tl_slot (h81.1 175 1 (show ¬ ((175 = 175 ∧ 1 = 14) ∨ (175 = 175 ∧ 1 = 15)) by decide))
              have mM80_7 : (M80.1 175 7).toInt = (M78.1 175 7).toInt := tl_slot (h81.1 175 7 (show ¬ ((175 = 175 ∧ 7 = 14) ∨ (175 = 175 ∧ 7 = 15)) by decide))
              refine li_aload_n 2 dX12_people_89 rfl ?_
              refine li_getr (k := 16) (N := 52) (T := TX12) (C0 := RX12) dX12_people_90 (by decide) sh_175 rfl rfl (by decide) (by decide) li_in12 w_1420 ?_
              refine li_iconst 2 dX12_people_93 (by decide) ?_
              refine li_iload_n 1 dX12_people_94 rfl ?_
              refine li_imul dX12_people_95 ?_
              refine li_top (fun x82 ex82 => ?_)
              have z2 : (2 : Int32).toInt = 2 := rfl
              try (have tx82 : x82.toInt = 2 * (x59 : Int32).toInt := tl_mul ex82 (show -2147483648 ≤ 2 * (x59 : Int32).toInt ∧ 2 * (x59 : Int32).toInt ≤ 2147483647 by omega))
              refine li_iconst 1 dX12_people_96 (by decide) ?_
              refine li_iadd dX12_people_97 ?_
              refine li_top (fun x83 ex83 => ?_)
              have z1 : (1 : Int32).toInt = 1 := rfl
              try (have tx83 : x83.toInt = (x82 : Int32).toInt + (1 : Int32).toInt := tl_add ex83 (by omega))
              refine li_aload_n 2 dX12_people_98 rfl ?_
              refine li_iconst 3 dX12_people_99 (by decide) ?_
              have z3 : (3 : Int32).toInt = 3 := rfl
              refine li_callV (n := 1) (As := [.int 3]) dX12_people_100 (k_X12_numberW (d - 1) (by omega) 3 M80 hJ ) (by omega) (Nat.le_of_ble_eq_true rfl) w_1589 w_1591 w_45 w_112 w_1592 (by decide +kernel) rfl (by decide) sh_175 rfl rfl (Nat.le_of_ble_eq_true rfl) (fun r M85 h86 => ?_)
              obtain ⟨⟨x84, rfl, qx84⟩, h86, jM85⟩ := h86
              have gx84 := tl_rg x84
              have hf := li_fs_trans hf h86 (fun i k => fun h => Or.elim h (fun h => Or.inr (Or.inr (Or.inr (Or.inr (Or.inr (Or.inr (Or.inr (Or.inr (Or.inr (Or.inl h)))))))))) (fun h => Or.inr (Or.inr (Or.inr (Or.inr (Or.inr (Or.inr (Or.inr (Or.inr (Or.inr (Or.inr (Or.inl h))))))))))))
              have hJ := jM85
              have rM85_1 := J_sl1 (M := M85) hJ
              have rM85_7 := J_sl7 (M := M85) hJ
              have rM85_15 := J_sl15 (M := M85) hJ
              have mM85_1 : (M85.1 175 1).toInt = (M80.1 175 1).toInt := tl_slot (h86.1 175 1 (show ¬ ((175 = 175 ∧ 1 = 14) ∨ (175 = 175 ∧ 1 = 15)) by decide))
              have mM85_7 : (M85.1 175 7).toInt = (M80.1 175 7).toInt := tl_slot (h86.1 175 7 (show ¬ ((175 = 175 ∧ 7 = 14) ∨ (175 = 175 ∧ 7 = 15)) by decide))
              refine li_iast dX12_people_103 (by decide) sh_182 (tl_in (by omega)) ?_
              refine li_nm (fun M87 eM87 => ?_)
              have hf := li_fs_ui hf (Or.inr (Or.inr (Or.inr (Or.inl rfl)))) eM87
              have hJ := hJ.st (by decide) (li_el_free (by unfold li_led; omega) (by decide) (by decide) (by unfold li_rq; omega)) eM87
              have rM87_1 := J_sl1 (M := M87) hJ
              have rM87_7 := J_sl7 (M := M87) hJ
              have rM87_15 := J_sl15 (M := M87) hJ
              have mM87_1 : (M87.1 175 1).toInt = (M85.1 175 1).toInt := by rw [eM87, li_ui_at, if_neg (by decide)]
              have mM87_7 : (M87.1 175 7).toInt = (M85.1 175 7).toInt := by rw [eM87, li_ui_at, if_neg (by decide)]
              have mM87_15 : (M87.1 175 15).toInt = (M85.1 175 15).toInt := by rw [eM87, li_ui_at, if_neg (by decide)]
              refine li_pick [0, 1, 2] [(2, .int x58), (1, .int x59), (0, .ref (Z.2.2 175))] rfl ?_
              exact J104  M87 hf hJ (by omega)
            · have tc68 : x67.toInt = 6 := tl_eq c68
              refine li_aload_n 2 dX12_people_59 rfl ?_
              refine li_aload_n 2 dX12_people_60 rfl ?_
              refine li_geti (k := 14) (N := 52) (T := TX12) (C0 := RX12) dX12_people_61 (by decide) sh_175 rfl rfl (by decide) li_in12 w_1418 ?_
              refine li_top (fun x88 ex88 => ?_)
              have gx88 : 0 ≤ x88.toInt ∧ x88.toInt ≤ 81 := by rw [ex88]; exact J_sl14 hJ
              have mx88 : x88.toInt = (M63.1 175 14).toInt := tl_slot ex88
              refine li_callV (n := 1) (As := [.int x88]) dX12_people_64 (k_X12_faultW (d - 1) (by omega) x88 M63 hJ (by omega)) (by omega) (Nat.le_of_ble_eq_true rfl) w_1585 w_1587 w_44 w_112 w_1588 (by decide +kernel) rfl (by decide) sh_175 rfl rfl (Nat.le_of_ble_eq_true rfl) (fun r M90 h91 => ?_)
              obtain ⟨rfl, h91, jM90, nM90⟩ := h91
              have hf := li_fs_trans hf h91 (fun i k => fun h => Or.inr (Or.inr (Or.inr (Or.inr (Or.inr (Or.inr (Or.inr (Or.inr (Or.inr (Or.inr (Or.inl h)))))))))))
              have hJ := jM90
              have rM90_1 := J_sl1 (M := M90) hJ
              have rM90_7 := J_sl7 (M := M90) hJ
              have rM90_15 := J_sl15 (M := M90) hJ
              have mM90_1 : (M90.1 175 1).toInt = (M63.1 175 1).toInt := tl_slot (h91.1 175 1 (show ¬ ((175 = 175 ∧ 1 = 15)) by decide))
              have mM90_7 : (M90.1 175 7).toInt = (M63.1 175 7).toInt := tl_slot (h91.1 175 7 (show ¬ ((175 = 175 ∧ 7 = 15)) by decide))
              refine li_goto 104 dX12_people_67 (by decide) ?_
              refine li_pick [0, 1, 2] [(2, .int x58), (1, .int x59), (0, .ref (Z.2.2 175))] rfl ?_
              exact J104  M90 hf hJ (by omega)
          · skip
            refine li_if_eq 117 dX12_people_45 (by decide) (fun c => ?_) (fun c => absurd rfl c)
            refine li_pick [0, 1, 2] [(2, .int x58), (1, .int x59), (0, .ref (Z.2.2 175))] rfl ?_
            exact J117 x58 x59 M63 hf hJ (by omega)
    have z1 : (1 : Int32).toInt = 1 := rfl
    have z0 : (0 : Int32).toInt = 0 := rfl
    exact L37 _ 1 0 M6 (Nat.lt_succ_self _) hf hJ (by omega)
  · have tc8 : x7.toInt = 0 := tl_eq c8
    refine li_iconst 0 dX12_people_31 (by decide) ?_
    have z0 : (0 : Int32).toInt = 0 := rfl
    exact li_iret dX12_people_32 rfl rfl ⟨⟨_, rfl⟩, hf, hJ, (by omega)⟩
set_option maxRecDepth 100000 in
set_option maxHeartbeats 4000000 in
theorem k3_X12_readRule {l : Launch} {Z : li_Z} (d : Nat) (hd : 338 ≤ d) (M0 : li_M) (hJ : li_J M0) : li_Met l Z YX12_readRule d [.ref (Z.2.2 175)] M0 (fun r M' => ((r = some (.int 1) ∧ ((M0.1 175 7).toInt ≤ 40)) ∨ (r = some (.int 0) ∧ True)) ∧ li_fs (fun i k => i = 1000 ∨ (i = 175 ∧ k = 12) ∨ (i = 175 ∧ k = 13) ∨ (i = 175 ∧ k = 14) ∨ (i = 175 ∧ k = 15) ∨ (i = 175 ∧ k = 20) ∨ (i = 175 ∧ k = 7)) M0 M' ∧ li_J M' ∧ (M'.1 175 7).toInt = 0) := by
  refine li_enter (by decide +kernel) (Nat.le_of_ble_eq_true rfl) ?_
  show li_T l Z YX12_readRule d 0 [(0, .ref (Z.2.2 175))] [] M0 _
  have hf : li_fs (fun i k => i = 1000 ∨ (i = 175 ∧ k = 12) ∨ (i = 175 ∧ k = 13) ∨ (i = 175 ∧ k = 14) ∨ (i = 175 ∧ k = 15) ∨ (i = 175 ∧ k = 20) ∨ (i = 175 ∧ k = 7)) M0 M0 := li_fs_refl
  have rM0_7 := J_sl7 (M := M0) hJ
  have rM0_12 := J_sl12 (M := M0) hJ
  have rM0_13 := J_sl13 (M := M0) hJ
  have rM0_14 := J_sl14 (M := M0) hJ
  have rM0_15 := J_sl15 (M := M0) hJ
  refine li_aload_n 0 dX12_readRule_0 rfl ?_
  refine li_geti (k := 7) (N := 52) (T := TX12) (C0 := RX12) dX12_readRule_1 (by decide) sh_175 rfl rfl (by decide) li_in12 w_1411 ?_
  refine li_top (fun x1 ex1 => ?_)
  have gx1 : 0 ≤ x1.toInt ∧ x1.toInt ≤ 80 := by rw [ex1]; exact J_sl7 hJ
  have mx1 : x1.toInt = (M0.1 175 7).toInt := tl_slot ex1
  refine li_istore_n [(1, .int x1), (0, .ref (Z.2.2 175))] dX12_readRule_4 (by decide) rfl ?_
  refine li_aload_n 1 dX12_readRule_5 rfl ?_
  refine li_aload_n 1 dX12_readRule_6 rfl ?_
  refine li_getr (k := 6) (N := 52) (T := TX12) (C0 := RX12) dX12_readRule_7 (by decide) sh_175 rfl rfl (by decide) (by decide) li_in12 w_1410 ?_
  refine li_iload_n 0 dX12_readRule_10 rfl ?_
  refine li_bipush 40 dX12_readRule_11 (by decide) ?_
  have z40 : (40 : Int32).toInt = 40 := rfl
  refine li_callV (n := 3) (As := [.ref (Z.2.2 180), .int x1, .int 40]) dX12_readRule_13 (k_X12_begin (d - 1) (by unfold li_rq; omega) x1 40 M0 hJ (show 0 ≤ (x1 : Int32).toInt ∧ (x1 : Int32).toInt ≤ (li_qn 180 : Int) by have := li_qn_fix; omega) (by omega)) (by omega) (Nat.le_of_ble_eq_true rfl) w_1577 w_1579 w_42 w_112 w_1580 (by decide +kernel) rfl (by decide) sh_175 rfl rfl (Nat.le_of_ble_eq_true rfl) (fun r M3 h4 => ?_)
  obtain ⟨rfl, h4, jM3, nM3⟩ := h4
  have hf := li_fs_trans hf h4 (fun i k => fun h => Or.elim h (fun h => Or.inr (Or.inl h)) (fun h => Or.elim h (fun h => Or.inr (Or.inr (Or.inl h))) (fun h => Or.elim h (fun h => Or.inr (Or.inr (Or.inr (Or.inl h)))) (fun h => Or.elim h (fun h => Or.inr (Or.inr (Or.inr (Or.inr (Or.inl h))))) (fun h => Or.inl h)))))
  have hJ := jM3
  have rM3_7 := J_sl7 (M := M3) hJ
  have rM3_12 := J_sl12 (M := M3) hJ
  have rM3_13 := J_sl13 (M := M3) hJ
  have rM3_14 := J_sl14 (M := M3) hJ
  have rM3_15 := J_sl15 (M := M3) hJ
  have mM3_7 : (M3.1 175 7).toInt = (M0.1 175 7).toInt := tl_slot (h4.1 175 7 (show ¬ ((175 = 175 ∧ 7 = 12) ∨ (175 = 175 ∧ 7 = 13) ∨ (175 = 175 ∧ 7 = 14) ∨ (175 = 175 ∧ 7 = 15) ∨ 175 = 1000) by decide))
  refine li_aload_n 1 dX12_readRule_16 rfl ?_
  refine li_iconst 0 dX12_readRule_17 (by decide) ?_
  refine li_puti (k := 7) (N := 52) (T := TX12) (C0 := RX12) dX12_readRule_18 (by decide) sh_175 rfl rfl (by decide) li_in12 tyX12_ok nmX12 rfl rfl rfl rfl w_1411 ?_
  refine li_nm (fun M5 eM5 => ?_)
  have hf := li_fs_ui hf (Or.inr (Or.inr (Or.inr (Or.inr (Or.inr (Or.inr (⟨rfl, rfl⟩))))))) eM5
  have z0 : (0 : Int32).toInt = 0 := rfl
  have hJ := J_pt7 hJ (show 0 ≤ (0 : Int32).toInt ∧ (0 : Int32).toInt ≤ 80 by omega) eM5
  have rM5_7 := J_sl7 (M := M5) hJ
  have rM5_12 := J_sl12 (M := M5) hJ
  have rM5_13 := J_sl13 (M := M5) hJ
  have rM5_14 := J_sl14 (M := M5) hJ
  have rM5_15 := J_sl15 (M := M5) hJ
  have mM5_7 : (M5.1 175 7).toInt = 0 := by rw [eM5, li_ui_at, if_pos rfl, if_pos rfl]; rfl
  have mM5_12 : (M5.1 175 12).toInt = (M3.1 175 12).toInt := by rw [eM5, li_ui_at, if_pos rfl, if_neg (by decide)]
  have mM5_13 : (M5.1 175 13).toInt = (M3.1 175 13).toInt := by rw [eM5, li_ui_at, if_pos rfl, if_neg (by decide)]
  have mM5_14 : (M5.1 175 14).toInt = (M3.1 175 14).toInt := by rw [eM5, li_ui_at, if_pos rfl, if_neg (by decide)]
  have mM5_15 : (M5.1 175 15).toInt = (M3.1 175 15).toInt := by rw [eM5, li_ui_at, if_pos rfl, if_neg (by decide)]
  refine li_aload_n 1 dX12_readRule_21 rfl ?_
  refine li_iconst 0 dX12_readRule_22 (by decide) ?_
  refine li_puti (k := 20) (N := 52) (T := TX12) (C0 := RX12) dX12_readRule_23 (by decide) sh_175 rfl rfl (by decide) li_in12 tyX12_ok nmX12 rfl rfl (li_nz (Or.inl rfl)) (li_fz (Or.inl rfl)) w_1424 ?_
  refine li_nm (fun M6 eM6 => ?_)
  have hf := li_fs_ui hf (Or.inr (Or.inr (Or.inr (Or.inr (Or.inr (Or.inl ⟨rfl, rfl⟩)))))) eM6
  have z0 : (0 : Int32).toInt = 0 := rfl
  have hJ := hJ.put (k := 20) (by decide) (rg_free rfl) eM6
  have rM6_7 := J_sl7 (M := M6) hJ
  have rM6_12 := J_sl12 (M := M6) hJ
  have rM6_13 := J_sl13 (M := M6) hJ
  have rM6_14 := J_sl14 (M := M6) hJ
  have rM6_15 := J_sl15 (M := M6) hJ
  have mM6_7 : (M6.1 175 7).toInt = (M5.1 175 7).toInt := by rw [eM6, li_ui_at, if_pos rfl, if_neg (by decide)]
  have mM6_12 : (M6.1 175 12).toInt = (M5.1 175 12).toInt := by rw [eM6, li_ui_at, if_pos rfl, if_neg (by decide)]
  have mM6_13 : (M6.1 175 13).toInt = (M5.1 175 13).toInt := by rw [eM6, li_ui_at, if_pos rfl, if_neg (by decide)]
  have mM6_14 : (M6.1 175 14).toInt = (M5.1 175 14).toInt := by rw [eM6, li_ui_at, if_pos rfl, if_neg (by decide)]
  have mM6_15 : (M6.1 175 15).toInt = (M5.1 175 15).toInt := by rw [eM6, li_ui_at, if_pos rfl, if_neg (by decide)]
  refine li_iload_n 0 dX12_readRule_26 rfl ?_
  refine li_if_le 52 dX12_readRule_27 (by decide) (fun c7 => ?_) (fun c7 => ?_)
  · have tc7 : x1.toInt ≤ 0 := tl_le c7
    refine li_aload_n 1 dX12_readRule_52 rfl ?_
    refine li_callV (n := 0) (As := []) dX12_readRule_53 (k_X12_fine (d - 1) (by omega)  M6 hJ ) (by omega) (Nat.le_of_ble_eq_true rfl) w_1581 w_1583 w_43 w_112 w_1584 (by decide +kernel) rfl (by decide) sh_175 rfl rfl (Nat.le_of_ble_eq_true rfl) (fun r M9 h10 => ?_)
    obtain ⟨qx8, h10, jM9⟩ := h10
    have hf := li_fs_trans hf h10 (fun i k h => False.elim h)
    have hJ := jM9
    have rM9_7 := J_sl7 (M := M9) hJ
    have rM9_12 := J_sl12 (M := M9) hJ
    have rM9_13 := J_sl13 (M := M9) hJ
    have rM9_14 := J_sl14 (M := M9) hJ
    have rM9_15 := J_sl15 (M := M9) hJ
    have mM9_7 : (M9.1 175 7).toInt = (M6.1 175 7).toInt := tl_slot (h10.1 175 7 id)
    have mM9_12 : (M9.1 175 12).toInt = (M6.1 175 12).toInt := tl_slot (h10.1 175 12 id)
    have mM9_13 : (M9.1 175 13).toInt = (M6.1 175 13).toInt := tl_slot (h10.1 175 13 id)
    have mM9_14 : (M9.1 175 14).toInt = (M6.1 175 14).toInt := tl_slot (h10.1 175 14 id)
    have mM9_15 : (M9.1 175 15).toInt = (M6.1 175 15).toInt := tl_slot (h10.1 175 15 id)
    rcases qx8 with ⟨rfl, qx8⟩ | ⟨rfl, qx8⟩
    · skip
      have z1 : (1 : Int32).toInt = 1 := rfl
      exact li_iret dX12_readRule_56 rfl (li_nz (Or.inr rfl)) ⟨Or.inl ⟨rfl, (by omega)⟩, hf, hJ, (by omega)⟩
    · skip
      have z0 : (0 : Int32).toInt = 0 := rfl
      exact li_iret dX12_readRule_56 rfl (li_nz (Or.inl rfl)) ⟨Or.inr ⟨rfl, trivial⟩, hf, hJ, (by omega)⟩
  · have tc7 : 0 < x1.toInt := tl_nle c7
    refine li_aload_n 1 dX12_readRule_30 rfl ?_
    refine li_iconst 0 dX12_readRule_31 (by decide) ?_
    have z0 : (0 : Int32).toInt = 0 := rfl
    refine li_callV (n := 1) (As := [.int 0]) dX12_readRule_32 ((kk_parse 81).2.2.2 0 M6 (d - 1) hJ (by have := J_sl14 hJ; omega) (by omega)) (by omega) (Nat.le_of_ble_eq_true rfl) w_1625 w_1627 w_52 w_112 w_1628 (by decide +kernel) rfl (by decide) sh_175 rfl rfl (Nat.le_of_ble_eq_true rfl) (fun r M12 h13 => ?_)
    obtain ⟨⟨x11, rfl, qx11⟩, h13, jM12⟩ := h13
    have gx11 := tl_rg x11
    have hf := li_fs_trans hf h13 (fun i k => fun h => Or.elim h (fun h => Or.inr (Or.inr (Or.inr (Or.inl h)))) (fun h => Or.inr (Or.inr (Or.inr (Or.inr (Or.inl h))))))
    have hJ := jM12
    have rM12_7 := J_sl7 (M := M12) hJ
    have rM12_12 := J_sl12 (M := M12) hJ
    have rM12_13 := J_sl13 (M := M12) hJ
    have rM12_14 := J_sl14 (M := M12) hJ
    have rM12_15 := J_sl15 (M := M12) hJ
    have mM12_7 : (M12.1 175 7).toInt = (M6.1 175 7).toInt := tl_slot (h13.1 175 7 (show ¬ ((175 = 175 ∧ 7 = 14) ∨ (175 = 175 ∧ 7 = 15)) by decide))
    have mM12_12 : (M12.1 175 12).toInt = (M6.1 175 12).toInt := tl_slot (h13.1 175 12 (show ¬ ((175 = 175 ∧ 12 = 14) ∨ (175 = 175 ∧ 12 = 15)) by decide))
    have mM12_13 : (M12.1 175 13).toInt = (M6.1 175 13).toInt := tl_slot (h13.1 175 13 (show ¬ ((175 = 175 ∧ 13 = 14) ∨ (175 = 175 ∧ 13 = 15)) by decide))
    refine li_pop dX12_readRule_35 rfl ?_
    refine li_aload_n 1 dX12_readRule_36 rfl ?_
    refine li_geti (k := 14) (N := 52) (T := TX12) (C0 := RX12) dX12_readRule_37 (by decide) sh_175 rfl rfl (by decide) li_in12 w_1418 ?_
    refine li_top (fun x14 ex14 => ?_)
    have gx14 : 0 ≤ x14.toInt ∧ x14.toInt ≤ 81 := by rw [ex14]; exact J_sl14 hJ
    have mx14 : x14.toInt = (M12.1 175 14).toInt := tl_slot ex14
    refine li_iload_n 0 dX12_readRule_40 rfl ?_
    refine li_icmp_ge 52 dX12_readRule_41 (by decide) (fun c15 => ?_) (fun c15 => ?_)
    · have tc15 : x1.toInt ≤ x14.toInt := tl_le c15
      refine li_aload_n 1 dX12_readRule_52 rfl ?_
      refine li_callV (n := 0) (As := []) dX12_readRule_53 (k_X12_fine (d - 1) (by omega)  M12 hJ ) (by omega) (Nat.le_of_ble_eq_true rfl) w_1581 w_1583 w_43 w_112 w_1584 (by decide +kernel) rfl (by decide) sh_175 rfl rfl (Nat.le_of_ble_eq_true rfl) (fun r M17 h18 => ?_)
      obtain ⟨qx16, h18, jM17⟩ := h18
      have hf := li_fs_trans hf h18 (fun i k h => False.elim h)
      have hJ := jM17
      have rM17_7 := J_sl7 (M := M17) hJ
      have rM17_12 := J_sl12 (M := M17) hJ
      have rM17_13 := J_sl13 (M := M17) hJ
      have rM17_14 := J_sl14 (M := M17) hJ
      have rM17_15 := J_sl15 (M := M17) hJ
      have mM17_7 : (M17.1 175 7).toInt = (M12.1 175 7).toInt := tl_slot (h18.1 175 7 id)
      have mM17_12 : (M17.1 175 12).toInt = (M12.1 175 12).toInt := tl_slot (h18.1 175 12 id)
      have mM17_13 : (M17.1 175 13).toInt = (M12.1 175 13).toInt := tl_slot (h18.1 175 13 id)
      have mM17_14 : (M17.1 175 14).toInt = (M12.1 175 14).toInt := tl_slot (h18.1 175 14 id)
      have mM17_15 : (M17.1 175 15).toInt = (M12.1 175 15).toInt := tl_slot (h18.1 175 15 id)
      rcases qx16 with ⟨rfl, qx16⟩ | ⟨rfl, qx16⟩
      · skip
        have z1 : (1 : Int32).toInt = 1 := rfl
        exact li_iret dX12_readRule_56 rfl (li_nz (Or.inr rfl)) ⟨Or.inl ⟨rfl, (by omega)⟩, hf, hJ, (by omega)⟩
      · skip
        have z0 : (0 : Int32).toInt = 0 := rfl
        exact li_iret dX12_readRule_56 rfl (li_nz (Or.inl rfl)) ⟨Or.inr ⟨rfl, trivial⟩, hf, hJ, (by omega)⟩
    · have tc15 : x14.toInt < x1.toInt := tl_nle c15
      refine li_aload_n 1 dX12_readRule_44 rfl ?_
      refine li_aload_n 1 dX12_readRule_45 rfl ?_
      refine li_geti (k := 14) (N := 52) (T := TX12) (C0 := RX12) dX12_readRule_46 (by decide) sh_175 rfl rfl (by decide) li_in12 w_1418 ?_
      refine li_top (fun x19 ex19 => ?_)
      have gx19 : 0 ≤ x19.toInt ∧ x19.toInt ≤ 81 := by rw [ex19]; exact J_sl14 hJ
      have mx19 : x19.toInt = (M12.1 175 14).toInt := tl_slot ex19
      refine li_callV (n := 1) (As := [.int x19]) dX12_readRule_49 (k_X12_fault (d - 1) (by omega) x19 M12 hJ (by omega)) (by omega) (Nat.le_of_ble_eq_true rfl) w_1585 w_1587 w_44 w_112 w_1588 (by decide +kernel) rfl (by decide) sh_175 rfl rfl (Nat.le_of_ble_eq_true rfl) (fun r M21 h22 => ?_)
      obtain ⟨rfl, h22, jM21, nM21⟩ := h22
      have hf := li_fs_trans hf h22 (fun i k => fun h => Or.inr (Or.inr (Or.inr (Or.inr (Or.inl h)))))
      have hJ := jM21
      have rM21_7 := J_sl7 (M := M21) hJ
      have rM21_12 := J_sl12 (M := M21) hJ
      have rM21_13 := J_sl13 (M := M21) hJ
      have rM21_14 := J_sl14 (M := M21) hJ
      have rM21_15 := J_sl15 (M := M21) hJ
      have mM21_7 : (M21.1 175 7).toInt = (M12.1 175 7).toInt := tl_slot (h22.1 175 7 (show ¬ ((175 = 175 ∧ 7 = 15)) by decide))
      have mM21_12 : (M21.1 175 12).toInt = (M12.1 175 12).toInt := tl_slot (h22.1 175 12 (show ¬ ((175 = 175 ∧ 12 = 15)) by decide))
      have mM21_13 : (M21.1 175 13).toInt = (M12.1 175 13).toInt := tl_slot (h22.1 175 13 (show ¬ ((175 = 175 ∧ 13 = 15)) by decide))
      have mM21_14 : (M21.1 175 14).toInt = (M12.1 175 14).toInt := tl_slot (h22.1 175 14 (show ¬ ((175 = 175 ∧ 14 = 15)) by decide))
      refine li_aload_n 1 dX12_readRule_52 rfl ?_
      refine li_callV (n := 0) (As := []) dX12_readRule_53 (k_X12_fine (d - 1) (by omega)  M21 hJ ) (by omega) (Nat.le_of_ble_eq_true rfl) w_1581 w_1583 w_43 w_112 w_1584 (by decide +kernel) rfl (by decide) sh_175 rfl rfl (Nat.le_of_ble_eq_true rfl) (fun r M24 h25 => ?_)
      obtain ⟨qx23, h25, jM24⟩ := h25
      have hf := li_fs_trans hf h25 (fun i k h => False.elim h)
      have hJ := jM24
      have rM24_7 := J_sl7 (M := M24) hJ
      have rM24_12 := J_sl12 (M := M24) hJ
      have rM24_13 := J_sl13 (M := M24) hJ
      have rM24_14 := J_sl14 (M := M24) hJ
      have rM24_15 := J_sl15 (M := M24) hJ
      have mM24_7 : (M24.1 175 7).toInt = (M21.1 175 7).toInt := tl_slot (h25.1 175 7 id)
      have mM24_12 : (M24.1 175 12).toInt = (M21.1 175 12).toInt := tl_slot (h25.1 175 12 id)
      have mM24_13 : (M24.1 175 13).toInt = (M21.1 175 13).toInt := tl_slot (h25.1 175 13 id)
      have mM24_14 : (M24.1 175 14).toInt = (M21.1 175 14).toInt := tl_slot (h25.1 175 14 id)
      have mM24_15 : (M24.1 175 15).toInt = (M21.1 175 15).toInt := tl_slot (h25.1 175 15 id)
      rcases qx23 with ⟨rfl, qx23⟩ | ⟨rfl, qx23⟩
      · skip
        have z1 : (1 : Int32).toInt = 1 := rfl
        exact li_iret dX12_readRule_56 rfl (li_nz (Or.inr rfl)) ⟨Or.inl ⟨rfl, (by omega)⟩, hf, hJ, (by omega)⟩
      · skip
        have z0 : (0 : Int32).toInt = 0 := rfl
        exact li_iret dX12_readRule_56 rfl (li_nz (Or.inl rfl)) ⟨Or.inr ⟨rfl, trivial⟩, hf, hJ, (by omega)⟩
set_option maxRecDepth 100000 in
set_option maxHeartbeats 4000000 in
theorem k3_X12_rule {l : Launch} {Z : li_Z} (d : Nat) (hd : 339 ≤ d) (M0 : li_M) (hJ : li_J M0) : li_Met l Z YX12_rule d [.ref (Z.2.2 175)] M0 (fun r M' => (∃ x : Int32, r = some (.int x)) ∧ li_fs (fun i k => i = 183 ∨ i = 184 ∨ i = 1000 ∨ (i = 175 ∧ k = 10) ∨ (i = 175 ∧ k = 12) ∨ (i = 175 ∧ k = 13) ∨ (i = 175 ∧ k = 14) ∨ (i = 175 ∧ k = 15) ∨ (i = 175 ∧ k = 18) ∨ (i = 175 ∧ k = 20) ∨ (i = 175 ∧ k = 7)) M0 M' ∧ li_J M' ∧ (M'.1 175 7).toInt = 0) := by
  refine li_enter (by decide +kernel) (Nat.le_of_ble_eq_true rfl) ?_
  show li_T l Z YX12_rule d 0 [(0, .ref (Z.2.2 175))] [] M0 _
  have hf : li_fs (fun i k => i = 183 ∨ i = 184 ∨ i = 1000 ∨ (i = 175 ∧ k = 10) ∨ (i = 175 ∧ k = 12) ∨ (i = 175 ∧ k = 13) ∨ (i = 175 ∧ k = 14) ∨ (i = 175 ∧ k = 15) ∨ (i = 175 ∧ k = 18) ∨ (i = 175 ∧ k = 20) ∨ (i = 175 ∧ k = 7)) M0 M0 := li_fs_refl
  have rM0_7 := J_sl7 (M := M0) hJ
  refine li_aload_n 0 dX12_rule_0 rfl ?_
  refine li_iconst 0 dX12_rule_1 (by decide) ?_
  refine li_puti (k := 10) (N := 52) (T := TX12) (C0 := RX12) dX12_rule_2 (by decide) sh_175 rfl rfl (by decide) li_in12 tyX12_ok nmX12 rfl rfl rfl rfl w_1414 ?_
  refine li_nm (fun M1 eM1 => ?_)
  have hf := li_fs_ui hf (Or.inr (Or.inr (Or.inr (Or.inl ⟨rfl, rfl⟩)))) eM1
  have z0 : (0 : Int32).toInt = 0 := rfl
  have hJ := hJ.put (k := 10) (by decide) (rg_free rfl) eM1
  have rM1_7 := J_sl7 (M := M1) hJ
  have mM1_7 : (M1.1 175 7).toInt = (M0.1 175 7).toInt := by rw [eM1, li_ui_at, if_pos rfl, if_neg (by decide)]
  refine li_aload_n 0 dX12_rule_5 rfl ?_
  refine li_geti (k := 7) (N := 52) (T := TX12) (C0 := RX12) dX12_rule_6 (by decide) sh_175 rfl rfl (by decide) li_in12 w_1411 ?_
  refine li_top (fun x2 ex2 => ?_)
  have gx2 : 0 ≤ x2.toInt ∧ x2.toInt ≤ 80 := by rw [ex2]; exact J_sl7 hJ
  have mx2 : x2.toInt = (M1.1 175 7).toInt := tl_slot ex2
  refine li_istore_n [(1, .int x2), (0, .ref (Z.2.2 175))] dX12_rule_9 (by decide) rfl ?_
  refine li_aload_n 1 dX12_rule_10 rfl ?_
  refine li_callV (n := 0) (As := []) dX12_rule_11 (k3_X12_readRule (d - 1) (by omega)  M1 hJ ) (by omega) (Nat.le_of_ble_eq_true rfl) w_1621 w_1623 w_51 w_112 w_1624 (by decide +kernel) rfl (by decide) sh_175 rfl rfl (Nat.le_of_ble_eq_true rfl) (fun r M4 h5 => ?_)
  obtain ⟨qx3, h5, jM4, nM4⟩ := h5
  have hf := li_fs_trans hf h5 (fun i k => fun h => Or.elim h (fun h => Or.inr (Or.inr (Or.inl h))) (fun h => Or.elim h (fun h => Or.inr (Or.inr (Or.inr (Or.inr (Or.inl h))))) (fun h => Or.elim h (fun h => Or.inr (Or.inr (Or.inr (Or.inr (Or.inr (Or.inl h)))))) (fun h => Or.elim h (fun h => Or.inr (Or.inr (Or.inr (Or.inr (Or.inr (Or.inr (Or.inl h))))))) (fun h => Or.elim h (fun h => Or.inr (Or.inr (Or.inr (Or.inr (Or.inr (Or.inr (Or.inr (Or.inl h)))))))) (fun h => Or.elim h (fun h => Or.inr (Or.inr (Or.inr (Or.inr (Or.inr (Or.inr (Or.inr (Or.inr (Or.inr (Or.inl h)))))))))) (fun h => Or.inr (Or.inr (Or.inr (Or.inr (Or.inr (Or.inr (Or.inr (Or.inr (Or.inr (Or.inr h))))))))))))))))
  have hJ := jM4
  have rM4_7 := J_sl7 (M := M4) hJ
  rcases qx3 with ⟨rfl, qx3⟩ | ⟨rfl, qx3⟩
  · skip
    refine li_if_ne 24 dX12_rule_14 (by decide) (fun c => ?_) (fun c => absurd c (by decide))
    refine li_iconst 0 dX12_rule_24 (by decide) ?_
    refine li_istore_n [(2, .int 0), (1, .int x2), (0, .ref (Z.2.2 175))] dX12_rule_25 (by decide) rfl ?_
    have L26 : ∀ (n : Nat) (x7 : Int32) (M8 : li_M), ((x2 : Int32).toInt - (x7 : Int32).toInt).toNat < n → li_fs (fun i k => i = 183 ∨ i = 184 ∨ i = 1000 ∨ (i = 175 ∧ k = 10) ∨ (i = 175 ∧ k = 12) ∨ (i = 175 ∧ k = 13) ∨ (i = 175 ∧ k = 14) ∨ (i = 175 ∧ k = 15) ∨ (i = 175 ∧ k = 18) ∨ (i = 175 ∧ k = 20) ∨ (i = 175 ∧ k = 7)) M0 M8 → li_J M8 → 0 ≤ (x7 : Int32).toInt ∧ (M8.1 175 7).toInt = 0 → li_T l Z YX12_rule d 26 [(2, .int x7), (1, .int x2), (0, .ref (Z.2.2 175))] [] M8 (fun r M' => (∃ x : Int32, r = some (.int x)) ∧ li_fs (fun i k => i = 183 ∨ i = 184 ∨ i = 1000 ∨ (i = 175 ∧ k = 10) ∨ (i = 175 ∧ k = 12) ∨ (i = 175 ∧ k = 13) ∨ (i = 175 ∧ k = 14) ∨ (i = 175 ∧ k = 15) ∨ (i = 175 ∧ k = 18) ∨ (i = 175 ∧ k = 20) ∨ (i = 175 ∧ k = 7)) M0 M' ∧ li_J M' ∧ (M'.1 175 7).toInt = 0) := by
      intro n
      induction n with
      | zero => intro x7 M8 hn; exact absurd hn (Nat.not_lt_zero _)
      | succ n ih26 =>
        intro x7 M8 hn hf hJ hi
        have gx7 := tl_rg x7
        have rM8_7 := J_sl7 (M := M8) hJ
        refine li_iload_n 0 dX12_rule_26 rfl ?_
        refine li_iload_n 1 dX12_rule_27 rfl ?_
        refine li_icmp_ge 49 dX12_rule_28 (by decide) (fun c9 => ?_) (fun c9 => ?_)
        · have tc9 : x2.toInt ≤ x7.toInt := tl_le c9
          refine li_aload_n 2 dX12_rule_49 rfl ?_
          refine li_iload_n 1 dX12_rule_50 rfl ?_
          refine li_puti (k := 18) (N := 52) (T := TX12) (C0 := RX12) dX12_rule_51 (by decide) sh_175 rfl rfl (by decide) li_in12 tyX12_ok nmX12 rfl rfl rfl rfl w_1422 ?_
          refine li_nm (fun M10 eM10 => ?_)
          have hf := li_fs_ui hf (Or.inr (Or.inr (Or.inr (Or.inr (Or.inr (Or.inr (Or.inr (Or.inr (Or.inl ⟨rfl, rfl⟩))))))))) eM10
          have hJ := J_pt18 hJ (show 0 ≤ (x2 : Int32).toInt ∧ (x2 : Int32).toInt ≤ 40 by omega) eM10
          have rM10_7 := J_sl7 (M := M10) hJ
          have mM10_7 : (M10.1 175 7).toInt = (M8.1 175 7).toInt := by rw [eM10, li_ui_at, if_pos rfl, if_neg (by decide)]
          refine li_iconst 0 dX12_rule_54 (by decide) ?_
          have z0 : (0 : Int32).toInt = 0 := rfl
          exact li_iret dX12_rule_55 rfl rfl ⟨⟨_, rfl⟩, hf, hJ, (by omega)⟩
        · have tc9 : x7.toInt < x2.toInt := tl_nle c9
          refine li_aload_n 2 dX12_rule_31 rfl ?_
          obtain ⟨q11, hq11, rq11⟩ := hJ.2.2.1
          refine li_getm (r := 1) (k := 17) (N := 52) (T := TX12) (C0 := RX12) dX12_rule_32 (by decide) sh_175 rfl rfl hq11 (by decide) li_in12 w_1421 ?_
          refine li_iload_n 0 dX12_rule_35 rfl ?_
          refine li_aload_n 2 dX12_rule_36 rfl ?_
          refine li_getr (k := 6) (N := 52) (T := TX12) (C0 := RX12) dX12_rule_37 (by decide) sh_175 rfl rfl (by decide) (by decide) li_in12 w_1410 ?_
          refine li_iload_n 0 dX12_rule_40 rfl ?_
          refine li_bald dX12_rule_41 (by decide) sh_180 (tl_in (by omega)) ?_
          refine li_top (fun x12 ex12 => ?_)
          have gx12 := tl_rg x12
          refine li_bast dX12_rule_42 (snU rq11) (shU rq11) (tl_in (by omega)) ?_
          have uM13 : q11 = 183 ∨ q11 = 184 := rq11
          refine li_nm (fun M13 eM13 => ?_)
          have hf := li_fs_ui hf (show q11 = 183 ∨ q11 = 184 ∨ q11 = 1000 ∨ (q11 = 175 ∧ (x7 : Int32).toNatClampNeg = 10) ∨ (q11 = 175 ∧ (x7 : Int32).toNatClampNeg = 12) ∨ (q11 = 175 ∧ (x7 : Int32).toNatClampNeg = 13) ∨ (q11 = 175 ∧ (x7 : Int32).toNatClampNeg = 14) ∨ (q11 = 175 ∧ (x7 : Int32).toNatClampNeg = 15) ∨ (q11 = 175 ∧ (x7 : Int32).toNatClampNeg = 18) ∨ (q11 = 175 ∧ (x7 : Int32).toNatClampNeg = 20) ∨ (q11 = 175 ∧ (x7 : Int32).toNatClampNeg = 7) by omega) eM13
          have hJ := hJ.st (by unfold li_rl at rq11; omega) (li_el_byte (rl_rq rq11)) eM13
          have rM13_7 := J_sl7 (M := M13) hJ
          have mM13_7 : (M13.1 175 7).toInt = (M8.1 175 7).toInt := by rw [eM13, li_ui_at, if_neg (by unfold li_rl at rq11; omega)]
          obtain ⟨x14, ex14⟩ : ∃ y : Int32, y = x7 + 1 := ⟨_, rfl⟩
          have z1 : (1 : Int32).toInt = 1 := rfl
          try (have tx14 : x14.toInt = (x7 : Int32).toInt + (1 : Int32).toInt := tl_add ex14 (by omega))
          refine li_iinc 0 [(2, .int x14), (1, .int x2), (0, .ref (Z.2.2 175))] x14 dX12_rule_43 rfl (by rw [ex14]; rfl) (by decide) rfl ?_
          refine li_goto 26 dX12_rule_46 (by decide) ?_
          refine li_pick [0, 1, 2] [(2, .int x14), (1, .int x2), (0, .ref (Z.2.2 175))] rfl ?_
          exact ih26 x14 M13 (by omega) hf hJ (by omega)
    have z0 : (0 : Int32).toInt = 0 := rfl
    exact L26 _ 0 M4 (Nat.lt_succ_self _) hf hJ (by omega)
  · skip
    refine li_if_ne 24 dX12_rule_14 (by decide) (fun c => absurd rfl c) (fun c => ?_)
    refine li_iconst (-1) dX12_rule_17 (by decide) ?_
    refine li_aload_n 1 dX12_rule_18 rfl ?_
    refine li_geti (k := 15) (N := 52) (T := TX12) (C0 := RX12) dX12_rule_19 (by decide) sh_175 rfl rfl (by decide) li_in12 w_1419 ?_
    refine li_top (fun x16 ex16 => ?_)
    have gx16 : -1 ≤ x16.toInt ∧ x16.toInt ≤ 81 := by rw [ex16]; exact J_sl15 hJ
    have mx16 : x16.toInt = (M4.1 175 15).toInt := tl_slot ex16
    refine li_isub dX12_rule_22 ?_
    refine li_top (fun x17 ex17 => ?_)
    have zm1 : ((-1) : Int32).toInt = -1 := rfl
    try (have tx17 : x17.toInt = ((-1) : Int32).toInt - (x16 : Int32).toInt := tl_sub ex17 (by omega))
    exact li_iret dX12_rule_23 rfl rfl ⟨⟨_, rfl⟩, hf, hJ, (by omega)⟩
set_option maxRecDepth 100000 in
set_option maxHeartbeats 4000000 in
theorem k3_X12_talk {l : Launch} {Z : li_Z} (d : Nat) (hd : 343 ≤ d) (M0 : li_M) (hJ : li_J M0) : li_Met l Z YX12_talk d [.ref (Z.2.2 175)] M0 (fun r M' => (∃ x : Int32, r = some (.int x)) ∧ li_fs (fun i k => i = 176 ∨ i = 181 ∨ i = 185 ∨ i = 186 ∨ i = 187 ∨ i = 188 ∨ i = 1000 ∨ (i = 175 ∧ k = 10) ∨ (i = 175 ∧ k = 12) ∨ (i = 175 ∧ k = 13) ∨ (i = 175 ∧ k = 14) ∨ (i = 175 ∧ k = 15) ∨ (i = 175 ∧ k = 20) ∨ (i = 175 ∧ k = 23) ∨ (i = 175 ∧ k = 25) ∨ (i = 175 ∧ k = 26) ∨ (i = 175 ∧ k = 28) ∨ (i = 175 ∧ k = 7) ∨ (i = 175 ∧ k = 9)) M0 M' ∧ li_J M' ∧ (M'.1 175 7).toInt = 0) := by
  refine li_enter (by decide +kernel) (Nat.le_of_ble_eq_true rfl) ?_
  show li_T l Z YX12_talk d 0 [(0, .ref (Z.2.2 175))] [] M0 _
  have hf : li_fs (fun i k => i = 176 ∨ i = 181 ∨ i = 185 ∨ i = 186 ∨ i = 187 ∨ i = 188 ∨ i = 1000 ∨ (i = 175 ∧ k = 10) ∨ (i = 175 ∧ k = 12) ∨ (i = 175 ∧ k = 13) ∨ (i = 175 ∧ k = 14) ∨ (i = 175 ∧ k = 15) ∨ (i = 175 ∧ k = 20) ∨ (i = 175 ∧ k = 23) ∨ (i = 175 ∧ k = 25) ∨ (i = 175 ∧ k = 26) ∨ (i = 175 ∧ k = 28) ∨ (i = 175 ∧ k = 7) ∨ (i = 175 ∧ k = 9)) M0 M0 := li_fs_refl
  have rM0_7 := J_sl7 (M := M0) hJ
  have rM0_9 := J_sl9 (M := M0) hJ
  have rM0_12 := J_sl12 (M := M0) hJ
  have rM0_13 := J_sl13 (M := M0) hJ
  have rM0_14 := J_sl14 (M := M0) hJ
  have rM0_15 := J_sl15 (M := M0) hJ
  refine li_aload_n 0 dX12_talk_0 rfl ?_
  refine li_iconst 0 dX12_talk_1 (by decide) ?_
  refine li_puti (k := 10) (N := 52) (T := TX12) (C0 := RX12) dX12_talk_2 (by decide) sh_175 rfl rfl (by decide) li_in12 tyX12_ok nmX12 rfl rfl rfl rfl w_1414 ?_
  refine li_nm (fun M1 eM1 => ?_)
  have hf := li_fs_ui hf (Or.inr (Or.inr (Or.inr (Or.inr (Or.inr (Or.inr (Or.inr (Or.inl ⟨rfl, rfl⟩)))))))) eM1
  have z0 : (0 : Int32).toInt = 0 := rfl
  have hJ := hJ.put (k := 10) (by decide) (rg_free rfl) eM1
  have rM1_7 := J_sl7 (M := M1) hJ
  have rM1_9 := J_sl9 (M := M1) hJ
  have rM1_12 := J_sl12 (M := M1) hJ
  have rM1_13 := J_sl13 (M := M1) hJ
  have rM1_14 := J_sl14 (M := M1) hJ
  have rM1_15 := J_sl15 (M := M1) hJ
  have mM1_7 : (M1.1 175 7).toInt = (M0.1 175 7).toInt := by rw [eM1, li_ui_at, if_pos rfl, if_neg (by decide)]
  have mM1_9 : (M1.1 175 9).toInt = (M0.1 175 9).toInt := by rw [eM1, li_ui_at, if_pos rfl, if_neg (by decide)]
  have mM1_12 : (M1.1 175 12).toInt = (M0.1 175 12).toInt := by rw [eM1, li_ui_at, if_pos rfl, if_neg (by decide)]
  have mM1_13 : (M1.1 175 13).toInt = (M0.1 175 13).toInt := by rw [eM1, li_ui_at, if_pos rfl, if_neg (by decide)]
  have mM1_14 : (M1.1 175 14).toInt = (M0.1 175 14).toInt := by rw [eM1, li_ui_at, if_pos rfl, if_neg (by decide)]
  have mM1_15 : (M1.1 175 15).toInt = (M0.1 175 15).toInt := by rw [eM1, li_ui_at, if_pos rfl, if_neg (by decide)]
  refine li_aload_n 0 dX12_talk_5 rfl ?_
  refine li_aload_n 0 dX12_talk_6 rfl ?_
  refine li_getr (k := 6) (N := 52) (T := TX12) (C0 := RX12) dX12_talk_7 (by decide) sh_175 rfl rfl (by decide) (by decide) li_in12 w_1410 ?_
  refine li_aload_n 0 dX12_talk_10 rfl ?_
  refine li_geti (k := 7) (N := 52) (T := TX12) (C0 := RX12) dX12_talk_11 (by decide) sh_175 rfl rfl (by decide) li_in12 w_1411 ?_
  refine li_top (fun x2 ex2 => ?_)
  have gx2 : 0 ≤ x2.toInt ∧ x2.toInt ≤ 80 := by rw [ex2]; exact J_sl7 hJ
  have mx2 : x2.toInt = (M1.1 175 7).toInt := tl_slot ex2
  refine li_bipush 60 dX12_talk_14 (by decide) ?_
  have z60 : (60 : Int32).toInt = 60 := rfl
  refine li_callV (n := 3) (As := [.ref (Z.2.2 180), .int x2, .int 60]) dX12_talk_16 (k_X12_begin (d - 1) (by unfold li_rq; omega) x2 60 M1 hJ (show 0 ≤ (x2 : Int32).toInt ∧ (x2 : Int32).toInt ≤ (li_qn 180 : Int) by have := li_qn_fix; omega) (by omega)) (by omega) (Nat.le_of_ble_eq_true rfl) w_1577 w_1579 w_42 w_112 w_1580 (by decide +kernel) rfl (by decide) sh_175 rfl rfl (Nat.le_of_ble_eq_true rfl) (fun r M4 h5 => ?_)
  obtain ⟨rfl, h5, jM4, nM4⟩ := h5
  have hf := li_fs_trans hf h5 (fun i k => fun h => Or.elim h (fun h => Or.inr (Or.inr (Or.inr (Or.inr (Or.inr (Or.inr (Or.inr (Or.inr (Or.inl h))))))))) (fun h => Or.elim h (fun h => Or.inr (Or.inr (Or.inr (Or.inr (Or.inr (Or.inr (Or.inr (Or.inr (Or.inr (Or.inl h)))))))))) (fun h => Or.elim h (fun h => Or.inr (Or.inr (Or.inr (Or.inr (Or.inr (Or.inr (Or.inr (Or.inr (Or.inr (Or.inr (Or.inl h))))))))))) (fun h => Or.elim h (fun h => Or.inr (Or.inr (Or.inr (Or.inr (Or.inr (Or.inr (Or.inr (Or.inr (Or.inr (Or.inr (Or.inr (Or.inl h)))))))))))) (fun h => Or.inr (Or.inr (Or.inr (Or.inr (Or.inr (Or.inr (Or.inl h)))))))))))
  have hJ := jM4
  have rM4_7 := J_sl7 (M := M4) hJ
  have rM4_9 := J_sl9 (M := M4) hJ
  have rM4_12 := J_sl12 (M := M4) hJ
  have rM4_13 := J_sl13 (M := M4) hJ
  have rM4_14 := J_sl14 (M := M4) hJ
  have rM4_15 := J_sl15 (M := M4) hJ
  have mM4_7 : (M4.1 175 7).toInt = (M1.1 175 7).toInt := tl_slot (h5.1 175 7 (show ¬ ((175 = 175 ∧ 7 = 12) ∨ (175 = 175 ∧ 7 = 13) ∨ (175 = 175 ∧ 7 = 14) ∨ (175 = 175 ∧ 7 = 15) ∨ 175 = 1000) by decide))
  have mM4_9 : (M4.1 175 9).toInt = (M1.1 175 9).toInt := tl_slot (h5.1 175 9 (show ¬ ((175 = 175 ∧ 9 = 12) ∨ (175 = 175 ∧ 9 = 13) ∨ (175 = 175 ∧ 9 = 14) ∨ (175 = 175 ∧ 9 = 15) ∨ 175 = 1000) by decide))
  refine li_aload_n 0 dX12_talk_19 rfl ?_
  refine li_iconst 0 dX12_talk_20 (by decide) ?_
  refine li_puti (k := 7) (N := 52) (T := TX12) (C0 := RX12) dX12_talk_21 (by decide) sh_175 rfl rfl (by decide) li_in12 tyX12_ok nmX12 rfl rfl rfl rfl w_1411 ?_
  refine li_nm (fun M6 eM6 => ?_)
  have hf := li_fs_ui hf (Or.inr (Or.inr (Or.inr (Or.inr (Or.inr (Or.inr (Or.inr (Or.inr (Or.inr (Or.inr (Or.inr (Or.inr (Or.inr (Or.inr (Or.inr (Or.inr (Or.inr (Or.inl ⟨rfl, rfl⟩)))))))))))))))))) eM6
  have z0 : (0 : Int32).toInt = 0 := rfl
  have hJ := J_pt7 hJ (show 0 ≤ (0 : Int32).toInt ∧ (0 : Int32).toInt ≤ 80 by omega) eM6
  have rM6_7 := J_sl7 (M := M6) hJ
  have rM6_9 := J_sl9 (M := M6) hJ
  have rM6_12 := J_sl12 (M := M6) hJ
  have rM6_13 := J_sl13 (M := M6) hJ
  have rM6_14 := J_sl14 (M := M6) hJ
  have rM6_15 := J_sl15 (M := M6) hJ
  have mM6_7 : (M6.1 175 7).toInt = 0 := by rw [eM6, li_ui_at, if_pos rfl, if_pos rfl]; rfl
  have mM6_9 : (M6.1 175 9).toInt = (M4.1 175 9).toInt := by rw [eM6, li_ui_at, if_pos rfl, if_neg (by decide)]
  have mM6_12 : (M6.1 175 12).toInt = (M4.1 175 12).toInt := by rw [eM6, li_ui_at, if_pos rfl, if_neg (by decide)]
  have mM6_13 : (M6.1 175 13).toInt = (M4.1 175 13).toInt := by rw [eM6, li_ui_at, if_pos rfl, if_neg (by decide)]
  have mM6_14 : (M6.1 175 14).toInt = (M4.1 175 14).toInt := by rw [eM6, li_ui_at, if_pos rfl, if_neg (by decide)]
  have mM6_15 : (M6.1 175 15).toInt = (M4.1 175 15).toInt := by rw [eM6, li_ui_at, if_pos rfl, if_neg (by decide)]
  refine li_iconst 0 dX12_talk_24 (by decide) ?_
  refine li_istore_n [(1, .int 0), (0, .ref (Z.2.2 175))] dX12_talk_25 (by decide) rfl ?_
  refine li_aload_n 1 dX12_talk_26 rfl ?_
  refine li_geti (k := 12) (N := 52) (T := TX12) (C0 := RX12) dX12_talk_27 (by decide) sh_175 rfl rfl (by decide) li_in12 w_1416 ?_
  refine li_top (fun x7 ex7 => ?_)
  have gx7 : 0 ≤ x7.toInt ∧ x7.toInt ≤ 80 := by rw [ex7]; exact J_sl12 hJ
  have mx7 : x7.toInt = (M6.1 175 12).toInt := tl_slot ex7
  have J38 : ∀ (x9 : Int32) (M10 : li_M), li_fs (fun i k => i = 176 ∨ i = 181 ∨ i = 185 ∨ i = 186 ∨ i = 187 ∨ i = 188 ∨ i = 1000 ∨ (i = 175 ∧ k = 10) ∨ (i = 175 ∧ k = 12) ∨ (i = 175 ∧ k = 13) ∨ (i = 175 ∧ k = 14) ∨ (i = 175 ∧ k = 15) ∨ (i = 175 ∧ k = 20) ∨ (i = 175 ∧ k = 23) ∨ (i = 175 ∧ k = 25) ∨ (i = 175 ∧ k = 26) ∨ (i = 175 ∧ k = 28) ∨ (i = 175 ∧ k = 7) ∨ (i = 175 ∧ k = 9)) M0 M10 → li_J M10 → (M10.1 175 14).toInt = 0 ∧ (M10.1 175 7).toInt = 0 → li_T l Z YX12_talk d 38 [(1, .int 0), (0, .ref (Z.2.2 175))] [.int x9] M10 (fun r M' => (∃ x : Int32, r = some (.int x)) ∧ li_fs (fun i k => i = 176 ∨ i = 181 ∨ i = 185 ∨ i = 186 ∨ i = 187 ∨ i = 188 ∨ i = 1000 ∨ (i = 175 ∧ k = 10) ∨ (i = 175 ∧ k = 12) ∨ (i = 175 ∧ k = 13) ∨ (i = 175 ∧ k = 14) ∨ (i = 175 ∧ k = 15) ∨ (i = 175 ∧ k = 20) ∨ (i = 175 ∧ k = 23) ∨ (i = 175 ∧ k = 25) ∨ (i = 175 ∧ k = 26) ∨ (i = 175 ∧ k = 28) ∨ (i = 175 ∧ k = 7) ∨ (i = 175 ∧ k = 9)) M0 M' ∧ li_J M' ∧ (M'.1 175 7).toInt = 0) := by
    intro x9 M10 hf hJ hi
    have gx9 := tl_rg x9
    have rM10_7 := J_sl7 (M := M10) hJ
    have rM10_9 := J_sl9 (M := M10) hJ
    have rM10_12 := J_sl12 (M := M10) hJ
    have rM10_13 := J_sl13 (M := M10) hJ
    have rM10_14 := J_sl14 (M := M10) hJ
    have rM10_15 := J_sl15 (M := M10) hJ
    refine li_istore_n [(2, .int x9), (1, .int 0), (0, .ref (Z.2.2 175))] dX12_talk_38 (by decide) rfl ?_
    have J70 : ∀ (x11 : Int32) (x12 : Int32) (M13 : li_M), li_fs (fun i k => i = 176 ∨ i = 181 ∨ i = 185 ∨ i = 186 ∨ i = 187 ∨ i = 188 ∨ i = 1000 ∨ (i = 175 ∧ k = 10) ∨ (i = 175 ∧ k = 12) ∨ (i = 175 ∧ k = 13) ∨ (i = 175 ∧ k = 14) ∨ (i = 175 ∧ k = 15) ∨ (i = 175 ∧ k = 20) ∨ (i = 175 ∧ k = 23) ∨ (i = 175 ∧ k = 25) ∨ (i = 175 ∧ k = 26) ∨ (i = 175 ∧ k = 28) ∨ (i = 175 ∧ k = 7) ∨ (i = 175 ∧ k = 9)) M0 M13 → li_J M13 → 0 ≤ (x12 : Int32).toInt ∧ (x12 : Int32).toInt ≤ 41 ∧ (M13.1 175 7).toInt = 0 → li_T l Z YX12_talk d 70 [(2, .int x11), (1, .int x12), (0, .ref (Z.2.2 175))] [] M13 (fun r M' => (∃ x : Int32, r = some (.int x)) ∧ li_fs (fun i k => i = 176 ∨ i = 181 ∨ i = 185 ∨ i = 186 ∨ i = 187 ∨ i = 188 ∨ i = 1000 ∨ (i = 175 ∧ k = 10) ∨ (i = 175 ∧ k = 12) ∨ (i = 175 ∧ k = 13) ∨ (i = 175 ∧ k = 14) ∨ (i = 175 ∧ k = 15) ∨ (i = 175 ∧ k = 20) ∨ (i = 175 ∧ k = 23) ∨ (i = 175 ∧ k = 25) ∨ (i = 175 ∧ k = 26) ∨ (i = 175 ∧ k = 28) ∨ (i = 175 ∧ k = 7) ∨ (i = 175 ∧ k = 9)) M0 M' ∧ li_J M' ∧ (M'.1 175 7).toInt = 0) := by
      intro x11 x12 M13 hf hJ hi
      have gx11 := tl_rg x11
      have gx12 := tl_rg x12
      have rM13_7 := J_sl7 (M := M13) hJ
      have rM13_9 := J_sl9 (M := M13) hJ
      have rM13_12 := J_sl12 (M := M13) hJ
      have rM13_13 := J_sl13 (M := M13) hJ
      have rM13_14 := J_sl14 (M := M13) hJ
      have rM13_15 := J_sl15 (M := M13) hJ
      refine li_aload_n 2 dX12_talk_70 rfl ?_
      refine li_geti (k := 14) (N := 52) (T := TX12) (C0 := RX12) dX12_talk_71 (by decide) sh_175 rfl rfl (by decide) li_in12 w_1418 ?_
      refine li_top (fun x14 ex14 => ?_)
      have gx14 : 0 ≤ x14.toInt ∧ x14.toInt ≤ 81 := by rw [ex14]; exact J_sl14 hJ
      have mx14 : x14.toInt = (M13.1 175 14).toInt := tl_slot ex14
      refine li_aload_n 2 dX12_talk_74 rfl ?_
      refine li_geti (k := 12) (N := 52) (T := TX12) (C0 := RX12) dX12_talk_75 (by decide) sh_175 rfl rfl (by decide) li_in12 w_1416 ?_
      refine li_top (fun x15 ex15 => ?_)
      have gx15 : 0 ≤ x15.toInt ∧ x15.toInt ≤ 80 := by rw [ex15]; exact J_sl12 hJ
      have mx15 : x15.toInt = (M13.1 175 12).toInt := tl_slot ex15
      have J89 : ∀  (M17 : li_M), li_fs (fun i k => i = 176 ∨ i = 181 ∨ i = 185 ∨ i = 186 ∨ i = 187 ∨ i = 188 ∨ i = 1000 ∨ (i = 175 ∧ k = 10) ∨ (i = 175 ∧ k = 12) ∨ (i = 175 ∧ k = 13) ∨ (i = 175 ∧ k = 14) ∨ (i = 175 ∧ k = 15) ∨ (i = 175 ∧ k = 20) ∨ (i = 175 ∧ k = 23) ∨ (i = 175 ∧ k = 25) ∨ (i = 175 ∧ k = 26) ∨ (i = 175 ∧ k = 28) ∨ (i = 175 ∧ k = 7) ∨ (i = 175 ∧ k = 9)) M0 M17 → li_J M17 → (M17.1 175 7).toInt = 0 → li_T l Z YX12_talk d 89 [(2, .int x11), (1, .int x12), (0, .ref (Z.2.2 175))] [] M17 (fun r M' => (∃ x : Int32, r = some (.int x)) ∧ li_fs (fun i k => i = 176 ∨ i = 181 ∨ i = 185 ∨ i = 186 ∨ i = 187 ∨ i = 188 ∨ i = 1000 ∨ (i = 175 ∧ k = 10) ∨ (i = 175 ∧ k = 12) ∨ (i = 175 ∧ k = 13) ∨ (i = 175 ∧ k = 14) ∨ (i = 175 ∧ k = 15) ∨ (i = 175 ∧ k = 20) ∨ (i = 175 ∧ k = 23) ∨ (i = 175 ∧ k = 25) ∨ (i = 175 ∧ k = 26) ∨ (i = 175 ∧ k = 28) ∨ (i = 175 ∧ k = 7) ∨ (i = 175 ∧ k = 9)) M0 M' ∧ li_J M' ∧ (M'.1 175 7).toInt = 0) := by
        intro  M17 hf hJ hi
        have rM17_7 := J_sl7 (M := M17) hJ
        have rM17_9 := J_sl9 (M := M17) hJ
        have rM17_12 := J_sl12 (M := M17) hJ
        have rM17_13 := J_sl13 (M := M17) hJ
        have rM17_14 := J_sl14 (M := M17) hJ
        have rM17_15 := J_sl15 (M := M17) hJ
        refine li_aload_n 2 dX12_talk_89 rfl ?_
        refine li_callV (n := 0) (As := []) dX12_talk_90 (k_X12_fine (d - 1) (by omega)  M17 hJ ) (by omega) (Nat.le_of_ble_eq_true rfl) w_1581 w_1583 w_43 w_112 w_1584 (by decide +kernel) rfl (by decide) sh_175 rfl rfl (Nat.le_of_ble_eq_true rfl) (fun r M19 h20 => ?_)
        obtain ⟨qx18, h20, jM19⟩ := h20
        have hf := li_fs_trans hf h20 (fun i k h => False.elim h)
        have hJ := jM19
        have rM19_7 := J_sl7 (M := M19) hJ
        have rM19_9 := J_sl9 (M := M19) hJ
        have rM19_12 := J_sl12 (M := M19) hJ
        have rM19_13 := J_sl13 (M := M19) hJ
        have rM19_14 := J_sl14 (M := M19) hJ
        have rM19_15 := J_sl15 (M := M19) hJ
        have mM19_7 : (M19.1 175 7).toInt = (M17.1 175 7).toInt := tl_slot (h20.1 175 7 id)
        have mM19_9 : (M19.1 175 9).toInt = (M17.1 175 9).toInt := tl_slot (h20.1 175 9 id)
        have mM19_12 : (M19.1 175 12).toInt = (M17.1 175 12).toInt := tl_slot (h20.1 175 12 id)
        have mM19_13 : (M19.1 175 13).toInt = (M17.1 175 13).toInt := tl_slot (h20.1 175 13 id)
        have mM19_14 : (M19.1 175 14).toInt = (M17.1 175 14).toInt := tl_slot (h20.1 175 14 id)
        have mM19_15 : (M19.1 175 15).toInt = (M17.1 175 15).toInt := tl_slot (h20.1 175 15 id)
        rcases qx18 with ⟨rfl, qx18⟩ | ⟨rfl, qx18⟩
        · skip
          refine li_if_ne 103 dX12_talk_93 (by decide) (fun c => ?_) (fun c => absurd c (by decide))
          refine li_aload_n 2 dX12_talk_103 rfl ?_
          refine li_getr (k := 0) (N := 52) (T := TX12) (C0 := RX12) dX12_talk_104 (by decide) sh_175 rfl rfl (by decide) (by decide) li_in12 w_1404 ?_
          refine li_aload_n 2 dX12_talk_107 rfl ?_
          refine li_getr (k := 24) (N := 52) (T := TX12) (C0 := RX12) dX12_talk_108 (by decide) sh_175 rfl rfl (by decide) (by decide) li_in12 w_1428 ?_
          refine li_iconst 0 dX12_talk_111 (by decide) ?_
          have z0 : (0 : Int32).toInt = 0 := rfl
          refine li_callS (n := 3) (As := [.ref (Z.2.2 176), .ref (Z.2.2 187), .int 0]) dX12_talk_112 (k_X12_lay_na (d - 1) (by omega) 0 M19 hJ (by omega)) (by omega) (Nat.le_of_ble_eq_true rfl) w_1745 w_1746 w_112 w_1747 (by decide +kernel) rfl rfl (Nat.le_of_ble_eq_true rfl) (fun r M23 h24 => ?_)
          obtain ⟨rfl, h24, jM23⟩ := h24
          have hf := li_fs_trans hf h24 (fun i k => fun h => Or.inr (Or.inr (Or.inr (Or.inr (Or.inl h)))))
          have hJ := jM23
          have rM23_7 := J_sl7 (M := M23) hJ
          have rM23_9 := J_sl9 (M := M23) hJ
          have rM23_12 := J_sl12 (M := M23) hJ
          have rM23_13 := J_sl13 (M := M23) hJ
          have rM23_14 := J_sl14 (M := M23) hJ
          have rM23_15 := J_sl15 (M := M23) hJ
          have mM23_7 : (M23.1 175 7).toInt = (M19.1 175 7).toInt := tl_slot (h24.1 175 7 (show ¬ (175 = 187) by decide))
          have mM23_9 : (M23.1 175 9).toInt = (M19.1 175 9).toInt := tl_slot (h24.1 175 9 (show ¬ (175 = 187) by decide))
          have mM23_12 : (M23.1 175 12).toInt = (M19.1 175 12).toInt := tl_slot (h24.1 175 12 (show ¬ (175 = 187) by decide))
          have mM23_13 : (M23.1 175 13).toInt = (M19.1 175 13).toInt := tl_slot (h24.1 175 13 (show ¬ (175 = 187) by decide))
          have mM23_14 : (M23.1 175 14).toInt = (M19.1 175 14).toInt := tl_slot (h24.1 175 14 (show ¬ (175 = 187) by decide))
          have mM23_15 : (M23.1 175 15).toInt = (M19.1 175 15).toInt := tl_slot (h24.1 175 15 (show ¬ (175 = 187) by decide))
          refine li_aload_n 2 dX12_talk_115 rfl ?_
          refine li_iconst 0 dX12_talk_116 (by decide) ?_
          refine li_puti (k := 28) (N := 52) (T := TX12) (C0 := RX12) dX12_talk_117 (by decide) sh_175 rfl rfl (by decide) li_in12 tyX12_ok nmX12 rfl rfl rfl rfl w_1432 ?_
          refine li_nm (fun M25 eM25 => ?_)
          have hf := li_fs_ui hf (Or.inr (Or.inr (Or.inr (Or.inr (Or.inr (Or.inr (Or.inr (Or.inr (Or.inr (Or.inr (Or.inr (Or.inr (Or.inr (Or.inr (Or.inr (Or.inr (Or.inl ⟨rfl, rfl⟩))))))))))))))))) eM25
          have z0 : (0 : Int32).toInt = 0 := rfl
          have hJ := hJ.put (k := 28) (by decide) (rg_free rfl) eM25
          have rM25_7 := J_sl7 (M := M25) hJ
          have rM25_9 := J_sl9 (M := M25) hJ
          have rM25_12 := J_sl12 (M := M25) hJ
          have rM25_13 := J_sl13 (M := M25) hJ
          have rM25_14 := J_sl14 (M := M25) hJ
          have rM25_15 := J_sl15 (M := M25) hJ
          have mM25_7 : (M25.1 175 7).toInt = (M23.1 175 7).toInt := by rw [eM25, li_ui_at, if_pos rfl, if_neg (by decide)]
          have mM25_9 : (M25.1 175 9).toInt = (M23.1 175 9).toInt := by rw [eM25, li_ui_at, if_pos rfl, if_neg (by decide)]
          have mM25_12 : (M25.1 175 12).toInt = (M23.1 175 12).toInt := by rw [eM25, li_ui_at, if_pos rfl, if_neg (by decide)]
          have mM25_13 : (M25.1 175 13).toInt = (M23.1 175 13).toInt := by rw [eM25, li_ui_at, if_pos rfl, if_neg (by decide)]
          have mM25_14 : (M25.1 175 14).toInt = (M23.1 175 14).toInt := by rw [eM25, li_ui_at, if_pos rfl, if_neg (by decide)]
          have mM25_15 : (M25.1 175 15).toInt = (M23.1 175 15).toInt := by rw [eM25, li_ui_at, if_pos rfl, if_neg (by decide)]
          refine li_iconst 0 dX12_talk_120 (by decide) ?_
          refine li_istore_n [(3, .int 0), (2, .int x11), (1, .int x12), (0, .ref (Z.2.2 175))] dX12_talk_121 (by decide) rfl ?_
          have L122 : ∀ (n : Nat) (x26 : Int32) (M27 : li_M), (42 - (x26 : Int32).toInt).toNat < n → li_fs (fun i k => i = 176 ∨ i = 181 ∨ i = 185 ∨ i = 186 ∨ i = 187 ∨ i = 188 ∨ i = 1000 ∨ (i = 175 ∧ k = 10) ∨ (i = 175 ∧ k = 12) ∨ (i = 175 ∧ k = 13) ∨ (i = 175 ∧ k = 14) ∨ (i = 175 ∧ k = 15) ∨ (i = 175 ∧ k = 20) ∨ (i = 175 ∧ k = 23) ∨ (i = 175 ∧ k = 25) ∨ (i = 175 ∧ k = 26) ∨ (i = 175 ∧ k = 28) ∨ (i = 175 ∧ k = 7) ∨ (i = 175 ∧ k = 9)) M0 M27 → li_J M27 → 0 ≤ (x26 : Int32).toInt ∧ (M27.1 175 7).toInt = 0 → li_T l Z YX12_talk d 122 [(3, .int x26), (2, .int x11), (1, .int x12), (0, .ref (Z.2.2 175))] [] M27 (fun r M' => (∃ x : Int32, r = some (.int x)) ∧ li_fs (fun i k => i = 176 ∨ i = 181 ∨ i = 185 ∨ i = 186 ∨ i = 187 ∨ i = 188 ∨ i = 1000 ∨ (i = 175 ∧ k = 10) ∨ (i = 175 ∧ k = 12) ∨ (i = 175 ∧ k = 13) ∨ (i = 175 ∧ k = 14) ∨ (i = 175 ∧ k = 15) ∨ (i = 175 ∧ k = 20) ∨ (i = 175 ∧ k = 23) ∨ (i = 175 ∧ k = 25) ∨ (i = 175 ∧ k = 26) ∨ (i = 175 ∧ k = 28) ∨ (i = 175 ∧ k = 7) ∨ (i = 175 ∧ k = 9)) M0 M' ∧ li_J M' ∧ (M'.1 175 7).toInt = 0) := by
            intro n
            induction n with
            | zero => intro x26 M27 hn; exact absurd hn (Nat.not_lt_zero _)
            | succ n ih122 =>
              intro x26 M27 hn hf hJ hi
              have gx26 := tl_rg x26
              have rM27_7 := J_sl7 (M := M27) hJ
              have rM27_9 := J_sl9 (M := M27) hJ
              have rM27_12 := J_sl12 (M := M27) hJ
              have rM27_13 := J_sl13 (M := M27) hJ
              have rM27_14 := J_sl14 (M := M27) hJ
              have rM27_15 := J_sl15 (M := M27) hJ
              refine li_iload_n 0 dX12_talk_122 rfl ?_
              refine li_iload_n 2 dX12_talk_123 rfl ?_
              refine li_icmp_ge 178 dX12_talk_124 (by decide) (fun c28 => ?_) (fun c28 => ?_)
              · have tc28 : x12.toInt ≤ x26.toInt := tl_le c28
                refine li_iload_n 0 dX12_talk_178 rfl ?_
                have J190 : ∀  (M30 : li_M), li_fs (fun i k => i = 176 ∨ i = 181 ∨ i = 185 ∨ i = 186 ∨ i = 187 ∨ i = 188 ∨ i = 1000 ∨ (i = 175 ∧ k = 10) ∨ (i = 175 ∧ k = 12) ∨ (i = 175 ∧ k = 13) ∨ (i = 175 ∧ k = 14) ∨ (i = 175 ∧ k = 15) ∨ (i = 175 ∧ k = 20) ∨ (i = 175 ∧ k = 23) ∨ (i = 175 ∧ k = 25) ∨ (i = 175 ∧ k = 26) ∨ (i = 175 ∧ k = 28) ∨ (i = 175 ∧ k = 7) ∨ (i = 175 ∧ k = 9)) M0 M30 → li_J M30 → (M30.1 175 7).toInt = 0 → li_T l Z YX12_talk d 190 [(3, .int x26), (2, .int x11), (1, .int x12), (0, .ref (Z.2.2 175))] [] M30 (fun r M' => (∃ x : Int32, r = some (.int x)) ∧ li_fs (fun i k => i = 176 ∨ i = 181 ∨ i = 185 ∨ i = 186 ∨ i = 187 ∨ i = 188 ∨ i = 1000 ∨ (i = 175 ∧ k = 10) ∨ (i = 175 ∧ k = 12) ∨ (i = 175 ∧ k = 13) ∨ (i = 175 ∧ k = 14) ∨ (i = 175 ∧ k = 15) ∨ (i = 175 ∧ k = 20) ∨ (i = 175 ∧ k = 23) ∨ (i = 175 ∧ k = 25) ∨ (i = 175 ∧ k = 26) ∨ (i = 175 ∧ k = 28) ∨ (i = 175 ∧ k = 7) ∨ (i = 175 ∧ k = 9)) M0 M' ∧ li_J M' ∧ (M'.1 175 7).toInt = 0) := by
                  intro  M30 hf hJ hi
                  have rM30_7 := J_sl7 (M := M30) hJ
                  have rM30_9 := J_sl9 (M := M30) hJ
                  have rM30_12 := J_sl12 (M := M30) hJ
                  have rM30_13 := J_sl13 (M := M30) hJ
                  have rM30_14 := J_sl14 (M := M30) hJ
                  have rM30_15 := J_sl15 (M := M30) hJ
                  refine li_aload_n 3 dX12_talk_190 rfl ?_
                  refine li_iconst 0 dX12_talk_191 (by decide) ?_
                  refine li_puti (k := 9) (N := 52) (T := TX12) (C0 := RX12) dX12_talk_192 (by decide) sh_175 rfl rfl (by decide) li_in12 tyX12_ok nmX12 rfl rfl rfl rfl w_1413 ?_
                  refine li_nm (fun M31 eM31 => ?_)
                  have hf := li_fs_ui hf (Or.inr (Or.inr (Or.inr (Or.inr (Or.inr (Or.inr (Or.inr (Or.inr (Or.inr (Or.inr (Or.inr (Or.inr (Or.inr (Or.inr (Or.inr (Or.inr (Or.inr (Or.inr (⟨rfl, rfl⟩))))))))))))))))))) eM31
                  have z0 : (0 : Int32).toInt = 0 := rfl
                  have hJ := J_pt9 hJ (show 0 ≤ (0 : Int32).toInt ∧ (0 : Int32).toInt ≤ 20 by omega) eM31
                  have rM31_7 := J_sl7 (M := M31) hJ
                  have rM31_9 := J_sl9 (M := M31) hJ
                  have rM31_12 := J_sl12 (M := M31) hJ
                  have rM31_13 := J_sl13 (M := M31) hJ
                  have rM31_14 := J_sl14 (M := M31) hJ
                  have rM31_15 := J_sl15 (M := M31) hJ
                  have mM31_7 : (M31.1 175 7).toInt = (M30.1 175 7).toInt := by rw [eM31, li_ui_at, if_pos rfl, if_neg (by decide)]
                  have mM31_9 : (M31.1 175 9).toInt = 0 := by rw [eM31, li_ui_at, if_pos rfl, if_pos rfl]; rfl
                  have mM31_12 : (M31.1 175 12).toInt = (M30.1 175 12).toInt := by rw [eM31, li_ui_at, if_pos rfl, if_neg (by decide)]
                  have mM31_13 : (M31.1 175 13).toInt = (M30.1 175 13).toInt := by rw [eM31, li_ui_at, if_pos rfl, if_neg (by decide)]
                  have mM31_14 : (M31.1 175 14).toInt = (M30.1 175 14).toInt := by rw [eM31, li_ui_at, if_pos rfl, if_neg (by decide)]
                  have mM31_15 : (M31.1 175 15).toInt = (M30.1 175 15).toInt := by rw [eM31, li_ui_at, if_pos rfl, if_neg (by decide)]
                  refine li_aload_n 3 dX12_talk_195 rfl ?_
                  refine li_iload_n 0 dX12_talk_196 rfl ?_
                  refine li_iload_n 2 dX12_talk_197 rfl ?_
                  have J206 : ∀ (x33 : Int32) (M34 : li_M), li_fs (fun i k => i = 176 ∨ i = 181 ∨ i = 185 ∨ i = 186 ∨ i = 187 ∨ i = 188 ∨ i = 1000 ∨ (i = 175 ∧ k = 10) ∨ (i = 175 ∧ k = 12) ∨ (i = 175 ∧ k = 13) ∨ (i = 175 ∧ k = 14) ∨ (i = 175 ∧ k = 15) ∨ (i = 175 ∧ k = 20) ∨ (i = 175 ∧ k = 23) ∨ (i = 175 ∧ k = 25) ∨ (i = 175 ∧ k = 26) ∨ (i = 175 ∧ k = 28) ∨ (i = 175 ∧ k = 7) ∨ (i = 175 ∧ k = 9)) M0 M34 → li_J M34 → (M34.1 175 9).toInt = 0 ∧ (M34.1 175 7).toInt = 0 → li_T l Z YX12_talk d 206 [(3, .int x26), (2, .int x11), (1, .int x12), (0, .ref (Z.2.2 175))] [.int x33, .ref (Z.2.2 175)] M34 (fun r M' => (∃ x : Int32, r = some (.int x)) ∧ li_fs (fun i k => i = 176 ∨ i = 181 ∨ i = 185 ∨ i = 186 ∨ i = 187 ∨ i = 188 ∨ i = 1000 ∨ (i = 175 ∧ k = 10) ∨ (i = 175 ∧ k = 12) ∨ (i = 175 ∧ k = 13) ∨ (i = 175 ∧ k = 14) ∨ (i = 175 ∧ k = 15) ∨ (i = 175 ∧ k = 20) ∨ (i = 175 ∧ k = 23) ∨ (i = 175 ∧ k = 25) ∨ (i = 175 ∧ k = 26) ∨ (i = 175 ∧ k = 28) ∨ (i = 175 ∧ k = 7) ∨ (i = 175 ∧ k = 9)) M0 M' ∧ li_J M' ∧ (M'.1 175 7).toInt = 0) := by
                    intro x33 M34 hf hJ hi
                    have gx33 := tl_rg x33
                    have rM34_7 := J_sl7 (M := M34) hJ
                    have rM34_9 := J_sl9 (M := M34) hJ
                    have rM34_12 := J_sl12 (M := M34) hJ
                    have rM34_13 := J_sl13 (M := M34) hJ
                    have rM34_14 := J_sl14 (M := M34) hJ
                    have rM34_15 := J_sl15 (M := M34) hJ
                    refine li_callV (n := 1) (As := [.int x33]) dX12_talk_206 (k_X12_tell (d - 1) (by omega) x33 M34 hJ (by omega)) (by omega) (Nat.le_of_ble_eq_true rfl) w_1783 w_1785 w_77 w_112 w_1786 (by decide +kernel) rfl (by decide) sh_175 rfl rfl (Nat.le_of_ble_eq_true rfl) (fun r M36 h37 => ?_)
                    obtain ⟨rfl, h37, jM36, nM36⟩ := h37
                    have hf := li_fs_trans hf h37 (fun i k => fun h => Or.elim h (fun h => Or.inr (Or.inl h)) (fun h => Or.inr (Or.inr (Or.inr (Or.inr (Or.inr (Or.inr (Or.inr (Or.inr (Or.inr (Or.inr (Or.inr (Or.inr (Or.inr (Or.inr (Or.inr (Or.inr (Or.inr (Or.inr h)))))))))))))))))))
                    have hJ := jM36
                    have rM36_7 := J_sl7 (M := M36) hJ
                    have rM36_9 := J_sl9 (M := M36) hJ
                    have rM36_12 := J_sl12 (M := M36) hJ
                    have rM36_13 := J_sl13 (M := M36) hJ
                    have rM36_14 := J_sl14 (M := M36) hJ
                    have rM36_15 := J_sl15 (M := M36) hJ
                    have mM36_7 : (M36.1 175 7).toInt = (M34.1 175 7).toInt := tl_slot (h37.1 175 7 (show ¬ (175 = 181 ∨ (175 = 175 ∧ 7 = 9)) by decide))
                    have mM36_12 : (M36.1 175 12).toInt = (M34.1 175 12).toInt := tl_slot (h37.1 175 12 (show ¬ (175 = 181 ∨ (175 = 175 ∧ 12 = 9)) by decide))
                    have mM36_13 : (M36.1 175 13).toInt = (M34.1 175 13).toInt := tl_slot (h37.1 175 13 (show ¬ (175 = 181 ∨ (175 = 175 ∧ 13 = 9)) by decide))
                    have mM36_14 : (M36.1 175 14).toInt = (M34.1 175 14).toInt := tl_slot (h37.1 175 14 (show ¬ (175 = 181 ∨ (175 = 175 ∧ 14 = 9)) by decide))
                    have mM36_15 : (M36.1 175 15).toInt = (M34.1 175 15).toInt := tl_slot (h37.1 175 15 (show ¬ (175 = 181 ∨ (175 = 175 ∧ 15 = 9)) by decide))
                    refine li_aload_n 3 dX12_talk_209 rfl ?_
                    refine li_aload_n 3 dX12_talk_210 rfl ?_
                    refine li_geti (k := 28) (N := 52) (T := TX12) (C0 := RX12) dX12_talk_211 (by decide) sh_175 rfl rfl (by decide) li_in12 w_1432 ?_
                    refine li_top (fun x38 ex38 => ?_)
                    have gx38 := tl_rg x38
                    have mx38 : x38.toInt = (M36.1 175 28).toInt := tl_slot ex38
                    refine li_callV (n := 1) (As := [.int x38]) dX12_talk_214 (k_X12_tell (d - 1) (by omega) x38 M36 hJ (by omega)) (by omega) (Nat.le_of_ble_eq_true rfl) w_1783 w_1785 w_77 w_112 w_1786 (by decide +kernel) rfl (by decide) sh_175 rfl rfl (Nat.le_of_ble_eq_true rfl) (fun r M40 h41 => ?_)
                    obtain ⟨rfl, h41, jM40, nM40⟩ := h41
                    have hf := li_fs_trans hf h41 (fun i k => fun h => Or.elim h (fun h => Or.inr (Or.inl h)) (fun h => Or.inr (Or.inr (Or.inr (Or.inr (Or.inr (Or.inr (Or.inr (Or.inr (Or.inr (Or.inr (Or.inr (Or.inr (Or.inr (Or.inr (Or.inr (Or.inr (Or.inr (Or.inr h)))))))))))))))))))
                    have hJ := jM40
                    have rM40_7 := J_sl7 (M := M40) hJ
                    have rM40_9 := J_sl9 (M := M40) hJ
                    have rM40_12 := J_sl12 (M := M40) hJ
                    have rM40_13 := J_sl13 (M := M40) hJ
                    have rM40_14 := J_sl14 (M := M40) hJ
                    have rM40_15 := J_sl15 (M := M40) hJ
                    have mM40_7 : (M40.1 175 7).toInt = (M36.1 175 7).toInt := tl_slot (h41.1 175 7 (show ¬ (175 = 181 ∨ (175 = 175 ∧ 7 = 9)) by decide))
                    have mM40_12 : (M40.1 175 12).toInt = (M36.1 175 12).toInt := tl_slot (h41.1 175 12 (show ¬ (175 = 181 ∨ (175 = 175 ∧ 12 = 9)) by decide))
                    have mM40_13 : (M40.1 175 13).toInt = (M36.1 175 13).toInt := tl_slot (h41.1 175 13 (show ¬ (175 = 181 ∨ (175 = 175 ∧ 13 = 9)) by decide))
                    have mM40_14 : (M40.1 175 14).toInt = (M36.1 175 14).toInt := tl_slot (h41.1 175 14 (show ¬ (175 = 181 ∨ (175 = 175 ∧ 14 = 9)) by decide))
                    have mM40_15 : (M40.1 175 15).toInt = (M36.1 175 15).toInt := tl_slot (h41.1 175 15 (show ¬ (175 = 181 ∨ (175 = 175 ∧ 15 = 9)) by decide))
                    refine li_iload_n 0 dX12_talk_217 rfl ?_
                    exact li_iret dX12_talk_218 rfl rfl ⟨⟨_, rfl⟩, hf, hJ, (by omega)⟩
                  refine li_icmp_ge 205 dX12_talk_198 (by decide) (fun c32 => ?_) (fun c32 => ?_)
                  · have tc32 : x12.toInt ≤ x26.toInt := tl_le c32
                    refine li_iconst 0 dX12_talk_205 (by decide) ?_
                    refine li_pick [0, 1, 2, 3] [(3, .int x26), (2, .int x11), (1, .int x12), (0, .ref (Z.2.2 175))] rfl ?_
                    have z0 : (0 : Int32).toInt = 0 := rfl
                    exact J206 0 M31 hf hJ (by omega)
                  · have tc32 : x26.toInt < x12.toInt := tl_nle c32
                    refine li_iconst 1 dX12_talk_201 (by decide) ?_
                    refine li_goto 206 dX12_talk_202 (by decide) ?_
                    refine li_pick [0, 1, 2, 3] [(3, .int x26), (2, .int x11), (1, .int x12), (0, .ref (Z.2.2 175))] rfl ?_
                    have z1 : (1 : Int32).toInt = 1 := rfl
                    exact J206 1 M31 hf hJ (by omega)
                refine li_if_le 190 dX12_talk_179 (by decide) (fun c29 => ?_) (fun c29 => ?_)
                · have tc29 : x26.toInt ≤ 0 := tl_le c29
                  refine li_pick [0, 1, 2, 3] [(3, .int x26), (2, .int x11), (1, .int x12), (0, .ref (Z.2.2 175))] rfl ?_
                  exact J190  M27 hf hJ (by omega)
                · have tc29 : 0 < x26.toInt := tl_nle c29
                  refine li_aload_n 3 dX12_talk_182 rfl ?_
                  refine li_aload_n 3 dX12_talk_183 rfl ?_
                  refine li_getr (k := 24) (N := 52) (T := TX12) (C0 := RX12) dX12_talk_184 (by decide) sh_175 rfl rfl (by decide) (by decide) li_in12 w_1428 ?_
                  refine li_callV (n := 1) (As := [.ref (Z.2.2 187)]) dX12_talk_187 (k_X12_remember_a (d - 1) (by omega)  M27 hJ ) (by omega) (Nat.le_of_ble_eq_true rfl) w_1741 w_1743 w_71 w_112 w_1744 (by decide +kernel) rfl (by decide) sh_175 rfl rfl (Nat.le_of_ble_eq_true rfl) (fun r M43 h44 => ?_)
                  obtain ⟨rfl, h44, jM43⟩ := h44
                  have hf := li_fs_trans hf h44 (fun i k => fun h => Or.elim h (fun h => Or.inr (Or.inr (Or.inr (Or.inl h)))) (fun h => Or.inr (Or.inr (Or.inr (Or.inr (Or.inr (Or.inr (Or.inr (Or.inr (Or.inr (Or.inr (Or.inr (Or.inr (Or.inr (Or.inl h)))))))))))))))
                  have hJ := jM43
                  have rM43_7 := J_sl7 (M := M43) hJ
                  have rM43_9 := J_sl9 (M := M43) hJ
                  have rM43_12 := J_sl12 (M := M43) hJ
                  have rM43_13 := J_sl13 (M := M43) hJ
                  have rM43_14 := J_sl14 (M := M43) hJ
                  have rM43_15 := J_sl15 (M := M43) hJ
                  have mM43_7 : (M43.1 175 7).toInt = (M27.1 175 7).toInt := tl_slot (h44.1 175 7 (show ¬ (175 = 186 ∨ (175 = 175 ∧ 7 = 23)) by decide))
                  have mM43_9 : (M43.1 175 9).toInt = (M27.1 175 9).toInt := tl_slot (h44.1 175 9 (show ¬ (175 = 186 ∨ (175 = 175 ∧ 9 = 23)) by decide))
                  have mM43_12 : (M43.1 175 12).toInt = (M27.1 175 12).toInt := tl_slot (h44.1 175 12 (show ¬ (175 = 186 ∨ (175 = 175 ∧ 12 = 23)) by decide))
                  have mM43_13 : (M43.1 175 13).toInt = (M27.1 175 13).toInt := tl_slot (h44.1 175 13 (show ¬ (175 = 186 ∨ (175 = 175 ∧ 13 = 23)) by decide))
                  have mM43_14 : (M43.1 175 14).toInt = (M27.1 175 14).toInt := tl_slot (h44.1 175 14 (show ¬ (175 = 186 ∨ (175 = 175 ∧ 14 = 23)) by decide))
                  have mM43_15 : (M43.1 175 15).toInt = (M27.1 175 15).toInt := tl_slot (h44.1 175 15 (show ¬ (175 = 186 ∨ (175 = 175 ∧ 15 = 23)) by decide))
                  refine li_pick [0, 1, 2, 3] [(3, .int x26), (2, .int x11), (1, .int x12), (0, .ref (Z.2.2 175))] rfl ?_
                  exact J190  M43 hf hJ (by omega)
              · have tc28 : x26.toInt < x12.toInt := tl_nle c28
                refine li_aload_n 3 dX12_talk_127 rfl ?_
                refine li_aload_n 3 dX12_talk_128 rfl ?_
                refine li_getr (k := 27) (N := 52) (T := TX12) (C0 := RX12) dX12_talk_129 (by decide) sh_175 rfl rfl (by decide) (by decide) li_in12 w_1431 ?_
                refine li_iconst 4 dX12_talk_132 (by decide) ?_
                refine li_iload_n 0 dX12_talk_133 rfl ?_
                refine li_imul dX12_talk_134 ?_
                refine li_top (fun x45 ex45 => ?_)
                have z4 : (4 : Int32).toInt = 4 := rfl
                try (have tx45 : x45.toInt = 4 * (x26 : Int32).toInt := tl_mul ex45 (show -2147483648 ≤ 4 * (x26 : Int32).toInt ∧ 4 * (x26 : Int32).toInt ≤ 2147483647 by omega))
                refine li_iald dX12_talk_135 (by decide) sh_188 (tl_in (by omega)) ?_
                refine li_top (fun x46 ex46 => ?_)
                have gx46 := tl_rg x46
                refine li_aload_n 3 dX12_talk_136 rfl ?_
                refine li_getr (k := 27) (N := 52) (T := TX12) (C0 := RX12) dX12_talk_137 (by decide) sh_175 rfl rfl (by decide) (by decide) li_in12 w_1431 ?_
                refine li_iconst 4 dX12_talk_140 (by decide) ?_
                refine li_iload_n 0 dX12_talk_141 rfl ?_
                refine li_imul dX12_talk_142 ?_
                refine li_top (fun x47 ex47 => ?_)
                have z4 : (4 : Int32).toInt = 4 := rfl
                try (have tx47 : x47.toInt = 4 * (x26 : Int32).toInt := tl_mul ex47 (show -2147483648 ≤ 4 * (x26 : Int32).toInt ∧ 4 * (x26 : Int32).toInt ≤ 2147483647 by omega))
                refine li_iconst 1 dX12_talk_143 (by decide) ?_
                refine li_iadd dX12_talk_144 ?_
                refine li_top (fun x48 ex48 => ?_)
                have z1 : (1 : Int32).toInt = 1 := rfl
                try (have tx48 : x48.toInt = (x47 : Int32).toInt + (1 : Int32).toInt := tl_add ex48 (by omega))
                refine li_iald dX12_talk_145 (by decide) sh_188 (tl_in (by omega)) ?_
                refine li_top (fun x49 ex49 => ?_)
                have gx49 := tl_rg x49
                refine li_aload_n 3 dX12_talk_146 rfl ?_
                refine li_getr (k := 27) (N := 52) (T := TX12) (C0 := RX12) dX12_talk_147 (by decide) sh_175 rfl rfl (by decide) (by decide) li_in12 w_1431 ?_
                refine li_iconst 4 dX12_talk_150 (by decide) ?_
                refine li_iload_n 0 dX12_talk_151 rfl ?_
                refine li_imul dX12_talk_152 ?_
                refine li_top (fun x50 ex50 => ?_)
                have z4 : (4 : Int32).toInt = 4 := rfl
                try (have tx50 : x50.toInt = 4 * (x26 : Int32).toInt := tl_mul ex50 (show -2147483648 ≤ 4 * (x26 : Int32).toInt ∧ 4 * (x26 : Int32).toInt ≤ 2147483647 by omega))
                refine li_iconst 2 dX12_talk_153 (by decide) ?_
                refine li_iadd dX12_talk_154 ?_
                refine li_top (fun x51 ex51 => ?_)
                have z2 : (2 : Int32).toInt = 2 := rfl
                try (have tx51 : x51.toInt = (x50 : Int32).toInt + (2 : Int32).toInt := tl_add ex51 (by omega))
                refine li_iald dX12_talk_155 (by decide) sh_188 (tl_in (by omega)) ?_
                refine li_top (fun x52 ex52 => ?_)
                have gx52 := tl_rg x52
                refine li_aload_n 3 dX12_talk_156 rfl ?_
                refine li_getr (k := 27) (N := 52) (T := TX12) (C0 := RX12) dX12_talk_157 (by decide) sh_175 rfl rfl (by decide) (by decide) li_in12 w_1431 ?_
                refine li_iconst 4 dX12_talk_160 (by decide) ?_
                refine li_iload_n 0 dX12_talk_161 rfl ?_
                refine li_imul dX12_talk_162 ?_
                refine li_top (fun x53 ex53 => ?_)
                have z4 : (4 : Int32).toInt = 4 := rfl
                try (have tx53 : x53.toInt = 4 * (x26 : Int32).toInt := tl_mul ex53 (show -2147483648 ≤ 4 * (x26 : Int32).toInt ∧ 4 * (x26 : Int32).toInt ≤ 2147483647 by omega))
                refine li_iconst 3 dX12_talk_163 (by decide) ?_
                refine li_iadd dX12_talk_164 ?_
                refine li_top (fun x54 ex54 => ?_)
                have z3 : (3 : Int32).toInt = 3 := rfl
                try (have tx54 : x54.toInt = (x53 : Int32).toInt + (3 : Int32).toInt := tl_add ex54 (by omega))
                refine li_iald dX12_talk_165 (by decide) sh_188 (tl_in (by omega)) ?_
                refine li_top (fun x55 ex55 => ?_)
                have gx55 := tl_rg x55
                refine li_callV (n := 4) (As := [.int x46, .int x49, .int x52, .int x55]) dX12_talk_166 (k_X12_act (d - 1) (by omega) x46 x49 x52 x55 M27 hJ ) (by omega) (Nat.le_of_ble_eq_true rfl) w_1795 w_1797 w_79 w_112 w_1798 (by decide +kernel) rfl (by decide) sh_175 rfl rfl (Nat.le_of_ble_eq_true rfl) (fun r M57 h58 => ?_)
                obtain ⟨qx56, h58, jM57⟩ := h58
                have hf := li_fs_trans hf h58 (fun i k => fun h => Or.elim h (fun h => Or.inl h) (fun h => Or.elim h (fun h => Or.inr (Or.inr (Or.inl h))) (fun h => Or.elim h (fun h => Or.inr (Or.inr (Or.inr (Or.inr (Or.inr (Or.inr (Or.inl h))))))) (fun h => Or.elim h (fun h => Or.inr (Or.inr (Or.inr (Or.inr (Or.inr (Or.inr (Or.inr (Or.inr (Or.inl h))))))))) (fun h => Or.elim h (fun h => Or.inr (Or.inr (Or.inr (Or.inr (Or.inr (Or.inr (Or.inr (Or.inr (Or.inr (Or.inl h)))))))))) (fun h => Or.elim h (fun h => Or.inr (Or.inr (Or.inr (Or.inr (Or.inr (Or.inr (Or.inr (Or.inr (Or.inr (Or.inr (Or.inl h))))))))))) (fun h => Or.elim h (fun h => Or.inr (Or.inr (Or.inr (Or.inr (Or.inr (Or.inr (Or.inr (Or.inr (Or.inr (Or.inr (Or.inr (Or.inl h)))))))))))) (fun h => Or.elim h (fun h => Or.inr (Or.inr (Or.inr (Or.inr (Or.inr (Or.inr (Or.inr (Or.inr (Or.inr (Or.inr (Or.inr (Or.inr (Or.inl h))))))))))))) (fun h => Or.elim h (fun h => Or.inr (Or.inr (Or.inr (Or.inr (Or.inr (Or.inr (Or.inr (Or.inr (Or.inr (Or.inr (Or.inr (Or.inr (Or.inr (Or.inr (Or.inl h))))))))))))))) (fun h => Or.elim h (fun h => Or.inr (Or.inr (Or.inr (Or.inr (Or.inr (Or.inr (Or.inr (Or.inr (Or.inr (Or.inr (Or.inr (Or.inr (Or.inr (Or.inr (Or.inr (Or.inl h)))))))))))))))) (fun h => Or.inr (Or.inr (Or.inr (Or.inr (Or.inr (Or.inr (Or.inr (Or.inr (Or.inr (Or.inr (Or.inr (Or.inr (Or.inr (Or.inr (Or.inr (Or.inr (Or.inl h)))))))))))))))))))))))))))
                have hJ := jM57
                have rM57_7 := J_sl7 (M := M57) hJ
                have rM57_9 := J_sl9 (M := M57) hJ
                have rM57_12 := J_sl12 (M := M57) hJ
                have rM57_13 := J_sl13 (M := M57) hJ
                have rM57_14 := J_sl14 (M := M57) hJ
                have rM57_15 := J_sl15 (M := M57) hJ
                have mM57_7 : (M57.1 175 7).toInt = (M27.1 175 7).toInt := tl_slot (h58.1 175 7 (show ¬ (175 = 176 ∨ 175 = 185 ∨ 175 = 1000 ∨ (175 = 175 ∧ 7 = 12) ∨ (175 = 175 ∧ 7 = 13) ∨ (175 = 175 ∧ 7 = 14) ∨ (175 = 175 ∧ 7 = 15) ∨ (175 = 175 ∧ 7 = 20) ∨ (175 = 175 ∧ 7 = 25) ∨ (175 = 175 ∧ 7 = 26) ∨ (175 = 175 ∧ 7 = 28)) by decide))
                have mM57_9 : (M57.1 175 9).toInt = (M27.1 175 9).toInt := tl_slot (h58.1 175 9 (show ¬ (175 = 176 ∨ 175 = 185 ∨ 175 = 1000 ∨ (175 = 175 ∧ 9 = 12) ∨ (175 = 175 ∧ 9 = 13) ∨ (175 = 175 ∧ 9 = 14) ∨ (175 = 175 ∧ 9 = 15) ∨ (175 = 175 ∧ 9 = 20) ∨ (175 = 175 ∧ 9 = 25) ∨ (175 = 175 ∧ 9 = 26) ∨ (175 = 175 ∧ 9 = 28)) by decide))
                rcases qx56 with ⟨rfl, qx56⟩ | ⟨rfl, qx56⟩
                · skip
                  refine li_if_eq 178 dX12_talk_169 (by decide) (fun c => absurd c (by decide)) (fun c => ?_)
                  obtain ⟨x60, ex60⟩ : ∃ y : Int32, y = x26 + 1 := ⟨_, rfl⟩
                  have z1 : (1 : Int32).toInt = 1 := rfl
                  try (have tx60 : x60.toInt = (x26 : Int32).toInt + (1 : Int32).toInt := tl_add ex60 (by omega))
                  refine li_iinc 0 [(3, .int x60), (2, .int x11), (1, .int x12), (0, .ref (Z.2.2 175))] x60 dX12_talk_172 rfl (by rw [ex60]; rfl) (by decide) rfl ?_
                  refine li_goto 122 dX12_talk_175 (by decide) ?_
                  refine li_pick [0, 1, 2, 3] [(3, .int x60), (2, .int x11), (1, .int x12), (0, .ref (Z.2.2 175))] rfl ?_
                  exact ih122 x60 M57 (by omega) hf hJ (by omega)
                · skip
                  refine li_if_eq 178 dX12_talk_169 (by decide) (fun c => ?_) (fun c => absurd rfl c)
                  refine li_iload_n 0 dX12_talk_178 rfl ?_
                  have J190 : ∀  (M63 : li_M), li_fs (fun i k => i = 176 ∨ i = 181 ∨ i = 185 ∨ i = 186 ∨ i = 187 ∨ i = 188 ∨ i = 1000 ∨ (i = 175 ∧ k = 10) ∨ (i = 175 ∧ k = 12) ∨ (i = 175 ∧ k = 13) ∨ (i = 175 ∧ k = 14) ∨ (i = 175 ∧ k = 15) ∨ (i = 175 ∧ k = 20) ∨ (i = 175 ∧ k = 23) ∨ (i = 175 ∧ k = 25) ∨ (i = 175 ∧ k = 26) ∨ (i = 175 ∧ k = 28) ∨ (i = 175 ∧ k = 7) ∨ (i = 175 ∧ k = 9)) M0 M63 → li_J M63 → (M63.1 175 7).toInt = 0 → li_T l Z YX12_talk d 190 [(3, .int x26), (2, .int x11), (1, .int x12), (0, .ref (Z.2.2 175))] [] M63 (fun r M' => (∃ x : Int32, r = some (.int x)) ∧ li_fs (fun i k => i = 176 ∨ i = 181 ∨ i = 185 ∨ i = 186 ∨ i = 187 ∨ i = 188 ∨ i = 1000 ∨ (i = 175 ∧ k = 10) ∨ (i = 175 ∧ k = 12) ∨ (i = 175 ∧ k = 13) ∨ (i = 175 ∧ k = 14) ∨ (i = 175 ∧ k = 15) ∨ (i = 175 ∧ k = 20) ∨ (i = 175 ∧ k = 23) ∨ (i = 175 ∧ k = 25) ∨ (i = 175 ∧ k = 26) ∨ (i = 175 ∧ k = 28) ∨ (i = 175 ∧ k = 7) ∨ (i = 175 ∧ k = 9)) M0 M' ∧ li_J M' ∧ (M'.1 175 7).toInt = 0) := by
                    intro  M63 hf hJ hi
                    have rM63_7 := J_sl7 (M := M63) hJ
                    have rM63_9 := J_sl9 (M := M63) hJ
                    have rM63_12 := J_sl12 (M := M63) hJ
                    have rM63_13 := J_sl13 (M := M63) hJ
                    have rM63_14 := J_sl14 (M := M63) hJ
                    have rM63_15 := J_sl15 (M := M63) hJ
                    refine li_aload_n 3 dX12_talk_190 rfl ?_
                    refine li_iconst 0 dX12_talk_191 (by decide) ?_
                    refine li_puti (k := 9) (N := 52) (T := TX12) (C0 := RX12) dX12_talk_192 (by decide) sh_175 rfl rfl (by decide) li_in12 tyX12_ok nmX12 rfl rfl rfl rfl w_1413 ?_
                    refine li_nm (fun M64 eM64 => ?_)
                    have hf := li_fs_ui hf (Or.inr (Or.inr (Or.inr (Or.inr (Or.inr (Or.inr (Or.inr (Or.inr (Or.inr (Or.inr (Or.inr (Or.inr (Or.inr (Or.inr (Or.inr (Or.inr (Or.inr (Or.inr (⟨rfl, rfl⟩))))))))))))))))))) eM64
                    have z0 : (0 : Int32).toInt = 0 := rfl
                    have hJ := J_pt9 hJ (show 0 ≤ (0 : Int32).toInt ∧ (0 : Int32).toInt ≤ 20 by omega) eM64
                    have rM64_7 := J_sl7 (M := M64) hJ
                    have rM64_9 := J_sl9 (M := M64) hJ
                    have rM64_12 := J_sl12 (M := M64) hJ
                    have rM64_13 := J_sl13 (M := M64) hJ
                    have rM64_14 := J_sl14 (M := M64) hJ
                    have rM64_15 := J_sl15 (M := M64) hJ
                    have mM64_7 : (M64.1 175 7).toInt = (M63.1 175 7).toInt := by rw [eM64, li_ui_at, if_pos rfl, if_neg (by decide)]
                    have mM64_9 : (M64.1 175 9).toInt = 0 := by rw [eM64, li_ui_at, if_pos rfl, if_pos rfl]; rfl
                    have mM64_12 : (M64.1 175 12).toInt = (M63.1 175 12).toInt := by rw [eM64, li_ui_at, if_pos rfl, if_neg (by decide)]
                    have mM64_13 : (M64.1 175 13).toInt = (M63.1 175 13).toInt := by rw [eM64, li_ui_at, if_pos rfl, if_neg (by decide)]
                    have mM64_14 : (M64.1 175 14).toInt = (M63.1 175 14).toInt := by rw [eM64, li_ui_at, if_pos rfl, if_neg (by decide)]
                    have mM64_15 : (M64.1 175 15).toInt = (M63.1 175 15).toInt := by rw [eM64, li_ui_at, if_pos rfl, if_neg (by decide)]
                    refine li_aload_n 3 dX12_talk_195 rfl ?_
                    refine li_iload_n 0 dX12_talk_196 rfl ?_
                    refine li_iload_n 2 dX12_talk_197 rfl ?_
                    have J206 : ∀ (x66 : Int32) (M67 : li_M), li_fs (fun i k => i = 176 ∨ i = 181 ∨ i = 185 ∨ i = 186 ∨ i = 187 ∨ i = 188 ∨ i = 1000 ∨ (i = 175 ∧ k = 10) ∨ (i = 175 ∧ k = 12) ∨ (i = 175 ∧ k = 13) ∨ (i = 175 ∧ k = 14) ∨ (i = 175 ∧ k = 15) ∨ (i = 175 ∧ k = 20) ∨ (i = 175 ∧ k = 23) ∨ (i = 175 ∧ k = 25) ∨ (i = 175 ∧ k = 26) ∨ (i = 175 ∧ k = 28) ∨ (i = 175 ∧ k = 7) ∨ (i = 175 ∧ k = 9)) M0 M67 → li_J M67 → (M67.1 175 9).toInt = 0 ∧ (M67.1 175 7).toInt = 0 → li_T l Z YX12_talk d 206 [(3, .int x26), (2, .int x11), (1, .int x12), (0, .ref (Z.2.2 175))] [.int x66, .ref (Z.2.2 175)] M67 (fun r M' => (∃ x : Int32, r = some (.int x)) ∧ li_fs (fun i k => i = 176 ∨ i = 181 ∨ i = 185 ∨ i = 186 ∨ i = 187 ∨ i = 188 ∨ i = 1000 ∨ (i = 175 ∧ k = 10) ∨ (i = 175 ∧ k = 12) ∨ (i = 175 ∧ k = 13) ∨ (i = 175 ∧ k = 14) ∨ (i = 175 ∧ k = 15) ∨ (i = 175 ∧ k = 20) ∨ (i = 175 ∧ k = 23) ∨ (i = 175 ∧ k = 25) ∨ (i = 175 ∧ k = 26) ∨ (i = 175 ∧ k = 28) ∨ (i = 175 ∧ k = 7) ∨ (i = 175 ∧ k = 9)) M0 M' ∧ li_J M' ∧ (M'.1 175 7).toInt = 0) := by
                      intro x66 M67 hf hJ hi
                      have gx66 := tl_rg x66
                      have rM67_7 := J_sl7 (M := M67) hJ
                      have rM67_9 := J_sl9 (M := M67) hJ
                      have rM67_12 := J_sl12 (M := M67) hJ
                      have rM67_13 := J_sl13 (M := M67) hJ
                      have rM67_14 := J_sl14 (M := M67) hJ
                      have rM67_15 := J_sl15 (M := M67) hJ
                      refine li_callV (n := 1) (As := [.int x66]) dX12_talk_206 (k_X12_tell (d - 1) (by omega) x66 M67 hJ (by omega)) (by omega) (Nat.le_of_ble_eq_true rfl) w_1783 w_1785 w_77 w_112 w_1786 (by decide +kernel) rfl (by decide) sh_175 rfl rfl (Nat.le_of_ble_eq_true rfl) (fun r M69 h70 => ?_)
                      obtain ⟨rfl, h70, jM69, nM69⟩ := h70
                      have hf := li_fs_trans hf h70 (fun i k => fun h => Or.elim h (fun h => Or.inr (Or.inl h)) (fun h => Or.inr (Or.inr (Or.inr (Or.inr (Or.inr (Or.inr (Or.inr (Or.inr (Or.inr (Or.inr (Or.inr (Or.inr (Or.inr (Or.inr (Or.inr (Or.inr (Or.inr (Or.inr h)))))))))))))))))))
                      have hJ := jM69
                      have rM69_7 := J_sl7 (M := M69) hJ
                      have rM69_9 := J_sl9 (M := M69) hJ
                      have rM69_12 := J_sl12 (M := M69) hJ
                      have rM69_13 := J_sl13 (M := M69) hJ
                      have rM69_14 := J_sl14 (M := M69) hJ
                      have rM69_15 := J_sl15 (M := M69) hJ
                      have mM69_7 : (M69.1 175 7).toInt = (M67.1 175 7).toInt := tl_slot (h70.1 175 7 (show ¬ (175 = 181 ∨ (175 = 175 ∧ 7 = 9)) by decide))
                      have mM69_12 : (M69.1 175 12).toInt = (M67.1 175 12).toInt := tl_slot (h70.1 175 12 (show ¬ (175 = 181 ∨ (175 = 175 ∧ 12 = 9)) by decide))
                      have mM69_13 : (M69.1 175 13).toInt = (M67.1 175 13).toInt := tl_slot (h70.1 175 13 (show ¬ (175 = 181 ∨ (175 = 175 ∧ 13 = 9)) by decide))
                      have mM69_14 : (M69.1 175 14).toInt = (M67.1 175 14).toInt := tl_slot (h70.1 175 14 (show ¬ (175 = 181 ∨ (175 = 175 ∧ 14 = 9)) by decide))
                      have mM69_15 : (M69.1 175 15).toInt = (M67.1 175 15).toInt := tl_slot (h70.1 175 15 (show ¬ (175 = 181 ∨ (175 = 175 ∧ 15 = 9)) by decide))
                      refine li_aload_n 3 dX12_talk_209 rfl ?_
                      refine li_aload_n 3 dX12_talk_210 rfl ?_
                      refine li_geti (k := 28) (N := 52) (T := TX12) (C0 := RX12) dX12_talk_211 (by decide) sh_175 rfl rfl (by decide) li_in12 w_1432 ?_
                      refine li_top (fun x71 ex71 => ?_)
                      have gx71 := tl_rg x71
                      have mx71 : x71.toInt = (M69.1 175 28).toInt := tl_slot ex71
                      refine li_callV (n := 1) (As := [.int x71]) dX12_talk_214 (k_X12_tell (d - 1) (by omega) x71 M69 hJ (by omega)) (by omega) (Nat.le_of_ble_eq_true rfl) w_1783 w_1785 w_77 w_112 w_1786 (by decide +kernel) rfl (by decide) sh_175 rfl rfl (Nat.le_of_ble_eq_true rfl) (fun r M73 h74 => ?_)
                      obtain ⟨rfl, h74, jM73, nM73⟩ := h74
                      have hf := li_fs_trans hf h74 (fun i k => fun h => Or.elim h (fun h => Or.inr (Or.inl h)) (fun h => Or.inr (Or.inr (Or.inr (Or.inr (Or.inr (Or.inr (Or.inr (Or.inr (Or.inr (Or.inr (Or.inr (Or.inr (Or.inr (Or.inr (Or.inr (Or.inr (Or.inr (Or.inr h)))))))))))))))))))
                      have hJ := jM73
                      have rM73_7 := J_sl7 (M := M73) hJ
                      have rM73_9 := J_sl9 (M := M73) hJ
                      have rM73_12 := J_sl12 (M := M73) hJ
                      have rM73_13 := J_sl13 (M := M73) hJ
                      have rM73_14 := J_sl14 (M := M73) hJ
                      have rM73_15 := J_sl15 (M := M73) hJ
                      have mM73_7 : (M73.1 175 7).toInt = (M69.1 175 7).toInt := tl_slot (h74.1 175 7 (show ¬ (175 = 181 ∨ (175 = 175 ∧ 7 = 9)) by decide))
                      have mM73_12 : (M73.1 175 12).toInt = (M69.1 175 12).toInt := tl_slot (h74.1 175 12 (show ¬ (175 = 181 ∨ (175 = 175 ∧ 12 = 9)) by decide))
                      have mM73_13 : (M73.1 175 13).toInt = (M69.1 175 13).toInt := tl_slot (h74.1 175 13 (show ¬ (175 = 181 ∨ (175 = 175 ∧ 13 = 9)) by decide))
                      have mM73_14 : (M73.1 175 14).toInt = (M69.1 175 14).toInt := tl_slot (h74.1 175 14 (show ¬ (175 = 181 ∨ (175 = 175 ∧ 14 = 9)) by decide))
                      have mM73_15 : (M73.1 175 15).toInt = (M69.1 175 15).toInt := tl_slot (h74.1 175 15 (show ¬ (175 = 181 ∨ (175 = 175 ∧ 15 = 9)) by decide))
                      refine li_iload_n 0 dX12_talk_217 rfl ?_
                      exact li_iret dX12_talk_218 rfl rfl ⟨⟨_, rfl⟩, hf, hJ, (by omega)⟩
                    refine li_icmp_ge 205 dX12_talk_198 (by decide) (fun c65 => ?_) (fun c65 => ?_)
                    · have tc65 : x12.toInt ≤ x26.toInt := tl_le c65
                      refine li_iconst 0 dX12_talk_205 (by decide) ?_
                      refine li_pick [0, 1, 2, 3] [(3, .int x26), (2, .int x11), (1, .int x12), (0, .ref (Z.2.2 175))] rfl ?_
                      have z0 : (0 : Int32).toInt = 0 := rfl
                      exact J206 0 M64 hf hJ (by omega)
                    · have tc65 : x26.toInt < x12.toInt := tl_nle c65
                      refine li_iconst 1 dX12_talk_201 (by decide) ?_
                      refine li_goto 206 dX12_talk_202 (by decide) ?_
                      refine li_pick [0, 1, 2, 3] [(3, .int x26), (2, .int x11), (1, .int x12), (0, .ref (Z.2.2 175))] rfl ?_
                      have z1 : (1 : Int32).toInt = 1 := rfl
                      exact J206 1 M64 hf hJ (by omega)
                  refine li_if_le 190 dX12_talk_179 (by decide) (fun c62 => ?_) (fun c62 => ?_)
                  · have tc62 : x26.toInt ≤ 0 := tl_le c62
                    refine li_pick [0, 1, 2, 3] [(3, .int x26), (2, .int x11), (1, .int x12), (0, .ref (Z.2.2 175))] rfl ?_
                    exact J190  M57 hf hJ (by omega)
                  · have tc62 : 0 < x26.toInt := tl_nle c62
                    refine li_aload_n 3 dX12_talk_182 rfl ?_
                    refine li_aload_n 3 dX12_talk_183 rfl ?_
                    refine li_getr (k := 24) (N := 52) (T := TX12) (C0 := RX12) dX12_talk_184 (by decide) sh_175 rfl rfl (by decide) (by decide) li_in12 w_1428 ?_
                    refine li_callV (n := 1) (As := [.ref (Z.2.2 187)]) dX12_talk_187 (k_X12_remember_a (d - 1) (by omega)  M57 hJ ) (by omega) (Nat.le_of_ble_eq_true rfl) w_1741 w_1743 w_71 w_112 w_1744 (by decide +kernel) rfl (by decide) sh_175 rfl rfl (Nat.le_of_ble_eq_true rfl) (fun r M76 h77 => ?_)
                    obtain ⟨rfl, h77, jM76⟩ := h77
                    have hf := li_fs_trans hf h77 (fun i k => fun h => Or.elim h (fun h => Or.inr (Or.inr (Or.inr (Or.inl h)))) (fun h => Or.inr (Or.inr (Or.inr (Or.inr (Or.inr (Or.inr (Or.inr (Or.inr (Or.inr (Or.inr (Or.inr (Or.inr (Or.inr (Or.inl h)))))))))))))))
                    have hJ := jM76
                    have rM76_7 := J_sl7 (M := M76) hJ
                    have rM76_9 := J_sl9 (M := M76) hJ
                    have rM76_12 := J_sl12 (M := M76) hJ
                    have rM76_13 := J_sl13 (M := M76) hJ
                    have rM76_14 := J_sl14 (M := M76) hJ
                    have rM76_15 := J_sl15 (M := M76) hJ
                    have mM76_7 : (M76.1 175 7).toInt = (M57.1 175 7).toInt := tl_slot (h77.1 175 7 (show ¬ (175 = 186 ∨ (175 = 175 ∧ 7 = 23)) by decide))
                    have mM76_9 : (M76.1 175 9).toInt = (M57.1 175 9).toInt := tl_slot (h77.1 175 9 (show ¬ (175 = 186 ∨ (175 = 175 ∧ 9 = 23)) by decide))
                    have mM76_12 : (M76.1 175 12).toInt = (M57.1 175 12).toInt := tl_slot (h77.1 175 12 (show ¬ (175 = 186 ∨ (175 = 175 ∧ 12 = 23)) by decide))
                    have mM76_13 : (M76.1 175 13).toInt = (M57.1 175 13).toInt := tl_slot (h77.1 175 13 (show ¬ (175 = 186 ∨ (175 = 175 ∧ 13 = 23)) by decide))
                    have mM76_14 : (M76.1 175 14).toInt = (M57.1 175 14).toInt := tl_slot (h77.1 175 14 (show ¬ (175 = 186 ∨ (175 = 175 ∧ 14 = 23)) by decide))
                    have mM76_15 : (M76.1 175 15).toInt = (M57.1 175 15).toInt := tl_slot (h77.1 175 15 (show ¬ (175 = 186 ∨ (175 = 175 ∧ 15 = 23)) by decide))
                    refine li_pick [0, 1, 2, 3] [(3, .int x26), (2, .int x11), (1, .int x12), (0, .ref (Z.2.2 175))] rfl ?_
                    exact J190  M76 hf hJ (by omega)
          have z0 : (0 : Int32).toInt = 0 := rfl
          exact L122 _ 0 M25 (Nat.lt_succ_self _) hf hJ (by omega)
        · skip
          refine li_if_ne 103 dX12_talk_93 (by decide) (fun c => absurd rfl c) (fun c => ?_)
          refine li_iconst (-1) dX12_talk_96 (by decide) ?_
          refine li_aload_n 2 dX12_talk_97 rfl ?_
          refine li_geti (k := 15) (N := 52) (T := TX12) (C0 := RX12) dX12_talk_98 (by decide) sh_175 rfl rfl (by decide) li_in12 w_1419 ?_
          refine li_top (fun x79 ex79 => ?_)
          have gx79 : -1 ≤ x79.toInt ∧ x79.toInt ≤ 81 := by rw [ex79]; exact J_sl15 hJ
          have mx79 : x79.toInt = (M19.1 175 15).toInt := tl_slot ex79
          refine li_isub dX12_talk_101 ?_
          refine li_top (fun x80 ex80 => ?_)
          have zm1 : ((-1) : Int32).toInt = -1 := rfl
          try (have tx80 : x80.toInt = ((-1) : Int32).toInt - (x79 : Int32).toInt := tl_sub ex80 (by omega))
          exact li_iret dX12_talk_102 rfl rfl ⟨⟨_, rfl⟩, hf, hJ, (by omega)⟩
      refine li_icmp_ge 89 dX12_talk_78 (by decide) (fun c16 => ?_) (fun c16 => ?_)
      · have tc16 : x15.toInt ≤ x14.toInt := tl_le c16
        refine li_pick [0, 1, 2] [(2, .int x11), (1, .int x12), (0, .ref (Z.2.2 175))] rfl ?_
        exact J89  M13 hf hJ (by omega)
      · have tc16 : x14.toInt < x15.toInt := tl_nle c16
        refine li_aload_n 2 dX12_talk_81 rfl ?_
        refine li_aload_n 2 dX12_talk_82 rfl ?_
        refine li_geti (k := 14) (N := 52) (T := TX12) (C0 := RX12) dX12_talk_83 (by decide) sh_175 rfl rfl (by decide) li_in12 w_1418 ?_
        refine li_top (fun x81 ex81 => ?_)
        have gx81 : 0 ≤ x81.toInt ∧ x81.toInt ≤ 81 := by rw [ex81]; exact J_sl14 hJ
        have mx81 : x81.toInt = (M13.1 175 14).toInt := tl_slot ex81
        refine li_callV (n := 1) (As := [.int x81]) dX12_talk_86 (k_X12_fault (d - 1) (by omega) x81 M13 hJ (by omega)) (by omega) (Nat.le_of_ble_eq_true rfl) w_1585 w_1587 w_44 w_112 w_1588 (by decide +kernel) rfl (by decide) sh_175 rfl rfl (Nat.le_of_ble_eq_true rfl) (fun r M83 h84 => ?_)
        obtain ⟨rfl, h84, jM83, nM83⟩ := h84
        have hf := li_fs_trans hf h84 (fun i k => fun h => Or.inr (Or.inr (Or.inr (Or.inr (Or.inr (Or.inr (Or.inr (Or.inr (Or.inr (Or.inr (Or.inr (Or.inl h))))))))))))
        have hJ := jM83
        have rM83_7 := J_sl7 (M := M83) hJ
        have rM83_9 := J_sl9 (M := M83) hJ
        have rM83_12 := J_sl12 (M := M83) hJ
        have rM83_13 := J_sl13 (M := M83) hJ
        have rM83_14 := J_sl14 (M := M83) hJ
        have rM83_15 := J_sl15 (M := M83) hJ
        have mM83_7 : (M83.1 175 7).toInt = (M13.1 175 7).toInt := tl_slot (h84.1 175 7 (show ¬ ((175 = 175 ∧ 7 = 15)) by decide))
        have mM83_9 : (M83.1 175 9).toInt = (M13.1 175 9).toInt := tl_slot (h84.1 175 9 (show ¬ ((175 = 175 ∧ 9 = 15)) by decide))
        have mM83_12 : (M83.1 175 12).toInt = (M13.1 175 12).toInt := tl_slot (h84.1 175 12 (show ¬ ((175 = 175 ∧ 12 = 15)) by decide))
        have mM83_13 : (M83.1 175 13).toInt = (M13.1 175 13).toInt := tl_slot (h84.1 175 13 (show ¬ ((175 = 175 ∧ 13 = 15)) by decide))
        have mM83_14 : (M83.1 175 14).toInt = (M13.1 175 14).toInt := tl_slot (h84.1 175 14 (show ¬ ((175 = 175 ∧ 14 = 15)) by decide))
        refine li_pick [0, 1, 2] [(2, .int x11), (1, .int x12), (0, .ref (Z.2.2 175))] rfl ?_
        exact J89  M83 hf hJ (by omega)
    have L39 : ∀ (n : Nat) (x85 : Int32) (x86 : Int32) (M87 : li_M), (42 - (x86 : Int32).toInt).toNat < n → li_fs (fun i k => i = 176 ∨ i = 181 ∨ i = 185 ∨ i = 186 ∨ i = 187 ∨ i = 188 ∨ i = 1000 ∨ (i = 175 ∧ k = 10) ∨ (i = 175 ∧ k = 12) ∨ (i = 175 ∧ k = 13) ∨ (i = 175 ∧ k = 14) ∨ (i = 175 ∧ k = 15) ∨ (i = 175 ∧ k = 20) ∨ (i = 175 ∧ k = 23) ∨ (i = 175 ∧ k = 25) ∨ (i = 175 ∧ k = 26) ∨ (i = 175 ∧ k = 28) ∨ (i = 175 ∧ k = 7) ∨ (i = 175 ∧ k = 9)) M0 M87 → li_J M87 → 0 ≤ (x86 : Int32).toInt ∧ (x86 : Int32).toInt ≤ 41 ∧ ((x85 : Int32).toInt = 0 ∨ ((M87.1 175 14).toInt ≤ (M87.1 175 12).toInt ∧ 2 * (x86 : Int32).toInt ≤ (M87.1 175 14).toInt)) ∧ (M87.1 175 7).toInt = 0 → li_T l Z YX12_talk d 39 [(2, .int x85), (1, .int x86), (0, .ref (Z.2.2 175))] [] M87 (fun r M' => (∃ x : Int32, r = some (.int x)) ∧ li_fs (fun i k => i = 176 ∨ i = 181 ∨ i = 185 ∨ i = 186 ∨ i = 187 ∨ i = 188 ∨ i = 1000 ∨ (i = 175 ∧ k = 10) ∨ (i = 175 ∧ k = 12) ∨ (i = 175 ∧ k = 13) ∨ (i = 175 ∧ k = 14) ∨ (i = 175 ∧ k = 15) ∨ (i = 175 ∧ k = 20) ∨ (i = 175 ∧ k = 23) ∨ (i = 175 ∧ k = 25) ∨ (i = 175 ∧ k = 26) ∨ (i = 175 ∧ k = 28) ∨ (i = 175 ∧ k = 7) ∨ (i = 175 ∧ k = 9)) M0 M' ∧ li_J M' ∧ (M'.1 175 7).toInt = 0) := by
      intro n
      induction n with
      | zero => intro x85 x86 M87 hn; exact absurd hn (Nat.not_lt_zero _)
      | succ n ih39 =>
        intro x85 x86 M87 hn hf hJ hi
        have gx85 := tl_rg x85
        have gx86 := tl_rg x86
        have rM87_7 := J_sl7 (M := M87) hJ
        have rM87_9 := J_sl9 (M := M87) hJ
        have rM87_12 := J_sl12 (M := M87) hJ
        have rM87_13 := J_sl13 (M := M87) hJ
        have rM87_14 := J_sl14 (M := M87) hJ
        have rM87_15 := J_sl15 (M := M87) hJ
        refine li_iload_n 0 dX12_talk_39 rfl ?_
        refine li_if_eq 70 dX12_talk_40 (by decide) (fun c88 => ?_) (fun c88 => ?_)
        · have tc88 : x85.toInt = 0 := tl_eq c88
          refine li_pick [0, 1, 2] [(2, .int x85), (1, .int x86), (0, .ref (Z.2.2 175))] rfl ?_
          exact J70 x85 x86 M87 hf hJ (by omega)
        · have tc88 : ¬ x85.toInt = 0 := tl_ne c88
          refine li_aload_n 2 dX12_talk_43 rfl ?_
          refine li_callV (n := 0) (As := []) dX12_talk_44 (k_X12_fine (d - 1) (by omega)  M87 hJ ) (by omega) (Nat.le_of_ble_eq_true rfl) w_1581 w_1583 w_43 w_112 w_1584 (by decide +kernel) rfl (by decide) sh_175 rfl rfl (Nat.le_of_ble_eq_true rfl) (fun r M90 h91 => ?_)
          obtain ⟨qx89, h91, jM90⟩ := h91
          have hf := li_fs_trans hf h91 (fun i k h => False.elim h)
          have hJ := jM90
          have rM90_7 := J_sl7 (M := M90) hJ
          have rM90_9 := J_sl9 (M := M90) hJ
          have rM90_12 := J_sl12 (M := M90) hJ
          have rM90_13 := J_sl13 (M := M90) hJ
          have rM90_14 := J_sl14 (M := M90) hJ
          have rM90_15 := J_sl15 (M := M90) hJ
          have mM90_7 : (M90.1 175 7).toInt = (M87.1 175 7).toInt := tl_slot (h91.1 175 7 id)
          have mM90_9 : (M90.1 175 9).toInt = (M87.1 175 9).toInt := tl_slot (h91.1 175 9 id)
          have mM90_12 : (M90.1 175 12).toInt = (M87.1 175 12).toInt := tl_slot (h91.1 175 12 id)
          have mM90_13 : (M90.1 175 13).toInt = (M87.1 175 13).toInt := tl_slot (h91.1 175 13 id)
          have mM90_14 : (M90.1 175 14).toInt = (M87.1 175 14).toInt := tl_slot (h91.1 175 14 id)
          have mM90_15 : (M90.1 175 15).toInt = (M87.1 175 15).toInt := tl_slot (h91.1 175 15 id)
          rcases qx89 with ⟨rfl, qx89⟩ | ⟨rfl, qx89⟩
          · skip
            refine li_if_eq 70 dX12_talk_47 (by decide) (fun c => absurd c (by decide)) (fun c => ?_)
            refine li_aload_n 2 dX12_talk_50 rfl ?_
            refine li_iconst 4 dX12_talk_51 (by decide) ?_
            refine li_iload_n 1 dX12_talk_52 rfl ?_
            refine li_imul dX12_talk_53 ?_
            refine li_top (fun x93 ex93 => ?_)
            have z4 : (4 : Int32).toInt = 4 := rfl
            try (have tx93 : x93.toInt = 4 * (x86 : Int32).toInt := tl_mul ex93 (show -2147483648 ≤ 4 * (x86 : Int32).toInt ∧ 4 * (x86 : Int32).toInt ≤ 2147483647 by omega))
            refine li_callV (n := 1) (As := [.int x93]) dX12_talk_54 (k_X12_readAct (d - 1) (by omega) x93 M90 hJ (by omega) (by omega)) (by omega) (Nat.le_of_ble_eq_true rfl) w_1791 w_1793 w_78 w_112 w_1794 (by decide +kernel) rfl (by decide) sh_175 rfl rfl (Nat.le_of_ble_eq_true rfl) (fun r M95 h96 => ?_)
            obtain ⟨rfl, h96, jM95, nM95⟩ := h96
            have hf := li_fs_trans hf h96 (fun i k => fun h => Or.elim h (fun h => Or.inr (Or.inr (Or.inr (Or.inr (Or.inr (Or.inl h)))))) (fun h => Or.elim h (fun h => Or.inr (Or.inr (Or.inr (Or.inr (Or.inr (Or.inr (Or.inr (Or.inr (Or.inr (Or.inr (Or.inl h))))))))))) (fun h => Or.inr (Or.inr (Or.inr (Or.inr (Or.inr (Or.inr (Or.inr (Or.inr (Or.inr (Or.inr (Or.inr (Or.inl h))))))))))))))
            have hJ := jM95
            have rM95_7 := J_sl7 (M := M95) hJ
            have rM95_9 := J_sl9 (M := M95) hJ
            have rM95_12 := J_sl12 (M := M95) hJ
            have rM95_13 := J_sl13 (M := M95) hJ
            have rM95_14 := J_sl14 (M := M95) hJ
            have rM95_15 := J_sl15 (M := M95) hJ
            have mM95_7 : (M95.1 175 7).toInt = (M90.1 175 7).toInt := tl_slot (h96.1 175 7 (show ¬ (175 = 188 ∨ (175 = 175 ∧ 7 = 14) ∨ (175 = 175 ∧ 7 = 15)) by decide))
            have mM95_9 : (M95.1 175 9).toInt = (M90.1 175 9).toInt := tl_slot (h96.1 175 9 (show ¬ (175 = 188 ∨ (175 = 175 ∧ 9 = 14) ∨ (175 = 175 ∧ 9 = 15)) by decide))
            have mM95_12 : (M95.1 175 12).toInt = (M90.1 175 12).toInt := tl_slot (h96.1 175 12 (show ¬ (175 = 188 ∨ (175 = 175 ∧ 12 = 14) ∨ (175 = 175 ∧ 12 = 15)) by decide))
            have mM95_13 : (M95.1 175 13).toInt = (M90.1 175 13).toInt := tl_slot (h96.1 175 13 (show ¬ (175 = 188 ∨ (175 = 175 ∧ 13 = 14) ∨ (175 = 175 ∧ 13 = 15)) by decide))
            obtain ⟨x97, ex97⟩ : ∃ y : Int32, y = x86 + 1 := ⟨_, rfl⟩
            have z1 : (1 : Int32).toInt = 1 := rfl
            try (have tx97 : x97.toInt = (x86 : Int32).toInt + (1 : Int32).toInt := tl_add ex97 (by omega))
            refine li_iinc 1 [(1, .int x97), (2, .int x85), (0, .ref (Z.2.2 175))] x97 dX12_talk_57 rfl (by rw [ex97]; rfl) (by decide) rfl ?_
            refine li_aload_n 2 dX12_talk_60 rfl ?_
            refine li_bipush 59 dX12_talk_61 (by decide) ?_
            have z59 : (59 : Int32).toInt = 59 := rfl
            refine li_callV (n := 1) (As := [.int 59]) dX12_talk_63 (k_X12_passes (d - 1) (by omega) 59 M95 hJ (by omega)) (by omega) (Nat.le_of_ble_eq_true rfl) w_1605 w_1607 w_49 w_112 w_1608 (by decide +kernel) rfl (by decide) sh_175 rfl rfl (Nat.le_of_ble_eq_true rfl) (fun r M99 h100 => ?_)
            obtain ⟨qx98, h100, jM99⟩ := h100
            have hf := li_fs_trans hf h100 (fun i k => fun h => Or.inr (Or.inr (Or.inr (Or.inr (Or.inr (Or.inr (Or.inr (Or.inr (Or.inr (Or.inr (Or.inl h)))))))))))
            have hJ := jM99
            have rM99_7 := J_sl7 (M := M99) hJ
            have rM99_9 := J_sl9 (M := M99) hJ
            have rM99_12 := J_sl12 (M := M99) hJ
            have rM99_13 := J_sl13 (M := M99) hJ
            have rM99_14 := J_sl14 (M := M99) hJ
            have rM99_15 := J_sl15 (M := M99) hJ
            have mM99_7 : (M99.1 175 7).toInt = (M95.1 175 7).toInt := tl_slot (h100.1 175 7 (show ¬ ((175 = 175 ∧ 7 = 14)) by decide))
            have mM99_9 : (M99.1 175 9).toInt = (M95.1 175 9).toInt := tl_slot (h100.1 175 9 (show ¬ ((175 = 175 ∧ 9 = 14)) by decide))
            have mM99_12 : (M99.1 175 12).toInt = (M95.1 175 12).toInt := tl_slot (h100.1 175 12 (show ¬ ((175 = 175 ∧ 12 = 14)) by decide))
            have mM99_13 : (M99.1 175 13).toInt = (M95.1 175 13).toInt := tl_slot (h100.1 175 13 (show ¬ ((175 = 175 ∧ 13 = 14)) by decide))
            have mM99_15 : (M99.1 175 15).toInt = (M95.1 175 15).toInt := tl_slot (h100.1 175 15 (show ¬ ((175 = 175 ∧ 15 = 14)) by decide))
            rcases qx98 with ⟨rfl, qx98⟩ | ⟨rfl, qx98⟩
            · skip
              refine li_istore_n [(2, .int 1), (1, .int x97), (0, .ref (Z.2.2 175))] dX12_talk_66 (by decide) rfl ?_
              refine li_goto 39 dX12_talk_67 (by decide) ?_
              refine li_pick [0, 1, 2] [(2, .int 1), (1, .int x97), (0, .ref (Z.2.2 175))] rfl ?_
              have z1 : (1 : Int32).toInt = 1 := rfl
              exact ih39 1 x97 M99 (by omega) hf hJ (by omega)
            · skip
              refine li_istore_n [(2, .int 0), (1, .int x97), (0, .ref (Z.2.2 175))] dX12_talk_66 (by decide) rfl ?_
              refine li_goto 39 dX12_talk_67 (by decide) ?_
              refine li_pick [0, 1, 2] [(2, .int 0), (1, .int x97), (0, .ref (Z.2.2 175))] rfl ?_
              have z0 : (0 : Int32).toInt = 0 := rfl
              exact ih39 0 x97 M99 (by omega) hf hJ (by omega)
          · skip
            refine li_if_eq 70 dX12_talk_47 (by decide) (fun c => ?_) (fun c => absurd rfl c)
            refine li_pick [0, 1, 2] [(2, .int x85), (1, .int x86), (0, .ref (Z.2.2 175))] rfl ?_
            exact J70 x85 x86 M90 hf hJ (by omega)
    have z0 : (0 : Int32).toInt = 0 := rfl
    exact L39 _ x9 0 M10 (Nat.lt_succ_self _) hf hJ (by omega)
  refine li_if_le 37 dX12_talk_30 (by decide) (fun c8 => ?_) (fun c8 => ?_)
  · have tc8 : x7.toInt ≤ 0 := tl_le c8
    refine li_iconst 0 dX12_talk_37 (by decide) ?_
    refine li_pick [0, 1] [(1, .int 0), (0, .ref (Z.2.2 175))] rfl ?_
    have z0 : (0 : Int32).toInt = 0 := rfl
    exact J38 0 M6 hf hJ (by omega)
  · have tc8 : 0 < x7.toInt := tl_nle c8
    refine li_iconst 1 dX12_talk_33 (by decide) ?_
    refine li_goto 38 dX12_talk_34 (by decide) ?_
    refine li_pick [0, 1] [(1, .int 0), (0, .ref (Z.2.2 175))] rfl ?_
    have z1 : (1 : Int32).toInt = 1 := rfl
    exact J38 1 M6 hf hJ (by omega)
set_option maxRecDepth 100000 in
set_option maxHeartbeats 4000000 in
theorem k3_X12_rate {l : Launch} {Z : li_Z} (d : Nat) (hd : 345 ≤ d) (M0 : li_M) (hJ : li_J M0) : li_Met l Z YX12_rate d [.ref (Z.2.2 175)] M0 (fun r M' => (∃ x : Int32, r = some (.int x)) ∧ li_fs (fun i k => i = 181 ∨ i = 183 ∨ i = 184 ∨ i = 185 ∨ i = 189 ∨ i = 1000 ∨ i = 1001 ∨ (i = 175 ∧ k = 10) ∨ (i = 175 ∧ k = 12) ∨ (i = 175 ∧ k = 13) ∨ (i = 175 ∧ k = 14) ∨ (i = 175 ∧ k = 15) ∨ (i = 175 ∧ k = 18) ∨ (i = 175 ∧ k = 20) ∨ (i = 175 ∧ k = 7) ∨ (i = 175 ∧ k = 9)) M0 M' ∧ li_J M' ∧ (M'.1 175 7).toInt = 0) := by
  refine li_enter (by decide +kernel) (Nat.le_of_ble_eq_true rfl) ?_
  show li_T l Z YX12_rate d 0 [(0, .ref (Z.2.2 175))] [] M0 _
  have hf : li_fs (fun i k => i = 181 ∨ i = 183 ∨ i = 184 ∨ i = 185 ∨ i = 189 ∨ i = 1000 ∨ i = 1001 ∨ (i = 175 ∧ k = 10) ∨ (i = 175 ∧ k = 12) ∨ (i = 175 ∧ k = 13) ∨ (i = 175 ∧ k = 14) ∨ (i = 175 ∧ k = 15) ∨ (i = 175 ∧ k = 18) ∨ (i = 175 ∧ k = 20) ∨ (i = 175 ∧ k = 7) ∨ (i = 175 ∧ k = 9)) M0 M0 := li_fs_refl
  have rM0_7 := J_sl7 (M := M0) hJ
  have rM0_9 := J_sl9 (M := M0) hJ
  have rM0_18 := J_sl18 (M := M0) hJ
  refine li_aload_n 0 dX12_rate_0 rfl ?_
  refine li_iconst 0 dX12_rate_1 (by decide) ?_
  refine li_puti (k := 10) (N := 52) (T := TX12) (C0 := RX12) dX12_rate_2 (by decide) sh_175 rfl rfl (by decide) li_in12 tyX12_ok nmX12 rfl rfl rfl rfl w_1414 ?_
  refine li_nm (fun M1 eM1 => ?_)
  have hf := li_fs_ui hf (Or.inr (Or.inr (Or.inr (Or.inr (Or.inr (Or.inr (Or.inr (Or.inl ⟨rfl, rfl⟩)))))))) eM1
  have z0 : (0 : Int32).toInt = 0 := rfl
  have hJ := hJ.put (k := 10) (by decide) (rg_free rfl) eM1
  have rM1_7 := J_sl7 (M := M1) hJ
  have rM1_9 := J_sl9 (M := M1) hJ
  have rM1_18 := J_sl18 (M := M1) hJ
  have mM1_7 : (M1.1 175 7).toInt = (M0.1 175 7).toInt := by rw [eM1, li_ui_at, if_pos rfl, if_neg (by decide)]
  have mM1_9 : (M1.1 175 9).toInt = (M0.1 175 9).toInt := by rw [eM1, li_ui_at, if_pos rfl, if_neg (by decide)]
  have mM1_18 : (M1.1 175 18).toInt = (M0.1 175 18).toInt := by rw [eM1, li_ui_at, if_pos rfl, if_neg (by decide)]
  refine li_aload_n 0 dX12_rate_5 rfl ?_
  refine li_geti (k := 7) (N := 52) (T := TX12) (C0 := RX12) dX12_rate_6 (by decide) sh_175 rfl rfl (by decide) li_in12 w_1411 ?_
  refine li_top (fun x2 ex2 => ?_)
  have gx2 : 0 ≤ x2.toInt ∧ x2.toInt ≤ 80 := by rw [ex2]; exact J_sl7 hJ
  have mx2 : x2.toInt = (M1.1 175 7).toInt := tl_slot ex2
  refine li_istore_n [(1, .int x2), (0, .ref (Z.2.2 175))] dX12_rate_9 (by decide) rfl ?_
  refine li_aload_n 1 dX12_rate_10 rfl ?_
  refine li_callV (n := 0) (As := []) dX12_rate_11 (k3_X12_readRule (d - 1) (by omega)  M1 hJ ) (by omega) (Nat.le_of_ble_eq_true rfl) w_1621 w_1623 w_51 w_112 w_1624 (by decide +kernel) rfl (by decide) sh_175 rfl rfl (Nat.le_of_ble_eq_true rfl) (fun r M4 h5 => ?_)
  obtain ⟨qx3, h5, jM4, nM4⟩ := h5
  have hf := li_fs_trans hf h5 (fun i k => fun h => Or.elim h (fun h => Or.inr (Or.inr (Or.inr (Or.inr (Or.inr (Or.inl h)))))) (fun h => Or.elim h (fun h => Or.inr (Or.inr (Or.inr (Or.inr (Or.inr (Or.inr (Or.inr (Or.inr (Or.inl h))))))))) (fun h => Or.elim h (fun h => Or.inr (Or.inr (Or.inr (Or.inr (Or.inr (Or.inr (Or.inr (Or.inr (Or.inr (Or.inl h)))))))))) (fun h => Or.elim h (fun h => Or.inr (Or.inr (Or.inr (Or.inr (Or.inr (Or.inr (Or.inr (Or.inr (Or.inr (Or.inr (Or.inl h))))))))))) (fun h => Or.elim h (fun h => Or.inr (Or.inr (Or.inr (Or.inr (Or.inr (Or.inr (Or.inr (Or.inr (Or.inr (Or.inr (Or.inr (Or.inl h)))))))))))) (fun h => Or.elim h (fun h => Or.inr (Or.inr (Or.inr (Or.inr (Or.inr (Or.inr (Or.inr (Or.inr (Or.inr (Or.inr (Or.inr (Or.inr (Or.inr (Or.inl h)))))))))))))) (fun h => Or.inr (Or.inr (Or.inr (Or.inr (Or.inr (Or.inr (Or.inr (Or.inr (Or.inr (Or.inr (Or.inr (Or.inr (Or.inr (Or.inr (Or.inl h)))))))))))))))))))))
  have hJ := jM4
  have rM4_7 := J_sl7 (M := M4) hJ
  have rM4_9 := J_sl9 (M := M4) hJ
  have rM4_18 := J_sl18 (M := M4) hJ
  have mM4_9 : (M4.1 175 9).toInt = (M1.1 175 9).toInt := tl_slot (h5.1 175 9 (show ¬ (175 = 1000 ∨ (175 = 175 ∧ 9 = 12) ∨ (175 = 175 ∧ 9 = 13) ∨ (175 = 175 ∧ 9 = 14) ∨ (175 = 175 ∧ 9 = 15) ∨ (175 = 175 ∧ 9 = 20) ∨ (175 = 175 ∧ 9 = 7)) by decide))
  have mM4_18 : (M4.1 175 18).toInt = (M1.1 175 18).toInt := tl_slot (h5.1 175 18 (show ¬ (175 = 1000 ∨ (175 = 175 ∧ 18 = 12) ∨ (175 = 175 ∧ 18 = 13) ∨ (175 = 175 ∧ 18 = 14) ∨ (175 = 175 ∧ 18 = 15) ∨ (175 = 175 ∧ 18 = 20) ∨ (175 = 175 ∧ 18 = 7)) by decide))
  rcases qx3 with ⟨rfl, qx3⟩ | ⟨rfl, qx3⟩
  · skip
    refine li_if_ne 26 dX12_rate_14 (by decide) (fun c => ?_) (fun c => absurd c (by decide))
    refine li_aload_n 1 dX12_rate_26 rfl ?_
    refine li_callV (n := 0) (As := []) dX12_rate_27 (k_X12_bestAll (d - 1) (by omega)  M4 hJ ) (by omega) (Nat.le_of_ble_eq_true rfl) w_1951 w_1953 w_98 w_112 w_1954 (by decide +kernel) rfl (by decide) sh_175 rfl rfl (Nat.le_of_ble_eq_true rfl) (fun r M8 h9 => ?_)
    obtain ⟨⟨x7, rfl⟩, h9, jM8⟩ := h9
    have gx7 := tl_rg x7
    have hf := li_fs_trans hf h9 (fun i k => fun h => Or.elim h (fun h => Or.inr (Or.inr (Or.inr (Or.inl h)))) (fun h => Or.elim h (fun h => Or.inr (Or.inr (Or.inr (Or.inr (Or.inl h))))) (fun h => Or.elim h (fun h => Or.inr (Or.inr (Or.inr (Or.inr (Or.inr (Or.inl h)))))) (fun h => Or.elim h (fun h => Or.inr (Or.inr (Or.inr (Or.inr (Or.inr (Or.inr (Or.inr (Or.inr (Or.inl h))))))))) (fun h => Or.elim h (fun h => Or.inr (Or.inr (Or.inr (Or.inr (Or.inr (Or.inr (Or.inr (Or.inr (Or.inr (Or.inl h)))))))))) (fun h => Or.elim h (fun h => Or.inr (Or.inr (Or.inr (Or.inr (Or.inr (Or.inr (Or.inr (Or.inr (Or.inr (Or.inr (Or.inl h))))))))))) (fun h => Or.elim h (fun h => Or.inr (Or.inr (Or.inr (Or.inr (Or.inr (Or.inr (Or.inr (Or.inr (Or.inr (Or.inr (Or.inr (Or.inl h)))))))))))) (fun h => Or.inr (Or.inr (Or.inr (Or.inr (Or.inr (Or.inr (Or.inr (Or.inr (Or.inr (Or.inr (Or.inr (Or.inr (Or.inr (Or.inl h)))))))))))))))))))))
    have hJ := jM8
    have rM8_7 := J_sl7 (M := M8) hJ
    have rM8_9 := J_sl9 (M := M8) hJ
    have rM8_18 := J_sl18 (M := M8) hJ
    have mM8_7 : (M8.1 175 7).toInt = (M4.1 175 7).toInt := tl_slot (h9.1 175 7 (show ¬ (175 = 185 ∨ 175 = 189 ∨ 175 = 1000 ∨ (175 = 175 ∧ 7 = 12) ∨ (175 = 175 ∧ 7 = 13) ∨ (175 = 175 ∧ 7 = 14) ∨ (175 = 175 ∧ 7 = 15) ∨ (175 = 175 ∧ 7 = 20)) by decide))
    have mM8_9 : (M8.1 175 9).toInt = (M4.1 175 9).toInt := tl_slot (h9.1 175 9 (show ¬ (175 = 185 ∨ 175 = 189 ∨ 175 = 1000 ∨ (175 = 175 ∧ 9 = 12) ∨ (175 = 175 ∧ 9 = 13) ∨ (175 = 175 ∧ 9 = 14) ∨ (175 = 175 ∧ 9 = 15) ∨ (175 = 175 ∧ 9 = 20)) by decide))
    have mM8_18 : (M8.1 175 18).toInt = (M4.1 175 18).toInt := tl_slot (h9.1 175 18 (show ¬ (175 = 185 ∨ 175 = 189 ∨ 175 = 1000 ∨ (175 = 175 ∧ 18 = 12) ∨ (175 = 175 ∧ 18 = 13) ∨ (175 = 175 ∧ 18 = 14) ∨ (175 = 175 ∧ 18 = 15) ∨ (175 = 175 ∧ 18 = 20)) by decide))
    refine li_istore_n [(2, .int x7), (1, .int x2), (0, .ref (Z.2.2 175))] dX12_rate_30 (by decide) rfl ?_
    refine li_aload_n 2 dX12_rate_31 rfl ?_
    refine li_geti (k := 18) (N := 52) (T := TX12) (C0 := RX12) dX12_rate_32 (by decide) sh_175 rfl rfl (by decide) li_in12 w_1422 ?_
    refine li_top (fun x10 ex10 => ?_)
    have gx10 : 0 ≤ x10.toInt ∧ x10.toInt ≤ 40 := by rw [ex10]; exact J_sl18 hJ
    have mx10 : x10.toInt = (M8.1 175 18).toInt := tl_slot ex10
    refine li_istore_n [(3, .int x10), (2, .int x7), (1, .int x2), (0, .ref (Z.2.2 175))] dX12_rate_35 (by decide) rfl ?_
    refine li_aload_n 3 dX12_rate_36 rfl ?_
    obtain ⟨q11, hq11, rq11⟩ := hJ.2.2.1
    refine li_getm (r := 1) (k := 17) (N := 52) (T := TX12) (C0 := RX12) dX12_rate_37 (by decide) sh_175 rfl rfl hq11 (by decide) li_in12 w_1421 ?_
    refine li_astore [(4, .ref (Z.2.2 q11)), (3, .int x10), (2, .int x7), (1, .int x2), (0, .ref (Z.2.2 175))] dX12_rate_40 (by decide) rfl ?_
    refine li_aload_n 4 dX12_rate_42 rfl ?_
    refine li_aload_n 4 dX12_rate_43 rfl ?_
    refine li_getr (k := 19) (N := 52) (T := TX12) (C0 := RX12) dX12_rate_44 (by decide) sh_175 rfl rfl (by decide) (by decide) li_in12 w_1423 ?_
    refine li_putr (k := 17) (r := 1) (q := 184) (N := 52) (T := TX12) (C0 := RX12) dX12_rate_47 sh_175 rfl rfl (fun k2 hk2 => li_only1 k2 hk2) (by decide) li_in12 tyX12_ok nmX12 rfl rfl rfl rfl w_1421 ?_
    refine li_nm (fun M12 eM12 => ?_)
    have hf := li_fs_ur hf (Or.inr (Or.inr (Or.inr (Or.inr (Or.inr (Or.inr (Or.inl rfl))))))) eM12
    have hJ := hJ.ur1 (by unfold li_rl; omega) eM12
    have rM12_7 := J_sl7 (M := M12) hJ
    have rM12_9 := J_sl9 (M := M12) hJ
    have rM12_18 := J_sl18 (M := M12) hJ
    have mM12_7 : (M12.1 175 7).toInt = (M8.1 175 7).toInt := by rw [eM12]; rfl
    have mM12_9 : (M12.1 175 9).toInt = (M8.1 175 9).toInt := by rw [eM12]; rfl
    have mM12_18 : (M12.1 175 18).toInt = (M8.1 175 18).toInt := by rw [eM12]; rfl
    refine li_iconst 0 dX12_rate_50 (by decide) ?_
    refine li_istore [(5, .int 0), (4, .ref (Z.2.2 q11)), (3, .int x10), (2, .int x7), (1, .int x2), (0, .ref (Z.2.2 175))] dX12_rate_51 (by decide) rfl ?_
    have L53 : ∀ (n : Nat) (x13 : Int32) (M14 : li_M), ((x2 : Int32).toInt - (x13 : Int32).toInt).toNat < n → li_fs (fun i k => i = 181 ∨ i = 183 ∨ i = 184 ∨ i = 185 ∨ i = 189 ∨ i = 1000 ∨ i = 1001 ∨ (i = 175 ∧ k = 10) ∨ (i = 175 ∧ k = 12) ∨ (i = 175 ∧ k = 13) ∨ (i = 175 ∧ k = 14) ∨ (i = 175 ∧ k = 15) ∨ (i = 175 ∧ k = 18) ∨ (i = 175 ∧ k = 20) ∨ (i = 175 ∧ k = 7) ∨ (i = 175 ∧ k = 9)) M0 M14 → li_J M14 → 0 ≤ (x13 : Int32).toInt ∧ (M14.1 175 7).toInt = 0 → li_T l Z YX12_rate d 53 [(5, .int x13), (4, .ref (Z.2.2 q11)), (3, .int x10), (2, .int x7), (1, .int x2), (0, .ref (Z.2.2 175))] [] M14 (fun r M' => (∃ x : Int32, r = some (.int x)) ∧ li_fs (fun i k => i = 181 ∨ i = 183 ∨ i = 184 ∨ i = 185 ∨ i = 189 ∨ i = 1000 ∨ i = 1001 ∨ (i = 175 ∧ k = 10) ∨ (i = 175 ∧ k = 12) ∨ (i = 175 ∧ k = 13) ∨ (i = 175 ∧ k = 14) ∨ (i = 175 ∧ k = 15) ∨ (i = 175 ∧ k = 18) ∨ (i = 175 ∧ k = 20) ∨ (i = 175 ∧ k = 7) ∨ (i = 175 ∧ k = 9)) M0 M' ∧ li_J M' ∧ (M'.1 175 7).toInt = 0) := by
      intro n
      induction n with
      | zero => intro x13 M14 hn; exact absurd hn (Nat.not_lt_zero _)
      | succ n ih53 =>
        intro x13 M14 hn hf hJ hi
        have gx13 := tl_rg x13
        have rM14_7 := J_sl7 (M := M14) hJ
        have rM14_9 := J_sl9 (M := M14) hJ
        have rM14_18 := J_sl18 (M := M14) hJ
        refine li_iload 0 dX12_rate_53 rfl ?_
        refine li_iload_n 4 dX12_rate_55 rfl ?_
        refine li_icmp_ge 79 dX12_rate_56 (by decide) (fun c15 => ?_) (fun c15 => ?_)
        · have tc15 : x2.toInt ≤ x13.toInt := tl_le c15
          refine li_aload_n 5 dX12_rate_79 rfl ?_
          refine li_iload_n 4 dX12_rate_80 rfl ?_
          refine li_puti (k := 18) (N := 52) (T := TX12) (C0 := RX12) dX12_rate_81 (by decide) sh_175 rfl rfl (by decide) li_in12 tyX12_ok nmX12 rfl rfl rfl rfl w_1422 ?_
          refine li_nm (fun M16 eM16 => ?_)
          have hf := li_fs_ui hf (Or.inr (Or.inr (Or.inr (Or.inr (Or.inr (Or.inr (Or.inr (Or.inr (Or.inr (Or.inr (Or.inr (Or.inr (Or.inl ⟨rfl, rfl⟩))))))))))))) eM16
          have hJ := J_pt18 hJ (show 0 ≤ (x2 : Int32).toInt ∧ (x2 : Int32).toInt ≤ 40 by omega) eM16
          have rM16_7 := J_sl7 (M := M16) hJ
          have rM16_9 := J_sl9 (M := M16) hJ
          have rM16_18 := J_sl18 (M := M16) hJ
          have mM16_7 : (M16.1 175 7).toInt = (M14.1 175 7).toInt := by rw [eM16, li_ui_at, if_pos rfl, if_neg (by decide)]
          have mM16_9 : (M16.1 175 9).toInt = (M14.1 175 9).toInt := by rw [eM16, li_ui_at, if_pos rfl, if_neg (by decide)]
          have mM16_18 : (M16.1 175 18).toInt = x2.toInt := by rw [eM16, li_ui_at, if_pos rfl, if_pos rfl]
          refine li_aload_n 5 dX12_rate_84 rfl ?_
          refine li_callV (n := 0) (As := []) dX12_rate_85 (k_X12_bestAll (d - 1) (by omega)  M16 hJ ) (by omega) (Nat.le_of_ble_eq_true rfl) w_1951 w_1953 w_98 w_112 w_1954 (by decide +kernel) rfl (by decide) sh_175 rfl rfl (Nat.le_of_ble_eq_true rfl) (fun r M18 h19 => ?_)
          obtain ⟨⟨x17, rfl⟩, h19, jM18⟩ := h19
          have gx17 := tl_rg x17
          have hf := li_fs_trans hf h19 (fun i k => fun h => Or.elim h (fun h => Or.inr (Or.inr (Or.inr (Or.inl h)))) (fun h => Or.elim h (fun h => Or.inr (Or.inr (Or.inr (Or.inr (Or.inl h))))) (fun h => Or.elim h (fun h => Or.inr (Or.inr (Or.inr (Or.inr (Or.inr (Or.inl h)))))) (fun h => Or.elim h (fun h => Or.inr (Or.inr (Or.inr (Or.inr (Or.inr (Or.inr (Or.inr (Or.inr (Or.inl h))))))))) (fun h => Or.elim h (fun h => Or.inr (Or.inr (Or.inr (Or.inr (Or.inr (Or.inr (Or.inr (Or.inr (Or.inr (Or.inl h)))))))))) (fun h => Or.elim h (fun h => Or.inr (Or.inr (Or.inr (Or.inr (Or.inr (Or.inr (Or.inr (Or.inr (Or.inr (Or.inr (Or.inl h))))))))))) (fun h => Or.elim h (fun h => Or.inr (Or.inr (Or.inr (Or.inr (Or.inr (Or.inr (Or.inr (Or.inr (Or.inr (Or.inr (Or.inr (Or.inl h)))))))))))) (fun h => Or.inr (Or.inr (Or.inr (Or.inr (Or.inr (Or.inr (Or.inr (Or.inr (Or.inr (Or.inr (Or.inr (Or.inr (Or.inr (Or.inl h)))))))))))))))))))))
          have hJ := jM18
          have rM18_7 := J_sl7 (M := M18) hJ
          have rM18_9 := J_sl9 (M := M18) hJ
          have rM18_18 := J_sl18 (M := M18) hJ
          have mM18_7 : (M18.1 175 7).toInt = (M16.1 175 7).toInt := tl_slot (h19.1 175 7 (show ¬ (175 = 185 ∨ 175 = 189 ∨ 175 = 1000 ∨ (175 = 175 ∧ 7 = 12) ∨ (175 = 175 ∧ 7 = 13) ∨ (175 = 175 ∧ 7 = 14) ∨ (175 = 175 ∧ 7 = 15) ∨ (175 = 175 ∧ 7 = 20)) by decide))
          have mM18_9 : (M18.1 175 9).toInt = (M16.1 175 9).toInt := tl_slot (h19.1 175 9 (show ¬ (175 = 185 ∨ 175 = 189 ∨ 175 = 1000 ∨ (175 = 175 ∧ 9 = 12) ∨ (175 = 175 ∧ 9 = 13) ∨ (175 = 175 ∧ 9 = 14) ∨ (175 = 175 ∧ 9 = 15) ∨ (175 = 175 ∧ 9 = 20)) by decide))
          have mM18_18 : (M18.1 175 18).toInt = (M16.1 175 18).toInt := tl_slot (h19.1 175 18 (show ¬ (175 = 185 ∨ 175 = 189 ∨ 175 = 1000 ∨ (175 = 175 ∧ 18 = 12) ∨ (175 = 175 ∧ 18 = 13) ∨ (175 = 175 ∧ 18 = 14) ∨ (175 = 175 ∧ 18 = 15) ∨ (175 = 175 ∧ 18 = 20)) by decide))
          refine li_istore [(5, .int x17), (4, .ref (Z.2.2 q11)), (3, .int x10), (2, .int x7), (1, .int x2), (0, .ref (Z.2.2 175))] dX12_rate_88 (by decide) rfl ?_
          refine li_aload_n 5 dX12_rate_90 rfl ?_
          refine li_aload 1 dX12_rate_91 rfl ?_
          refine li_putr (k := 17) (r := 1) (q := q11) (N := 52) (T := TX12) (C0 := RX12) dX12_rate_93 sh_175 rfl rfl (fun k2 hk2 => li_only1 k2 hk2) (by decide) li_in12 tyX12_ok nmX12 rfl rfl rfl rfl w_1421 ?_
          refine li_nm (fun M20 eM20 => ?_)
          have hf := li_fs_ur hf (Or.inr (Or.inr (Or.inr (Or.inr (Or.inr (Or.inr (Or.inl rfl))))))) eM20
          have hJ := hJ.ur1 rq11 eM20
          have rM20_7 := J_sl7 (M := M20) hJ
          have rM20_9 := J_sl9 (M := M20) hJ
          have rM20_18 := J_sl18 (M := M20) hJ
          have mM20_7 : (M20.1 175 7).toInt = (M18.1 175 7).toInt := by rw [eM20]; rfl
          have mM20_9 : (M20.1 175 9).toInt = (M18.1 175 9).toInt := by rw [eM20]; rfl
          have mM20_18 : (M20.1 175 18).toInt = (M18.1 175 18).toInt := by rw [eM20]; rfl
          refine li_aload_n 5 dX12_rate_96 rfl ?_
          refine li_iload_n 2 dX12_rate_97 rfl ?_
          refine li_puti (k := 18) (N := 52) (T := TX12) (C0 := RX12) dX12_rate_98 (by decide) sh_175 rfl rfl (by decide) li_in12 tyX12_ok nmX12 rfl rfl rfl rfl w_1422 ?_
          refine li_nm (fun M21 eM21 => ?_)
          have hf := li_fs_ui hf (Or.inr (Or.inr (Or.inr (Or.inr (Or.inr (Or.inr (Or.inr (Or.inr (Or.inr (Or.inr (Or.inr (Or.inr (Or.inl ⟨rfl, rfl⟩))))))))))))) eM21
          have hJ := J_pt18 hJ (show 0 ≤ (x10 : Int32).toInt ∧ (x10 : Int32).toInt ≤ 40 by omega) eM21
          have rM21_7 := J_sl7 (M := M21) hJ
          have rM21_9 := J_sl9 (M := M21) hJ
          have rM21_18 := J_sl18 (M := M21) hJ
          have mM21_7 : (M21.1 175 7).toInt = (M20.1 175 7).toInt := by rw [eM21, li_ui_at, if_pos rfl, if_neg (by decide)]
          have mM21_9 : (M21.1 175 9).toInt = (M20.1 175 9).toInt := by rw [eM21, li_ui_at, if_pos rfl, if_neg (by decide)]
          have mM21_18 : (M21.1 175 18).toInt = x10.toInt := by rw [eM21, li_ui_at, if_pos rfl, if_pos rfl]
          refine li_aload_n 5 dX12_rate_101 rfl ?_
          refine li_iconst 0 dX12_rate_102 (by decide) ?_
          refine li_puti (k := 9) (N := 52) (T := TX12) (C0 := RX12) dX12_rate_103 (by decide) sh_175 rfl rfl (by decide) li_in12 tyX12_ok nmX12 rfl rfl rfl rfl w_1413 ?_
          refine li_nm (fun M22 eM22 => ?_)
          have hf := li_fs_ui hf (Or.inr (Or.inr (Or.inr (Or.inr (Or.inr (Or.inr (Or.inr (Or.inr (Or.inr (Or.inr (Or.inr (Or.inr (Or.inr (Or.inr (Or.inr (⟨rfl, rfl⟩)))))))))))))))) eM22
          have z0 : (0 : Int32).toInt = 0 := rfl
          have hJ := J_pt9 hJ (show 0 ≤ (0 : Int32).toInt ∧ (0 : Int32).toInt ≤ 20 by omega) eM22
          have rM22_7 := J_sl7 (M := M22) hJ
          have rM22_9 := J_sl9 (M := M22) hJ
          have rM22_18 := J_sl18 (M := M22) hJ
          have mM22_7 : (M22.1 175 7).toInt = (M21.1 175 7).toInt := by rw [eM22, li_ui_at, if_pos rfl, if_neg (by decide)]
          have mM22_9 : (M22.1 175 9).toInt = 0 := by rw [eM22, li_ui_at, if_pos rfl, if_pos rfl]; rfl
          have mM22_18 : (M22.1 175 18).toInt = (M21.1 175 18).toInt := by rw [eM22, li_ui_at, if_pos rfl, if_neg (by decide)]
          refine li_aload_n 5 dX12_rate_106 rfl ?_
          refine li_iload 0 dX12_rate_107 rfl ?_
          refine li_callV (n := 1) (As := [.int x17]) dX12_rate_109 (k_X12_tell (d - 1) (by omega) x17 M22 hJ (by omega)) (by omega) (Nat.le_of_ble_eq_true rfl) w_1783 w_1785 w_77 w_112 w_1786 (by decide +kernel) rfl (by decide) sh_175 rfl rfl (Nat.le_of_ble_eq_true rfl) (fun r M24 h25 => ?_)
          obtain ⟨rfl, h25, jM24, nM24⟩ := h25
          have hf := li_fs_trans hf h25 (fun i k => fun h => Or.elim h (fun h => Or.inl h) (fun h => Or.inr (Or.inr (Or.inr (Or.inr (Or.inr (Or.inr (Or.inr (Or.inr (Or.inr (Or.inr (Or.inr (Or.inr (Or.inr (Or.inr (Or.inr h))))))))))))))))
          have hJ := jM24
          have rM24_7 := J_sl7 (M := M24) hJ
          have rM24_9 := J_sl9 (M := M24) hJ
          have rM24_18 := J_sl18 (M := M24) hJ
          have mM24_7 : (M24.1 175 7).toInt = (M22.1 175 7).toInt := tl_slot (h25.1 175 7 (show ¬ (175 = 181 ∨ (175 = 175 ∧ 7 = 9)) by decide))
          have mM24_18 : (M24.1 175 18).toInt = (M22.1 175 18).toInt := tl_slot (h25.1 175 18 (show ¬ (175 = 181 ∨ (175 = 175 ∧ 18 = 9)) by decide))
          refine li_aload_n 5 dX12_rate_112 rfl ?_
          refine li_iload_n 3 dX12_rate_113 rfl ?_
          refine li_callV (n := 1) (As := [.int x7]) dX12_rate_114 (k_X12_tell (d - 1) (by omega) x7 M24 hJ (by omega)) (by omega) (Nat.le_of_ble_eq_true rfl) w_1783 w_1785 w_77 w_112 w_1786 (by decide +kernel) rfl (by decide) sh_175 rfl rfl (Nat.le_of_ble_eq_true rfl) (fun r M27 h28 => ?_)
          obtain ⟨rfl, h28, jM27, nM27⟩ := h28
          have hf := li_fs_trans hf h28 (fun i k => fun h => Or.elim h (fun h => Or.inl h) (fun h => Or.inr (Or.inr (Or.inr (Or.inr (Or.inr (Or.inr (Or.inr (Or.inr (Or.inr (Or.inr (Or.inr (Or.inr (Or.inr (Or.inr (Or.inr h))))))))))))))))
          have hJ := jM27
          have rM27_7 := J_sl7 (M := M27) hJ
          have rM27_9 := J_sl9 (M := M27) hJ
          have rM27_18 := J_sl18 (M := M27) hJ
          have mM27_7 : (M27.1 175 7).toInt = (M24.1 175 7).toInt := tl_slot (h28.1 175 7 (show ¬ (175 = 181 ∨ (175 = 175 ∧ 7 = 9)) by decide))
          have mM27_18 : (M27.1 175 18).toInt = (M24.1 175 18).toInt := tl_slot (h28.1 175 18 (show ¬ (175 = 181 ∨ (175 = 175 ∧ 18 = 9)) by decide))
          refine li_iload 0 dX12_rate_117 rfl ?_
          refine li_iload_n 3 dX12_rate_119 rfl ?_
          refine li_isub dX12_rate_120 ?_
          refine li_top (fun x29 ex29 => ?_)
          try (have tx29 : x29.toInt = (x17 : Int32).toInt - (x7 : Int32).toInt := tl_sub ex29 (by omega))
          exact li_iret dX12_rate_121 rfl rfl ⟨⟨_, rfl⟩, hf, hJ, (by omega)⟩
        · have tc15 : x13.toInt < x2.toInt := tl_nle c15
          refine li_aload_n 5 dX12_rate_59 rfl ?_
          obtain ⟨q30, hq30, rq30⟩ := hJ.2.2.1
          refine li_getm (r := 1) (k := 17) (N := 52) (T := TX12) (C0 := RX12) dX12_rate_60 (by decide) sh_175 rfl rfl hq30 (by decide) li_in12 w_1421 ?_
          refine li_iload 0 dX12_rate_63 rfl ?_
          refine li_aload_n 5 dX12_rate_65 rfl ?_
          refine li_getr (k := 6) (N := 52) (T := TX12) (C0 := RX12) dX12_rate_66 (by decide) sh_175 rfl rfl (by decide) (by decide) li_in12 w_1410 ?_
          refine li_iload 0 dX12_rate_69 rfl ?_
          refine li_bald dX12_rate_71 (by decide) sh_180 (tl_in (by omega)) ?_
          refine li_top (fun x31 ex31 => ?_)
          have gx31 := tl_rg x31
          refine li_bast dX12_rate_72 (snU rq30) (shU rq30) (tl_in (by omega)) ?_
          have uM32 : q30 = 183 ∨ q30 = 184 := rq30
          refine li_nm (fun M32 eM32 => ?_)
          have hf := li_fs_ui hf (Or.elim uM32 (fun h => Or.inr (Or.inl h)) (fun h => Or.inr (Or.inr (Or.inl h)))) eM32
          have hJ := hJ.st (by unfold li_rl at rq30; omega) (li_el_byte (rl_rq rq30)) eM32
          have rM32_7 := J_sl7 (M := M32) hJ
          have rM32_9 := J_sl9 (M := M32) hJ
          have rM32_18 := J_sl18 (M := M32) hJ
          have mM32_7 : (M32.1 175 7).toInt = (M14.1 175 7).toInt := by rw [eM32, li_ui_at, if_neg (by unfold li_rl at rq30; omega)]
          have mM32_9 : (M32.1 175 9).toInt = (M14.1 175 9).toInt := by rw [eM32, li_ui_at, if_neg (by unfold li_rl at rq30; omega)]
          have mM32_18 : (M32.1 175 18).toInt = (M14.1 175 18).toInt := by rw [eM32, li_ui_at, if_neg (by unfold li_rl at rq30; omega)]
          obtain ⟨x33, ex33⟩ : ∃ y : Int32, y = x13 + 1 := ⟨_, rfl⟩
          have z1 : (1 : Int32).toInt = 1 := rfl
          try (have tx33 : x33.toInt = (x13 : Int32).toInt + (1 : Int32).toInt := tl_add ex33 (by omega))
          refine li_iinc 0 [(5, .int x33), (4, .ref (Z.2.2 q11)), (3, .int x10), (2, .int x7), (1, .int x2), (0, .ref (Z.2.2 175))] x33 dX12_rate_73 rfl (by rw [ex33]; rfl) (by decide) rfl ?_
          refine li_goto 53 dX12_rate_76 (by decide) ?_
          refine li_pick [0, 1, 2, 3, 4, 5] [(5, .int x33), (4, .ref (Z.2.2 q11)), (3, .int x10), (2, .int x7), (1, .int x2), (0, .ref (Z.2.2 175))] rfl ?_
          exact ih53 x33 M32 (by omega) hf hJ (by omega)
    have z0 : (0 : Int32).toInt = 0 := rfl
    exact L53 _ 0 M12 (Nat.lt_succ_self _) hf hJ (by omega)
  · skip
    refine li_if_ne 26 dX12_rate_14 (by decide) (fun c => absurd rfl c) (fun c => ?_)
    refine li_sipush (-10000) dX12_rate_17 (by decide) ?_
    refine li_aload_n 1 dX12_rate_20 rfl ?_
    refine li_geti (k := 15) (N := 52) (T := TX12) (C0 := RX12) dX12_rate_21 (by decide) sh_175 rfl rfl (by decide) li_in12 w_1419 ?_
    refine li_top (fun x35 ex35 => ?_)
    have gx35 : -1 ≤ x35.toInt ∧ x35.toInt ≤ 81 := by rw [ex35]; exact J_sl15 hJ
    have mx35 : x35.toInt = (M4.1 175 15).toInt := tl_slot ex35
    refine li_isub dX12_rate_24 ?_
    refine li_top (fun x36 ex36 => ?_)
    have zm10000 : ((-10000) : Int32).toInt = -10000 := rfl
    try (have tx36 : x36.toInt = ((-10000) : Int32).toInt - (x35 : Int32).toInt := tl_sub ex36 (by omega))
    exact li_iret dX12_rate_25 rfl rfl ⟨⟨_, rfl⟩, hf, hJ, (by omega)⟩
set_option maxRecDepth 100000 in
set_option maxHeartbeats 4000000 in
theorem k3_X12_things {l : Launch} {Z : li_Z} (d : Nat) (hd : 6 ≤ d) (M0 : li_M) (hJ : li_J M0) : li_Met l Z YX12_things d [.ref (Z.2.2 175)] M0 (fun r M' => (∃ x : Int32, r = some (.int x)) ∧ li_fs (fun i k => i = 179 ∨ i = 182 ∨ i = 1000 ∨ (i = 175 ∧ k = 10) ∨ (i = 175 ∧ k = 12) ∨ (i = 175 ∧ k = 13) ∨ (i = 175 ∧ k = 14) ∨ (i = 175 ∧ k = 15) ∨ (i = 175 ∧ k = 23) ∨ (i = 175 ∧ k = 4) ∨ (i = 175 ∧ k = 48) ∨ (i = 175 ∧ k = 7)) M0 M' ∧ li_J M' ∧ (M'.1 175 7).toInt = 0) := by
  refine li_enter (by decide +kernel) (Nat.le_of_ble_eq_true rfl) ?_
  show li_T l Z YX12_things d 0 [(0, .ref (Z.2.2 175))] [] M0 _
  have hf : li_fs (fun i k => i = 179 ∨ i = 182 ∨ i = 1000 ∨ (i = 175 ∧ k = 10) ∨ (i = 175 ∧ k = 12) ∨ (i = 175 ∧ k = 13) ∨ (i = 175 ∧ k = 14) ∨ (i = 175 ∧ k = 15) ∨ (i = 175 ∧ k = 23) ∨ (i = 175 ∧ k = 4) ∨ (i = 175 ∧ k = 48) ∨ (i = 175 ∧ k = 7)) M0 M0 := li_fs_refl
  have rM0_4 := J_sl4 (M := M0) hJ
  have rM0_7 := J_sl7 (M := M0) hJ
  have rM0_15 := J_sl15 (M := M0) hJ
  refine li_aload_n 0 dX12_things_0 rfl ?_
  refine li_iconst 0 dX12_things_1 (by decide) ?_
  refine li_puti (k := 10) (N := 52) (T := TX12) (C0 := RX12) dX12_things_2 (by decide) sh_175 rfl rfl (by decide) li_in12 tyX12_ok nmX12 rfl rfl rfl rfl w_1414 ?_
  refine li_nm (fun M1 eM1 => ?_)
  have hf := li_fs_ui hf (Or.inr (Or.inr (Or.inr (Or.inl ⟨rfl, rfl⟩)))) eM1
  have z0 : (0 : Int32).toInt = 0 := rfl
  have hJ := hJ.put (k := 10) (by decide) (rg_free rfl) eM1
  have rM1_4 := J_sl4 (M := M1) hJ
  have rM1_7 := J_sl7 (M := M1) hJ
  have rM1_15 := J_sl15 (M := M1) hJ
  have mM1_4 : (M1.1 175 4).toInt = (M0.1 175 4).toInt := by rw [eM1, li_ui_at, if_pos rfl, if_neg (by decide)]
  have mM1_7 : (M1.1 175 7).toInt = (M0.1 175 7).toInt := by rw [eM1, li_ui_at, if_pos rfl, if_neg (by decide)]
  have mM1_15 : (M1.1 175 15).toInt = (M0.1 175 15).toInt := by rw [eM1, li_ui_at, if_pos rfl, if_neg (by decide)]
  refine li_aload_n 0 dX12_things_5 rfl ?_
  refine li_aload_n 0 dX12_things_6 rfl ?_
  refine li_getr (k := 6) (N := 52) (T := TX12) (C0 := RX12) dX12_things_7 (by decide) sh_175 rfl rfl (by decide) (by decide) li_in12 w_1410 ?_
  refine li_aload_n 0 dX12_things_10 rfl ?_
  refine li_geti (k := 7) (N := 52) (T := TX12) (C0 := RX12) dX12_things_11 (by decide) sh_175 rfl rfl (by decide) li_in12 w_1411 ?_
  refine li_top (fun x2 ex2 => ?_)
  have gx2 : 0 ≤ x2.toInt ∧ x2.toInt ≤ 80 := by rw [ex2]; exact J_sl7 hJ
  have mx2 : x2.toInt = (M1.1 175 7).toInt := tl_slot ex2
  refine li_bipush 76 dX12_things_14 (by decide) ?_
  have z76 : (76 : Int32).toInt = 76 := rfl
  refine li_callV (n := 3) (As := [.ref (Z.2.2 180), .int x2, .int 76]) dX12_things_16 (k_X12_begin (d - 1) (by unfold li_rq; omega) x2 76 M1 hJ (show 0 ≤ (x2 : Int32).toInt ∧ (x2 : Int32).toInt ≤ (li_qn 180 : Int) by have := li_qn_fix; omega) (by omega)) (by omega) (Nat.le_of_ble_eq_true rfl) w_1577 w_1579 w_42 w_112 w_1580 (by decide +kernel) rfl (by decide) sh_175 rfl rfl (Nat.le_of_ble_eq_true rfl) (fun r M4 h5 => ?_)
  obtain ⟨rfl, h5, jM4, nM4⟩ := h5
  have hf := li_fs_trans hf h5 (fun i k => fun h => Or.elim h (fun h => Or.inr (Or.inr (Or.inr (Or.inr (Or.inl h))))) (fun h => Or.elim h (fun h => Or.inr (Or.inr (Or.inr (Or.inr (Or.inr (Or.inl h)))))) (fun h => Or.elim h (fun h => Or.inr (Or.inr (Or.inr (Or.inr (Or.inr (Or.inr (Or.inl h))))))) (fun h => Or.elim h (fun h => Or.inr (Or.inr (Or.inr (Or.inr (Or.inr (Or.inr (Or.inr (Or.inl h)))))))) (fun h => Or.inr (Or.inr (Or.inl h)))))))
  have hJ := jM4
  have rM4_4 := J_sl4 (M := M4) hJ
  have rM4_7 := J_sl7 (M := M4) hJ
  have rM4_15 := J_sl15 (M := M4) hJ
  have mM4_4 : (M4.1 175 4).toInt = (M1.1 175 4).toInt := tl_slot (h5.1 175 4 (show ¬ ((175 = 175 ∧ 4 = 12) ∨ (175 = 175 ∧ 4 = 13) ∨ (175 = 175 ∧ 4 = 14) ∨ (175 = 175 ∧ 4 = 15) ∨ 175 = 1000) by decide))
  have mM4_7 : (M4.1 175 7).toInt = (M1.1 175 7).toInt := tl_slot (h5.1 175 7 (show ¬ ((175 = 175 ∧ 7 = 12) ∨ (175 = 175 ∧ 7 = 13) ∨ (175 = 175 ∧ 7 = 14) ∨ (175 = 175 ∧ 7 = 15) ∨ 175 = 1000) by decide))
  refine li_aload_n 0 dX12_things_19 rfl ?_
  refine li_iconst 0 dX12_things_20 (by decide) ?_
  refine li_puti (k := 7) (N := 52) (T := TX12) (C0 := RX12) dX12_things_21 (by decide) sh_175 rfl rfl (by decide) li_in12 tyX12_ok nmX12 rfl rfl rfl rfl w_1411 ?_
  refine li_nm (fun M6 eM6 => ?_)
  have hf := li_fs_ui hf (Or.inr (Or.inr (Or.inr (Or.inr (Or.inr (Or.inr (Or.inr (Or.inr (Or.inr (Or.inr (Or.inr (⟨rfl, rfl⟩)))))))))))) eM6
  have z0 : (0 : Int32).toInt = 0 := rfl
  have hJ := J_pt7 hJ (show 0 ≤ (0 : Int32).toInt ∧ (0 : Int32).toInt ≤ 80 by omega) eM6
  have rM6_4 := J_sl4 (M := M6) hJ
  have rM6_7 := J_sl7 (M := M6) hJ
  have rM6_15 := J_sl15 (M := M6) hJ
  have mM6_4 : (M6.1 175 4).toInt = (M4.1 175 4).toInt := by rw [eM6, li_ui_at, if_pos rfl, if_neg (by decide)]
  have mM6_7 : (M6.1 175 7).toInt = 0 := by rw [eM6, li_ui_at, if_pos rfl, if_pos rfl]; rfl
  have mM6_15 : (M6.1 175 15).toInt = (M4.1 175 15).toInt := by rw [eM6, li_ui_at, if_pos rfl, if_neg (by decide)]
  refine li_aload_n 0 dX12_things_24 rfl ?_
  refine li_geti (k := 12) (N := 52) (T := TX12) (C0 := RX12) dX12_things_25 (by decide) sh_175 rfl rfl (by decide) li_in12 w_1416 ?_
  refine li_top (fun x7 ex7 => ?_)
  have gx7 : 0 ≤ x7.toInt ∧ x7.toInt ≤ 80 := by rw [ex7]; exact J_sl12 hJ
  have mx7 : x7.toInt = (M6.1 175 12).toInt := tl_slot ex7
  refine li_if_ne 33 dX12_things_28 (by decide) (fun c8 => ?_) (fun c8 => ?_)
  · have tc8 : ¬ x7.toInt = 0 := tl_ne c8
    refine li_iconst 0 dX12_things_33 (by decide) ?_
    refine li_istore_n [(1, .int 0), (0, .ref (Z.2.2 175))] dX12_things_34 (by decide) rfl ?_
    refine li_iconst 1 dX12_things_35 (by decide) ?_
    refine li_istore_n [(2, .int 1), (1, .int 0), (0, .ref (Z.2.2 175))] dX12_things_36 (by decide) rfl ?_
    have J90 : ∀ (x9 : Int32) (x10 : Int32) (M11 : li_M), li_fs (fun i k => i = 179 ∨ i = 182 ∨ i = 1000 ∨ (i = 175 ∧ k = 10) ∨ (i = 175 ∧ k = 12) ∨ (i = 175 ∧ k = 13) ∨ (i = 175 ∧ k = 14) ∨ (i = 175 ∧ k = 15) ∨ (i = 175 ∧ k = 23) ∨ (i = 175 ∧ k = 4) ∨ (i = 175 ∧ k = 48) ∨ (i = 175 ∧ k = 7)) M0 M11 → li_J M11 → 0 ≤ (x10 : Int32).toInt ∧ (M11.1 175 4).toInt + (x10 : Int32).toInt ≤ 9 ∧ (M11.1 175 4).toInt + (x10 : Int32).toInt ≤ 9 + (M11.1 175 15).toInt ∧ (M11.1 175 7).toInt = 0 → li_cq (M11.1 182) ((M11.1 175 15).toInt) ((x10 : Int32).toInt) → li_T l Z YX12_things d 90 [(2, .int x9), (1, .int x10), (0, .ref (Z.2.2 175))] [] M11 (fun r M' => (∃ x : Int32, r = some (.int x)) ∧ li_fs (fun i k => i = 179 ∨ i = 182 ∨ i = 1000 ∨ (i = 175 ∧ k = 10) ∨ (i = 175 ∧ k = 12) ∨ (i = 175 ∧ k = 13) ∨ (i = 175 ∧ k = 14) ∨ (i = 175 ∧ k = 15) ∨ (i = 175 ∧ k = 23) ∨ (i = 175 ∧ k = 4) ∨ (i = 175 ∧ k = 48) ∨ (i = 175 ∧ k = 7)) M0 M' ∧ li_J M' ∧ (M'.1 175 7).toInt = 0) := by
      intro x9 x10 M11 hf hJ hi Pcq_M11
      have gx9 := tl_rg x9
      have gx10 := tl_rg x10
      have rM11_4 := J_sl4 (M := M11) hJ
      have rM11_7 := J_sl7 (M := M11) hJ
      have rM11_15 := J_sl15 (M := M11) hJ
      refine li_aload_n 2 dX12_things_90 rfl ?_
      refine li_geti (k := 14) (N := 52) (T := TX12) (C0 := RX12) dX12_things_91 (by decide) sh_175 rfl rfl (by decide) li_in12 w_1418 ?_
      refine li_top (fun x12 ex12 => ?_)
      have gx12 : 0 ≤ x12.toInt ∧ x12.toInt ≤ 81 := by rw [ex12]; exact J_sl14 hJ
      have mx12 : x12.toInt = (M11.1 175 14).toInt := tl_slot ex12
      refine li_aload_n 2 dX12_things_94 rfl ?_
      refine li_geti (k := 12) (N := 52) (T := TX12) (C0 := RX12) dX12_things_95 (by decide) sh_175 rfl rfl (by decide) li_in12 w_1416 ?_
      refine li_top (fun x13 ex13 => ?_)
      have gx13 : 0 ≤ x13.toInt ∧ x13.toInt ≤ 80 := by rw [ex13]; exact J_sl12 hJ
      have mx13 : x13.toInt = (M11.1 175 12).toInt := tl_slot ex13
      have J109 : ∀  (M15 : li_M), li_fs (fun i k => i = 179 ∨ i = 182 ∨ i = 1000 ∨ (i = 175 ∧ k = 10) ∨ (i = 175 ∧ k = 12) ∨ (i = 175 ∧ k = 13) ∨ (i = 175 ∧ k = 14) ∨ (i = 175 ∧ k = 15) ∨ (i = 175 ∧ k = 23) ∨ (i = 175 ∧ k = 4) ∨ (i = 175 ∧ k = 48) ∨ (i = 175 ∧ k = 7)) M0 M15 → li_J M15 → (M15.1 175 4).toInt + (x10 : Int32).toInt ≤ 9 ∧ (M15.1 175 4).toInt + (x10 : Int32).toInt ≤ 9 + (M15.1 175 15).toInt ∧ (M15.1 175 7).toInt = 0 → li_cq (M15.1 182) ((M15.1 175 15).toInt) ((x10 : Int32).toInt) → li_T l Z YX12_things d 109 [(2, .int x9), (1, .int x10), (0, .ref (Z.2.2 175))] [] M15 (fun r M' => (∃ x : Int32, r = some (.int x)) ∧ li_fs (fun i k => i = 179 ∨ i = 182 ∨ i = 1000 ∨ (i = 175 ∧ k = 10) ∨ (i = 175 ∧ k = 12) ∨ (i = 175 ∧ k = 13) ∨ (i = 175 ∧ k = 14) ∨ (i = 175 ∧ k = 15) ∨ (i = 175 ∧ k = 23) ∨ (i = 175 ∧ k = 4) ∨ (i = 175 ∧ k = 48) ∨ (i = 175 ∧ k = 7)) M0 M' ∧ li_J M' ∧ (M'.1 175 7).toInt = 0) := by
        intro  M15 hf hJ hi Pcq_M15
        have rM15_4 := J_sl4 (M := M15) hJ
        have rM15_7 := J_sl7 (M := M15) hJ
        have rM15_15 := J_sl15 (M := M15) hJ
        refine li_aload_n 2 dX12_things_109 rfl ?_
        refine li_callV (n := 0) (As := []) dX12_things_110 (k_X12_fineW (d - 1) (by omega)  M15 hJ ) (by omega) (Nat.le_of_ble_eq_true rfl) w_1581 w_1583 w_43 w_112 w_1584 (by decide +kernel) rfl (by decide) sh_175 rfl rfl (Nat.le_of_ble_eq_true rfl) (fun r M17 h18 => ?_)
        obtain ⟨qx16, h18, jM17⟩ := h18
        have hf := li_fs_trans hf h18 (fun i k h => False.elim h)
        have hJ := jM17
        have rM17_4 := J_sl4 (M := M17) hJ
        have rM17_7 := J_sl7 (M := M17) hJ
        have rM17_15 := J_sl15 (M := M17) hJ
        have mM17_4 : (M17.1 175 4).toInt = (M15.1 175 4).toInt := tl_slot (h18.1 175 4 id)
        have mM17_7 : (M17.1 175 7).toInt = (M15.1 175 7).toInt := tl_slot (h18.1 175 7 id)
        have mM17_15 : (M17.1 175 15).toInt = (M15.1 175 15).toInt := tl_slot (h18.1 175 15 id)
        have Pcq_M17 : li_cq (M17.1 182) ((M17.1 175 15).toInt) ((x10 : Int32).toInt) := li_cq_tr (funext fun i => h18.1 182 i id) (fun h9 => by omega) (by omega) Pcq_M15
        rcases qx16 with ⟨rfl, qx16⟩ | ⟨rfl, qx16⟩
        · skip
          refine li_if_ne 123 dX12_things_113 (by decide) (fun c => ?_) (fun c => absurd c (by decide))
          refine li_iconst 0 dX12_things_123 (by decide) ?_
          refine li_istore_n [(3, .int 0), (2, .int x9), (1, .int x10), (0, .ref (Z.2.2 175))] dX12_things_124 (by decide) rfl ?_
          have L125 : ∀ (n : Nat) (x20 : Int32) (M21 : li_M), (40 - (x20 : Int32).toInt).toNat < n → li_fs (fun i k => i = 179 ∨ i = 182 ∨ i = 1000 ∨ (i = 175 ∧ k = 10) ∨ (i = 175 ∧ k = 12) ∨ (i = 175 ∧ k = 13) ∨ (i = 175 ∧ k = 14) ∨ (i = 175 ∧ k = 15) ∨ (i = 175 ∧ k = 23) ∨ (i = 175 ∧ k = 4) ∨ (i = 175 ∧ k = 48) ∨ (i = 175 ∧ k = 7)) M0 M21 → li_J M21 → 0 ≤ (x20 : Int32).toInt ∧ (M21.1 175 15).toInt = -1 ∧ (M21.1 175 4).toInt + (x10 : Int32).toInt ≤ 8 ∧ (M21.1 175 7).toInt = 0 → li_cq (M21.1 182) ((M21.1 175 15).toInt) ((x10 : Int32).toInt) → li_T l Z YX12_things d 125 [(3, .int x20), (2, .int x9), (1, .int x10), (0, .ref (Z.2.2 175))] [] M21 (fun r M' => (∃ x : Int32, r = some (.int x)) ∧ li_fs (fun i k => i = 179 ∨ i = 182 ∨ i = 1000 ∨ (i = 175 ∧ k = 10) ∨ (i = 175 ∧ k = 12) ∨ (i = 175 ∧ k = 13) ∨ (i = 175 ∧ k = 14) ∨ (i = 175 ∧ k = 15) ∨ (i = 175 ∧ k = 23) ∨ (i = 175 ∧ k = 4) ∨ (i = 175 ∧ k = 48) ∨ (i = 175 ∧ k = 7)) M0 M' ∧ li_J M' ∧ (M'.1 175 7).toInt = 0) := by
            intro n
            induction n with
            | zero => intro x20 M21 hn; exact absurd hn (Nat.not_lt_zero _)
            | succ n ih125 =>
              intro x20 M21 hn hf hJ hi Pcq_M21
              have gx20 := tl_rg x20
              have rM21_4 := J_sl4 (M := M21) hJ
              have rM21_7 := J_sl7 (M := M21) hJ
              have rM21_15 := J_sl15 (M := M21) hJ
              refine li_iload_n 0 dX12_things_125 rfl ?_
              refine li_iconst 5 dX12_things_126 (by decide) ?_
              refine li_iload_n 2 dX12_things_127 rfl ?_
              refine li_imul dX12_things_128 ?_
              refine li_top (fun x22 ex22 => ?_)
              have z5 : (5 : Int32).toInt = 5 := rfl
              try (have tx22 : x22.toInt = 5 * (x10 : Int32).toInt := tl_mul ex22 (show -2147483648 ≤ 5 * (x10 : Int32).toInt ∧ 5 * (x10 : Int32).toInt ≤ 2147483647 by omega))
              refine li_icmp_ge 157 dX12_things_129 (by decide) (fun c23 => ?_) (fun c23 => ?_)
              · have tc23 : x22.toInt ≤ x20.toInt := tl_le c23
                refine li_aload_n 3 dX12_things_157 rfl ?_
                refine li_dup dX12_things_158 rfl ?_
                refine li_geti (k := 4) (N := 52) (T := TX12) (C0 := RX12) dX12_things_159 (by decide) sh_175 rfl rfl (by decide) li_in12 w_1408 ?_
                refine li_top (fun x24 ex24 => ?_)
                have gx24 : 0 ≤ x24.toInt ∧ x24.toInt ≤ 8 := by rw [ex24]; exact J_sl4 hJ
                have mx24 : x24.toInt = (M21.1 175 4).toInt := tl_slot ex24
                refine li_iload_n 2 dX12_things_162 rfl ?_
                refine li_iadd dX12_things_163 ?_
                refine li_top (fun x25 ex25 => ?_)
                try (have tx25 : x25.toInt = (x24 : Int32).toInt + (x10 : Int32).toInt := tl_add ex25 (by omega))
                refine li_puti (k := 4) (N := 52) (T := TX12) (C0 := RX12) dX12_things_164 (by decide) sh_175 rfl rfl (by decide) li_in12 tyX12_ok nmX12 rfl rfl rfl rfl w_1408 ?_
                refine li_nm (fun M26 eM26 => ?_)
                have hf := li_fs_ui hf (Or.inr (Or.inr (Or.inr (Or.inr (Or.inr (Or.inr (Or.inr (Or.inr (Or.inr (Or.inl ⟨rfl, rfl⟩)))))))))) eM26
                have hJ := J_pt4 hJ (show 0 ≤ (x25 : Int32).toInt ∧ (x25 : Int32).toInt ≤ 8 by omega) eM26
                have rM26_4 := J_sl4 (M := M26) hJ
                have rM26_7 := J_sl7 (M := M26) hJ
                have rM26_15 := J_sl15 (M := M26) hJ
                have mM26_4 : (M26.1 175 4).toInt = x25.toInt := by rw [eM26, li_ui_at, if_pos rfl, if_pos rfl]
                have mM26_7 : (M26.1 175 7).toInt = (M21.1 175 7).toInt := by rw [eM26, li_ui_at, if_pos rfl, if_neg (by decide)]
                have mM26_15 : (M26.1 175 15).toInt = (M21.1 175 15).toInt := by rw [eM26, li_ui_at, if_pos rfl, if_neg (by decide)]
                have Pcq_M26 : li_cq (M26.1 182) ((M26.1 175 15).toInt) ((x10 : Int32).toInt) := li_cq_tr (li_cell_ui eM26 (by decide)) (fun h9 => by omega) (by omega) Pcq_M21
                refine li_aload_n 3 dX12_things_167 rfl ?_
                refine li_iconst 0 dX12_things_168 (by decide) ?_
                refine li_puti (k := 23) (N := 52) (T := TX12) (C0 := RX12) dX12_things_169 (by decide) sh_175 rfl rfl (by decide) li_in12 tyX12_ok nmX12 rfl rfl rfl rfl w_1427 ?_
                refine li_nm (fun M27 eM27 => ?_)
                have hf := li_fs_ui hf (Or.inr (Or.inr (Or.inr (Or.inr (Or.inr (Or.inr (Or.inr (Or.inr (Or.inl ⟨rfl, rfl⟩))))))))) eM27
                have z0 : (0 : Int32).toInt = 0 := rfl
                have hJ := J_pt23 hJ (show 0 ≤ (0 : Int32).toInt ∧ (0 : Int32).toInt ≤ 12 by omega) eM27
                have rM27_4 := J_sl4 (M := M27) hJ
                have rM27_7 := J_sl7 (M := M27) hJ
                have rM27_15 := J_sl15 (M := M27) hJ
                have mM27_4 : (M27.1 175 4).toInt = (M26.1 175 4).toInt := by rw [eM27, li_ui_at, if_pos rfl, if_neg (by decide)]
                have mM27_7 : (M27.1 175 7).toInt = (M26.1 175 7).toInt := by rw [eM27, li_ui_at, if_pos rfl, if_neg (by decide)]
                have mM27_15 : (M27.1 175 15).toInt = (M26.1 175 15).toInt := by rw [eM27, li_ui_at, if_pos rfl, if_neg (by decide)]
                have Pcq_M27 : li_cq (M27.1 182) ((M27.1 175 15).toInt) ((x10 : Int32).toInt) := li_cq_tr (li_cell_ui eM27 (by decide)) (fun h9 => by omega) (by omega) Pcq_M26
                refine li_aload_n 3 dX12_things_172 rfl ?_
                refine li_dup dX12_things_173 rfl ?_
                refine li_geti (k := 48) (N := 52) (T := TX12) (C0 := RX12) dX12_things_174 (by decide) sh_175 rfl rfl (by decide) li_in12 w_1452 ?_
                refine li_top (fun x28 ex28 => ?_)
                have gx28 := tl_rg x28
                have mx28 : x28.toInt = (M27.1 175 48).toInt := tl_slot ex28
                refine li_iconst 1 dX12_things_177 (by decide) ?_
                refine li_iadd dX12_things_178 ?_
                refine li_top (fun x29 ex29 => ?_)
                have z1 : (1 : Int32).toInt = 1 := rfl
                try (have tx29 : x29.toInt = (x28 : Int32).toInt + (1 : Int32).toInt := tl_add ex29 (by omega))
                refine li_puti (k := 48) (N := 52) (T := TX12) (C0 := RX12) dX12_things_179 (by decide) sh_175 rfl rfl (by decide) li_in12 tyX12_ok nmX12 rfl rfl rfl rfl w_1452 ?_
                refine li_nm (fun M30 eM30 => ?_)
                have hf := li_fs_ui hf (Or.inr (Or.inr (Or.inr (Or.inr (Or.inr (Or.inr (Or.inr (Or.inr (Or.inr (Or.inr (Or.inl ⟨rfl, rfl⟩))))))))))) eM30
                have hJ := hJ.put (k := 48) (by decide) (rg_free rfl) eM30
                have rM30_4 := J_sl4 (M := M30) hJ
                have rM30_7 := J_sl7 (M := M30) hJ
                have rM30_15 := J_sl15 (M := M30) hJ
                have mM30_4 : (M30.1 175 4).toInt = (M27.1 175 4).toInt := by rw [eM30, li_ui_at, if_pos rfl, if_neg (by decide)]
                have mM30_7 : (M30.1 175 7).toInt = (M27.1 175 7).toInt := by rw [eM30, li_ui_at, if_pos rfl, if_neg (by decide)]
                have mM30_15 : (M30.1 175 15).toInt = (M27.1 175 15).toInt := by rw [eM30, li_ui_at, if_pos rfl, if_neg (by decide)]
                have Pcq_M30 : li_cq (M30.1 182) ((M30.1 175 15).toInt) ((x10 : Int32).toInt) := li_cq_tr (li_cell_ui eM30 (by decide)) (fun h9 => by omega) (by omega) Pcq_M27
                refine li_iload_n 2 dX12_things_182 rfl ?_
                exact li_iret dX12_things_183 rfl rfl ⟨⟨_, rfl⟩, hf, hJ, (by omega)⟩
              · have tc23 : x20.toInt < x22.toInt := tl_nle c23
                refine li_aload_n 3 dX12_things_132 rfl ?_
                refine li_getr (k := 5) (N := 52) (T := TX12) (C0 := RX12) dX12_things_133 (by decide) sh_175 rfl rfl (by decide) (by decide) li_in12 w_1409 ?_
                refine li_iconst 5 dX12_things_136 (by decide) ?_
                refine li_aload_n 3 dX12_things_137 rfl ?_
                refine li_geti (k := 4) (N := 52) (T := TX12) (C0 := RX12) dX12_things_138 (by decide) sh_175 rfl rfl (by decide) li_in12 w_1408 ?_
                refine li_top (fun x31 ex31 => ?_)
                have gx31 : 0 ≤ x31.toInt ∧ x31.toInt ≤ 8 := by rw [ex31]; exact J_sl4 hJ
                have mx31 : x31.toInt = (M21.1 175 4).toInt := tl_slot ex31
                refine li_imul dX12_things_141 ?_
                refine li_top (fun x32 ex32 => ?_)
                have z5 : (5 : Int32).toInt = 5 := rfl
                try (have tx32 : x32.toInt = 5 * (x31 : Int32).toInt := tl_mul ex32 (show -2147483648 ≤ 5 * (x31 : Int32).toInt ∧ 5 * (x31 : Int32).toInt ≤ 2147483647 by omega))
                refine li_iload_n 0 dX12_things_142 rfl ?_
                refine li_iadd dX12_things_143 ?_
                refine li_top (fun x33 ex33 => ?_)
                try (have tx33 : x33.toInt = (x32 : Int32).toInt + (x20 : Int32).toInt := tl_add ex33 (by omega))
                refine li_aload_n 3 dX12_things_144 rfl ?_
                refine li_getr (k := 16) (N := 52) (T := TX12) (C0 := RX12) dX12_things_145 (by decide) sh_175 rfl rfl (by decide) (by decide) li_in12 w_1420 ?_
                refine li_iload_n 0 dX12_things_148 rfl ?_
                refine li_iald dX12_things_149 (by decide) sh_182 (tl_in (by omega)) ?_
                refine li_top (fun x34 ex34 => ?_)
                have gx34 := tl_rg x34
                have lx34 := li_cq_ld Pcq_M21 (by omega) ex34 (by omega) (by omega)
                refine li_iast dX12_things_150 (by decide) sh_179 (tl_in (by omega)) ?_
                refine li_nm (fun M35 eM35 => ?_)
                have hf := li_fs_ui hf (Or.inl rfl) eM35
                have hJ := hJ.st (by decide) (li_el_thing (by omega) (show (x33 : Int32).toInt % 5 < 2 → 0 ≤ (x34 : Int32).toInt ∧ (x34 : Int32).toInt ≤ 5 by omega)) eM35
                have rM35_4 := J_sl4 (M := M35) hJ
                have rM35_7 := J_sl7 (M := M35) hJ
                have rM35_15 := J_sl15 (M := M35) hJ
                have mM35_4 : (M35.1 175 4).toInt = (M21.1 175 4).toInt := by rw [eM35, li_ui_at, if_neg (by decide)]
                have mM35_7 : (M35.1 175 7).toInt = (M21.1 175 7).toInt := by rw [eM35, li_ui_at, if_neg (by decide)]
                have mM35_15 : (M35.1 175 15).toInt = (M21.1 175 15).toInt := by rw [eM35, li_ui_at, if_neg (by decide)]
                have Pcq_M35 : li_cq (M35.1 182) ((M35.1 175 15).toInt) ((x10 : Int32).toInt) := li_cq_tr (li_cell_ui eM35 (by decide)) (fun h9 => by omega) (by omega) Pcq_M21
                obtain ⟨x36, ex36⟩ : ∃ y : Int32, y = x20 + 1 := ⟨_, rfl⟩
                have z1 : (1 : Int32).toInt = 1 := rfl
                try (have tx36 : x36.toInt = (x20 : Int32).toInt + (1 : Int32).toInt := tl_add ex36 (by omega))
                refine li_iinc 0 [(3, .int x36), (2, .int x9), (1, .int x10), (0, .ref (Z.2.2 175))] x36 dX12_things_151 rfl (by rw [ex36]; rfl) (by decide) rfl ?_
                refine li_goto 125 dX12_things_154 (by decide) ?_
                refine li_pick [0, 1, 2, 3] [(3, .int x36), (2, .int x9), (1, .int x10), (0, .ref (Z.2.2 175))] rfl ?_
                exact ih125 x36 M35 (by omega) hf hJ (by omega) (by first | exact li_cq_tr rfl (fun h9 => by omega) (by omega) Pcq_M35 | exact li_cq_bad (by omega) | exact li_cq_0 (by omega))
          have z0 : (0 : Int32).toInt = 0 := rfl
          exact L125 _ 0 M17 (Nat.lt_succ_self _) hf hJ (by omega) (by first | exact li_cq_tr rfl (fun h9 => by omega) (by omega) Pcq_M17 | exact li_cq_bad (by omega) | exact li_cq_0 (by omega))
        · skip
          refine li_if_ne 123 dX12_things_113 (by decide) (fun c => absurd rfl c) (fun c => ?_)
          refine li_iconst (-1) dX12_things_116 (by decide) ?_
          refine li_aload_n 2 dX12_things_117 rfl ?_
          refine li_geti (k := 15) (N := 52) (T := TX12) (C0 := RX12) dX12_things_118 (by decide) sh_175 rfl rfl (by decide) li_in12 w_1419 ?_
          refine li_top (fun x38 ex38 => ?_)
          have gx38 : -1 ≤ x38.toInt ∧ x38.toInt ≤ 81 := by rw [ex38]; exact J_sl15 hJ
          have mx38 : x38.toInt = (M17.1 175 15).toInt := tl_slot ex38
          refine li_isub dX12_things_121 ?_
          refine li_top (fun x39 ex39 => ?_)
          have zm1 : ((-1) : Int32).toInt = -1 := rfl
          try (have tx39 : x39.toInt = ((-1) : Int32).toInt - (x38 : Int32).toInt := tl_sub ex39 (by omega))
          exact li_iret dX12_things_122 rfl rfl ⟨⟨_, rfl⟩, hf, hJ, (by omega)⟩
      refine li_icmp_ge 109 dX12_things_98 (by decide) (fun c14 => ?_) (fun c14 => ?_)
      · have tc14 : x13.toInt ≤ x12.toInt := tl_le c14
        refine li_pick [0, 1, 2] [(2, .int x9), (1, .int x10), (0, .ref (Z.2.2 175))] rfl ?_
        exact J109  M11 hf hJ (by omega) (by first | exact li_cq_tr rfl (fun h9 => by omega) (by omega) Pcq_M11 | exact li_cq_bad (by omega) | exact li_cq_0 (by omega))
      · have tc14 : x12.toInt < x13.toInt := tl_nle c14
        refine li_aload_n 2 dX12_things_101 rfl ?_
        refine li_aload_n 2 dX12_things_102 rfl ?_
        refine li_geti (k := 14) (N := 52) (T := TX12) (C0 := RX12) dX12_things_103 (by decide) sh_175 rfl rfl (by decide) li_in12 w_1418 ?_
        refine li_top (fun x40 ex40 => ?_)
        have gx40 : 0 ≤ x40.toInt ∧ x40.toInt ≤ 81 := by rw [ex40]; exact J_sl14 hJ
        have mx40 : x40.toInt = (M11.1 175 14).toInt := tl_slot ex40
        refine li_callV (n := 1) (As := [.int x40]) dX12_things_106 (k_X12_faultW (d - 1) (by omega) x40 M11 hJ (by omega)) (by omega) (Nat.le_of_ble_eq_true rfl) w_1585 w_1587 w_44 w_112 w_1588 (by decide +kernel) rfl (by decide) sh_175 rfl rfl (Nat.le_of_ble_eq_true rfl) (fun r M42 h43 => ?_)
        obtain ⟨rfl, h43, jM42, nM42⟩ := h43
        have hf := li_fs_trans hf h43 (fun i k => fun h => Or.inr (Or.inr (Or.inr (Or.inr (Or.inr (Or.inr (Or.inr (Or.inl h))))))))
        have hJ := jM42
        have rM42_4 := J_sl4 (M := M42) hJ
        have rM42_7 := J_sl7 (M := M42) hJ
        have rM42_15 := J_sl15 (M := M42) hJ
        have mM42_4 : (M42.1 175 4).toInt = (M11.1 175 4).toInt := tl_slot (h43.1 175 4 (show ¬ ((175 = 175 ∧ 4 = 15)) by decide))
        have mM42_7 : (M42.1 175 7).toInt = (M11.1 175 7).toInt := tl_slot (h43.1 175 7 (show ¬ ((175 = 175 ∧ 7 = 15)) by decide))
        have Pcq_M42 : li_cq (M42.1 182) ((M42.1 175 15).toInt) ((x10 : Int32).toInt) := li_cq_tr (funext fun i => h43.1 182 i (show ¬ ((182 = 175 ∧ i = 15)) by omega)) (fun h9 => by omega) (by omega) Pcq_M11
        refine li_pick [0, 1, 2] [(2, .int x9), (1, .int x10), (0, .ref (Z.2.2 175))] rfl ?_
        exact J109  M42 hf hJ (by omega) (by first | exact li_cq_tr rfl (fun h9 => by omega) (by omega) Pcq_M42 | exact li_cq_bad (by omega) | exact li_cq_0 (by omega))
    have L37 : ∀ (n : Nat) (x44 : Int32) (x45 : Int32) (M46 : li_M), (10 - (x45 : Int32).toInt).toNat < n → li_fs (fun i k => i = 179 ∨ i = 182 ∨ i = 1000 ∨ (i = 175 ∧ k = 10) ∨ (i = 175 ∧ k = 12) ∨ (i = 175 ∧ k = 13) ∨ (i = 175 ∧ k = 14) ∨ (i = 175 ∧ k = 15) ∨ (i = 175 ∧ k = 23) ∨ (i = 175 ∧ k = 4) ∨ (i = 175 ∧ k = 48) ∨ (i = 175 ∧ k = 7)) M0 M46 → li_J M46 → 0 ≤ (x45 : Int32).toInt ∧ (M46.1 175 4).toInt + (x45 : Int32).toInt ≤ 9 ∧ (M46.1 175 4).toInt + (x45 : Int32).toInt ≤ 9 + (M46.1 175 15).toInt ∧ (M46.1 175 7).toInt = 0 → li_cq (M46.1 182) ((M46.1 175 15).toInt) ((x45 : Int32).toInt) → li_T l Z YX12_things d 37 [(2, .int x44), (1, .int x45), (0, .ref (Z.2.2 175))] [] M46 (fun r M' => (∃ x : Int32, r = some (.int x)) ∧ li_fs (fun i k => i = 179 ∨ i = 182 ∨ i = 1000 ∨ (i = 175 ∧ k = 10) ∨ (i = 175 ∧ k = 12) ∨ (i = 175 ∧ k = 13) ∨ (i = 175 ∧ k = 14) ∨ (i = 175 ∧ k = 15) ∨ (i = 175 ∧ k = 23) ∨ (i = 175 ∧ k = 4) ∨ (i = 175 ∧ k = 48) ∨ (i = 175 ∧ k = 7)) M0 M' ∧ li_J M' ∧ (M'.1 175 7).toInt = 0) := by
      intro n
      induction n with
      | zero => intro x44 x45 M46 hn; exact absurd hn (Nat.not_lt_zero _)
      | succ n ih37 =>
        intro x44 x45 M46 hn hf hJ hi Pcq_M46
        have gx44 := tl_rg x44
        have gx45 := tl_rg x45
        have rM46_4 := J_sl4 (M := M46) hJ
        have rM46_7 := J_sl7 (M := M46) hJ
        have rM46_15 := J_sl15 (M := M46) hJ
        refine li_iload_n 0 dX12_things_37 rfl ?_
        refine li_if_eq 90 dX12_things_38 (by decide) (fun c47 => ?_) (fun c47 => ?_)
        · have tc47 : x44.toInt = 0 := tl_eq c47
          refine li_pick [0, 1, 2] [(2, .int x44), (1, .int x45), (0, .ref (Z.2.2 175))] rfl ?_
          exact J90 x44 x45 M46 hf hJ (by omega) (by first | exact li_cq_tr rfl (fun h9 => by omega) (by omega) Pcq_M46 | exact li_cq_bad (by omega) | exact li_cq_0 (by omega))
        · have tc47 : ¬ x44.toInt = 0 := tl_ne c47
          refine li_aload_n 2 dX12_things_41 rfl ?_
          refine li_callV (n := 0) (As := []) dX12_things_42 (k_X12_fineW (d - 1) (by omega)  M46 hJ ) (by omega) (Nat.le_of_ble_eq_true rfl) w_1581 w_1583 w_43 w_112 w_1584 (by decide +kernel) rfl (by decide) sh_175 rfl rfl (Nat.le_of_ble_eq_true rfl) (fun r M49 h50 => ?_)
          obtain ⟨qx48, h50, jM49⟩ := h50
          have hf := li_fs_trans hf h50 (fun i k h => False.elim h)
          have hJ := jM49
          have rM49_4 := J_sl4 (M := M49) hJ
          have rM49_7 := J_sl7 (M := M49) hJ
          have rM49_15 := J_sl15 (M := M49) hJ
          have mM49_4 : (M49.1 175 4).toInt = (M46.1 175 4).toInt := tl_slot (h50.1 175 4 id)
          have mM49_7 : (M49.1 175 7).toInt = (M46.1 175 7).toInt := tl_slot (h50.1 175 7 id)
          have mM49_15 : (M49.1 175 15).toInt = (M46.1 175 15).toInt := tl_slot (h50.1 175 15 id)
          have Pcq_M49 : li_cq (M49.1 182) ((M49.1 175 15).toInt) ((x45 : Int32).toInt) := li_cq_tr (funext fun i => h50.1 182 i id) (fun h9 => by omega) (by omega) Pcq_M46
          rcases qx48 with ⟨rfl, qx48⟩ | ⟨rfl, qx48⟩
          · skip
            refine li_if_eq 90 dX12_things_45 (by decide) (fun c => absurd c (by decide)) (fun c => ?_)
            refine li_aload_n 2 dX12_things_48 rfl ?_
            refine li_geti (k := 4) (N := 52) (T := TX12) (C0 := RX12) dX12_things_49 (by decide) sh_175 rfl rfl (by decide) li_in12 w_1408 ?_
            refine li_top (fun x52 ex52 => ?_)
            have gx52 : 0 ≤ x52.toInt ∧ x52.toInt ≤ 8 := by rw [ex52]; exact J_sl4 hJ
            have mx52 : x52.toInt = (M49.1 175 4).toInt := tl_slot ex52
            refine li_iload_n 1 dX12_things_52 rfl ?_
            refine li_iadd dX12_things_53 ?_
            refine li_top (fun x53 ex53 => ?_)
            try (have tx53 : x53.toInt = (x52 : Int32).toInt + (x45 : Int32).toInt := tl_add ex53 (by omega))
            refine li_bipush 8 dX12_things_54 (by decide) ?_
            have J77 : ∀  (M55 : li_M), li_fs (fun i k => i = 179 ∨ i = 182 ∨ i = 1000 ∨ (i = 175 ∧ k = 10) ∨ (i = 175 ∧ k = 12) ∨ (i = 175 ∧ k = 13) ∨ (i = 175 ∧ k = 14) ∨ (i = 175 ∧ k = 15) ∨ (i = 175 ∧ k = 23) ∨ (i = 175 ∧ k = 4) ∨ (i = 175 ∧ k = 48) ∨ (i = 175 ∧ k = 7)) M0 M55 → li_J M55 → (M55.1 175 4).toInt + (x45 : Int32).toInt ≤ 8 ∧ (M55.1 175 4).toInt + (x45 : Int32).toInt ≤ 8 + (M55.1 175 15).toInt ∧ (M55.1 175 7).toInt = 0 → li_cq (M55.1 182) ((M55.1 175 15).toInt) ((x45 : Int32).toInt + 1) → li_T l Z YX12_things d 77 [(2, .int x44), (1, .int x45), (0, .ref (Z.2.2 175))] [] M55 (fun r M' => (∃ x : Int32, r = some (.int x)) ∧ li_fs (fun i k => i = 179 ∨ i = 182 ∨ i = 1000 ∨ (i = 175 ∧ k = 10) ∨ (i = 175 ∧ k = 12) ∨ (i = 175 ∧ k = 13) ∨ (i = 175 ∧ k = 14) ∨ (i = 175 ∧ k = 15) ∨ (i = 175 ∧ k = 23) ∨ (i = 175 ∧ k = 4) ∨ (i = 175 ∧ k = 48) ∨ (i = 175 ∧ k = 7)) M0 M' ∧ li_J M' ∧ (M'.1 175 7).toInt = 0) := by
              intro  M55 hf hJ hi Pcq_M55
              have rM55_4 := J_sl4 (M := M55) hJ
              have rM55_7 := J_sl7 (M := M55) hJ
              have rM55_15 := J_sl15 (M := M55) hJ
              obtain ⟨x56, ex56⟩ : ∃ y : Int32, y = x45 + 1 := ⟨_, rfl⟩
              have z1 : (1 : Int32).toInt = 1 := rfl
              try (have tx56 : x56.toInt = (x45 : Int32).toInt + (1 : Int32).toInt := tl_add ex56 (by omega))
              refine li_iinc 1 [(1, .int x56), (2, .int x44), (0, .ref (Z.2.2 175))] x56 dX12_things_77 rfl (by rw [ex56]; rfl) (by decide) rfl ?_
              refine li_aload_n 2 dX12_things_80 rfl ?_
              refine li_bipush 59 dX12_things_81 (by decide) ?_
              have z59 : (59 : Int32).toInt = 59 := rfl
              refine li_callV (n := 1) (As := [.int 59]) dX12_things_83 (k_X12_passesW (d - 1) (by omega) 59 M55 hJ (by omega)) (by omega) (Nat.le_of_ble_eq_true rfl) w_1605 w_1607 w_49 w_112 w_1608 (by decide +kernel) rfl (by decide) sh_175 rfl rfl (Nat.le_of_ble_eq_true rfl) (fun r M58 h59 => ?_)
              obtain ⟨qx57, h59, jM58⟩ := h59
              have hf := li_fs_trans hf h59 (fun i k => fun h => Or.inr (Or.inr (Or.inr (Or.inr (Or.inr (Or.inr (Or.inl h)))))))
              have hJ := jM58
              have rM58_4 := J_sl4 (M := M58) hJ
              have rM58_7 := J_sl7 (M := M58) hJ
              have rM58_15 := J_sl15 (M := M58) hJ
              have mM58_4 : (M58.1 175 4).toInt = (M55.1 175 4).toInt := tl_slot (h59.1 175 4 (show ¬ ((175 = 175 ∧ 4 = 14)) by decide))
              have mM58_7 : (M58.1 175 7).toInt = (M55.1 175 7).toInt := tl_slot (h59.1 175 7 (show ¬ ((175 = 175 ∧ 7 = 14)) by decide))
              have mM58_15 : (M58.1 175 15).toInt = (M55.1 175 15).toInt := tl_slot (h59.1 175 15 (show ¬ ((175 = 175 ∧ 15 = 14)) by decide))
              have Pcq_M58 : li_cq (M58.1 182) ((M58.1 175 15).toInt) ((x45 : Int32).toInt + 1) := li_cq_tr (funext fun i => h59.1 182 i (show ¬ ((182 = 175 ∧ i = 14)) by omega)) (fun h9 => by omega) (by omega) Pcq_M55
              rcases qx57 with ⟨rfl, qx57⟩ | ⟨rfl, qx57⟩
              · skip
                refine li_istore_n [(2, .int 1), (1, .int x56), (0, .ref (Z.2.2 175))] dX12_things_86 (by decide) rfl ?_
                refine li_goto 37 dX12_things_87 (by decide) ?_
                refine li_pick [0, 1, 2] [(2, .int 1), (1, .int x56), (0, .ref (Z.2.2 175))] rfl ?_
                have z1 : (1 : Int32).toInt = 1 := rfl
                exact ih37 1 x56 M58 (by omega) hf hJ (by omega) (by first | exact li_cq_tr rfl (fun h9 => by omega) (by omega) Pcq_M58 | exact li_cq_bad (by omega) | exact li_cq_0 (by omega))
              · skip
                refine li_istore_n [(2, .int 0), (1, .int x56), (0, .ref (Z.2.2 175))] dX12_things_86 (by decide) rfl ?_
                refine li_goto 37 dX12_things_87 (by decide) ?_
                refine li_pick [0, 1, 2] [(2, .int 0), (1, .int x56), (0, .ref (Z.2.2 175))] rfl ?_
                have z0 : (0 : Int32).toInt = 0 := rfl
                exact ih37 0 x56 M58 (by omega) hf hJ (by omega) (by first | exact li_cq_tr rfl (fun h9 => by omega) (by omega) Pcq_M58 | exact li_cq_bad (by omega) | exact li_cq_0 (by omega))
            refine li_icmp_ne 70 dX12_things_56 (by decide) (fun c54 => ?_) (fun c54 => ?_)
            · have tc54 : ¬ x53.toInt = 8 := tl_ne c54
              refine li_aload_n 2 dX12_things_70 rfl ?_
              refine li_iconst 5 dX12_things_71 (by decide) ?_
              refine li_iload_n 1 dX12_things_72 rfl ?_
              refine li_imul dX12_things_73 ?_
              refine li_top (fun x60 ex60 => ?_)
              have z5 : (5 : Int32).toInt = 5 := rfl
              try (have tx60 : x60.toInt = 5 * (x45 : Int32).toInt := tl_mul ex60 (show -2147483648 ≤ 5 * (x45 : Int32).toInt ∧ 5 * (x45 : Int32).toInt ≤ 2147483647 by omega))
              refine li_callV (n := 1) (As := [.int x60]) dX12_things_74 (k_X12_readThing (d - 1) (by omega) x60 M49 hJ (by omega)) (by omega) (Nat.le_of_ble_eq_true rfl) w_1613 w_1615 w_50 w_112 w_1616 (by decide +kernel) rfl (by decide) sh_175 rfl rfl (Nat.le_of_ble_eq_true rfl) (fun r M62 h63 => ?_)
              obtain ⟨rfl, h63, jM62, nM62⟩ := h63
              have hf := li_fs_trans hf h63 (fun i k => fun h => Or.elim h (fun h => Or.inr (Or.inl h.1)) (fun h => Or.elim h (fun h => Or.inr (Or.inr (Or.inr (Or.inr (Or.inr (Or.inr (Or.inl h))))))) (fun h => Or.inr (Or.inr (Or.inr (Or.inr (Or.inr (Or.inr (Or.inr (Or.inl h))))))))))
              have hJ := jM62
              have rM62_4 := J_sl4 (M := M62) hJ
              have rM62_7 := J_sl7 (M := M62) hJ
              have rM62_15 := J_sl15 (M := M62) hJ
              have mM62_4 : (M62.1 175 4).toInt = (M49.1 175 4).toInt := tl_slot (h63.1 175 4 (show ¬ ((175 = 182 ∧ (x60 : Int32).toInt ≤ ((4 : Nat) : Int) ∧ ((4 : Nat) : Int) < (x60 : Int32).toInt + 5) ∨ (175 = 175 ∧ 4 = 14) ∨ (175 = 175 ∧ 4 = 15)) by omega))
              have mM62_7 : (M62.1 175 7).toInt = (M49.1 175 7).toInt := tl_slot (h63.1 175 7 (show ¬ ((175 = 182 ∧ (x60 : Int32).toInt ≤ ((7 : Nat) : Int) ∧ ((7 : Nat) : Int) < (x60 : Int32).toInt + 5) ∨ (175 = 175 ∧ 7 = 14) ∨ (175 = 175 ∧ 7 = 15)) by omega))
              have Pcq_M62 : li_cq (M62.1 182) ((M62.1 175 15).toInt) ((x45 : Int32).toInt + 1) := li_cq_step h63 (fun i (h9 : (182 = 182 ∧ (x60 : Int32).toInt ≤ ((i : Nat) : Int) ∧ ((i : Nat) : Int) < (x60 : Int32).toInt + 5) ∨ (182 = 175 ∧ i = 14) ∨ (182 = 175 ∧ i = 15)) => by omega) (by omega) (by omega) nM62.2 (fun h9 => by omega) Pcq_M49
              refine li_pick [0, 1, 2] [(2, .int x44), (1, .int x45), (0, .ref (Z.2.2 175))] rfl ?_
              exact J77  M62 hf hJ (by omega) (by first | exact li_cq_tr rfl (fun h9 => by omega) (by omega) Pcq_M62 | exact li_cq_bad (by omega) | exact li_cq_0 (by omega))
            · have tc54 : x53.toInt = 8 := tl_eq c54
              refine li_aload_n 2 dX12_things_59 rfl ?_
              refine li_aload_n 2 dX12_things_60 rfl ?_
              refine li_geti (k := 14) (N := 52) (T := TX12) (C0 := RX12) dX12_things_61 (by decide) sh_175 rfl rfl (by decide) li_in12 w_1418 ?_
              refine li_top (fun x64 ex64 => ?_)
              have gx64 : 0 ≤ x64.toInt ∧ x64.toInt ≤ 81 := by rw [ex64]; exact J_sl14 hJ
              have mx64 : x64.toInt = (M49.1 175 14).toInt := tl_slot ex64
              refine li_callV (n := 1) (As := [.int x64]) dX12_things_64 (k_X12_faultW (d - 1) (by omega) x64 M49 hJ (by omega)) (by omega) (Nat.le_of_ble_eq_true rfl) w_1585 w_1587 w_44 w_112 w_1588 (by decide +kernel) rfl (by decide) sh_175 rfl rfl (Nat.le_of_ble_eq_true rfl) (fun r M66 h67 => ?_)
              obtain ⟨rfl, h67, jM66, nM66⟩ := h67
              have hf := li_fs_trans hf h67 (fun i k => fun h => Or.inr (Or.inr (Or.inr (Or.inr (Or.inr (Or.inr (Or.inr (Or.inl h))))))))
              have hJ := jM66
              have rM66_4 := J_sl4 (M := M66) hJ
              have rM66_7 := J_sl7 (M := M66) hJ
              have rM66_15 := J_sl15 (M := M66) hJ
              have mM66_4 : (M66.1 175 4).toInt = (M49.1 175 4).toInt := tl_slot (h67.1 175 4 (show ¬ ((175 = 175 ∧ 4 = 15)) by decide))
              have mM66_7 : (M66.1 175 7).toInt = (M49.1 175 7).toInt := tl_slot (h67.1 175 7 (show ¬ ((175 = 175 ∧ 7 = 15)) by decide))
              have Pcq_M66 : li_cq (M66.1 182) ((M66.1 175 15).toInt) ((x45 : Int32).toInt) := li_cq_tr (funext fun i => h67.1 182 i (show ¬ ((182 = 175 ∧ i = 15)) by omega)) (fun h9 => by omega) (by omega) Pcq_M49
              refine li_goto 77 dX12_things_67 (by decide) ?_
              refine li_pick [0, 1, 2] [(2, .int x44), (1, .int x45), (0, .ref (Z.2.2 175))] rfl ?_
              exact J77  M66 hf hJ (by omega) (by first | exact li_cq_tr rfl (fun h9 => by omega) (by omega) Pcq_M66 | exact li_cq_bad (by omega) | exact li_cq_0 (by omega))
          · skip
            refine li_if_eq 90 dX12_things_45 (by decide) (fun c => ?_) (fun c => absurd rfl c)
            refine li_pick [0, 1, 2] [(2, .int x44), (1, .int x45), (0, .ref (Z.2.2 175))] rfl ?_
            exact J90 x44 x45 M49 hf hJ (by omega) (by first | exact li_cq_tr rfl (fun h9 => by omega) (by omega) Pcq_M49 | exact li_cq_bad (by omega) | exact li_cq_0 (by omega))
    have z1 : (1 : Int32).toInt = 1 := rfl
    have z0 : (0 : Int32).toInt = 0 := rfl
    exact L37 _ 1 0 M6 (Nat.lt_succ_self _) hf hJ (by omega) (by first | exact li_cq_bad (by omega) | exact li_cq_0 (by omega))
  · have tc8 : x7.toInt = 0 := tl_eq c8
    refine li_iconst 0 dX12_things_31 (by decide) ?_
    have z0 : (0 : Int32).toInt = 0 := rfl
    exact li_iret dX12_things_32 rfl rfl ⟨⟨_, rfl⟩, hf, hJ, (by omega)⟩
set_option maxRecDepth 100000 in
set_option maxHeartbeats 4000000 in
theorem k3_X12_readWording {l : Launch} {Z : li_Z} (d : Nat) (hd : 3 ≤ d) (M0 : li_M) (hJ : li_J M0) : li_Met l Z YX12_readWording d [.ref (Z.2.2 175)] M0 (fun r M' => (∃ x : Int32, r = some (.int x) ∧ (x.toInt < 0 ∨ (x.toInt = 0 ∧ li_tp (M'.1 195) (M'.1 175 40).toInt ∧ 1 ≤ (M'.1 175 40).toInt ∧ (M'.1 175 40).toInt ≤ 14))) ∧ li_fs (fun i k => i = 195 ∨ (i = 175 ∧ k = 40) ∨ (i = 175 ∧ k = 7)) M0 M' ∧ li_J M' ∧ (M'.1 175 7).toInt = 0) := by
  refine li_enter (by decide +kernel) (Nat.le_of_ble_eq_true rfl) ?_
  show li_T l Z YX12_readWording d 0 [(0, .ref (Z.2.2 175))] [] M0 _
  have hf : li_fs (fun i k => i = 195 ∨ (i = 175 ∧ k = 40) ∨ (i = 175 ∧ k = 7)) M0 M0 := li_fs_refl
  have rM0_7 := J_sl7 (M := M0) hJ
  have rM0_40 := J_sl40 (M := M0) hJ
  refine li_aload_n 0 dX12_readWording_0 rfl ?_
  refine li_geti (k := 7) (N := 52) (T := TX12) (C0 := RX12) dX12_readWording_1 (by decide) sh_175 rfl rfl (by decide) li_in12 w_1411 ?_
  refine li_top (fun x1 ex1 => ?_)
  have gx1 : 0 ≤ x1.toInt ∧ x1.toInt ≤ 80 := by rw [ex1]; exact J_sl7 hJ
  have mx1 : x1.toInt = (M0.1 175 7).toInt := tl_slot ex1
  refine li_istore_n [(1, .int x1), (0, .ref (Z.2.2 175))] dX12_readWording_4 (by decide) rfl ?_
  refine li_aload_n 1 dX12_readWording_5 rfl ?_
  refine li_iconst 0 dX12_readWording_6 (by decide) ?_
  refine li_puti (k := 7) (N := 52) (T := TX12) (C0 := RX12) dX12_readWording_7 (by decide) sh_175 rfl rfl (by decide) li_in12 tyX12_ok nmX12 rfl rfl rfl rfl w_1411 ?_
  refine li_nm (fun M2 eM2 => ?_)
  have hf := li_fs_ui hf (Or.inr (Or.inr (⟨rfl, rfl⟩))) eM2
  have z0 : (0 : Int32).toInt = 0 := rfl
  have hJ := J_pt7 hJ (show 0 ≤ (0 : Int32).toInt ∧ (0 : Int32).toInt ≤ 80 by omega) eM2
  have rM2_7 := J_sl7 (M := M2) hJ
  have rM2_40 := J_sl40 (M := M2) hJ
  have mM2_7 : (M2.1 175 7).toInt = 0 := by rw [eM2, li_ui_at, if_pos rfl, if_pos rfl]; rfl
  have mM2_40 : (M2.1 175 40).toInt = (M0.1 175 40).toInt := by rw [eM2, li_ui_at, if_pos rfl, if_neg (by decide)]
  refine li_iconst 0 dX12_readWording_10 (by decide) ?_
  refine li_istore_n [(2, .int 0), (1, .int x1), (0, .ref (Z.2.2 175))] dX12_readWording_11 (by decide) rfl ?_
  have L12 : ∀ (n : Nat) (x3 : Int32) (M4 : li_M), (15 - (x3 : Int32).toInt).toNat < n → li_fs (fun i k => i = 195 ∨ (i = 175 ∧ k = 40) ∨ (i = 175 ∧ k = 7)) M0 M4 → li_J M4 → 0 ≤ (x3 : Int32).toInt ∧ (x3 : Int32).toInt ≤ 14 ∧ (M4.1 175 7).toInt = 0 → li_T l Z YX12_readWording d 12 [(2, .int x3), (1, .int x1), (0, .ref (Z.2.2 175))] [] M4 (fun r M' => (∃ x : Int32, r = some (.int x) ∧ (x.toInt < 0 ∨ (x.toInt = 0 ∧ li_tp (M'.1 195) (M'.1 175 40).toInt ∧ 1 ≤ (M'.1 175 40).toInt ∧ (M'.1 175 40).toInt ≤ 14))) ∧ li_fs (fun i k => i = 195 ∨ (i = 175 ∧ k = 40) ∨ (i = 175 ∧ k = 7)) M0 M' ∧ li_J M' ∧ (M'.1 175 7).toInt = 0) := by
    intro n
    induction n with
    | zero => intro x3 M4 hn; exact absurd hn (Nat.not_lt_zero _)
    | succ n ih12 =>
      intro x3 M4 hn hf hJ hi
      have gx3 := tl_rg x3
      have rM4_7 := J_sl7 (M := M4) hJ
      have rM4_40 := J_sl40 (M := M4) hJ
      refine li_iload_n 0 dX12_readWording_12 rfl ?_
      refine li_iload_n 1 dX12_readWording_13 rfl ?_
      refine li_icmp_ge 49 dX12_readWording_14 (by decide) (fun c5 => ?_) (fun c5 => ?_)
      · have tc5 : x1.toInt ≤ x3.toInt := tl_le c5
        refine li_iload_n 1 dX12_readWording_49 rfl ?_
        refine li_if_ne 55 dX12_readWording_50 (by decide) (fun c6 => ?_) (fun c6 => ?_)
        · have tc6 : ¬ x1.toInt = 0 := tl_ne c6
          refine li_aload_n 2 dX12_readWording_55 rfl ?_
          refine li_iload_n 1 dX12_readWording_56 rfl ?_
          refine li_puti (k := 40) (N := 52) (T := TX12) (C0 := RX12) dX12_readWording_57 (by decide) sh_175 rfl rfl (by decide) li_in12 tyX12_ok nmX12 rfl rfl rfl rfl w_1444 ?_
          refine li_nm (fun M7 eM7 => ?_)
          have hf := li_fs_ui hf (Or.inr (Or.inl ⟨rfl, rfl⟩)) eM7
          have hJ := J_pt40 hJ (show 0 ≤ (x1 : Int32).toInt ∧ (x1 : Int32).toInt ≤ 14 by omega) eM7
          have rM7_7 := J_sl7 (M := M7) hJ
          have rM7_40 := J_sl40 (M := M7) hJ
          have mM7_7 : (M7.1 175 7).toInt = (M4.1 175 7).toInt := by rw [eM7, li_ui_at, if_pos rfl, if_neg (by decide)]
          have mM7_40 : (M7.1 175 40).toInt = x1.toInt := by rw [eM7, li_ui_at, if_pos rfl, if_pos rfl]
          refine li_bipush 15 dX12_readWording_60 (by decide) ?_
          refine li_istore_n [(2, .int 15), (1, .int x1), (0, .ref (Z.2.2 175))] dX12_readWording_62 (by decide) rfl ?_
          refine li_iconst 1 dX12_readWording_63 (by decide) ?_
          refine li_istore_n [(3, .int 1), (2, .int 15), (1, .int x1), (0, .ref (Z.2.2 175))] dX12_readWording_64 (by decide) rfl ?_
          have L65 : ∀ (n : Nat) (x8 : Int32) (M9 : li_M), (16 - (x8 : Int32).toInt).toNat < n → li_fs (fun i k => i = 195 ∨ (i = 175 ∧ k = 40) ∨ (i = 175 ∧ k = 7)) M0 M9 → li_J M9 → 1 ≤ (x8 : Int32).toInt ∧ (x8 : Int32).toInt ≤ (x1 : Int32).toInt + 1 ∧ (M9.1 175 40).toInt = (x1 : Int32).toInt ∧ (M9.1 175 7).toInt = 0 → li_tq (M9.1 195) ((x8 : Int32).toInt) (0) ((x1 : Int32).toInt) → li_T l Z YX12_readWording d 65 [(3, .int x8), (2, .int 15), (1, .int x1), (0, .ref (Z.2.2 175))] [] M9 (fun r M' => (∃ x : Int32, r = some (.int x) ∧ (x.toInt < 0 ∨ (x.toInt = 0 ∧ li_tp (M'.1 195) (M'.1 175 40).toInt ∧ 1 ≤ (M'.1 175 40).toInt ∧ (M'.1 175 40).toInt ≤ 14))) ∧ li_fs (fun i k => i = 195 ∨ (i = 175 ∧ k = 40) ∨ (i = 175 ∧ k = 7)) M0 M' ∧ li_J M' ∧ (M'.1 175 7).toInt = 0) := by
            intro n
            induction n with
            | zero => intro x8 M9 hn; exact absurd hn (Nat.not_lt_zero _)
            | succ n ih65 =>
              intro x8 M9 hn hf hJ hi Ptq_M9
              have gx8 := tl_rg x8
              have rM9_7 := J_sl7 (M := M9) hJ
              have rM9_40 := J_sl40 (M := M9) hJ
              refine li_iload_n 0 dX12_readWording_65 rfl ?_
              refine li_iload_n 2 dX12_readWording_66 rfl ?_
              refine li_icmp_gt 188 dX12_readWording_67 (by decide) (fun c10 => ?_) (fun c10 => ?_)
              · have tc10 : x1.toInt < x8.toInt := tl_lt c10
                refine li_iconst 0 dX12_readWording_188 (by decide) ?_
                have z0 : (0 : Int32).toInt = 0 := rfl
                exact li_iret dX12_readWording_189 rfl rfl ⟨⟨_, rfl, (by first | exact Or.inl (by omega) | exact Or.inr ⟨by omega, li_tp_tr rfl (by omega) (li_tq_end Ptq_M9 (by omega)), by omega, by omega⟩)⟩, hf, hJ, (by omega)⟩
              · have tc10 : x8.toInt ≤ x1.toInt := tl_nlt c10
                refine li_iconst 0 dX12_readWording_70 (by decide) ?_
                refine li_istore [(4, .int 0), (3, .int x8), (2, .int 15), (1, .int x1), (0, .ref (Z.2.2 175))] dX12_readWording_71 (by decide) rfl ?_
                have L73 : ∀ (n : Nat) (x11 : Int32) (M12 : li_M), (15 - (x11 : Int32).toInt).toNat < n → li_fs (fun i k => i = 195 ∨ (i = 175 ∧ k = 40) ∨ (i = 175 ∧ k = 7)) M0 M12 → li_J M12 → 0 ≤ (x11 : Int32).toInt ∧ (x11 : Int32).toInt ≤ 14 ∧ (M12.1 175 40).toInt = (x1 : Int32).toInt ∧ (M12.1 175 7).toInt = 0 → li_tq (M12.1 195) ((x8 : Int32).toInt) ((x11 : Int32).toInt) ((x1 : Int32).toInt) → li_T l Z YX12_readWording d 73 [(4, .int x11), (3, .int x8), (2, .int 15), (1, .int x1), (0, .ref (Z.2.2 175))] [] M12 (fun r M' => (∃ x : Int32, r = some (.int x) ∧ (x.toInt < 0 ∨ (x.toInt = 0 ∧ li_tp (M'.1 195) (M'.1 175 40).toInt ∧ 1 ≤ (M'.1 175 40).toInt ∧ (M'.1 175 40).toInt ≤ 14))) ∧ li_fs (fun i k => i = 195 ∨ (i = 175 ∧ k = 40) ∨ (i = 175 ∧ k = 7)) M0 M' ∧ li_J M' ∧ (M'.1 175 7).toInt = 0) := by
                  intro n
                  induction n with
                  | zero => intro x11 M12 hn; exact absurd hn (Nat.not_lt_zero _)
                  | succ n ih73 =>
                    intro x11 M12 hn hf hJ hi Ptq_M12
                    have gx11 := tl_rg x11
                    have rM12_7 := J_sl7 (M := M12) hJ
                    have rM12_40 := J_sl40 (M := M12) hJ
                    refine li_iload 0 dX12_readWording_73 rfl ?_
                    refine li_iload_n 1 dX12_readWording_75 rfl ?_
                    refine li_iadd dX12_readWording_76 ?_
                    refine li_top (fun x13 ex13 => ?_)
                    try (have tx13 : x13.toInt = (x11 : Int32).toInt + (x8 : Int32).toInt := tl_add ex13 (by omega))
                    refine li_iload_n 3 dX12_readWording_77 rfl ?_
                    refine li_icmp_gt 182 dX12_readWording_78 (by decide) (fun c14 => ?_) (fun c14 => ?_)
                    · have tc14 : x1.toInt < x13.toInt := tl_lt c14
                      obtain ⟨x15, ex15⟩ : ∃ y : Int32, y = x8 + 1 := ⟨_, rfl⟩
                      have z1 : (1 : Int32).toInt = 1 := rfl
                      try (have tx15 : x15.toInt = (x8 : Int32).toInt + (1 : Int32).toInt := tl_add ex15 (by omega))
                      refine li_iinc 1 [(3, .int x15), (4, .int x11), (2, .int 15), (1, .int x1), (0, .ref (Z.2.2 175))] x15 dX12_readWording_182 rfl (by rw [ex15]; rfl) (by decide) rfl ?_
                      refine li_goto 65 dX12_readWording_185 (by decide) ?_
                      refine li_pick [0, 2, 3, 4] [(3, .int x15), (2, .int 15), (1, .int x1), (0, .ref (Z.2.2 175))] rfl ?_
                      exact ih65 x15 M12 (by omega) hf hJ (by omega) (by first | exact li_tq_tr rfl (by omega) (by omega) (by omega) Ptq_M12 | exact li_tq_next Ptq_M12 (by omega) (by omega) (by omega) (by omega) | exact li_tq_0 (by omega) (by omega))
                    · have tc14 : x13.toInt ≤ x1.toInt := tl_nlt c14
                      refine li_iload_n 1 dX12_readWording_81 rfl ?_
                      refine li_iconst 1 dX12_readWording_82 (by decide) ?_
                      have J102 : ∀ (x17 : Int32) (M18 : li_M), li_fs (fun i k => i = 195 ∨ (i = 175 ∧ k = 40) ∨ (i = 175 ∧ k = 7)) M0 M18 → li_J M18 → ((x8 : Int32).toInt = 1 → ¬ (x17 : Int32).toInt = 0) ∧ (M18.1 175 40).toInt = (x1 : Int32).toInt ∧ (M18.1 175 7).toInt = 0 → li_tq (M18.1 195) ((x8 : Int32).toInt) ((x11 : Int32).toInt) ((x1 : Int32).toInt) → li_T l Z YX12_readWording d 102 [(4, .int x11), (3, .int x8), (2, .int 15), (1, .int x1), (0, .ref (Z.2.2 175))] [.int x17] M18 (fun r M' => (∃ x : Int32, r = some (.int x) ∧ (x.toInt < 0 ∨ (x.toInt = 0 ∧ li_tp (M'.1 195) (M'.1 175 40).toInt ∧ 1 ≤ (M'.1 175 40).toInt ∧ (M'.1 175 40).toInt ≤ 14))) ∧ li_fs (fun i k => i = 195 ∨ (i = 175 ∧ k = 40) ∨ (i = 175 ∧ k = 7)) M0 M' ∧ li_J M' ∧ (M'.1 175 7).toInt = 0) := by
                        intro x17 M18 hf hJ hi Ptq_M18
                        have gx17 := tl_rg x17
                        have rM18_7 := J_sl7 (M := M18) hJ
                        have rM18_40 := J_sl40 (M := M18) hJ
                        refine li_istore [(5, .int x17), (4, .int x11), (3, .int x8), (2, .int 15), (1, .int x1), (0, .ref (Z.2.2 175))] dX12_readWording_102 (by decide) rfl ?_
                        refine li_iconst 1 dX12_readWording_104 (by decide) ?_
                        refine li_istore [(6, .int 1), (5, .int x17), (4, .int x11), (3, .int x8), (2, .int 15), (1, .int x1), (0, .ref (Z.2.2 175))] dX12_readWording_105 (by decide) rfl ?_
                        have L107 : ∀ (n : Nat) (x19 : Int32) (x20 : Int32) (M21 : li_M), (15 - (x19 : Int32).toInt).toNat < n → li_fs (fun i k => i = 195 ∨ (i = 175 ∧ k = 40) ∨ (i = 175 ∧ k = 7)) M0 M21 → li_J M21 → 1 ≤ (x19 : Int32).toInt ∧ ((x8 : Int32).toInt = 1 → ¬ (x20 : Int32).toInt = 0) ∧ (M21.1 175 40).toInt = (x1 : Int32).toInt ∧ (M21.1 175 7).toInt = 0 → li_tq (M21.1 195) ((x8 : Int32).toInt) ((x11 : Int32).toInt) ((x1 : Int32).toInt) → li_T l Z YX12_readWording d 107 [(6, .int x19), (5, .int x20), (4, .int x11), (3, .int x8), (2, .int 15), (1, .int x1), (0, .ref (Z.2.2 175))] [] M21 (fun r M' => (∃ x : Int32, r = some (.int x) ∧ (x.toInt < 0 ∨ (x.toInt = 0 ∧ li_tp (M'.1 195) (M'.1 175 40).toInt ∧ 1 ≤ (M'.1 175 40).toInt ∧ (M'.1 175 40).toInt ≤ 14))) ∧ li_fs (fun i k => i = 195 ∨ (i = 175 ∧ k = 40) ∨ (i = 175 ∧ k = 7)) M0 M' ∧ li_J M' ∧ (M'.1 175 7).toInt = 0) := by
                          intro n
                          induction n with
                          | zero => intro x19 x20 M21 hn; exact absurd hn (Nat.not_lt_zero _)
                          | succ n ih107 =>
                            intro x19 x20 M21 hn hf hJ hi Ptq_M21
                            have gx19 := tl_rg x19
                            have gx20 := tl_rg x20
                            have rM21_7 := J_sl7 (M := M21) hJ
                            have rM21_40 := J_sl40 (M := M21) hJ
                            refine li_iload 0 dX12_readWording_107 rfl ?_
                            refine li_iload_n 3 dX12_readWording_109 rfl ?_
                            refine li_icmp_ge 160 dX12_readWording_110 (by decide) (fun c22 => ?_) (fun c22 => ?_)
                            · have tc22 : x8.toInt ≤ x19.toInt := tl_le c22
                              refine li_aload_n 6 dX12_readWording_160 rfl ?_
                              refine li_getr (k := 39) (N := 52) (T := TX12) (C0 := RX12) dX12_readWording_161 (by decide) sh_175 rfl rfl (by decide) (by decide) li_in12 w_1443 ?_
                              refine li_iload_n 4 dX12_readWording_164 rfl ?_
                              refine li_iload 2 dX12_readWording_165 rfl ?_
                              refine li_imul dX12_readWording_167 ?_
                              refine li_top (fun x23 ex23 => ?_)
                              have z15 : (15 : Int32).toInt = 15 := rfl
                              try (have tx23 : x23.toInt = 15 * (x11 : Int32).toInt := tl_mul ex23 (show -2147483648 ≤ 15 * (x11 : Int32).toInt ∧ 15 * (x11 : Int32).toInt ≤ 2147483647 by omega))
                              refine li_iload 2 dX12_readWording_168 rfl ?_
                              refine li_iadd dX12_readWording_170 ?_
                              refine li_top (fun x24 ex24 => ?_)
                              try (have tx24 : x24.toInt = (x23 : Int32).toInt + (x11 : Int32).toInt := tl_add ex24 (by omega))
                              refine li_iload_n 3 dX12_readWording_171 rfl ?_
                              refine li_iadd dX12_readWording_172 ?_
                              refine li_top (fun x25 ex25 => ?_)
                              try (have tx25 : x25.toInt = (x24 : Int32).toInt + (x8 : Int32).toInt := tl_add ex25 (by omega))
                              refine li_iload 1 dX12_readWording_173 rfl ?_
                              refine li_iast dX12_readWording_175 (by decide) sh_195 (tl_in (by omega)) ?_
                              refine li_nm (fun M26 eM26 => ?_)
                              have hf := li_fs_ui hf (Or.inl rfl) eM26
                              have hJ := hJ.st (by decide) (li_el_free (by unfold li_led; omega) (by decide) (by decide) (by unfold li_rq; omega)) eM26
                              have rM26_7 := J_sl7 (M := M26) hJ
                              have rM26_40 := J_sl40 (M := M26) hJ
                              have mM26_7 : (M26.1 175 7).toInt = (M21.1 175 7).toInt := by rw [eM26, li_ui_at, if_neg (by decide)]
                              have mM26_40 : (M26.1 175 40).toInt = (M21.1 175 40).toInt := by rw [eM26, li_ui_at, if_neg (by decide)]
                              have Ptq_M26 : li_tq (M26.1 195) ((x8 : Int32).toInt) ((x11 : Int32).toInt + 1) ((x1 : Int32).toInt) := li_tq_st eM26 (by omega) (by omega) (by omega) (fun h9 => by omega) Ptq_M21
                              obtain ⟨x27, ex27⟩ : ∃ y : Int32, y = x11 + 1 := ⟨_, rfl⟩
                              have z1 : (1 : Int32).toInt = 1 := rfl
                              try (have tx27 : x27.toInt = (x11 : Int32).toInt + (1 : Int32).toInt := tl_add ex27 (by omega))
                              refine li_iinc 2 [(4, .int x27), (6, .int x19), (5, .int x20), (3, .int x8), (2, .int 15), (1, .int x1), (0, .ref (Z.2.2 175))] x27 dX12_readWording_176 rfl (by rw [ex27]; rfl) (by decide) rfl ?_
                              refine li_goto 73 dX12_readWording_179 (by decide) ?_
                              refine li_pick [0, 3, 4, 5, 6] [(4, .int x27), (3, .int x8), (2, .int 15), (1, .int x1), (0, .ref (Z.2.2 175))] rfl ?_
                              exact ih73 x27 M26 (by omega) hf hJ (by omega) (by first | exact li_tq_tr rfl (by omega) (by omega) (by omega) Ptq_M26 | exact li_tq_next Ptq_M26 (by omega) (by omega) (by omega) (by omega) | exact li_tq_0 (by omega) (by omega))
                            · have tc22 : x19.toInt < x8.toInt := tl_nle c22
                              refine li_iload 1 dX12_readWording_113 rfl ?_
                              refine li_aload_n 6 dX12_readWording_115 rfl ?_
                              refine li_aload_n 6 dX12_readWording_116 rfl ?_
                              refine li_getr (k := 39) (N := 52) (T := TX12) (C0 := RX12) dX12_readWording_117 (by decide) sh_175 rfl rfl (by decide) (by decide) li_in12 w_1443 ?_
                              refine li_iload_n 4 dX12_readWording_120 rfl ?_
                              refine li_iload 2 dX12_readWording_121 rfl ?_
                              refine li_imul dX12_readWording_123 ?_
                              refine li_top (fun x28 ex28 => ?_)
                              have z15 : (15 : Int32).toInt = 15 := rfl
                              try (have tx28 : x28.toInt = 15 * (x11 : Int32).toInt := tl_mul ex28 (show -2147483648 ≤ 15 * (x11 : Int32).toInt ∧ 15 * (x11 : Int32).toInt ≤ 2147483647 by omega))
                              refine li_iload 2 dX12_readWording_124 rfl ?_
                              refine li_iadd dX12_readWording_126 ?_
                              refine li_top (fun x29 ex29 => ?_)
                              try (have tx29 : x29.toInt = (x28 : Int32).toInt + (x11 : Int32).toInt := tl_add ex29 (by omega))
                              refine li_iload 0 dX12_readWording_127 rfl ?_
                              refine li_iadd dX12_readWording_129 ?_
                              refine li_top (fun x30 ex30 => ?_)
                              try (have tx30 : x30.toInt = (x29 : Int32).toInt + (x19 : Int32).toInt := tl_add ex30 (by omega))
                              refine li_iald dX12_readWording_130 (by decide) sh_195 (tl_in (by omega)) ?_
                              refine li_top (fun x31 ex31 => ?_)
                              have gx31 := tl_rg x31
                              refine li_aload_n 6 dX12_readWording_131 rfl ?_
                              refine li_getr (k := 39) (N := 52) (T := TX12) (C0 := RX12) dX12_readWording_132 (by decide) sh_175 rfl rfl (by decide) (by decide) li_in12 w_1443 ?_
                              refine li_iload_n 4 dX12_readWording_135 rfl ?_
                              refine li_iload 2 dX12_readWording_136 rfl ?_
                              refine li_iload 0 dX12_readWording_138 rfl ?_
                              refine li_iadd dX12_readWording_140 ?_
                              refine li_top (fun x32 ex32 => ?_)
                              try (have tx32 : x32.toInt = (x11 : Int32).toInt + (x19 : Int32).toInt := tl_add ex32 (by omega))
                              refine li_imul dX12_readWording_141 ?_
                              refine li_top (fun x33 ex33 => ?_)
                              have z15 : (15 : Int32).toInt = 15 := rfl
                              try (have tx33 : x33.toInt = 15 * (x32 : Int32).toInt := tl_mul ex33 (show -2147483648 ≤ 15 * (x32 : Int32).toInt ∧ 15 * (x32 : Int32).toInt ≤ 2147483647 by omega))
                              refine li_iload 2 dX12_readWording_142 rfl ?_
                              refine li_iadd dX12_readWording_144 ?_
                              refine li_top (fun x34 ex34 => ?_)
                              try (have tx34 : x34.toInt = (x33 : Int32).toInt + (x11 : Int32).toInt := tl_add ex34 (by omega))
                              refine li_iload_n 3 dX12_readWording_145 rfl ?_
                              refine li_iadd dX12_readWording_146 ?_
                              refine li_top (fun x35 ex35 => ?_)
                              try (have tx35 : x35.toInt = (x34 : Int32).toInt + (x8 : Int32).toInt := tl_add ex35 (by omega))
                              refine li_iald dX12_readWording_147 (by decide) sh_195 (tl_in (by omega)) ?_
                              refine li_top (fun x36 ex36 => ?_)
                              have gx36 := tl_rg x36
                              refine li_callV (n := 2) (As := [.int x31, .int x36]) dX12_readWording_148 (k_X12_joined (d - 1) (by omega) x31 x36 M21 hJ ) (by omega) (Nat.le_of_ble_eq_true rfl) w_1910 w_1912 w_94 w_112 w_1913 (by decide +kernel) rfl (by decide) sh_175 rfl rfl (Nat.le_of_ble_eq_true rfl) (fun r M38 h39 => ?_)
                              obtain ⟨⟨x37, rfl⟩, h39, jM38⟩ := h39
                              have gx37 := tl_rg x37
                              have hf := li_fs_trans hf h39 (fun i k h => False.elim h)
                              have hJ := jM38
                              have rM38_7 := J_sl7 (M := M38) hJ
                              have rM38_40 := J_sl40 (M := M38) hJ
                              have mM38_7 : (M38.1 175 7).toInt = (M21.1 175 7).toInt := tl_slot (h39.1 175 7 id)
                              have mM38_40 : (M38.1 175 40).toInt = (M21.1 175 40).toInt := tl_slot (h39.1 175 40 id)
                              have Ptq_M38 : li_tq (M38.1 195) ((x8 : Int32).toInt) ((x11 : Int32).toInt) ((x1 : Int32).toInt) := li_tq_tr (funext fun i => h39.1 195 i id) (by omega) (by omega) (by omega) Ptq_M21
                              refine li_ior dX12_readWording_151 ?_
                              refine li_top (fun x40 ex40 => ?_)
                              try (have tx40 := tl_or255 ex40 (by omega) (by omega))
                              refine li_istore [(5, .int x40), (6, .int x19), (4, .int x11), (3, .int x8), (2, .int 15), (1, .int x1), (0, .ref (Z.2.2 175))] dX12_readWording_152 (by decide) rfl ?_
                              obtain ⟨x41, ex41⟩ : ∃ y : Int32, y = x19 + 1 := ⟨_, rfl⟩
                              have z1 : (1 : Int32).toInt = 1 := rfl
                              try (have tx41 : x41.toInt = (x19 : Int32).toInt + (1 : Int32).toInt := tl_add ex41 (by omega))
                              refine li_iinc 1 [(6, .int x41), (5, .int x40), (4, .int x11), (3, .int x8), (2, .int 15), (1, .int x1), (0, .ref (Z.2.2 175))] x41 dX12_readWording_154 rfl (by rw [ex41]; rfl) (by decide) rfl ?_
                              refine li_goto 107 dX12_readWording_157 (by decide) ?_
                              refine li_pick [0, 1, 2, 3, 4, 5, 6] [(6, .int x41), (5, .int x40), (4, .int x11), (3, .int x8), (2, .int 15), (1, .int x1), (0, .ref (Z.2.2 175))] rfl ?_
                              exact ih107 x41 x40 M38 (by omega) hf hJ (by omega) (by first | exact li_tq_tr rfl (by omega) (by omega) (by omega) Ptq_M38 | exact li_tq_next Ptq_M38 (by omega) (by omega) (by omega) (by omega) | exact li_tq_0 (by omega) (by omega))
                        have z1 : (1 : Int32).toInt = 1 := rfl
                        exact L107 _ 1 x17 M18 (Nat.lt_succ_self _) hf hJ (by omega) (by first | exact li_tq_tr rfl (by omega) (by omega) (by omega) Ptq_M18 | exact li_tq_next Ptq_M18 (by omega) (by omega) (by omega) (by omega) | exact li_tq_0 (by omega) (by omega))
                      refine li_icmp_ne 101 dX12_readWording_83 (by decide) (fun c16 => ?_) (fun c16 => ?_)
                      · have tc16 : ¬ x8.toInt = 1 := tl_ne c16
                        refine li_iconst 0 dX12_readWording_101 (by decide) ?_
                        refine li_pick [0, 1, 2, 3, 4] [(4, .int x11), (3, .int x8), (2, .int 15), (1, .int x1), (0, .ref (Z.2.2 175))] rfl ?_
                        have z0 : (0 : Int32).toInt = 0 := rfl
                        exact J102 0 M12 hf hJ (by omega) (by first | exact li_tq_tr rfl (by omega) (by omega) (by omega) Ptq_M12 | exact li_tq_next Ptq_M12 (by omega) (by omega) (by omega) (by omega) | exact li_tq_0 (by omega) (by omega))
                      · have tc16 : x8.toInt = 1 := tl_eq c16
                        refine li_iconst 1 dX12_readWording_86 (by decide) ?_
                        refine li_aload_n 4 dX12_readWording_87 rfl ?_
                        refine li_getr (k := 6) (N := 52) (T := TX12) (C0 := RX12) dX12_readWording_88 (by decide) sh_175 rfl rfl (by decide) (by decide) li_in12 w_1410 ?_
                        refine li_iload 0 dX12_readWording_91 rfl ?_
                        refine li_bald dX12_readWording_93 (by decide) sh_180 (tl_in (by omega)) ?_
                        refine li_top (fun x42 ex42 => ?_)
                        have gx42 := tl_rg x42
                        refine li_bipush 97 dX12_readWording_94 (by decide) ?_
                        refine li_isub dX12_readWording_96 ?_
                        refine li_top (fun x43 ex43 => ?_)
                        have z97 : (97 : Int32).toInt = 97 := rfl
                        try (have tx43 : x43.toInt = (x42 : Int32).toInt - (97 : Int32).toInt := tl_sub ex43 (by omega))
                        refine li_ishl dX12_readWording_97 ?_
                        refine li_top (fun x44 ex44 => ?_)
                        have z1 : (1 : Int32).toInt = 1 := rfl
                        have nx44 := tl_shlnz ex44
                        try (have tx44 := tl_shl255 ex44 (by omega))
                        refine li_goto 102 dX12_readWording_98 (by decide) ?_
                        refine li_pick [0, 1, 2, 3, 4] [(4, .int x11), (3, .int x8), (2, .int 15), (1, .int x1), (0, .ref (Z.2.2 175))] rfl ?_
                        exact J102 x44 M12 hf hJ (by omega) (by first | exact li_tq_tr rfl (by omega) (by omega) (by omega) Ptq_M12 | exact li_tq_next Ptq_M12 (by omega) (by omega) (by omega) (by omega) | exact li_tq_0 (by omega) (by omega))
                have z0 : (0 : Int32).toInt = 0 := rfl
                exact L73 _ 0 M9 (Nat.lt_succ_self _) hf hJ (by omega) (by first | exact li_tq_tr rfl (by omega) (by omega) (by omega) Ptq_M9 | exact li_tq_next Ptq_M9 (by omega) (by omega) (by omega) (by omega) | exact li_tq_0 (by omega) (by omega))
          have z1 : (1 : Int32).toInt = 1 := rfl
          exact L65 _ 1 M7 (Nat.lt_succ_self _) hf hJ (by omega) (by first | exact li_tq_next Ptq_M7 (by omega) (by omega) (by omega) (by omega) | exact li_tq_0 (by omega) (by omega))
        · have tc6 : x1.toInt = 0 := tl_eq c6
          refine li_iconst (-1) dX12_readWording_53 (by decide) ?_
          have zm1 : ((-1) : Int32).toInt = -1 := rfl
          exact li_iret dX12_readWording_54 rfl rfl ⟨⟨_, rfl, (by first | exact Or.inl (by omega) | exact Or.inr ⟨by omega, li_tp_tr rfl (by omega) (li_tq_end Ptq_M4 (by omega)), by omega, by omega⟩)⟩, hf, hJ, (by omega)⟩
      · have tc5 : x3.toInt < x1.toInt := tl_nle c5
        refine li_iload_n 0 dX12_readWording_17 rfl ?_
        refine li_bipush 14 dX12_readWording_18 (by decide) ?_
        refine li_icmp_eq 39 dX12_readWording_20 (by decide) (fun c45 => ?_) (fun c45 => ?_)
        · have tc45 : x3.toInt = 14 := tl_eq c45
          refine li_iconst (-1) dX12_readWording_39 (by decide) ?_
          refine li_iload_n 0 dX12_readWording_40 rfl ?_
          refine li_isub dX12_readWording_41 ?_
          refine li_top (fun x46 ex46 => ?_)
          have zm1 : ((-1) : Int32).toInt = -1 := rfl
          try (have tx46 : x46.toInt = ((-1) : Int32).toInt - (x3 : Int32).toInt := tl_sub ex46 (by omega))
          exact li_iret dX12_readWording_42 rfl rfl ⟨⟨_, rfl, (by first | exact Or.inl (by omega) | exact Or.inr ⟨by omega, li_tp_tr rfl (by omega) (li_tq_end Ptq_M4 (by omega)), by omega, by omega⟩)⟩, hf, hJ, (by omega)⟩
        · have tc45 : ¬ x3.toInt = 14 := tl_ne c45
          refine li_aload_n 2 dX12_readWording_23 rfl ?_
          refine li_getr (k := 6) (N := 52) (T := TX12) (C0 := RX12) dX12_readWording_24 (by decide) sh_175 rfl rfl (by decide) (by decide) li_in12 w_1410 ?_
          refine li_iload_n 0 dX12_readWording_27 rfl ?_
          refine li_bald dX12_readWording_28 (by decide) sh_180 (tl_in (by omega)) ?_
          refine li_top (fun x47 ex47 => ?_)
          have gx47 := tl_rg x47
          refine li_bipush 97 dX12_readWording_29 (by decide) ?_
          refine li_bipush 103 dX12_readWording_31 (by decide) ?_
          have z97 : (97 : Int32).toInt = 97 := rfl
          have z103 : (103 : Int32).toInt = 103 := rfl
          refine li_callS (n := 3) (As := [.int x47, .int 97, .int 103]) dX12_readWording_33 (k_X12_in (d - 1) (by omega) x47 97 103 M4 hJ ) (by omega) (Nat.le_of_ble_eq_true rfl) w_1570 w_1571 w_112 w_1572 (by decide +kernel) rfl rfl (Nat.le_of_ble_eq_true rfl) (fun r M49 h50 => ?_)
          obtain ⟨qx48, h50, jM49⟩ := h50
          have hf := li_fs_trans hf h50 (fun i k h => False.elim h)
          have hJ := jM49
          have rM49_7 := J_sl7 (M := M49) hJ
          have rM49_40 := J_sl40 (M := M49) hJ
          have mM49_7 : (M49.1 175 7).toInt = (M4.1 175 7).toInt := tl_slot (h50.1 175 7 id)
          have mM49_40 : (M49.1 175 40).toInt = (M4.1 175 40).toInt := tl_slot (h50.1 175 40 id)
          rcases qx48 with ⟨rfl, qx48⟩ | ⟨rfl, qx48⟩
          · skip
            refine li_if_ne 43 dX12_readWording_36 (by decide) (fun c => ?_) (fun c => absurd c (by decide))
            obtain ⟨x52, ex52⟩ : ∃ y : Int32, y = x3 + 1 := ⟨_, rfl⟩
            have z1 : (1 : Int32).toInt = 1 := rfl
            try (have tx52 : x52.toInt = (x3 : Int32).toInt + (1 : Int32).toInt := tl_add ex52 (by omega))
            refine li_iinc 0 [(2, .int x52), (1, .int x1), (0, .ref (Z.2.2 175))] x52 dX12_readWording_43 rfl (by rw [ex52]; rfl) (by decide) rfl ?_
            refine li_goto 12 dX12_readWording_46 (by decide) ?_
            refine li_pick [0, 1, 2] [(2, .int x52), (1, .int x1), (0, .ref (Z.2.2 175))] rfl ?_
            exact ih12 x52 M49 (by omega) hf hJ (by omega)
          · skip
            refine li_if_ne 43 dX12_readWording_36 (by decide) (fun c => absurd rfl c) (fun c => ?_)
            refine li_iconst (-1) dX12_readWording_39 (by decide) ?_
            refine li_iload_n 0 dX12_readWording_40 rfl ?_
            refine li_isub dX12_readWording_41 ?_
            refine li_top (fun x54 ex54 => ?_)
            have zm1 : ((-1) : Int32).toInt = -1 := rfl
            try (have tx54 : x54.toInt = ((-1) : Int32).toInt - (x3 : Int32).toInt := tl_sub ex54 (by omega))
            exact li_iret dX12_readWording_42 rfl rfl ⟨⟨_, rfl, (by first | exact Or.inl (by omega) | exact Or.inr ⟨by omega, li_tp_tr rfl (by omega) (li_tq_end Ptq_M49 (by omega)), by omega, by omega⟩)⟩, hf, hJ, (by omega)⟩
  have z0 : (0 : Int32).toInt = 0 := rfl
  exact L12 _ 0 M2 (Nat.lt_succ_self _) hf hJ (by omega)
set_option maxRecDepth 100000 in
set_option maxHeartbeats 4000000 in
theorem k3_X12_becomes {l : Launch} {Z : li_Z} (d : Nat) (hd : 4 ≤ d) (M0 : li_M) (hJ : li_J M0) : li_Met l Z YX12_becomes d [.ref (Z.2.2 175)] M0 (fun r M' => (∃ x : Int32, r = some (.int x)) ∧ li_fs (fun i k => i = 195 ∨ (i = 175 ∧ k = 10) ∨ (i = 175 ∧ k = 40) ∨ (i = 175 ∧ k = 7)) M0 M' ∧ li_J M' ∧ (M'.1 175 7).toInt = 0) := by
  refine li_enter (by decide +kernel) (Nat.le_of_ble_eq_true rfl) ?_
  show li_T l Z YX12_becomes d 0 [(0, .ref (Z.2.2 175))] [] M0 _
  have hf : li_fs (fun i k => i = 195 ∨ (i = 175 ∧ k = 10) ∨ (i = 175 ∧ k = 40) ∨ (i = 175 ∧ k = 7)) M0 M0 := li_fs_refl
  have rM0_7 := J_sl7 (M := M0) hJ
  have rM0_40 := J_sl40 (M := M0) hJ
  refine li_aload_n 0 dX12_becomes_0 rfl ?_
  refine li_iconst 0 dX12_becomes_1 (by decide) ?_
  refine li_puti (k := 10) (N := 52) (T := TX12) (C0 := RX12) dX12_becomes_2 (by decide) sh_175 rfl rfl (by decide) li_in12 tyX12_ok nmX12 rfl rfl rfl rfl w_1414 ?_
  refine li_nm (fun M1 eM1 => ?_)
  have hf := li_fs_ui hf (Or.inr (Or.inl ⟨rfl, rfl⟩)) eM1
  have z0 : (0 : Int32).toInt = 0 := rfl
  have hJ := hJ.put (k := 10) (by decide) (rg_free rfl) eM1
  have rM1_7 := J_sl7 (M := M1) hJ
  have rM1_40 := J_sl40 (M := M1) hJ
  have mM1_7 : (M1.1 175 7).toInt = (M0.1 175 7).toInt := by rw [eM1, li_ui_at, if_pos rfl, if_neg (by decide)]
  have mM1_40 : (M1.1 175 40).toInt = (M0.1 175 40).toInt := by rw [eM1, li_ui_at, if_pos rfl, if_neg (by decide)]
  refine li_aload_n 0 dX12_becomes_5 rfl ?_
  refine li_callV (n := 0) (As := []) dX12_becomes_6 (k3_X12_readWording (d - 1) (by omega)  M1 hJ ) (by omega) (Nat.le_of_ble_eq_true rfl) w_1906 w_1908 w_93 w_112 w_1909 (by decide +kernel) rfl (by decide) sh_175 rfl rfl (Nat.le_of_ble_eq_true rfl) (fun r M3 h4 => ?_)
  obtain ⟨⟨x2, rfl, qx2⟩, h4, jM3, nM3⟩ := h4
  have gx2 := tl_rg x2
  have hf := li_fs_trans hf h4 (fun i k => fun h => Or.elim h (fun h => Or.inl h) (fun h => Or.elim h (fun h => Or.inr (Or.inr (Or.inl h))) (fun h => Or.inr (Or.inr (Or.inr h)))))
  have hJ := jM3
  have rM3_7 := J_sl7 (M := M3) hJ
  have rM3_40 := J_sl40 (M := M3) hJ
  refine li_istore_n [(1, .int x2), (0, .ref (Z.2.2 175))] dX12_becomes_9 (by decide) rfl ?_
  refine li_iload_n 0 dX12_becomes_10 rfl ?_
  refine li_if_ge 18 dX12_becomes_11 (by decide) (fun c5 => ?_) (fun c5 => ?_)
  · have tc5 : 0 ≤ x2.toInt := tl_le c5
    refine li_aload_n 1 dX12_becomes_18 rfl ?_
    refine li_getr (k := 39) (N := 52) (T := TX12) (C0 := RX12) dX12_becomes_19 (by decide) sh_175 rfl rfl (by decide) (by decide) li_in12 w_1443 ?_
    refine li_aload_n 1 dX12_becomes_22 rfl ?_
    refine li_geti (k := 40) (N := 52) (T := TX12) (C0 := RX12) dX12_becomes_23 (by decide) sh_175 rfl rfl (by decide) li_in12 w_1444 ?_
    refine li_top (fun x6 ex6 => ?_)
    have gx6 : 0 ≤ x6.toInt ∧ x6.toInt ≤ 14 := by rw [ex6]; exact J_sl40 hJ
    have mx6 : x6.toInt = (M3.1 175 40).toInt := tl_slot ex6
    refine li_iald dX12_becomes_26 (by decide) sh_195 (tl_in (by omega)) ?_
    refine li_top (fun x7 ex7 => ?_)
    have gx7 := tl_rg x7
    exact li_iret dX12_becomes_27 rfl rfl ⟨⟨_, rfl⟩, hf, hJ, (by omega)⟩
  · have tc5 : x2.toInt < 0 := tl_nle c5
    refine li_iload_n 0 dX12_becomes_14 rfl ?_
    refine li_goto 27 dX12_becomes_15 (by decide) ?_
    exact li_iret dX12_becomes_27 rfl rfl ⟨⟨_, rfl⟩, hf, hJ, (by omega)⟩
