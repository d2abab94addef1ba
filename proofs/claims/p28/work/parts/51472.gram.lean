set_option maxRecDepth 100000 in
set_option maxHeartbeats 4000000 in
theorem k7_X11_readLines {l : Launch} {Z : li_Z} (d : Nat) (hd : 5 ≤ d) (p1 : Int32) (p2 : Int32) (M0 : li_M) (h1 : 0 ≤ (M0.1 1 2).toInt ∧ (M0.1 1 2).toInt ≤ (M0.1 1 1).toInt ∧ (M0.1 1 1).toInt ≤ 80) (Psg_M0 : li_sg (M0.1 2)) (h2 : p1.toInt = 3 ∧ p2.toInt ≤ 100) (OK QQ MM : Int) (Pgq_M0 : li_gq (M0.1 2) ((M0.1 1 1).toInt) (p2.toInt) ((M0.1 1 2).toInt) (0) (OK) (QQ) (MM)) : li_Met l Z YX11_readLines d [.ref (Z.2.2 0), .int p1, .int p2] M0 (fun r M' => (∃ x : Int32, r = some (.int x) ∧ (((OK = 1 ∧ x.toInt = MM ∧ 0 ≤ MM ∧ MM ≤ 100) ∨ (OK = 0 ∧ x.toInt = -1)) ∧ 0 ≤ (M'.1 1 2).toInt ∧ (M'.1 1 2).toInt ≤ (M0.1 1 1).toInt ∧ (M'.1 1 2).toInt = QQ ∧ (M'.1 1 1).toInt = (M0.1 1 1).toInt)) ∧ li_fr (fun i => i = 1 ∨ i = 165) M0 M') := by
  refine li_enter (by decide +kernel) (Nat.le_of_ble_eq_true rfl) ?_
  show li_T l Z YX11_readLines d 0 [(0, .ref (Z.2.2 0)), (1, .int p1), (2, .int p2)] [] M0 _
  have hf : li_fr (fun i => i = 1 ∨ i = 165) M0 M0 := li_fr_refl
  have gp1 := tl_rg p1
  have gp2 := tl_rg p2
  refine li_iconst 0 dX11_readLines_0 (by decide) ?_
  refine li_istore_n [(3, .int 0), (0, .ref (Z.2.2 0)), (1, .int p1), (2, .int p2)] dX11_readLines_1 (by decide) rfl ?_
  have L2 : ∀ (n : Nat) (x1 : Int32) (M2 : li_M), (p2.toInt - (x1 : Int32).toInt).toNat < n → li_fr (fun i => i = 1 ∨ i = 165) M0 M2 → 0 ≤ (x1 : Int32).toInt ∧ (M0.1 1 2).toInt ≤ (M2.1 1 2).toInt ∧ (M2.1 1 2).toInt ≤ (M2.1 1 1).toInt ∧ (M2.1 1 1).toInt = (M0.1 1 1).toInt → li_sg (M2.1 2)  → li_gq (M2.1 2) ((M2.1 1 1).toInt) (p2.toInt - (x1 : Int32).toInt) ((M2.1 1 2).toInt) ((x1 : Int32).toInt) (OK) (QQ) (MM) → li_T l Z YX11_readLines d 2 [(3, .int x1), (0, .ref (Z.2.2 0)), (1, .int p1), (2, .int p2)] [] M2 (fun r M' => (∃ x : Int32, r = some (.int x) ∧ (((OK = 1 ∧ x.toInt = MM ∧ 0 ≤ MM ∧ MM ≤ 100) ∨ (OK = 0 ∧ x.toInt = -1)) ∧ 0 ≤ (M'.1 1 2).toInt ∧ (M'.1 1 2).toInt ≤ (M0.1 1 1).toInt ∧ (M'.1 1 2).toInt = QQ ∧ (M'.1 1 1).toInt = (M0.1 1 1).toInt)) ∧ li_fr (fun i => i = 1 ∨ i = 165) M0 M') := by
    intro n
    induction n with
    | zero => intro x1 M2 hn; exact absurd hn (Nat.not_lt_zero _)
    | succ n ih2 =>
      intro x1 M2 hn hf hi Psg_M2 Pgq_M2
      have gx1 := tl_rg x1
      refine li_iload_n 0 dX11_readLines_2 rfl ?_
      refine li_iload_n 3 dX11_readLines_3 rfl ?_
      refine li_icmp_ge 52 dX11_readLines_4 (by decide) (fun c3 => ?_) (fun c3 => ?_)
      · have tc3 : p2.toInt ≤ x1.toInt := tl_le c3
        refine li_iconst (-1) dX11_readLines_52 (by decide) ?_
        have zm1 : ((-1) : Int32).toInt = -1 := rfl
        exact li_iret dX11_readLines_53 rfl rfl ⟨⟨_, rfl, (by first | omega | (have zz := li_gq_z Pgq_M2 (by omega); omega))⟩, hf⟩
      · have tc3 : x1.toInt < p2.toInt := tl_nle c3
        refine li_aload_n 1 dX11_readLines_7 rfl ?_
        refine li_iload_n 2 dX11_readLines_8 rfl ?_
        refine li_iload_n 0 dX11_readLines_9 rfl ?_
        have hf0 := hf
        have gq0 := Pgq_M2
        obtain ⟨K, E, ln0⟩ : ∃ k e, li_ln (M2.1 2) ((M2.1 1 1).toInt) ((M2.1 1 2).toInt) k e := li_ln_self
        have stq := li_gq_r2 gq0 (by omega) ln0
        refine li_callV (n := 2) (As := [.int p1, .int x1]) dX11_readLines_10 (k7_X11_readLine (d - 1) (by omega) p1 x1 M2 (by omega) Psg_M2 (by omega) K E ln0) (by omega) (Nat.le_of_ble_eq_true rfl) w_668 w_670 w_9 w_101 w_671 (by decide +kernel) rfl (by decide) sh_0 rfl rfl (Nat.le_of_ble_eq_true rfl) (fun r M5 h6 => ?_)
        obtain ⟨⟨x4, rfl, bx4, qx4⟩, h6⟩ := h6
        have ux4 := tl_b bx4
        have hf := li_fr_trans hf h6 (fun i (h : i = 1 ∨ i = 165) => (show i = 1 ∨ i = 165 by omega))
        have Psg_M5 : li_sg (M5.1 2)  := li_sg_tr (h6.1 2 (fun h => by first | exact (h : False).elim | omega))  Psg_M2
        refine li_if_ne 18 dX11_readLines_13 (by decide) (fun c7 => ?_) (fun c7 => ?_)
        · have tc7 : ¬ x4.toInt = 0 := tl_ne c7
          refine li_aload_n 1 dX11_readLines_18 rfl ?_
          refine li_getr (k := 0) (N := 13) (T := TX11) (C0 := RX11) dX11_readLines_19 (by decide) sh_0 rfl rfl (by decide) (by decide) li_in11 w_473 ?_
          refine li_callV (n := 0) (As := []) dX11_readLines_22 (k5_X7_atEnd (d - 1) (by omega) M5) (by omega) (Nat.le_of_ble_eq_true rfl) w_663 w_545 w_546 w_102 w_547 (by decide +kernel) rfl (by decide) sh_1 rfl rfl (Nat.le_of_ble_eq_true rfl) (fun r M9 h10 => ?_)
          obtain ⟨⟨x8, rfl, bx8, qx8⟩, h10⟩ := h10
          have ux8 := tl_b bx8
          have hf := li_fr_trans hf h10 (fun i h => False.elim h)
          have mM9_1_1 : (M9.1 1 1).toInt = (M5.1 1 1).toInt := by rw [h10.1 1 id]
          have mM9_1_2 : (M9.1 1 2).toInt = (M5.1 1 2).toInt := by rw [h10.1 1 id]
          have Psg_M9 : li_sg (M9.1 2)  := li_sg_tr (h10.1 2 (fun h => by first | exact (h : False).elim | omega))  Psg_M5
          refine li_if_eq 32 dX11_readLines_25 (by decide) (fun c11 => ?_) (fun c11 => ?_)
          · have tc11 : x8.toInt = 0 := tl_eq c11
            refine li_aload_n 1 dX11_readLines_32 rfl ?_
            refine li_getr (k := 0) (N := 13) (T := TX11) (C0 := RX11) dX11_readLines_33 (by decide) sh_0 rfl rfl (by decide) (by decide) li_in11 w_473 ?_
            refine li_bipush 59 dX11_readLines_36 (by decide) ?_
            have chs : rd_ch (M9.1 2) ((M9.1 1 1).toInt) ((M9.1 1 2).toInt) = rd_ch (M2.1 2) ((M2.1 1 1).toInt) E := by rw [show M9.1 2 = M2.1 2 from (hf.1 2 (by omega)).trans (hf0.1 2 (by omega)).symm, show (M9.1 1 1).toInt = (M2.1 1 1).toInt from Int.le_antisymm (by omega) (by omega), show (M9.1 1 2).toInt = E from Int.le_antisymm (by omega) (by omega)]
            refine li_callV (n := 1) (As := [.int 59]) dX11_readLines_38 (k5_X7_skip (d - 1) (by omega) 59 M9 (by omega) Psg_M9 (by decide)) (by omega) (Nat.le_of_ble_eq_true rfl) w_700 w_565 w_566 w_102 w_567 (by decide +kernel) rfl (by decide) sh_1 rfl rfl (Nat.le_of_ble_eq_true rfl) (fun r M13 h14 => ?_)
            have z59 : (59 : Int32).toInt = 59 := rfl
            obtain ⟨⟨x12, rfl, bx12, qx12⟩, h14⟩ := h14
            have ux12 := tl_b bx12
            have hf := li_fr_trans hf h14 (fun i (h : i = 1) => (show i = 1 ∨ i = 165 by omega))
            have Psg_M13 : li_sg (M13.1 2)  := li_sg_tr (h14.1 2 (fun h => by first | exact (h : False).elim | omega))  Psg_M9
            refine li_if_ne 46 dX11_readLines_41 (by decide) (fun c15 => ?_) (fun c15 => ?_)
            · have tc15 : ¬ x12.toInt = 0 := tl_ne c15
              obtain ⟨x16, ex16⟩ : ∃ y : Int32, y = x1 + 1 := ⟨_, rfl⟩
              have tx16 : (-2147483648 ≤ x1.toInt + 1 ∧ x1.toInt + 1 ≤ 2147483647) → x16.toInt = x1.toInt + 1 := tl_add ex16
              refine li_iinc 0 [(3, .int x16), (0, .ref (Z.2.2 0)), (1, .int p1), (2, .int p2)] x16 dX11_readLines_46 rfl (by rw [ex16]; rfl) (by decide) rfl ?_
              refine li_goto 2 dX11_readLines_49 (by decide) ?_
              refine li_pick [0, 1, 2, 3] [(3, .int x16), (0, .ref (Z.2.2 0)), (1, .int p1), (2, .int p2)] rfl ?_
              exact ih2 x16 M13 (by omega) hf (by omega) (by first | exact li_sg_tr rfl  Psg_M13) (by first | exact li_gq_tr ((hf.1 2 (by omega)).trans (hf0.1 2 (by omega)).symm) (Int.le_antisymm (by omega) (by omega)) (Int.le_antisymm (by omega) (by omega)) (Int.le_antisymm (by omega) (by omega)) (Int.le_antisymm (by omega) (by omega)) rfl rfl rfl (li_gq_go2 gq0 (by omega) ln0 (by omega)))
            · have tc15 : x12.toInt = 0 := tl_eq c15
              refine li_iconst (-1) dX11_readLines_44 (by decide) ?_
              have zm1 : ((-1) : Int32).toInt = -1 := rfl
              exact li_iret dX11_readLines_45 rfl rfl ⟨⟨_, rfl, (by first | omega | (have zz := li_gq_z Pgq_M13 (by omega); omega))⟩, hf⟩
          · have tc11 : ¬ x8.toInt = 0 := tl_ne c11
            refine li_iload_n 0 dX11_readLines_28 rfl ?_
            refine li_iconst 1 dX11_readLines_29 (by decide) ?_
            refine li_iadd dX11_readLines_30 ?_
            refine li_top (fun x17 ex17 => ?_)
            have tx17 : (-2147483648 ≤ x1.toInt + 1 ∧ x1.toInt + 1 ≤ 2147483647) → x17.toInt = x1.toInt + 1 := tl_add ex17
            exact li_iret dX11_readLines_31 rfl rfl ⟨⟨_, rfl, (by first | omega | (have zz := li_gq_z Pgq_M9 (by omega); omega))⟩, hf⟩
        · have tc7 : x4.toInt = 0 := tl_eq c7
          refine li_iconst (-1) dX11_readLines_16 (by decide) ?_
          have zm1 : ((-1) : Int32).toInt = -1 := rfl
          exact li_iret dX11_readLines_17 rfl rfl ⟨⟨_, rfl, (by first | omega | (have zz := li_gq_z Pgq_M5 (by omega); omega))⟩, hf⟩
  have z0 : (0 : Int32).toInt = 0 := rfl
  exact L2 _ 0 M0 (Nat.lt_succ_self _) hf (by omega) (by first | exact li_sg_tr rfl  Psg_M0) (by first | exact li_gq_tr rfl (Int.le_antisymm (by omega) (by omega)) (Int.le_antisymm (by omega) (by omega)) (Int.le_antisymm (by omega) (by omega)) (Int.le_antisymm (by omega) (by omega)) rfl rfl rfl Pgq_M0 | exact li_gq_tr ((hf.1 2 (by omega)).trans (hf0.1 2 (by omega)).symm) (Int.le_antisymm (by omega) (by omega)) (Int.le_antisymm (by omega) (by omega)) (Int.le_antisymm (by omega) (by omega)) (Int.le_antisymm (by omega) (by omega)) rfl rfl rfl (li_gq_go2 gq0 (by omega) ln0 (by omega)))

set_option maxRecDepth 100000 in
set_option maxHeartbeats 4000000 in
theorem k7_X11_readText {l : Launch} {Z : li_Z} (d : Nat) (hd : 6 ≤ d) (p1 : Int32) (p2 : Int32) (p3 : Int32) (M0 : li_M) (h1 : 0 ≤ (M0.1 1 1).toInt ∧ (M0.1 1 1).toInt ≤ 80) (Psg_M0 : li_sg (M0.1 2)) (h2 : p1.toInt = 3 ∧ p2.toInt ≤ 100 ∧ 0 ≤ p3.toInt ∧ p3.toInt ≤ 100) (OK QQ MM : Int) (Pgq_M0 : li_gq (M0.1 2) ((M0.1 1 1).toInt) (p2.toInt) (0) (0) (OK) (QQ) (MM)) : li_Met l Z YX11_readText d [.ref (Z.2.2 0), .int p1, .int p2, .int p3] M0 (fun r M' => (∃ x : Int32, r = some (.int x) ∧ ((((M0.1 1 1).toInt = 0 ∧ x.toInt = 0) ∨ (0 < (M0.1 1 1).toInt ∧ OK = 1 ∧ (M0.1 1 1).toInt ≤ p3.toInt ∧ x.toInt = MM ∧ 0 ≤ MM ∧ MM ≤ 100) ∨ (0 < (M0.1 1 1).toInt ∧ OK = 1 ∧ p3.toInt < (M0.1 1 1).toInt ∧ x.toInt = -1 - p3.toInt) ∨ (0 < (M0.1 1 1).toInt ∧ OK = 0 ∧ 0 ≤ QQ ∧ QQ ≤ p3.toInt ∧ x.toInt = -1 - QQ) ∨ (0 < (M0.1 1 1).toInt ∧ OK = 0 ∧ p3.toInt < QQ ∧ x.toInt = -1 - p3.toInt)) ∧ (M'.1 1 1).toInt = 0)) ∧ li_fr (fun i => i = 1 ∨ i = 165) M0 M') := by
  refine li_enter (by decide +kernel) (Nat.le_of_ble_eq_true rfl) ?_
  show li_T l Z YX11_readText d 0 [(0, .ref (Z.2.2 0)), (1, .int p1), (2, .int p2), (3, .int p3)] [] M0 _
  have hf : li_fr (fun i => i = 1 ∨ i = 165) M0 M0 := li_fr_refl
  have gp1 := tl_rg p1
  have gp2 := tl_rg p2
  have gp3 := tl_rg p3
  refine li_aload_n 0 dX11_readText_0 rfl ?_
  refine li_getr (k := 0) (N := 13) (T := TX11) (C0 := RX11) dX11_readText_1 (by decide) sh_0 rfl rfl (by decide) (by decide) li_in11 w_473 ?_
  refine li_iconst 0 dX11_readText_4 (by decide) ?_
  refine li_puti (k := 2) (N := 3) (T := TX7) (C0 := RX7) dX11_readText_5 (by decide) sh_1 rfl rfl (by decide) li_in7 tyX7_ok nmX7 rfl rfl rfl rfl w_144 ?_
  refine li_nm (fun M1 eM1 => ?_)
  have hf := li_fr_ui hf (show 1 = 1 ∨ 1 = 165 by omega) eM1
  have mM1_1_1 : (M1.1 1 1).toInt = (M0.1 1 1).toInt := by rw [eM1, li_ui_at, if_pos rfl, if_neg (by decide)]
  have mM1_1_2 : (M1.1 1 2).toInt = 0 := by rw [eM1, li_ui_at, if_pos rfl, if_pos rfl]; rfl
  have Psg_M1 : li_sg (M1.1 2)  := li_sg_tr (li_cell_ui eM1 (by decide))  Psg_M0
  have Pgq_M1 : li_gq (M1.1 2) ((M1.1 1 1).toInt) (p2.toInt) (0) (0) (OK) (QQ) (MM) := li_gq_tr (li_cell_ui eM1 (by decide)) (Int.le_antisymm (by omega) (by omega)) (Int.le_antisymm (by omega) (by omega)) (Int.le_antisymm (by omega) (by omega)) (Int.le_antisymm (by omega) (by omega)) rfl rfl rfl Pgq_M0
  have k2 : M1.1 1 2 = 0 := by rw [eM1, li_ui_at, if_pos rfl, if_pos rfl]
  refine li_iload_n 1 dX11_readText_8 rfl ?_
  refine li_iconst 4 dX11_readText_9 (by decide) ?_
  have J80 : ∀ (x4 : Int32) (M5 : li_M), li_fr (fun i => i = 1 ∨ i = 165) M0 M5 → ((((M0.1 1 1).toInt = 0 ∧ (x4 : Int32).toInt = 0 ∧ (M5.1 1 2).toInt = 0) ∨ (0 < (M0.1 1 1).toInt ∧ OK = 1 ∧ (x4 : Int32).toInt = MM ∧ 0 ≤ MM ∧ MM ≤ 100 ∧ (M5.1 1 2).toInt = QQ) ∨ (0 < (M0.1 1 1).toInt ∧ OK = 0 ∧ (x4 : Int32).toInt = -1 ∧ (M5.1 1 2).toInt = QQ)) ∧ (M5.1 1 1).toInt = (M0.1 1 1).toInt ∧ 0 ≤ (M5.1 1 2).toInt ∧ (M5.1 1 2).toInt ≤ (M0.1 1 1).toInt) → li_T l Z YX11_readText d 80 [(0, .ref (Z.2.2 0)), (1, .int p1), (2, .int p2), (3, .int p3), (4, .int x4)] [] M5 (fun r M' => (∃ x : Int32, r = some (.int x) ∧ ((((M0.1 1 1).toInt = 0 ∧ x.toInt = 0) ∨ (0 < (M0.1 1 1).toInt ∧ OK = 1 ∧ (M0.1 1 1).toInt ≤ p3.toInt ∧ x.toInt = MM ∧ 0 ≤ MM ∧ MM ≤ 100) ∨ (0 < (M0.1 1 1).toInt ∧ OK = 1 ∧ p3.toInt < (M0.1 1 1).toInt ∧ x.toInt = -1 - p3.toInt) ∨ (0 < (M0.1 1 1).toInt ∧ OK = 0 ∧ 0 ≤ QQ ∧ QQ ≤ p3.toInt ∧ x.toInt = -1 - QQ) ∨ (0 < (M0.1 1 1).toInt ∧ OK = 0 ∧ p3.toInt < QQ ∧ x.toInt = -1 - p3.toInt)) ∧ (M'.1 1 1).toInt = 0)) ∧ li_fr (fun i => i = 1 ∨ i = 165) M0 M') := by
    intro x4 M5 hf hi
    have gx4 := tl_rg x4
    refine li_aload_n 0 dX11_readText_80 rfl ?_
    refine li_getr (k := 0) (N := 13) (T := TX11) (C0 := RX11) dX11_readText_81 (by decide) sh_0 rfl rfl (by decide) (by decide) li_in11 w_473 ?_
    refine li_iload 4 dX11_readText_84 rfl ?_
    refine li_iload_n 3 dX11_readText_86 rfl ?_
    refine li_callV (n := 2) (As := [.int x4, .int p3]) dX11_readText_87 (k5_X7_verdict (d - 1) (by omega) x4 p3 M5 (by omega) (by omega)) (by omega) (Nat.le_of_ble_eq_true rfl) w_721 w_722 w_723 w_102 w_724 (by decide +kernel) rfl (by decide) sh_1 rfl rfl (Nat.le_of_ble_eq_true rfl) (fun r M7 h8 => ?_)
    obtain ⟨⟨x6, rfl, qx6⟩, h8⟩ := h8
    have gx6 := tl_rg x6
    have hf := li_fr_trans hf h8 (fun i h => False.elim h)
    have mM7_1_1 : (M7.1 1 1).toInt = (M5.1 1 1).toInt := by rw [h8.1 1 id]
    have mM7_1_2 : (M7.1 1 2).toInt = (M5.1 1 2).toInt := by rw [h8.1 1 id]
    refine li_istore [(5, .int x6), (0, .ref (Z.2.2 0)), (1, .int p1), (2, .int p2), (3, .int p3), (4, .int x4)] dX11_readText_90 (by decide) rfl ?_
    refine li_aload_n 1 dX11_readText_92 rfl ?_
    refine li_getr (k := 0) (N := 13) (T := TX11) (C0 := RX11) dX11_readText_93 (by decide) sh_0 rfl rfl (by decide) (by decide) li_in11 w_473 ?_
    refine li_iconst 0 dX11_readText_96 (by decide) ?_
    refine li_puti (k := 1) (N := 3) (T := TX7) (C0 := RX7) dX11_readText_97 (by decide) sh_1 rfl rfl (by decide) li_in7 tyX7_ok nmX7 rfl rfl rfl rfl w_140 ?_
    refine li_nm (fun M9 eM9 => ?_)
    have hf := li_fr_ui hf (show 1 = 1 ∨ 1 = 165 by omega) eM9
    have mM9_1_1 : (M9.1 1 1).toInt = 0 := by rw [eM9, li_ui_at, if_pos rfl, if_pos rfl]; rfl
    have mM9_1_2 : (M9.1 1 2).toInt = (M7.1 1 2).toInt := by rw [eM9, li_ui_at, if_pos rfl, if_neg (by decide)]
    have k10 : M9.1 1 1 = 0 := by rw [eM9, li_ui_at, if_pos rfl, if_pos rfl]
    refine li_iload 0 dX11_readText_100 rfl ?_
    exact li_iret dX11_readText_102 rfl rfl ⟨⟨_, rfl, (by first | omega | (intro _; omega) | (intro h; exact absurd h (by decide)))⟩, hf⟩
  refine li_icmp_ne 37 dX11_readText_10 (by decide) (fun c3 => ?_) (fun c3 => ?_)
  · have tc3 : ¬ p1.toInt = 4 := tl_ne c3
    refine li_iload_n 1 dX11_readText_37 rfl ?_
    refine li_iconst 5 dX11_readText_38 (by decide) ?_
    refine li_icmp_ne 58 dX11_readText_39 (by decide) (fun c11 => ?_) (fun c11 => ?_)
    · have tc11 : ¬ p1.toInt = 5 := tl_ne c11
      refine li_aload_n 0 dX11_readText_58 rfl ?_
      refine li_getr (k := 0) (N := 13) (T := TX11) (C0 := RX11) dX11_readText_59 (by decide) sh_0 rfl rfl (by decide) (by decide) li_in11 w_473 ?_
      refine li_callV (n := 0) (As := []) dX11_readText_62 (k5_X7_atEnd (d - 1) (by omega) M1) (by omega) (Nat.le_of_ble_eq_true rfl) w_663 w_545 w_546 w_102 w_547 (by decide +kernel) rfl (by decide) sh_1 rfl rfl (Nat.le_of_ble_eq_true rfl) (fun r M13 h14 => ?_)
      obtain ⟨⟨x12, rfl, bx12, qx12⟩, h14⟩ := h14
      have ux12 := tl_b bx12
      have hf := li_fr_trans hf h14 (fun i h => False.elim h)
      have mM13_1_1 : (M13.1 1 1).toInt = (M1.1 1 1).toInt := by rw [h14.1 1 id]
      have mM13_1_2 : (M13.1 1 2).toInt = (M1.1 1 2).toInt := by rw [h14.1 1 id]
      have Psg_M13 : li_sg (M13.1 2)  := li_sg_tr (h14.1 2 (fun h => by first | exact (h : False).elim | omega))  Psg_M1
      have Pgq_M13 : li_gq (M13.1 2) ((M13.1 1 1).toInt) (p2.toInt) (0) (0) (OK) (QQ) (MM) := li_gq_tr (h14.1 2 (fun h => by first | exact (h : False).elim | omega)) (Int.le_antisymm (by omega) (by omega)) (Int.le_antisymm (by omega) (by omega)) (Int.le_antisymm (by omega) (by omega)) (Int.le_antisymm (by omega) (by omega)) rfl rfl rfl Pgq_M1
      have J78 : ∀ (x16 : Int32) (M17 : li_M), li_fr (fun i => i = 1 ∨ i = 165) M0 M17 → ((((M0.1 1 1).toInt = 0 ∧ (x16 : Int32).toInt = 0 ∧ (M17.1 1 2).toInt = 0) ∨ (0 < (M0.1 1 1).toInt ∧ OK = 1 ∧ (x16 : Int32).toInt = MM ∧ 0 ≤ MM ∧ MM ≤ 100 ∧ (M17.1 1 2).toInt = QQ) ∨ (0 < (M0.1 1 1).toInt ∧ OK = 0 ∧ (x16 : Int32).toInt = -1 ∧ (M17.1 1 2).toInt = QQ)) ∧ (M17.1 1 1).toInt = (M0.1 1 1).toInt ∧ 0 ≤ (M17.1 1 2).toInt ∧ (M17.1 1 2).toInt ≤ (M0.1 1 1).toInt) → li_T l Z YX11_readText d 78 [(0, .ref (Z.2.2 0)), (1, .int p1), (2, .int p2), (3, .int p3)] [.int x16] M17 (fun r M' => (∃ x : Int32, r = some (.int x) ∧ ((((M0.1 1 1).toInt = 0 ∧ x.toInt = 0) ∨ (0 < (M0.1 1 1).toInt ∧ OK = 1 ∧ (M0.1 1 1).toInt ≤ p3.toInt ∧ x.toInt = MM ∧ 0 ≤ MM ∧ MM ≤ 100) ∨ (0 < (M0.1 1 1).toInt ∧ OK = 1 ∧ p3.toInt < (M0.1 1 1).toInt ∧ x.toInt = -1 - p3.toInt) ∨ (0 < (M0.1 1 1).toInt ∧ OK = 0 ∧ 0 ≤ QQ ∧ QQ ≤ p3.toInt ∧ x.toInt = -1 - QQ) ∨ (0 < (M0.1 1 1).toInt ∧ OK = 0 ∧ p3.toInt < QQ ∧ x.toInt = -1 - p3.toInt)) ∧ (M'.1 1 1).toInt = 0)) ∧ li_fr (fun i => i = 1 ∨ i = 165) M0 M') := by
        intro x16 M17 hf hi
        have gx16 := tl_rg x16
        refine li_istore [(4, .int x16), (0, .ref (Z.2.2 0)), (1, .int p1), (2, .int p2), (3, .int p3)] dX11_readText_78 (by decide) rfl ?_
        refine li_pick [1, 2, 3, 4, 0] [(0, .ref (Z.2.2 0)), (1, .int p1), (2, .int p2), (3, .int p3), (4, .int x16)] rfl ?_
        exact J80 x16 M17 hf (by omega)
      refine li_if_eq 72 dX11_readText_65 (by decide) (fun c15 => ?_) (fun c15 => ?_)
      · have tc15 : x12.toInt = 0 := tl_eq c15
        refine li_aload_n 0 dX11_readText_72 rfl ?_
        refine li_iload_n 1 dX11_readText_73 rfl ?_
        refine li_iload_n 2 dX11_readText_74 rfl ?_
        refine li_callV (n := 2) (As := [.int p1, .int p2]) dX11_readText_75 (k7_X11_readLines (d - 1) (by omega) p1 p2 M13 (by omega) Psg_M13 (by omega) OK QQ MM (li_gq_tr rfl (by omega) (by omega) (by omega) rfl rfl rfl rfl Pgq_M13)) (by omega) (Nat.le_of_ble_eq_true rfl) w_664 w_666 w_8 w_101 w_667 (by decide +kernel) rfl (by decide) sh_0 rfl rfl (Nat.le_of_ble_eq_true rfl) (fun r M19 h20 => ?_)
        obtain ⟨⟨x18, rfl, qx18⟩, h20⟩ := h20
        have gx18 := tl_rg x18
        have hf := li_fr_trans hf h20 (fun i (h : i = 1 ∨ i = 165) => (show i = 1 ∨ i = 165 by omega))
        have Psg_M19 : li_sg (M19.1 2)  := li_sg_tr (h20.1 2 (fun h => by first | exact (h : False).elim | omega))  Psg_M13
        refine li_pick [0, 1, 2, 3] [(0, .ref (Z.2.2 0)), (1, .int p1), (2, .int p2), (3, .int p3)] rfl ?_
        exact J78 x18 M19 hf (by omega)
      · have tc15 : ¬ x12.toInt = 0 := tl_ne c15
        refine li_iconst 0 dX11_readText_68 (by decide) ?_
        refine li_goto 78 dX11_readText_69 (by decide) ?_
        refine li_pick [0, 1, 2, 3] [(0, .ref (Z.2.2 0)), (1, .int p1), (2, .int p2), (3, .int p3)] rfl ?_
        have z0 : (0 : Int32).toInt = 0 := rfl
        exact J78 0 M13 hf (by omega)
    · have tc11 : p1.toInt = 5 := tl_eq c11
      exfalso; omega
  · have tc3 : p1.toInt = 4 := tl_eq c3
    exfalso; omega

set_option maxRecDepth 100000 in
set_option maxHeartbeats 4000000 in
theorem k7_X11_grammar {l : Launch} {Z : li_Z} (d : Nat) (hd : 7 ≤ d) (M0 : li_M) (h1 : 0 ≤ (M0.1 1 1).toInt ∧ (M0.1 1 1).toInt ≤ 80) (Psg_M0 : li_sg (M0.1 2)) (OK QQ MM : Int) (Pgq_M0 : li_gq (M0.1 2) ((M0.1 1 1).toInt) (10) (0) (0) (OK) (QQ) (MM)) : li_Met l Z YX11_grammar d [.ref (Z.2.2 0)] M0 (fun r M' => (∃ x : Int32, r = some (.int x) ∧ ((((M0.1 1 1).toInt = 0 ∧ x.toInt = 0) ∨ (0 < (M0.1 1 1).toInt ∧ OK = 1 ∧ (M0.1 1 1).toInt ≤ 80 ∧ x.toInt = MM ∧ 0 ≤ MM ∧ MM ≤ 100) ∨ (0 < (M0.1 1 1).toInt ∧ OK = 1 ∧ 80 < (M0.1 1 1).toInt ∧ x.toInt = -1 - 80) ∨ (0 < (M0.1 1 1).toInt ∧ OK = 0 ∧ 0 ≤ QQ ∧ QQ ≤ 80 ∧ x.toInt = -1 - QQ) ∨ (0 < (M0.1 1 1).toInt ∧ OK = 0 ∧ 80 < QQ ∧ x.toInt = -1 - 80)) ∧ (M'.1 1 1).toInt = 0)) ∧ li_fr (fun i => i = 1 ∨ i = 163 ∨ i = 164 ∨ i = 165) M0 M') := by
  refine li_enter (by decide +kernel) (Nat.le_of_ble_eq_true rfl) ?_
  show li_T l Z YX11_grammar d 0 [(0, .ref (Z.2.2 0))] [] M0 _
  have hf : li_fr (fun i => i = 1 ∨ i = 163 ∨ i = 164 ∨ i = 165) M0 M0 := li_fr_refl
  refine li_aload_n 0 dX11_grammar_0 rfl ?_
  refine li_iconst 3 dX11_grammar_1 (by decide) ?_
  refine li_bipush 10 dX11_grammar_2 (by decide) ?_
  refine li_bipush 80 dX11_grammar_4 (by decide) ?_
  refine li_callV (n := 3) (As := [.int 3, .int 10, .int 80]) dX11_grammar_6 (k7_X11_readText (d - 1) (by omega) 3 10 80 M0 (by omega) Psg_M0 ⟨rfl, by decide, by decide, by decide⟩ OK QQ MM (li_gq_tr rfl rfl (by decide) rfl rfl rfl rfl rfl Pgq_M0)) (by omega) (Nat.le_of_ble_eq_true rfl) w_536 w_538 w_0 w_101 w_539 (by decide +kernel) rfl (by decide) sh_0 rfl rfl (Nat.le_of_ble_eq_true rfl) (fun r M2 h3 => ?_)
  have z3 : (3 : Int32).toInt = 3 := rfl
  have z10 : (10 : Int32).toInt = 10 := rfl
  have z80 : (80 : Int32).toInt = 80 := rfl
  obtain ⟨⟨x1, rfl, qx1⟩, h3⟩ := h3
  have gx1 := tl_rg x1
  have hf := li_fr_trans hf h3 (fun i (h : i = 1 ∨ i = 165) => (show i = 1 ∨ i = 163 ∨ i = 164 ∨ i = 165 by omega))
  refine li_istore_n [(1, .int x1), (0, .ref (Z.2.2 0))] dX11_grammar_9 (by decide) rfl ?_
  refine li_iload_n 0 dX11_grammar_10 rfl ?_
  refine li_if_lt 22 dX11_grammar_11 (by decide) (fun c4 => ?_) (fun c4 => ?_)
  · have tc4 : x1.toInt < 0 := tl_lt c4
    refine li_iload_n 0 dX11_grammar_22 rfl ?_
    exact li_iret dX11_grammar_23 rfl rfl ⟨⟨_, rfl, (by refine ⟨?_, ?_⟩ <;> omega)⟩, hf⟩
  · have tc4 : 0 ≤ x1.toInt := tl_nlt c4
    refine li_aload_n 1 dX11_grammar_14 rfl ?_
    refine li_getr (k := 10) (N := 13) (T := TX11) (C0 := RX11) dX11_grammar_15 (by decide) sh_0 rfl rfl (by decide) (by decide) li_in11 w_483 ?_
    refine li_iload_n 0 dX11_grammar_18 rfl ?_
    refine li_callV (n := 1) (As := [.int x1]) dX11_grammar_19 (k_X10_adopt (d - 1) (by omega) x1 M2) (by omega) (Nat.le_of_ble_eq_true rfl) w_1116 w_1117 w_1118 w_108 w_1119 (by decide +kernel) rfl (by decide) sh_163 rfl rfl (Nat.le_of_ble_eq_true rfl) (fun r M6 h7 => ?_)
    obtain ⟨rfl, h7⟩ := h7
    have hf := li_fr_trans hf h7 (fun i (h : i = 163 ∨ i = 164) => (show i = 1 ∨ i = 163 ∨ i = 164 ∨ i = 165 by omega))
    have mM6_1_1 : (M6.1 1 1).toInt = (M2.1 1 1).toInt := by rw [h7.1 1 (show ¬ (1 = 163 ∨ 1 = 164) by omega)]
    refine li_iload_n 0 dX11_grammar_22 rfl ?_
    exact li_iret dX11_grammar_23 rfl rfl ⟨⟨_, rfl, (by refine ⟨?_, ?_⟩ <;> omega)⟩, hf⟩
