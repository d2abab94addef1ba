theorem us_z {a b y x : Int32} (hZq : a.toInt = 0) (e1Zq : y = li_us a b) (e2Zq : x = y &&& 1) : x.toInt = 0 := by
  have u : li_us (0 : Int32) b = 0 := by
    unfold li_us
    rw [show (0 : Int32).toUInt32 = 0 from rfl, UInt32.zero_shiftRight]
    rfl
  rw [e2Zq, e1Zq, z_of hZq, u]
  rfl

set_option maxRecDepth 100000 in
set_option maxHeartbeats 4000000 in
theorem k15_X11_holds {l : Launch} {Z : li_Z} (d : Nat) (hdZq : 1 ≤ d) (p1Zq : Int32) (p2Zq : Int32) (M0 : li_M) (h1 : p1Zq.toInt = 0) : li_Met l Z YX11_holds d [.int p1Zq, .int p2Zq] M0 (fun r M' => (∃ x : Int32, r = some (.int x) ∧ (x = 0 ∨ x = 1) ∧ (x.toInt = 0)) ∧ li_fr (fun i => False) M0 M') := by
  refine li_enter (by decide +kernel) (Nat.le_of_ble_eq_true rfl) ?_
  show li_T l Z YX11_holds d 0 [(0, .int p1Zq), (1, .int p2Zq)] [] M0 _
  have hf : li_fr (fun i => False) M0 M0 := li_fr_refl
  have gp1 := tl_rg p1Zq
  have gp2 := tl_rg p2Zq
  refine li_iload_n 1 dX11_holds_0 rfl ?_
  refine li_if_lt 22 dX11_holds_1 (by decide) (fun c1 => ?_) (fun c1 => ?_)
  · have tc1 : p2Zq.toInt < 0 := tl_lt c1
    refine li_iconst 0 dX11_holds_22 (by decide) ?_
    have z0 : (0 : Int32).toInt = 0 := rfl
    exact li_iret dX11_holds_23 rfl (li_nz (Or.inl rfl)) ⟨⟨_, rfl, Or.inl rfl, (by first | omega | (intro _; omega) | (intro hZq; exact absurd hZq (by decide)))⟩, hf⟩
  · have tc1 : 0 ≤ p2Zq.toInt := tl_nlt c1
    refine li_iload_n 1 dX11_holds_4 rfl ?_
    refine li_bipush 32 dX11_holds_5 (by decide) ?_
    refine li_icmp_ge 22 dX11_holds_7 (by decide) (fun c2 => ?_) (fun c2 => ?_)
    · have tc2 : 32 ≤ p2Zq.toInt := tl_le c2
      refine li_iconst 0 dX11_holds_22 (by decide) ?_
      have z0 : (0 : Int32).toInt = 0 := rfl
      exact li_iret dX11_holds_23 rfl (li_nz (Or.inl rfl)) ⟨⟨_, rfl, Or.inl rfl, (by first | omega | (intro _; omega) | (intro hZq; exact absurd hZq (by decide)))⟩, hf⟩
    · have tc2 : p2Zq.toInt < 32 := tl_nle c2
      refine li_iload_n 0 dX11_holds_10 rfl ?_
      refine li_iload_n 1 dX11_holds_11 rfl ?_
      refine li_iushr dX11_holds_12 ?_
      refine li_top (fun x3 ex3Zq => ?_)
      refine li_iconst 1 dX11_holds_13 (by decide) ?_
      refine li_iand dX11_holds_14 ?_
      refine li_top (fun x4Zq ex4 => ?_)
      have tx4 := tl_and1 ex4
      have xz : x4Zq.toInt = 0 := us_z h1 (by rw [ex3Zq]; rfl) ex4
      refine li_if_eq 22 dX11_holds_15 (by decide) (fun c5Zq => ?_) (fun c5Zq => ?_)
      · have tc5 : x4Zq.toInt = 0 := tl_eq c5Zq
        refine li_iconst 0 dX11_holds_22 (by decide) ?_
        have z0 : (0 : Int32).toInt = 0 := rfl
        exact li_iret dX11_holds_23 rfl (li_nz (Or.inl rfl)) ⟨⟨_, rfl, Or.inl rfl, (by first | omega | (intro _; omega) | (intro hZq; exact absurd hZq (by decide)))⟩, hf⟩
      · have tc5 : ¬ x4Zq.toInt = 0 := tl_ne c5Zq
        exfalso; omega
set_option maxRecDepth 100000 in
set_option maxHeartbeats 4000000 in
theorem k15_X3_bringBack {l : Launch} {Z : li_Z} (d : Nat) (hdZq : 2 ≤ d) (p1Zq : Int32) (M0 : li_M) (z213 : (M0.1 21 3).toInt = 0) : li_Met l Z YX3_bringBack d [.ref (Z.2.2 21), .int p1Zq, .ref (Z.2.2 13)] M0 (fun r M' => (∃ x : Int32, r = some (.int x) ∧ (x = 0 ∨ x = 1) ∧ (x.toInt = 0)) ∧ li_fr (fun i => False) M0 M') := by
  refine li_enter (by decide +kernel) (Nat.le_of_ble_eq_true rfl) ?_
  show li_T l Z YX3_bringBack d 0 [(0, .ref (Z.2.2 21)), (1, .int p1Zq), (2, .ref (Z.2.2 13))] [] M0 _
  have hf : li_fr (fun i => False) M0 M0 := li_fr_refl
  have gp1 := tl_rg p1Zq
  refine li_iload_n 1 dX3_bringBack_0 rfl ?_
  refine li_if_lt 24 dX3_bringBack_1 (by decide) (fun c1 => ?_) (fun c1 => ?_)
  · have tc1 : p1Zq.toInt < 0 := tl_lt c1
    refine li_iconst 0 dX3_bringBack_24 (by decide) ?_
    have z0 : (0 : Int32).toInt = 0 := rfl
    exact li_iret dX3_bringBack_25 rfl (li_nz (Or.inl rfl)) ⟨⟨_, rfl, Or.inl rfl, (by first | omega | (intro _; omega) | (intro hZq; exact absurd hZq (by decide)))⟩, hf⟩
  · have tc1 : 0 ≤ p1Zq.toInt := tl_nlt c1
    refine li_iload_n 1 dX3_bringBack_4 rfl ?_
    refine li_aload_n 0 dX3_bringBack_5 rfl ?_
    refine li_getr (k := 1) (N := 6) (T := TX3) (C0 := RX3) dX3_bringBack_6 (by decide) sh_21 rfl rfl (by decide) (by decide) li_in3 w_290 ?_
    refine li_alen 2 dX3_bringBack_9 (by decide) sh_23 (Or.inr (by decide)) rfl ?_
    refine li_icmp_ge 24 dX3_bringBack_10 (by decide) (fun c2 => ?_) (fun c2 => ?_)
    · have tc2 : 2 ≤ p1Zq.toInt := tl_le c2
      refine li_iconst 0 dX3_bringBack_24 (by decide) ?_
      have z0 : (0 : Int32).toInt = 0 := rfl
      exact li_iret dX3_bringBack_25 rfl (li_nz (Or.inl rfl)) ⟨⟨_, rfl, Or.inl rfl, (by first | omega | (intro _; omega) | (intro hZq; exact absurd hZq (by decide)))⟩, hf⟩
    · have tc2 : p1Zq.toInt < 2 := tl_nle c2
      refine li_aload_n 0 dX3_bringBack_13 rfl ?_
      refine li_geti (k := 3) (N := 6) (T := TX3) (C0 := RX3) dX3_bringBack_14 (by decide) sh_21 rfl rfl (by decide) li_in3 w_292 ?_
      refine li_top (fun x3 ex3Zq => ?_)
      have gx3 := tl_rg x3
      have vx3 : x3.toInt = (M0.1 21 3).toInt := tl_eq ex3Zq
      refine li_iload_n 1 dX3_bringBack_17 rfl ?_
      refine li_callN (n := 2) (As := [.int x3, .int p1Zq]) dX3_bringBack_18 (k15_X11_holds (d - 1) (by omega) x3 p1Zq M0 (by first | omega | decide)) (by omega) (Nat.le_of_ble_eq_true rfl) nw_37 w_857 w_101 w_858 (by decide +kernel) rfl rfl (Nat.le_of_ble_eq_true rfl) (fun r M5Zq h6 => ?_)
      obtain ⟨⟨x4Zq, rfl, bx4, qx4⟩, h6⟩ := h6
      have ux4 := tl_b bx4
      have hf := li_fr_trans hf h6 (fun i hZq => False.elim hZq)
      have mM5_21_3 : (M5Zq.1 21 3).toInt = (M0.1 21 3).toInt := by rw [h6.1 21 id]
      refine li_if_ne 26 dX3_bringBack_21 (by decide) (fun c7Zq => ?_) (fun c7Zq => ?_)
      · have tc7 : ¬ x4Zq.toInt = 0 := tl_ne c7Zq
        exfalso; omega
      · have tc7 : x4Zq.toInt = 0 := tl_eq c7Zq
        refine li_iconst 0 dX3_bringBack_24 (by decide) ?_
        have z0 : (0 : Int32).toInt = 0 := rfl
        exact li_iret dX3_bringBack_25 rfl (li_nz (Or.inl rfl)) ⟨⟨_, rfl, Or.inl rfl, (by first | omega | (intro _; omega) | (intro hZq; exact absurd hZq (by decide)))⟩, hf⟩
set_option maxRecDepth 100000 in
set_option maxHeartbeats 4000000 in
theorem k15_X11_again {l : Launch} {Z : li_Z} (d : Nat) (hdZq : 3 ≤ d) (p1Zq : Int32) (M0 : li_M) (z213 : (M0.1 21 3).toInt = 0) : li_Met l Z YX11_again d [.ref (Z.2.2 0), .int p1Zq] M0 (fun r M' => (∃ x : Int32, r = some (.int x) ∧ (x = 0 ∨ x = 1) ∧ (x.toInt = 0)) ∧ li_fr (fun i => False) M0 M') := by
  refine li_enter (by decide +kernel) (Nat.le_of_ble_eq_true rfl) ?_
  show li_T l Z YX11_again d 0 [(0, .ref (Z.2.2 0)), (1, .int p1Zq)] [] M0 _
  have hf : li_fr (fun i => False) M0 M0 := li_fr_refl
  have gp1 := tl_rg p1Zq
  refine li_aload_n 0 dX11_again_0 rfl ?_
  refine li_getr (k := 4) (N := 13) (T := TX11) (C0 := RX11) dX11_again_1 (by decide) sh_0 rfl rfl (by decide) (by decide) li_in11 w_477 ?_
  refine li_iload_n 1 dX11_again_4 rfl ?_
  refine li_aload_n 0 dX11_again_5 rfl ?_
  refine li_getr (k := 3) (N := 13) (T := TX11) (C0 := RX11) dX11_again_6 (by decide) sh_0 rfl rfl (by decide) (by decide) li_in11 w_476 ?_
  refine li_callV (n := 2) (As := [.int p1Zq, .ref (Z.2.2 13)]) dX11_again_9 (k15_X3_bringBack (d - 1) (by omega) p1Zq M0 (by first | omega | decide)) (by omega) (Nat.le_of_ble_eq_true rfl) w_1286 w_1287 w_1288 w_106 w_1289 (by decide +kernel) rfl (by decide) sh_21 rfl rfl (Nat.le_of_ble_eq_true rfl) (fun r M2Zq h3 => ?_)
  obtain ⟨⟨x1Zq, rfl, bx1, qx1⟩, h3⟩ := h3
  have ux1 := tl_b bx1
  have hf := li_fr_trans hf h3 (fun i hZq => False.elim hZq)
  have mM2_21_3 : (M2Zq.1 21 3).toInt = (M0.1 21 3).toInt := by rw [h3.1 21 id]
  exact li_iret dX11_again_12 rfl (li_nz (bx1)) ⟨⟨_, rfl, bx1, (by first | omega | (intro _; omega) | (intro hZq; exact absurd hZq (by decide)))⟩, hf⟩
set_option maxRecDepth 100000 in
set_option maxHeartbeats 4000000 in
theorem k15_X11_person {l : Launch} {Z : li_Z} (d : Nat) (hdZq : 6 ≤ d) (htr : l.stackTraces = false) (p1Zq p2Zq : Int32) (M0 : li_M) (z50Zq : (M0.1 5 0).toInt = 0) : l2_Met l Z YX11_person d [.ref (Z.2.2 0), .int p1Zq, .int p2Zq] M0 (fun r M' => (∃ x : Int32, r = some (.int x) ∧ False) ∧ li_fr (fun i => False) M0 M') := by
  refine l2_enter htr (by decide +kernel) (Nat.le_of_ble_eq_true rfl) ?_
  show l2_T l Z YX11_person d M0 0 [(0, .ref (Z.2.2 0)), (1, .int p1Zq), (2, .int p2Zq)] [] M0 _
  have hf : li_fr (fun i => False) M0 M0 := li_fr_refl
  have gp1 := tl_rg p1Zq
  have gp2 := tl_rg p2Zq
  refine l2_aload_n 0 dX11_person_0 rfl ?_
  refine l2_getr (k := 2) (N := 13) (T := TX11) (C0 := RX11) dX11_person_1 (by decide) sh_0 rfl rfl (by decide) (by decide) li_in11 w_475 ?_
  refine l2_iload_n 1 dX11_person_4 rfl ?_
  refine l2_callV (n := 1) (As := [.int p1Zq]) dX11_person_5 (k6_X8_hasPerson (d - 1) (by omega) p1Zq M0) (by omega) (Nat.le_of_ble_eq_true rfl) w_758 w_759 w_760 w_104 w_761 (by decide +kernel) rfl (by decide) sh_5 rfl rfl (Nat.le_of_ble_eq_true rfl) (fun r M2Zq h3 => ?_)
  obtain ⟨⟨x1Zq, rfl, bx1, qx1⟩, h3⟩ := h3
  have ux1 := tl_b bx1
  obtain rfl : M0 = M2Zq := (li_fr_none h3).symm
  refine l2_if_eq 21 dX11_person_8 (by decide) (fun c4 => ?_) (fun c4 => ?_)
  · have tc4 : x1Zq.toInt = 0 := tl_eq c4
    exact l2_throw (by omega) rfl rfl w_1303 w_122 (fun s V => V.2.2.2.1) dX11_person_21 dX11_person_24 dX11_person_25 dX11_person_27 dX11_person_30 (by decide)
  · have tc4 : ¬ x1Zq.toInt = 0 := tl_ne c4
    exfalso; omega
set_option maxRecDepth 100000 in
set_option maxHeartbeats 4000000 in
theorem k15_X11_thing {l : Launch} {Z : li_Z} (d : Nat) (hdZq : 6 ≤ d) (htr : l.stackTraces = false) (p1Zq p2Zq : Int32) (M0 : li_M) (z51 : (M0.1 5 1).toInt = 0) : l2_Met l Z YX11_thing d [.ref (Z.2.2 0), .int p1Zq, .int p2Zq] M0 (fun r M' => (∃ x : Int32, r = some (.int x) ∧ False) ∧ li_fr (fun i => False) M0 M') := by
  refine l2_enter htr (by decide +kernel) (Nat.le_of_ble_eq_true rfl) ?_
  show l2_T l Z YX11_thing d M0 0 [(0, .ref (Z.2.2 0)), (1, .int p1Zq), (2, .int p2Zq)] [] M0 _
  have hf : li_fr (fun i => False) M0 M0 := li_fr_refl
  have gp1 := tl_rg p1Zq
  have gp2 := tl_rg p2Zq
  refine l2_aload_n 0 dX11_thing_0 rfl ?_
  refine l2_getr (k := 2) (N := 13) (T := TX11) (C0 := RX11) dX11_thing_1 (by decide) sh_0 rfl rfl (by decide) (by decide) li_in11 w_475 ?_
  refine l2_iload_n 1 dX11_thing_4 rfl ?_
  refine l2_callV (n := 1) (As := [.int p1Zq]) dX11_thing_5 (k15_X8_hasThing (d - 1) (by omega) p1Zq M0) (by omega) (Nat.le_of_ble_eq_true rfl) w_784 w_785 w_786 w_104 w_787 (by decide +kernel) rfl (by decide) sh_5 rfl rfl (Nat.le_of_ble_eq_true rfl) (fun r M2Zq h3 => ?_)
  obtain ⟨⟨x1Zq, rfl, bx1, qx1⟩, h3⟩ := h3
  have ux1 := tl_b bx1
  obtain rfl : M0 = M2Zq := (li_fr_none h3).symm
  refine l2_if_eq 21 dX11_thing_8 (by decide) (fun c4 => ?_) (fun c4 => ?_)
  · have tc4 : x1Zq.toInt = 0 := tl_eq c4
    exact l2_throw (by omega) rfl rfl w_1303 w_122 (fun s V => V.2.2.2.2.1) dX11_thing_21 dX11_thing_24 dX11_thing_25 dX11_thing_27 dX11_thing_30 (by decide)
  · have tc4 : ¬ x1Zq.toInt = 0 := tl_ne c4
    exfalso; omega
set_option maxRecDepth 100000 in
set_option maxHeartbeats 4000000 in
theorem k15_X11_loan {l : Launch} {Z : li_Z} (d : Nat) (hdZq : 6 ≤ d) (htr : l.stackTraces = false) (p1Zq p2Zq : Int32) (M0 : li_M) (z132 : (M0.1 13 2).toInt = 0) : l2_Met l Z YX11_loan d [.ref (Z.2.2 0), .int p1Zq, .int p2Zq] M0 (fun r M' => (∃ x : Int32, r = some (.int x) ∧ False) ∧ li_fr (fun i => False) M0 M') := by
  refine l2_enter htr (by decide +kernel) (Nat.le_of_ble_eq_true rfl) ?_
  show l2_T l Z YX11_loan d M0 0 [(0, .ref (Z.2.2 0)), (1, .int p1Zq), (2, .int p2Zq)] [] M0 _
  have hf : li_fr (fun i => False) M0 M0 := li_fr_refl
  have gp1 := tl_rg p1Zq
  have gp2 := tl_rg p2Zq
  refine l2_iload_n 1 dX11_loan_0 rfl ?_
  refine l2_iconst 0 dX11_loan_1 (by decide) ?_
  refine l2_aload_n 0 dX11_loan_2 rfl ?_
  refine l2_getr (k := 3) (N := 13) (T := TX11) (C0 := RX11) dX11_loan_3 (by decide) sh_0 rfl rfl (by decide) (by decide) li_in11 w_476 ?_
  refine l2_geti (k := 2) (N := 11) (T := TX4) (C0 := RX4) dX11_loan_6 (by decide) sh_13 rfl rfl (by decide) li_in4 w_236 ?_
  refine l2_top (fun x1Zq ex1 => ?_)
  have gx1 := tl_rg x1Zq
  have vx1 : x1Zq.toInt = (M0.1 13 2).toInt := tl_eq ex1
  refine l2_iconst 1 dX11_loan_9 (by decide) ?_
  refine l2_isub dX11_loan_10 ?_
  refine l2_top (fun x2Zq ex2Zq => ?_)
  have tx2 : (-2147483648 ≤ x1Zq.toInt - 1 ∧ x1Zq.toInt - 1 ≤ 2147483647) → x2Zq.toInt = x1Zq.toInt - 1 := tl_sub ex2Zq
  refine l2_callS (n := 3) (As := [.int p1Zq, .int 0, .int x2Zq]) dX11_loan_11 (k4_X11_within2 (d - 1) (by omega) p1Zq 0 x2Zq M0) (by omega) (Nat.le_of_ble_eq_true rfl) w_762 w_639 w_101 w_640 (by decide +kernel) rfl rfl (Nat.le_of_ble_eq_true rfl) (fun r M4Zq h5 => ?_)
  have z0 : (0 : Int32).toInt = 0 := rfl
  obtain ⟨⟨x3, rfl, bx3, qx3⟩, h5⟩ := h5
  have ux3 := tl_b bx3
  obtain rfl : M0 = M4Zq := (li_fr_none h5).symm
  refine l2_if_eq 26 dX11_loan_14 (by decide) (fun c6Zq => ?_) (fun c6Zq => ?_)
  · have tc6 : x3.toInt = 0 := tl_eq c6Zq
    exact l2_throw (by omega) rfl rfl w_1303 w_122 (fun s V => V.2.2.2.2.2.1) dX11_loan_26 dX11_loan_29 dX11_loan_30 dX11_loan_32 dX11_loan_35 (by decide)
  · have tc6 : ¬ x3.toInt = 0 := tl_ne c6Zq
    exfalso; omega
set_option maxRecDepth 100000 in
set_option maxHeartbeats 4000000 in
theorem k15_X11_row {l : Launch} {Z : li_Z} (d : Nat) (hdZq : 6 ≤ d) (htr : l.stackTraces = false) (p1Zq : Int32) (M0 : li_M) (z31Zq : (M0.1 3 1).toInt = 0) : l2_Met l Z YX11_row d [.ref (Z.2.2 0), .int p1Zq] M0 (fun r M' => (∃ x : Int32, r = some (.int x) ∧ False) ∧ li_fr (fun i => False) M0 M') := by
  refine l2_enter htr (by decide +kernel) (Nat.le_of_ble_eq_true rfl) ?_
  show l2_T l Z YX11_row d M0 0 [(0, .ref (Z.2.2 0)), (1, .int p1Zq)] [] M0 _
  have hf : li_fr (fun i => False) M0 M0 := li_fr_refl
  have gp1 := tl_rg p1Zq
  refine l2_iload_n 1 dX11_row_0 rfl ?_
  refine l2_iconst 0 dX11_row_1 (by decide) ?_
  refine l2_aload_n 0 dX11_row_2 rfl ?_
  refine l2_getr (k := 1) (N := 13) (T := TX11) (C0 := RX11) dX11_row_3 (by decide) sh_0 rfl rfl (by decide) (by decide) li_in11 w_474 ?_
  refine l2_geti (k := 1) (N := 2) (T := TX5) (C0 := RX5) dX11_row_6 (by decide) sh_3 rfl rfl (by decide) li_in5 w_162 ?_
  refine l2_top (fun x1Zq ex1 => ?_)
  have gx1 := tl_rg x1Zq
  have vx1 : x1Zq.toInt = (M0.1 3 1).toInt := tl_eq ex1
  refine l2_iconst 1 dX11_row_9 (by decide) ?_
  refine l2_isub dX11_row_10 ?_
  refine l2_top (fun x2Zq ex2Zq => ?_)
  have tx2 : (-2147483648 ≤ x1Zq.toInt - 1 ∧ x1Zq.toInt - 1 ≤ 2147483647) → x2Zq.toInt = x1Zq.toInt - 1 := tl_sub ex2Zq
  refine l2_callS (n := 3) (As := [.int p1Zq, .int 0, .int x2Zq]) dX11_row_11 (k4_X11_within2 (d - 1) (by omega) p1Zq 0 x2Zq M0) (by omega) (Nat.le_of_ble_eq_true rfl) w_762 w_639 w_101 w_640 (by decide +kernel) rfl rfl (Nat.le_of_ble_eq_true rfl) (fun r M4Zq h5 => ?_)
  have z0 : (0 : Int32).toInt = 0 := rfl
  obtain ⟨⟨x3, rfl, bx3, qx3⟩, h5⟩ := h5
  have ux3 := tl_b bx3
  obtain rfl : M0 = M4Zq := (li_fr_none h5).symm
  refine l2_if_ne 28 dX11_row_14 (by decide) (fun c6Zq => ?_) (fun c6Zq => ?_)
  · have tc6 : ¬ x3.toInt = 0 := tl_ne c6Zq
    exfalso; omega
  · have tc6 : x3.toInt = 0 := tl_eq c6Zq
    exact l2_throwW (by omega) rfl rfl w_1303 w_122 (fun s V => V.2.2.2.2.2.2) dX11_row_17 dX11_row_20 dX11_row_21 dX11_row_24 dX11_row_27 (by decide)
