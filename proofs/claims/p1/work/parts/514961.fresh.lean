theorem lb_m1 : ∀ j, j < 32 → lb_bit (-1) j = true := by decide +kernel
theorem and_m1 (a : Int32) : a &&& (-1) = a := lb_ext (fun j hj => by rw [lb_and, lb_m1 j hj, Bool.and_true])
theorem z_of {a : Int32} (hZq : a.toInt = 0) : a = 0 := Int32.toInt_inj.mp (hZq.trans (by decide))
theorem xor_0m : (0 : Int32) ^^^ (-1) = -1 := by decide +kernel
theorem and_n0 {a p b x : Int32} (hp : p.toInt = 0) (e1Zq : b = p ^^^ (-1)) (e2Zq : x = a &&& b) : x = a := by
  rw [e2Zq, e1Zq, z_of hp, xor_0m, and_m1]
theorem zl_z : ∀ j, j < 32 → lb_bit 0 j = false := by decide +kernel
theorem and_z {a b x : Int32} (haZq : a.toInt = 0) (e : x = a &&& b) : x.toInt = 0 := by
  rw [e, z_of haZq, show (0 : Int32) &&& b = 0 from lb_ext (fun j hj => by rw [lb_and, zl_z j hj]; exact Bool.false_and _)]
  rfl
theorem ab_0 {p q a b c x : Int32} (hq : q.toInt = 0) (e1Zq : a = 1 <<< (q &&& 31)) (e2Zq : b = a - 1) (e3Zq : c = b ^^^ (-1)) (e4Zq : x = p &&& c) : x = p := by
  rw [e4Zq, e3Zq, e2Zq, e1Zq, z_of hq, show (1 : Int32) <<< ((0 : Int32) &&& 31) - 1 = 0 from by decide +kernel, xor_0m, and_m1]

set_option maxRecDepth 100000 in
set_option maxHeartbeats 4000000 in
theorem k15_X8_hasThing {l : Launch} {Z : li_Z} (d : Nat) (hdZq : 1 ≤ d) (p1Zq : Int32) (M0 : li_M) : li_Met l Z YX8_hasThing d [.ref (Z.2.2 5), .int p1Zq] M0 (fun r M' => (∃ x : Int32, r = some (.int x) ∧ (x = 0 ∨ x = 1) ∧ ((x.toInt = 1 ∧ 0 ≤ p1Zq.toInt ∧ p1Zq.toInt < (M0.1 5 1).toInt) ∨ (x.toInt = 0 ∧ (p1Zq.toInt < 0 ∨ (M0.1 5 1).toInt ≤ p1Zq.toInt)))) ∧ li_fr (fun i => False) M0 M') := by
  refine li_enter (by decide +kernel) (Nat.le_of_ble_eq_true rfl) ?_
  show li_T l Z YX8_hasThing d 0 [(0, .ref (Z.2.2 5)), (1, .int p1Zq)] [] M0 _
  have hf : li_fr (fun i => False) M0 M0 := li_fr_refl
  have gp1 := tl_rg p1Zq
  refine li_iload_n 1 dX8_hasThing_0 rfl ?_
  refine li_if_lt 16 dX8_hasThing_1 (by decide) (fun c1 => ?_) (fun c1 => ?_)
  · have tc1 : p1Zq.toInt < 0 := tl_lt c1
    refine li_iconst 0 dX8_hasThing_16 (by decide) ?_
    have z0 : (0 : Int32).toInt = 0 := rfl
    exact li_iret dX8_hasThing_17 rfl (li_nz (Or.inl rfl)) ⟨⟨_, rfl, Or.inl rfl, (by first | omega | (intro _; omega) | (intro hZq; exact absurd hZq (by decide)))⟩, hf⟩
  · have tc1 : 0 ≤ p1Zq.toInt := tl_nlt c1
    refine li_iload_n 1 dX8_hasThing_4 rfl ?_
    refine li_aload_n 0 dX8_hasThing_5 rfl ?_
    refine li_geti (k := 1) (N := 9) (T := TX8) (C0 := RX8) dX8_hasThing_6 (by decide) sh_5 rfl rfl (by decide) li_in8 w_179 ?_
    refine li_top (fun x2Zq ex2Zq => ?_)
    have gx2 := tl_rg x2Zq
    have vx2 : x2Zq.toInt = (M0.1 5 1).toInt := tl_eq ex2Zq
    refine li_icmp_ge 16 dX8_hasThing_9 (by decide) (fun c3 => ?_) (fun c3 => ?_)
    · have tc3 : x2Zq.toInt ≤ p1Zq.toInt := tl_le c3
      refine li_iconst 0 dX8_hasThing_16 (by decide) ?_
      have z0 : (0 : Int32).toInt = 0 := rfl
      exact li_iret dX8_hasThing_17 rfl (li_nz (Or.inl rfl)) ⟨⟨_, rfl, Or.inl rfl, (by first | omega | (intro _; omega) | (intro hZq; exact absurd hZq (by decide)))⟩, hf⟩
    · have tc3 : p1Zq.toInt < x2Zq.toInt := tl_nle c3
      refine li_iconst 1 dX8_hasThing_12 (by decide) ?_
      refine li_goto 17 dX8_hasThing_13 (by decide) ?_
      have z1 : (1 : Int32).toInt = 1 := rfl
      exact li_iret dX8_hasThing_17 rfl (li_nz (Or.inr rfl)) ⟨⟨_, rfl, Or.inr rfl, (by first | omega | (intro _; omega) | (intro hZq; exact absurd hZq (by decide)))⟩, hf⟩
set_option maxRecDepth 100000 in
set_option maxHeartbeats 4000000 in
theorem k15_X8_areTwo {l : Launch} {Z : li_Z} (d : Nat) (hdZq : 2 ≤ d) (p1Zq : Int32) (p2Zq : Int32) (M0 : li_M) (z50Zq : (M0.1 5 0).toInt = 0) : li_Met l Z YX8_areTwo d [.ref (Z.2.2 5), .int p1Zq, .int p2Zq] M0 (fun r M' => (∃ x : Int32, r = some (.int x) ∧ (x = 0 ∨ x = 1) ∧ (x.toInt = 0)) ∧ li_fr (fun i => False) M0 M') := by
  refine li_enter (by decide +kernel) (Nat.le_of_ble_eq_true rfl) ?_
  show li_T l Z YX8_areTwo d 0 [(0, .ref (Z.2.2 5)), (1, .int p1Zq), (2, .int p2Zq)] [] M0 _
  have hf : li_fr (fun i => False) M0 M0 := li_fr_refl
  have gp1 := tl_rg p1Zq
  have gp2 := tl_rg p2Zq
  refine li_aload_n 0 dX8_areTwo_0 rfl ?_
  refine li_iload_n 1 dX8_areTwo_1 rfl ?_
  refine li_callV (n := 1) (As := [.int p1Zq]) dX8_areTwo_2 (k6_X8_hasPerson (d - 1) (by omega) p1Zq M0) (by omega) (Nat.le_of_ble_eq_true rfl) w_888 w_759 w_760 w_104 w_761 (by decide +kernel) rfl (by decide) sh_5 rfl rfl (Nat.le_of_ble_eq_true rfl) (fun r M2Zq h3 => ?_)
  obtain ⟨⟨x1Zq, rfl, bx1, qx1⟩, h3⟩ := h3
  have ux1 := tl_b bx1
  have hf := li_fr_trans hf h3 (fun i hZq => False.elim hZq)
  have mM2_5_0 : (M2Zq.1 5 0).toInt = (M0.1 5 0).toInt := by rw [h3.1 5 id]
  have mM2_5_1 : (M2Zq.1 5 1).toInt = (M0.1 5 1).toInt := by rw [h3.1 5 id]
  refine li_if_eq 25 dX8_areTwo_5 (by decide) (fun c4 => ?_) (fun c4 => ?_)
  · have tc4 : x1Zq.toInt = 0 := tl_eq c4
    refine li_iconst 0 dX8_areTwo_25 (by decide) ?_
    have z0 : (0 : Int32).toInt = 0 := rfl
    exact li_iret dX8_areTwo_26 rfl (li_nz (Or.inl rfl)) ⟨⟨_, rfl, Or.inl rfl, (by first | omega | (intro _; omega) | (intro hZq; exact absurd hZq (by decide)))⟩, hf⟩
  · have tc4 : ¬ x1Zq.toInt = 0 := tl_ne c4
    refine li_aload_n 0 dX8_areTwo_8 rfl ?_
    refine li_iload_n 2 dX8_areTwo_9 rfl ?_
    refine li_callV (n := 1) (As := [.int p2Zq]) dX8_areTwo_10 (k6_X8_hasPerson (d - 1) (by omega) p2Zq M2Zq) (by omega) (Nat.le_of_ble_eq_true rfl) w_888 w_759 w_760 w_104 w_761 (by decide +kernel) rfl (by decide) sh_5 rfl rfl (Nat.le_of_ble_eq_true rfl) (fun r M6Zq h7 => ?_)
    obtain ⟨⟨x5Zq, rfl, bx5, qx5⟩, h7⟩ := h7
    have ux5 := tl_b bx5
    have hf := li_fr_trans hf h7 (fun i hZq => False.elim hZq)
    have mM6_5_0 : (M6Zq.1 5 0).toInt = (M2Zq.1 5 0).toInt := by rw [h7.1 5 id]
    have mM6_5_1 : (M6Zq.1 5 1).toInt = (M2Zq.1 5 1).toInt := by rw [h7.1 5 id]
    refine li_if_eq 25 dX8_areTwo_13 (by decide) (fun c8Zq => ?_) (fun c8Zq => ?_)
    · have tc8 : x5Zq.toInt = 0 := tl_eq c8Zq
      refine li_iconst 0 dX8_areTwo_25 (by decide) ?_
      have z0 : (0 : Int32).toInt = 0 := rfl
      exact li_iret dX8_areTwo_26 rfl (li_nz (Or.inl rfl)) ⟨⟨_, rfl, Or.inl rfl, (by first | omega | (intro _; omega) | (intro hZq; exact absurd hZq (by decide)))⟩, hf⟩
    · have tc8 : ¬ x5Zq.toInt = 0 := tl_ne c8Zq
      refine li_iload_n 1 dX8_areTwo_16 rfl ?_
      refine li_iload_n 2 dX8_areTwo_17 rfl ?_
      refine li_icmp_eq 25 dX8_areTwo_18 (by decide) (fun c9Zq => ?_) (fun c9Zq => ?_)
      · have tc9 : p1Zq.toInt = p2Zq.toInt := tl_eq c9Zq
        refine li_iconst 0 dX8_areTwo_25 (by decide) ?_
        have z0 : (0 : Int32).toInt = 0 := rfl
        exact li_iret dX8_areTwo_26 rfl (li_nz (Or.inl rfl)) ⟨⟨_, rfl, Or.inl rfl, (by first | omega | (intro _; omega) | (intro hZq; exact absurd hZq (by decide)))⟩, hf⟩
      · have tc9 : ¬ p1Zq.toInt = p2Zq.toInt := tl_ne c9Zq
        refine li_iconst 1 dX8_areTwo_21 (by decide) ?_
        refine li_goto 26 dX8_areTwo_22 (by decide) ?_
        have z1 : (1 : Int32).toInt = 1 := rfl
        exact li_iret dX8_areTwo_26 rfl (li_nz (Or.inr rfl)) ⟨⟨_, rfl, Or.inr rfl, (by first | omega | (intro _; omega) | (intro hZq; exact absurd hZq (by decide)))⟩, hf⟩
set_option maxRecDepth 100000 in
set_option maxHeartbeats 4000000 in
theorem k15_X11_areBitsOf {l : Launch} {Z : li_Z} (d : Nat) (hdZq : 1 ≤ d) (p1Zq : Int32) (p2Zq : Int32) (M0 : li_M) (h2 : p2Zq.toInt = 0) : li_Met l Z YX11_areBitsOf d [.int p1Zq, .int p2Zq] M0 (fun r M' => (∃ x : Int32, r = some (.int x) ∧ (x = 0 ∨ x = 1) ∧ ((x.toInt = 1 ∧ p1Zq.toInt = 0) ∨ (x.toInt = 0 ∧ ¬ p1Zq.toInt = 0))) ∧ li_fr (fun i => False) M0 M') := by
  refine li_enter (by decide +kernel) (Nat.le_of_ble_eq_true rfl) ?_
  show li_T l Z YX11_areBitsOf d 0 [(0, .int p1Zq), (1, .int p2Zq)] [] M0 _
  have hf : li_fr (fun i => False) M0 M0 := li_fr_refl
  have gp1 := tl_rg p1Zq
  have gp2 := tl_rg p2Zq
  refine li_iload_n 0 dX11_areBitsOf_0 rfl ?_
  refine li_iconst 1 dX11_areBitsOf_1 (by decide) ?_
  refine li_iload_n 1 dX11_areBitsOf_2 rfl ?_
  refine li_ishl dX11_areBitsOf_3 ?_
  refine li_top (fun x1Zq ex1 => ?_)
  refine li_iconst 1 dX11_areBitsOf_4 (by decide) ?_
  refine li_isub dX11_areBitsOf_5 ?_
  refine li_top (fun x2Zq ex2Zq => ?_)
  have tx2 : (-2147483648 ≤ x1Zq.toInt - 1 ∧ x1Zq.toInt - 1 ≤ 2147483647) → x2Zq.toInt = x1Zq.toInt - 1 := tl_sub ex2Zq
  refine li_iconst (-1) dX11_areBitsOf_6 (by decide) ?_
  refine li_ixor dX11_areBitsOf_7 ?_
  refine li_top (fun x3 ex3Zq => ?_)
  refine li_iand dX11_areBitsOf_8 ?_
  refine li_top (fun x4Zq ex4 => ?_)
  have xs : x4Zq.toInt = p1Zq.toInt := by rw [ab_0 h2 ex1 ex2Zq ex3Zq ex4]
  refine li_if_ne 16 dX11_areBitsOf_9 (by decide) (fun c5Zq => ?_) (fun c5Zq => ?_)
  · have tc5 : ¬ x4Zq.toInt = 0 := tl_ne c5Zq
    refine li_iconst 0 dX11_areBitsOf_16 (by decide) ?_
    have z0 : (0 : Int32).toInt = 0 := rfl
    exact li_iret dX11_areBitsOf_17 rfl (li_nz (Or.inl rfl)) ⟨⟨_, rfl, Or.inl rfl, (by first | omega | (intro _; omega) | (intro hZq; exact absurd hZq (by decide)))⟩, hf⟩
  · have tc5 : x4Zq.toInt = 0 := tl_eq c5Zq
    refine li_iconst 1 dX11_areBitsOf_12 (by decide) ?_
    refine li_goto 17 dX11_areBitsOf_13 (by decide) ?_
    have z1 : (1 : Int32).toInt = 1 := rfl
    exact li_iret dX11_areBitsOf_17 rfl (li_nz (Or.inr rfl)) ⟨⟨_, rfl, Or.inr rfl, (by first | omega | (intro _; omega) | (intro hZq; exact absurd hZq (by decide)))⟩, hf⟩
set_option maxRecDepth 100000 in
set_option maxHeartbeats 4000000 in
theorem k15_X11_held {l : Launch} {Z : li_Z} (d : Nat) (hdZq : 3 ≤ d) (p1Zq : Int32) (M0 : li_M) : li_Met l Z YX11_held d [.ref (Z.2.2 0), .int p1Zq] M0 (fun r M' => (∃ x : Int32, r = some (.int x) ∧ (x.toInt = p1Zq.toInt)) ∧ li_fr (fun i => i = 21 ∨ (32 ≤ i ∧ i < 128)) M0 M') := by
  refine li_enter (by decide +kernel) (Nat.le_of_ble_eq_true rfl) ?_
  show li_T l Z YX11_held d 0 [(0, .ref (Z.2.2 0)), (1, .int p1Zq)] [] M0 _
  have hf : li_fr (fun i => i = 21 ∨ (32 ≤ i ∧ i < 128)) M0 M0 := li_fr_refl
  have gp1 := tl_rg p1Zq
  refine li_iload_n 1 dX11_held_0 rfl ?_
  refine li_if_lt 11 dX11_held_1 (by decide) (fun c1 => ?_) (fun c1 => ?_)
  · have tc1 : p1Zq.toInt < 0 := tl_lt c1
    refine li_iload_n 1 dX11_held_11 rfl ?_
    exact li_iret dX11_held_12 rfl rfl ⟨⟨_, rfl, (by first | omega | (intro _; omega) | (intro hZq; exact absurd hZq (by decide)))⟩, hf⟩
  · have tc1 : 0 ≤ p1Zq.toInt := tl_nlt c1
    refine li_aload_n 0 dX11_held_4 rfl ?_
    refine li_getr (k := 4) (N := 13) (T := TX11) (C0 := RX11) dX11_held_5 (by decide) sh_0 rfl rfl (by decide) (by decide) li_in11 w_477 ?_
    refine li_callV (n := 0) (As := []) dX11_held_8 (k_X3_hold (d - 1) (by omega)  M0) (by omega) (Nat.le_of_ble_eq_true rfl) w_871 w_872 w_873 w_106 w_874 (by decide +kernel) rfl (by decide) sh_21 rfl rfl (Nat.le_of_ble_eq_true rfl) (fun r M3Zq h4 => ?_)
    obtain ⟨rfl, h4⟩ := h4
    have hf := li_fr_trans hf h4 (fun i (hZq : i = 21 ∨ (32 ≤ i ∧ i < 128)) => (show i = 21 ∨ (32 ≤ i ∧ i < 128) by omega))
    have mM3_5_0 : (M3Zq.1 5 0).toInt = (M0.1 5 0).toInt := by rw [h4.1 5 (show ¬ (5 = 21 ∨ (32 ≤ 5 ∧ 5 < 128)) by omega)]
    have mM3_5_1 : (M3Zq.1 5 1).toInt = (M0.1 5 1).toInt := by rw [h4.1 5 (show ¬ (5 = 21 ∨ (32 ≤ 5 ∧ 5 < 128)) by omega)]
    refine li_iload_n 1 dX11_held_11 rfl ?_
    exact li_iret dX11_held_12 rfl rfl ⟨⟨_, rfl, (by first | omega | (intro _; omega) | (intro hZq; exact absurd hZq (by decide)))⟩, hf⟩
set_option maxRecDepth 100000 in
set_option maxHeartbeats 4000000 in
theorem k15_X11_cost {l : Launch} {Z : li_Z} (d : Nat) (hdZq : 2 ≤ d) (p1Zq : Int32) (p2Zq : Int32) (M0 : li_M) (z51 : (M0.1 5 1).toInt = 0) : li_Met l Z YX11_cost d [.ref (Z.2.2 0), .int p1Zq, .int p2Zq] M0 (fun r M' => (∃ x : Int32, r = some (.int x) ∧ (x.toInt = -1)) ∧ li_fr (fun i => False) M0 M') := by
  refine li_enter (by decide +kernel) (Nat.le_of_ble_eq_true rfl) ?_
  show li_T l Z YX11_cost d 0 [(0, .ref (Z.2.2 0)), (1, .int p1Zq), (2, .int p2Zq)] [] M0 _
  have hf : li_fr (fun i => False) M0 M0 := li_fr_refl
  have gp1 := tl_rg p1Zq
  have gp2 := tl_rg p2Zq
  refine li_aload_n 0 dX11_cost_0 rfl ?_
  refine li_getr (k := 2) (N := 13) (T := TX11) (C0 := RX11) dX11_cost_1 (by decide) sh_0 rfl rfl (by decide) (by decide) li_in11 w_475 ?_
  refine li_iload_n 1 dX11_cost_4 rfl ?_
  refine li_callV (n := 1) (As := [.int p1Zq]) dX11_cost_5 (k15_X8_hasThing (d - 1) (by omega) p1Zq M0) (by omega) (Nat.le_of_ble_eq_true rfl) w_784 w_785 w_786 w_104 w_787 (by decide +kernel) rfl (by decide) sh_5 rfl rfl (Nat.le_of_ble_eq_true rfl) (fun r M2Zq h3 => ?_)
  obtain ⟨⟨x1Zq, rfl, bx1, qx1⟩, h3⟩ := h3
  have ux1 := tl_b bx1
  have hf := li_fr_trans hf h3 (fun i hZq => False.elim hZq)
  have mM2_5_0 : (M2Zq.1 5 0).toInt = (M0.1 5 0).toInt := by rw [h3.1 5 id]
  have mM2_5_1 : (M2Zq.1 5 1).toInt = (M0.1 5 1).toInt := by rw [h3.1 5 id]
  refine li_if_eq 20 dX11_cost_8 (by decide) (fun c4 => ?_) (fun c4 => ?_)
  · have tc4 : x1Zq.toInt = 0 := tl_eq c4
    refine li_iconst (-1) dX11_cost_20 (by decide) ?_
    have zm1 : ((-1) : Int32).toInt = -1 := rfl
    exact li_iret dX11_cost_21 rfl rfl ⟨⟨_, rfl, (by first | omega | (intro _; omega) | (intro hZq; exact absurd hZq (by decide)))⟩, hf⟩
  · have tc4 : ¬ x1Zq.toInt = 0 := tl_ne c4
    exfalso; omega
set_option maxRecDepth 100000 in
set_option maxHeartbeats 4000000 in
theorem k15_X11_utter {l : Launch} {Z : li_Z} (d : Nat) (hdZq : 2 ≤ d) (p1Zq : Int32) (p2Zq : Int32) (M0 : li_M) (z51 : (M0.1 5 1).toInt = 0) : li_Met l Z YX11_utter d [.ref (Z.2.2 0), .int p1Zq, .int p2Zq] M0 (fun r M' => (∃ x : Int32, r = some (.int x) ∧ (x.toInt = -1)) ∧ li_fr (fun i => False) M0 M') := by
  refine li_enter (by decide +kernel) (Nat.le_of_ble_eq_true rfl) ?_
  show li_T l Z YX11_utter d 0 [(0, .ref (Z.2.2 0)), (1, .int p1Zq), (2, .int p2Zq)] [] M0 _
  have hf : li_fr (fun i => False) M0 M0 := li_fr_refl
  have gp1 := tl_rg p1Zq
  have gp2 := tl_rg p2Zq
  refine li_aload_n 0 dX11_utter_0 rfl ?_
  refine li_getr (k := 2) (N := 13) (T := TX11) (C0 := RX11) dX11_utter_1 (by decide) sh_0 rfl rfl (by decide) (by decide) li_in11 w_475 ?_
  refine li_iload_n 1 dX11_utter_4 rfl ?_
  refine li_callV (n := 1) (As := [.int p1Zq]) dX11_utter_5 (k15_X8_hasThing (d - 1) (by omega) p1Zq M0) (by omega) (Nat.le_of_ble_eq_true rfl) w_784 w_785 w_786 w_104 w_787 (by decide +kernel) rfl (by decide) sh_5 rfl rfl (Nat.le_of_ble_eq_true rfl) (fun r M2Zq h3 => ?_)
  obtain ⟨⟨x1Zq, rfl, bx1, qx1⟩, h3⟩ := h3
  have ux1 := tl_b bx1
  have hf := li_fr_trans hf h3 (fun i hZq => False.elim hZq)
  have mM2_5_0 : (M2Zq.1 5 0).toInt = (M0.1 5 0).toInt := by rw [h3.1 5 id]
  have mM2_5_1 : (M2Zq.1 5 1).toInt = (M0.1 5 1).toInt := by rw [h3.1 5 id]
  refine li_if_eq 20 dX11_utter_8 (by decide) (fun c4 => ?_) (fun c4 => ?_)
  · have tc4 : x1Zq.toInt = 0 := tl_eq c4
    refine li_iconst (-1) dX11_utter_20 (by decide) ?_
    have zm1 : ((-1) : Int32).toInt = -1 := rfl
    exact li_iret dX11_utter_21 rfl rfl ⟨⟨_, rfl, (by first | omega | (intro _; omega) | (intro hZq; exact absurd hZq (by decide)))⟩, hf⟩
  · have tc4 : ¬ x1Zq.toInt = 0 := tl_ne c4
    exfalso; omega
set_option maxRecDepth 100000 in
set_option maxHeartbeats 4000000 in
theorem k15_X11_say {l : Launch} {Z : li_Z} (d : Nat) (hdZq : 4 ≤ d) (p1Zq : Int32) (p2Zq : Int32) (M0 : li_M) (z51 : (M0.1 5 1).toInt = 0) : li_Met l Z YX11_say d [.ref (Z.2.2 0), .int p1Zq, .int p2Zq] M0 (fun r M' => (∃ x : Int32, r = some (.int x) ∧ (x.toInt = -1)) ∧ li_fr (fun i => i = 21 ∨ i = 24 ∨ i = 25 ∨ i = 26 ∨ i = 27 ∨ i = 28 ∨ i = 29 ∨ i = 30 ∨ i = 31 ∨ (32 ≤ i ∧ i < 128)) M0 M') := by
  refine li_enter (by decide +kernel) (Nat.le_of_ble_eq_true rfl) ?_
  show li_T l Z YX11_say d 0 [(0, .ref (Z.2.2 0)), (1, .int p1Zq), (2, .int p2Zq)] [] M0 _
  have hf : li_fr (fun i => i = 21 ∨ i = 24 ∨ i = 25 ∨ i = 26 ∨ i = 27 ∨ i = 28 ∨ i = 29 ∨ i = 30 ∨ i = 31 ∨ (32 ≤ i ∧ i < 128)) M0 M0 := li_fr_refl
  have gp1 := tl_rg p1Zq
  have gp2 := tl_rg p2Zq
  refine li_aload_n 0 dX11_say_0 rfl ?_
  refine li_getr (k := 4) (N := 13) (T := TX11) (C0 := RX11) dX11_say_1 (by decide) sh_0 rfl rfl (by decide) (by decide) li_in11 w_477 ?_
  refine li_aload_n 0 dX11_say_4 rfl ?_
  refine li_getr (k := 3) (N := 13) (T := TX11) (C0 := RX11) dX11_say_5 (by decide) sh_0 rfl rfl (by decide) (by decide) li_in11 w_476 ?_
  refine li_callV (n := 1) (As := [.ref (Z.2.2 13)]) dX11_say_8 (k_X3_note (d - 1) (by omega)  M0) (by omega) (Nat.le_of_ble_eq_true rfl) w_843 w_844 w_845 w_106 w_846 (by decide +kernel) rfl (by decide) sh_21 rfl rfl (Nat.le_of_ble_eq_true rfl) (fun r M2Zq h3 => ?_)
  obtain ⟨rfl, h3⟩ := h3
  have hf := li_fr_trans hf h3 (fun i (hZq : i = 24 ∨ i = 25 ∨ i = 26 ∨ i = 27 ∨ i = 28 ∨ i = 29 ∨ i = 30 ∨ i = 31) => (show i = 21 ∨ i = 24 ∨ i = 25 ∨ i = 26 ∨ i = 27 ∨ i = 28 ∨ i = 29 ∨ i = 30 ∨ i = 31 ∨ (32 ≤ i ∧ i < 128) by omega))
  have mM2_5_0 : (M2Zq.1 5 0).toInt = (M0.1 5 0).toInt := by rw [h3.1 5 (show ¬ (5 = 24 ∨ 5 = 25 ∨ 5 = 26 ∨ 5 = 27 ∨ 5 = 28 ∨ 5 = 29 ∨ 5 = 30 ∨ 5 = 31) by omega)]
  have mM2_5_1 : (M2Zq.1 5 1).toInt = (M0.1 5 1).toInt := by rw [h3.1 5 (show ¬ (5 = 24 ∨ 5 = 25 ∨ 5 = 26 ∨ 5 = 27 ∨ 5 = 28 ∨ 5 = 29 ∨ 5 = 30 ∨ 5 = 31) by omega)]
  refine li_aload_n 0 dX11_say_11 rfl ?_
  refine li_aload_n 0 dX11_say_12 rfl ?_
  refine li_iload_n 1 dX11_say_13 rfl ?_
  refine li_iload_n 2 dX11_say_14 rfl ?_
  refine li_callV (n := 2) (As := [.int p1Zq, .int p2Zq]) dX11_say_15 (k15_X11_utter (d - 1) (by omega) p1Zq p2Zq M2Zq (by first | omega | decide)) (by omega) (Nat.le_of_ble_eq_true rfl) w_852 w_854 w_15 w_101 w_855 (by decide +kernel) rfl (by decide) sh_0 rfl rfl (Nat.le_of_ble_eq_true rfl) (fun r M5Zq h6 => ?_)
  obtain ⟨⟨x4Zq, rfl, qx4⟩, h6⟩ := h6
  have gx4 := tl_rg x4Zq
  have hf := li_fr_trans hf h6 (fun i hZq => False.elim hZq)
  have mM5_5_0 : (M5Zq.1 5 0).toInt = (M2Zq.1 5 0).toInt := by rw [h6.1 5 id]
  have mM5_5_1 : (M5Zq.1 5 1).toInt = (M2Zq.1 5 1).toInt := by rw [h6.1 5 id]
  refine li_callV (n := 1) (As := [.int x4Zq]) dX11_say_18 (k15_X11_held (d - 1) (by omega) x4Zq M5Zq) (by omega) (Nat.le_of_ble_eq_true rfl) w_867 w_869 w_16 w_101 w_870 (by decide +kernel) rfl (by decide) sh_0 rfl rfl (Nat.le_of_ble_eq_true rfl) (fun r M8Zq h9 => ?_)
  obtain ⟨⟨x7, rfl, qx7⟩, h9⟩ := h9
  have gx7 := tl_rg x7
  have hf := li_fr_trans hf h9 (fun i (hZq : i = 21 ∨ (32 ≤ i ∧ i < 128)) => (show i = 21 ∨ i = 24 ∨ i = 25 ∨ i = 26 ∨ i = 27 ∨ i = 28 ∨ i = 29 ∨ i = 30 ∨ i = 31 ∨ (32 ≤ i ∧ i < 128) by omega))
  have mM8_5_0 : (M8Zq.1 5 0).toInt = (M5Zq.1 5 0).toInt := by rw [h9.1 5 (show ¬ (5 = 21 ∨ (32 ≤ 5 ∧ 5 < 128)) by omega)]
  have mM8_5_1 : (M8Zq.1 5 1).toInt = (M5Zq.1 5 1).toInt := by rw [h9.1 5 (show ¬ (5 = 21 ∨ (32 ≤ 5 ∧ 5 < 128)) by omega)]
  exact li_iret dX11_say_21 rfl rfl ⟨⟨_, rfl, (by first | omega | (intro _; omega) | (intro hZq; exact absurd hZq (by decide)))⟩, hf⟩
set_option maxRecDepth 100000 in
set_option maxHeartbeats 4000000 in
theorem k15_X11_handOver {l : Launch} {Z : li_Z} (d : Nat) (hdZq : 3 ≤ d) (p1Zq : Int32) (p2Zq : Int32) (p3Zq : Int32) (M0 : li_M) (z50Zq : (M0.1 5 0).toInt = 0) : li_Met l Z YX11_handOver d [.ref (Z.2.2 0), .int p1Zq, .int p2Zq, .int p3Zq] M0 (fun r M' => (∃ x : Int32, r = some (.int x) ∧ (x.toInt = -1)) ∧ li_fr (fun i => False) M0 M') := by
  refine li_enter (by decide +kernel) (Nat.le_of_ble_eq_true rfl) ?_
  show li_T l Z YX11_handOver d 0 [(0, .ref (Z.2.2 0)), (1, .int p1Zq), (2, .int p2Zq), (3, .int p3Zq)] [] M0 _
  have hf : li_fr (fun i => False) M0 M0 := li_fr_refl
  have gp1 := tl_rg p1Zq
  have gp2 := tl_rg p2Zq
  have gp3 := tl_rg p3Zq
  refine li_aload_n 0 dX11_handOver_0 rfl ?_
  refine li_getr (k := 2) (N := 13) (T := TX11) (C0 := RX11) dX11_handOver_1 (by decide) sh_0 rfl rfl (by decide) (by decide) li_in11 w_475 ?_
  refine li_iload_n 1 dX11_handOver_4 rfl ?_
  refine li_iload_n 2 dX11_handOver_5 rfl ?_
  refine li_callV (n := 2) (As := [.int p1Zq, .int p2Zq]) dX11_handOver_6 (k15_X8_areTwo (d - 1) (by omega) p1Zq p2Zq M0 (by first | omega | decide)) (by omega) (Nat.le_of_ble_eq_true rfl) w_884 w_885 w_886 w_104 w_887 (by decide +kernel) rfl (by decide) sh_5 rfl rfl (Nat.le_of_ble_eq_true rfl) (fun r M2Zq h3 => ?_)
  obtain ⟨⟨x1Zq, rfl, bx1, qx1⟩, h3⟩ := h3
  have ux1 := tl_b bx1
  have hf := li_fr_trans hf h3 (fun i hZq => False.elim hZq)
  have mM2_5_0 : (M2Zq.1 5 0).toInt = (M0.1 5 0).toInt := by rw [h3.1 5 id]
  have mM2_5_1 : (M2Zq.1 5 1).toInt = (M0.1 5 1).toInt := by rw [h3.1 5 id]
  refine li_if_eq 23 dX11_handOver_9 (by decide) (fun c4 => ?_) (fun c4 => ?_)
  · have tc4 : x1Zq.toInt = 0 := tl_eq c4
    refine li_iconst (-1) dX11_handOver_23 (by decide) ?_
    have zm1 : ((-1) : Int32).toInt = -1 := rfl
    exact li_iret dX11_handOver_24 rfl rfl ⟨⟨_, rfl, (by first | omega | (intro _; omega) | (intro hZq; exact absurd hZq (by decide)))⟩, hf⟩
  · have tc4 : ¬ x1Zq.toInt = 0 := tl_ne c4
    exfalso; omega
set_option maxRecDepth 100000 in
set_option maxHeartbeats 4000000 in
theorem k15_X11_give {l : Launch} {Z : li_Z} (d : Nat) (hdZq : 4 ≤ d) (p1Zq : Int32) (p2Zq : Int32) (p3Zq : Int32) (M0 : li_M) (z50Zq : (M0.1 5 0).toInt = 0) : li_Met l Z YX11_give d [.ref (Z.2.2 0), .int p1Zq, .int p2Zq, .int p3Zq] M0 (fun r M' => (∃ x : Int32, r = some (.int x) ∧ (x.toInt = -1)) ∧ li_fr (fun i => i = 21 ∨ i = 24 ∨ i = 25 ∨ i = 26 ∨ i = 27 ∨ i = 28 ∨ i = 29 ∨ i = 30 ∨ i = 31 ∨ (32 ≤ i ∧ i < 128)) M0 M') := by
  refine li_enter (by decide +kernel) (Nat.le_of_ble_eq_true rfl) ?_
  show li_T l Z YX11_give d 0 [(0, .ref (Z.2.2 0)), (1, .int p1Zq), (2, .int p2Zq), (3, .int p3Zq)] [] M0 _
  have hf : li_fr (fun i => i = 21 ∨ i = 24 ∨ i = 25 ∨ i = 26 ∨ i = 27 ∨ i = 28 ∨ i = 29 ∨ i = 30 ∨ i = 31 ∨ (32 ≤ i ∧ i < 128)) M0 M0 := li_fr_refl
  have gp1 := tl_rg p1Zq
  have gp2 := tl_rg p2Zq
  have gp3 := tl_rg p3Zq
  refine li_aload_n 0 dX11_give_0 rfl ?_
  refine li_getr (k := 4) (N := 13) (T := TX11) (C0 := RX11) dX11_give_1 (by decide) sh_0 rfl rfl (by decide) (by decide) li_in11 w_477 ?_
  refine li_aload_n 0 dX11_give_4 rfl ?_
  refine li_getr (k := 3) (N := 13) (T := TX11) (C0 := RX11) dX11_give_5 (by decide) sh_0 rfl rfl (by decide) (by decide) li_in11 w_476 ?_
  refine li_callV (n := 1) (As := [.ref (Z.2.2 13)]) dX11_give_8 (k_X3_note (d - 1) (by omega)  M0) (by omega) (Nat.le_of_ble_eq_true rfl) w_843 w_844 w_845 w_106 w_846 (by decide +kernel) rfl (by decide) sh_21 rfl rfl (Nat.le_of_ble_eq_true rfl) (fun r M2Zq h3 => ?_)
  obtain ⟨rfl, h3⟩ := h3
  have hf := li_fr_trans hf h3 (fun i (hZq : i = 24 ∨ i = 25 ∨ i = 26 ∨ i = 27 ∨ i = 28 ∨ i = 29 ∨ i = 30 ∨ i = 31) => (show i = 21 ∨ i = 24 ∨ i = 25 ∨ i = 26 ∨ i = 27 ∨ i = 28 ∨ i = 29 ∨ i = 30 ∨ i = 31 ∨ (32 ≤ i ∧ i < 128) by omega))
  have mM2_5_0 : (M2Zq.1 5 0).toInt = (M0.1 5 0).toInt := by rw [h3.1 5 (show ¬ (5 = 24 ∨ 5 = 25 ∨ 5 = 26 ∨ 5 = 27 ∨ 5 = 28 ∨ 5 = 29 ∨ 5 = 30 ∨ 5 = 31) by omega)]
  have mM2_5_1 : (M2Zq.1 5 1).toInt = (M0.1 5 1).toInt := by rw [h3.1 5 (show ¬ (5 = 24 ∨ 5 = 25 ∨ 5 = 26 ∨ 5 = 27 ∨ 5 = 28 ∨ 5 = 29 ∨ 5 = 30 ∨ 5 = 31) by omega)]
  refine li_aload_n 0 dX11_give_11 rfl ?_
  refine li_aload_n 0 dX11_give_12 rfl ?_
  refine li_iload_n 1 dX11_give_13 rfl ?_
  refine li_iload_n 2 dX11_give_14 rfl ?_
  refine li_iload_n 3 dX11_give_15 rfl ?_
  refine li_callV (n := 3) (As := [.int p1Zq, .int p2Zq, .int p3Zq]) dX11_give_16 (k15_X11_handOver (d - 1) (by omega) p1Zq p2Zq p3Zq M2Zq (by first | omega | decide)) (by omega) (Nat.le_of_ble_eq_true rfl) w_880 w_882 w_17 w_101 w_883 (by decide +kernel) rfl (by decide) sh_0 rfl rfl (Nat.le_of_ble_eq_true rfl) (fun r M5Zq h6 => ?_)
  obtain ⟨⟨x4Zq, rfl, qx4⟩, h6⟩ := h6
  have gx4 := tl_rg x4Zq
  have hf := li_fr_trans hf h6 (fun i hZq => False.elim hZq)
  have mM5_5_0 : (M5Zq.1 5 0).toInt = (M2Zq.1 5 0).toInt := by rw [h6.1 5 id]
  have mM5_5_1 : (M5Zq.1 5 1).toInt = (M2Zq.1 5 1).toInt := by rw [h6.1 5 id]
  refine li_callV (n := 1) (As := [.int x4Zq]) dX11_give_19 (k15_X11_held (d - 1) (by omega) x4Zq M5Zq) (by omega) (Nat.le_of_ble_eq_true rfl) w_867 w_869 w_16 w_101 w_870 (by decide +kernel) rfl (by decide) sh_0 rfl rfl (Nat.le_of_ble_eq_true rfl) (fun r M8Zq h9 => ?_)
  obtain ⟨⟨x7, rfl, qx7⟩, h9⟩ := h9
  have gx7 := tl_rg x7
  have hf := li_fr_trans hf h9 (fun i (hZq : i = 21 ∨ (32 ≤ i ∧ i < 128)) => (show i = 21 ∨ i = 24 ∨ i = 25 ∨ i = 26 ∨ i = 27 ∨ i = 28 ∨ i = 29 ∨ i = 30 ∨ i = 31 ∨ (32 ≤ i ∧ i < 128) by omega))
  have mM8_5_0 : (M8Zq.1 5 0).toInt = (M5Zq.1 5 0).toInt := by rw [h9.1 5 (show ¬ (5 = 21 ∨ (32 ≤ 5 ∧ 5 < 128)) by omega)]
  have mM8_5_1 : (M8Zq.1 5 1).toInt = (M5Zq.1 5 1).toInt := by rw [h9.1 5 (show ¬ (5 = 21 ∨ (32 ≤ 5 ∧ 5 < 128)) by omega)]
  exact li_iret dX11_give_22 rfl rfl ⟨⟨_, rfl, (by first | omega | (intro _; omega) | (intro hZq; exact absurd hZq (by decide)))⟩, hf⟩
set_option maxRecDepth 100000 in
set_option maxHeartbeats 4000000 in
theorem k15_X11_lend {l : Launch} {Z : li_Z} (d : Nat) (hdZq : 3 ≤ d) (p1Zq : Int32) (p2Zq : Int32) (p3Zq : Int32) (p4Zq : Int32) (M0 : li_M) (z50Zq : (M0.1 5 0).toInt = 0) : li_Met l Z YX11_lend d [.ref (Z.2.2 0), .int p1Zq, .int p2Zq, .int p3Zq, .int p4Zq] M0 (fun r M' => (∃ x : Int32, r = some (.int x) ∧ (x.toInt = -1)) ∧ li_fr (fun i => False) M0 M') := by
  refine li_enter (by decide +kernel) (Nat.le_of_ble_eq_true rfl) ?_
  show li_T l Z YX11_lend d 0 [(0, .ref (Z.2.2 0)), (1, .int p1Zq), (2, .int p2Zq), (3, .int p3Zq), (4, .int p4Zq)] [] M0 _
  have hf : li_fr (fun i => False) M0 M0 := li_fr_refl
  have gp1 := tl_rg p1Zq
  have gp2 := tl_rg p2Zq
  have gp3 := tl_rg p3Zq
  have gp4 := tl_rg p4Zq
  refine li_aload_n 0 dX11_lend_0 rfl ?_
  refine li_getr (k := 2) (N := 13) (T := TX11) (C0 := RX11) dX11_lend_1 (by decide) sh_0 rfl rfl (by decide) (by decide) li_in11 w_475 ?_
  refine li_iload_n 1 dX11_lend_4 rfl ?_
  refine li_iload_n 2 dX11_lend_5 rfl ?_
  refine li_callV (n := 2) (As := [.int p1Zq, .int p2Zq]) dX11_lend_6 (k15_X8_areTwo (d - 1) (by omega) p1Zq p2Zq M0 (by first | omega | decide)) (by omega) (Nat.le_of_ble_eq_true rfl) w_884 w_885 w_886 w_104 w_887 (by decide +kernel) rfl (by decide) sh_5 rfl rfl (Nat.le_of_ble_eq_true rfl) (fun r M2Zq h3 => ?_)
  obtain ⟨⟨x1Zq, rfl, bx1, qx1⟩, h3⟩ := h3
  have ux1 := tl_b bx1
  have hf := li_fr_trans hf h3 (fun i hZq => False.elim hZq)
  have mM2_5_0 : (M2Zq.1 5 0).toInt = (M0.1 5 0).toInt := by rw [h3.1 5 id]
  have mM2_5_1 : (M2Zq.1 5 1).toInt = (M0.1 5 1).toInt := by rw [h3.1 5 id]
  refine li_if_eq 23 dX11_lend_9 (by decide) (fun c4 => ?_) (fun c4 => ?_)
  · have tc4 : x1Zq.toInt = 0 := tl_eq c4
    refine li_iconst (-1) dX11_lend_23 (by decide) ?_
    have zm1 : ((-1) : Int32).toInt = -1 := rfl
    exact li_iret dX11_lend_24 rfl rfl ⟨⟨_, rfl, (by first | omega | (intro _; omega) | (intro hZq; exact absurd hZq (by decide)))⟩, hf⟩
  · have tc4 : ¬ x1Zq.toInt = 0 := tl_ne c4
    exfalso; omega
set_option maxRecDepth 100000 in
set_option maxHeartbeats 4000000 in
theorem k15_X3_stepBack {l : Launch} {Z : li_Z} (d : Nat) (hdZq : 1 ≤ d) (M0 : li_M) (z214 : (M0.1 21 4).toInt = 0) : li_Met l Z YX3_stepBack d [.ref (Z.2.2 21), .ref (Z.2.2 13)] M0 (fun r M' => (∃ x : Int32, r = some (.int x) ∧ (x = 0 ∨ x = 1) ∧ (x.toInt = 0)) ∧ li_fr (fun i => False) M0 M') := by
  refine li_enter (by decide +kernel) (Nat.le_of_ble_eq_true rfl) ?_
  show li_T l Z YX3_stepBack d 0 [(0, .ref (Z.2.2 21)), (1, .ref (Z.2.2 13))] [] M0 _
  have hf : li_fr (fun i => False) M0 M0 := li_fr_refl
  refine li_aload_n 0 dX3_stepBack_0 rfl ?_
  refine li_geti (k := 4) (N := 6) (T := TX3) (C0 := RX3) dX3_stepBack_1 (by decide) sh_21 rfl rfl (by decide) li_in3 w_293 ?_
  refine li_top (fun x1Zq ex1 => ?_)
  have gx1 := tl_rg x1Zq
  have vx1 : x1Zq.toInt = (M0.1 21 4).toInt := tl_eq ex1
  refine li_if_ne 9 dX3_stepBack_4 (by decide) (fun c2 => ?_) (fun c2 => ?_)
  · have tc2 : ¬ x1Zq.toInt = 0 := tl_ne c2
    exfalso; omega
  · have tc2 : x1Zq.toInt = 0 := tl_eq c2
    refine li_iconst 0 dX3_stepBack_7 (by decide) ?_
    have z0 : (0 : Int32).toInt = 0 := rfl
    exact li_iret dX3_stepBack_8 rfl (li_nz (Or.inl rfl)) ⟨⟨_, rfl, Or.inl rfl, (by first | omega | (intro _; omega) | (intro hZq; exact absurd hZq (by decide)))⟩, hf⟩
set_option maxRecDepth 100000 in
set_option maxHeartbeats 4000000 in
theorem k15_X11_undo {l : Launch} {Z : li_Z} (d : Nat) (hdZq : 2 ≤ d) (M0 : li_M) (z214 : (M0.1 21 4).toInt = 0) : li_Met l Z YX11_undo d [.ref (Z.2.2 0)] M0 (fun r M' => (∃ x : Int32, r = some (.int x) ∧ (x.toInt = -1)) ∧ li_fr (fun i => False) M0 M') := by
  refine li_enter (by decide +kernel) (Nat.le_of_ble_eq_true rfl) ?_
  show li_T l Z YX11_undo d 0 [(0, .ref (Z.2.2 0))] [] M0 _
  have hf : li_fr (fun i => False) M0 M0 := li_fr_refl
  refine li_aload_n 0 dX11_undo_0 rfl ?_
  refine li_getr (k := 4) (N := 13) (T := TX11) (C0 := RX11) dX11_undo_1 (by decide) sh_0 rfl rfl (by decide) (by decide) li_in11 w_477 ?_
  refine li_aload_n 0 dX11_undo_4 rfl ?_
  refine li_getr (k := 3) (N := 13) (T := TX11) (C0 := RX11) dX11_undo_5 (by decide) sh_0 rfl rfl (by decide) (by decide) li_in11 w_476 ?_
  refine li_callV (n := 1) (As := [.ref (Z.2.2 13)]) dX11_undo_8 (k15_X3_stepBack (d - 1) (by omega)  M0 (by first | omega | decide)) (by omega) (Nat.le_of_ble_eq_true rfl) w_980 w_981 w_982 w_106 w_983 (by decide +kernel) rfl (by decide) sh_21 rfl rfl (Nat.le_of_ble_eq_true rfl) (fun r M2Zq h3 => ?_)
  obtain ⟨⟨x1Zq, rfl, bx1, qx1⟩, h3⟩ := h3
  have ux1 := tl_b bx1
  have hf := li_fr_trans hf h3 (fun i hZq => False.elim hZq)
  have mM2_21_4 : (M2Zq.1 21 4).toInt = (M0.1 21 4).toInt := by rw [h3.1 21 id]
  refine li_if_eq 24 dX11_undo_11 (by decide) (fun c4 => ?_) (fun c4 => ?_)
  · have tc4 : x1Zq.toInt = 0 := tl_eq c4
    refine li_iconst (-1) dX11_undo_24 (by decide) ?_
    have zm1 : ((-1) : Int32).toInt = -1 := rfl
    exact li_iret dX11_undo_25 rfl rfl ⟨⟨_, rfl, (by first | omega | (intro _; omega) | (intro hZq; exact absurd hZq (by decide)))⟩, hf⟩
  · have tc4 : ¬ x1Zq.toInt = 0 := tl_ne c4
    exfalso; omega
