theorem a_X11_at {l : Launch} {Z : li_Z} (d : Nat) (hd : 1 ≤ d) {j n : Nat} (hj : j < li_N) (hs : li_sh j = .inr (0, n)) (hn : n < 2147483648) (i : Int32) (M0 : li_M) : li_Met l Z YX11_at d [.ref (Z.2.2 j), .int i] M0 (fun r M' => (∃ x : Int32, r = some (.int x) ∧ x = li_at (M0.1 j) n i) ∧ li_fr (fun i => False) M0 M') := li_mono (fun r M' h => ⟨⟨_, h.1, rfl⟩, by rw [h.2]; exact li_fr_refl⟩) (x_X11_at d hd hj hs hn i M0)
set_option maxRecDepth 100000 in
set_option maxHeartbeats 4000000 in
theorem k4_X11_within2 {l : Launch} {Z : li_Z} (d : Nat) (hd : 1 ≤ d) (p1 : Int32) (p2 : Int32) (p3 : Int32) (M0 : li_M) : li_Met l Z YX11_within d [.int p1, .int p2, .int p3] M0 (fun r M' => (∃ x : Int32, r = some (.int x) ∧ (x = 0 ∨ x = 1) ∧ ((x.toInt = 1 ∧ p2.toInt ≤ p1.toInt ∧ p1.toInt ≤ p3.toInt) ∨ (x.toInt = 0 ∧ (p1.toInt < p2.toInt ∨ p3.toInt < p1.toInt)))) ∧ li_fr (fun i => False) M0 M') := by
  refine li_enter (by decide +kernel) (Nat.le_of_ble_eq_true rfl) ?_
  show li_T l Z YX11_within d 0 [(0, .int p1), (1, .int p2), (2, .int p3)] [] M0 _
  have hf : li_fr (fun i => False) M0 M0 := li_fr_refl
  have gp1 := tl_rg p1
  have gp2 := tl_rg p2
  have gp3 := tl_rg p3
  refine li_iload_n 0 dX11_within_0 rfl ?_
  refine li_iload_n 1 dX11_within_1 rfl ?_
  refine li_icmp_lt 14 dX11_within_2 (by decide) (fun c1 => ?_) (fun c1 => ?_)
  · have tc1 : p1.toInt < p2.toInt := tl_lt c1
    refine li_iconst 0 dX11_within_14 (by decide) ?_
    have z0 : (0 : Int32).toInt = 0 := rfl
    exact li_iret dX11_within_15 rfl (li_nz (Or.inl rfl)) ⟨⟨_, rfl, Or.inl rfl, (by first | omega | (intro _; omega) | (intro h; exact absurd h (by decide)))⟩, hf⟩
  · have tc1 : p2.toInt ≤ p1.toInt := tl_nlt c1
    refine li_iload_n 0 dX11_within_5 rfl ?_
    refine li_iload_n 2 dX11_within_6 rfl ?_
    refine li_icmp_gt 14 dX11_within_7 (by decide) (fun c2 => ?_) (fun c2 => ?_)
    · have tc2 : p3.toInt < p1.toInt := tl_lt c2
      refine li_iconst 0 dX11_within_14 (by decide) ?_
      have z0 : (0 : Int32).toInt = 0 := rfl
      exact li_iret dX11_within_15 rfl (li_nz (Or.inl rfl)) ⟨⟨_, rfl, Or.inl rfl, (by first | omega | (intro _; omega) | (intro h; exact absurd h (by decide)))⟩, hf⟩
    · have tc2 : p1.toInt ≤ p3.toInt := tl_nlt c2
      refine li_iconst 1 dX11_within_10 (by decide) ?_
      refine li_goto 15 dX11_within_11 (by decide) ?_
      have z1 : (1 : Int32).toInt = 1 := rfl
      exact li_iret dX11_within_15 rfl (li_nz (Or.inr rfl)) ⟨⟨_, rfl, Or.inr rfl, (by first | omega | (intro _; omega) | (intro h; exact absurd h (by decide)))⟩, hf⟩
set_option maxRecDepth 100000 in
set_option maxHeartbeats 4000000 in
theorem k5_X7_atEnd {l : Launch} {Z : li_Z} (d : Nat) (hd : 1 ≤ d) (M0 : li_M) : li_Met l Z YX7_atEnd d [.ref (Z.2.2 1)] M0 (fun r M' => (∃ x : Int32, r = some (.int x) ∧ (x = 0 ∨ x = 1) ∧ (((x.toInt = 1 ∧ (M0.1 1 1).toInt ≤ (M0.1 1 2).toInt) ∨ (x.toInt = 0 ∧ (M0.1 1 2).toInt < (M0.1 1 1).toInt)))) ∧ li_fr (fun i => False) M0 M') := by
  refine li_enter (by decide +kernel) (Nat.le_of_ble_eq_true rfl) ?_
  show li_T l Z YX7_atEnd d 0 [(0, .ref (Z.2.2 1))] [] M0 _
  have hf : li_fr (fun i => False) M0 M0 := li_fr_refl
  refine li_aload_n 0 dX7_atEnd_0 rfl ?_
  refine li_geti (k := 2) (N := 3) (T := TX7) (C0 := RX7) dX7_atEnd_1 (by decide) sh_1 rfl rfl (by decide) li_in7 w_142 ?_
  refine li_top (fun x1 ex1 => ?_)
  have gx1 := tl_rg x1
  have vx1 : x1.toInt = (M0.1 1 2).toInt := tl_eq ex1
  refine li_aload_n 0 dX7_atEnd_4 rfl ?_
  refine li_geti (k := 1) (N := 3) (T := TX7) (C0 := RX7) dX7_atEnd_5 (by decide) sh_1 rfl rfl (by decide) li_in7 w_139 ?_
  refine li_top (fun x2 ex2 => ?_)
  have gx2 := tl_rg x2
  have vx2 : x2.toInt = (M0.1 1 1).toInt := tl_eq ex2
  refine li_icmp_lt 15 dX7_atEnd_8 (by decide) (fun c3 => ?_) (fun c3 => ?_)
  · have tc3 : x1.toInt < x2.toInt := tl_lt c3
    refine li_iconst 0 dX7_atEnd_15 (by decide) ?_
    have z0 : (0 : Int32).toInt = 0 := rfl
    exact li_iret dX7_atEnd_16 rfl (li_nz (Or.inl rfl)) ⟨⟨_, rfl, Or.inl rfl, (by first | omega | (intro _; omega) | (intro h; exact absurd h (by decide)))⟩, hf⟩
  · have tc3 : x2.toInt ≤ x1.toInt := tl_nlt c3
    refine li_iconst 1 dX7_atEnd_11 (by decide) ?_
    refine li_goto 16 dX7_atEnd_12 (by decide) ?_
    have z1 : (1 : Int32).toInt = 1 := rfl
    exact li_iret dX7_atEnd_16 rfl (li_nz (Or.inr rfl)) ⟨⟨_, rfl, Or.inr rfl, (by first | omega | (intro _; omega) | (intro h; exact absurd h (by decide)))⟩, hf⟩
set_option maxRecDepth 100000 in
set_option maxHeartbeats 4000000 in
theorem k5_X7_verdict {l : Launch} {Z : li_Z} (d : Nat) (hd : 1 ≤ d) (p1 : Int32) (p2 : Int32) (M0 : li_M) (h1 : 0 ≤ (M0.1 1 2).toInt ∧ (M0.1 1 2).toInt ≤ 80) (h2 : 0 ≤ p2.toInt ∧ p2.toInt ≤ 100) : li_Met l Z YX7_verdict d [.ref (Z.2.2 1), .int p1, .int p2] M0 (fun r M' => (∃ x : Int32, r = some (.int x) ∧ ((p1.toInt < 0 ∧ (M0.1 1 2).toInt ≤ p2.toInt ∧ x.toInt = -1 - (M0.1 1 2).toInt) ∨ (p1.toInt < 0 ∧ p2.toInt < (M0.1 1 2).toInt ∧ x.toInt = -1 - p2.toInt) ∨ (0 ≤ p1.toInt ∧ p2.toInt < (M0.1 1 1).toInt ∧ x.toInt = -1 - p2.toInt) ∨ (0 ≤ p1.toInt ∧ (M0.1 1 1).toInt ≤ p2.toInt ∧ x.toInt = p1.toInt))) ∧ li_fr (fun i => False) M0 M') := by
  refine li_enter (by decide +kernel) (Nat.le_of_ble_eq_true rfl) ?_
  show li_T l Z YX7_verdict d 0 [(0, .ref (Z.2.2 1)), (1, .int p1), (2, .int p2)] [] M0 _
  have hf : li_fr (fun i => False) M0 M0 := li_fr_refl
  have gp1 := tl_rg p1
  have gp2 := tl_rg p2
  refine li_iload_n 1 dX7_verdict_0 rfl ?_
  refine li_if_ge 15 dX7_verdict_1 (by decide) (fun c1 => ?_) (fun c1 => ?_)
  · have tc1 : 0 ≤ p1.toInt := tl_le c1
    refine li_aload_n 0 dX7_verdict_15 rfl ?_
    refine li_geti (k := 1) (N := 3) (T := TX7) (C0 := RX7) dX7_verdict_16 (by decide) sh_1 rfl rfl (by decide) li_in7 w_139 ?_
    refine li_top (fun x2 ex2 => ?_)
    have gx2 := tl_rg x2
    have vx2 : x2.toInt = (M0.1 1 1).toInt := tl_eq ex2
    refine li_iload_n 2 dX7_verdict_19 rfl ?_
    refine li_icmp_le 29 dX7_verdict_20 (by decide) (fun c3 => ?_) (fun c3 => ?_)
    · have tc3 : x2.toInt ≤ p2.toInt := tl_le c3
      refine li_iload_n 1 dX7_verdict_29 rfl ?_
      exact li_iret dX7_verdict_30 rfl rfl ⟨⟨_, rfl, (by first | omega | (intro _; omega) | (intro h; exact absurd h (by decide)))⟩, hf⟩
    · have tc3 : p2.toInt < x2.toInt := tl_nle c3
      refine li_iconst (-1) dX7_verdict_23 (by decide) ?_
      refine li_iload_n 2 dX7_verdict_24 rfl ?_
      refine li_isub dX7_verdict_25 ?_
      refine li_top (fun x4 ex4 => ?_)
      have tx4 : (-2147483648 ≤ (-1) - p2.toInt ∧ (-1) - p2.toInt ≤ 2147483647) → x4.toInt = (-1) - p2.toInt := tl_sub ex4
      refine li_goto 30 dX7_verdict_26 (by decide) ?_
      exact li_iret dX7_verdict_30 rfl rfl ⟨⟨_, rfl, (by first | omega | (intro _; omega) | (intro h; exact absurd h (by decide)))⟩, hf⟩
  · have tc1 : p1.toInt < 0 := tl_nle c1
    refine li_iconst (-1) dX7_verdict_4 (by decide) ?_
    refine li_aload_n 0 dX7_verdict_5 rfl ?_
    refine li_geti (k := 2) (N := 3) (T := TX7) (C0 := RX7) dX7_verdict_6 (by decide) sh_1 rfl rfl (by decide) li_in7 w_142 ?_
    refine li_top (fun x5 ex5 => ?_)
    have gx5 := tl_rg x5
    have vx5 : x5.toInt = (M0.1 1 2).toInt := tl_eq ex5
    refine li_iload_n 2 dX7_verdict_9 rfl ?_
    refine li_mmin dX7_verdict_10 (by omega) w_725 w_726 w_113 w_727 (Nat.le_of_ble_eq_true rfl) ?_
    refine li_top (fun x6 ex6 => ?_)
    have tx6 : (p2.toInt < x5.toInt → x6.toInt = p2.toInt) ∧ (x5.toInt ≤ p2.toInt → x6.toInt = x5.toInt) := tl_min ex6
    refine li_isub dX7_verdict_13 ?_
    refine li_top (fun x7 ex7 => ?_)
    have tx7 : (-2147483648 ≤ (-1) - x6.toInt ∧ (-1) - x6.toInt ≤ 2147483647) → x7.toInt = (-1) - x6.toInt := tl_sub ex7
    exact li_iret dX7_verdict_14 rfl rfl ⟨⟨_, rfl, (by first | omega | (intro _; omega) | (intro h; exact absurd h (by decide)))⟩, hf⟩
