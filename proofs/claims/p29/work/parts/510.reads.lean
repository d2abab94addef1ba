theorem a_X11_at {l : Launch} {Z : li_Z} (d : Nat) (hd : 1 ≤ d) {j n : Nat} (hj : j < li_N) (hs : li_sh j = .inr (0, n)) (hn : n < 2147483648) (i : Int32) (M0 : li_M) : li_Met l Z YX11_at d [.ref (Z.2.2 j), .int i] M0 (fun r M' => (∃ x : Int32, r = some (.int x) ∧ x = li_at (M0.1 j) n i) ∧ li_fr (fun i => False) M0 M') := li_mono (fun r M' h => ⟨⟨_, h.1, rfl⟩, by rw [h.2]; exact li_fr_refl⟩) (x_X11_at d hd hj hs hn i M0)
/-- the sign at a place of so many; a number of so many digits, from a number and a place on -/
def rd_ch (g : Nat → Int32) (len p : Int) : Int := if p < len then (g p.toNat).toInt else -1
def li_sg (g : Nat → Int32) : Prop := ∀ i : Nat, 0 ≤ (g i).toInt ∧ (g i).toInt ≤ 255
theorem li_sg_tr {g g' : Nat → Int32} (hg : g' = g) (h : li_sg g) : li_sg g' := by subst hg; exact h
theorem li_sg_at {g : Nat → Int32} {x i : Int32} {n : Nat} (h : li_sg g) (q : x = li_at g n i) : 0 ≤ x.toInt ∧ x.toInt ≤ 255 := by
  have hz : (0 : Int32).toInt = 0 := rfl
  rw [q]; unfold li_at; split
  · exact h _
  · omega
theorem rd_lt {g : Nat → Int32} {len p : Int} (h : 0 ≤ rd_ch g len p) : p < len := by
  by_cases c : p < len
  · exact c
  · unfold rd_ch at h; rw [if_neg c] at h; omega
theorem rd_no {g : Nat → Int32} {len p : Int} (h : len ≤ p) : rd_ch g len p = -1 := by unfold rd_ch; rw [if_neg (by omega)]
theorem rd_ch_at {g : Nat → Int32} {len p : Int} {x i : Int32} (q : x = li_at g 80 i) (hi : i.toInt = p) (h0 : 0 ≤ p) (h1 : p < len) (h2 : len ≤ 80) : rd_ch g len p = x.toInt := by
  have h9 := li_cl (i := i) (by omega)
  unfold rd_ch
  rw [if_pos h1, q]
  unfold li_at
  have hz : (0 : Int32).toInt = 0 := rfl
  rw [show p.toNat = i.toNatClampNeg by omega]
  have z80 : (nI 80).toInt = 80 := rfl
  rw [if_pos ⟨Int32.le_iff_toInt_le.mpr (by omega), Int32.lt_iff_toInt_lt.mpr (by omega)⟩]

set_option maxRecDepth 100000 in
set_option maxHeartbeats 4000000 in
theorem k4_X11_within2 {l : Launch} {Z : li_Z} (d : Nat) (hd : 1 ≤ d) (p1 : Int32) (p2 : Int32) (p3 : Int32) (M0 : li_M) : li_Met l Z YX11_within d [.int p1, .int p2, .int p3] M0 (fun r M' => (∃ x : Int32, r = some (.int x) ∧ (x = 0 ∨ x = 1) ∧ ((x.toInt = 1 ∧ p2.toInt ≤ p1.toInt ∧ p1.toInt ≤ p3.toInt) ∨ (x.toInt = 0 ∧ (p1.toInt < p2.toInt ∨ p3.toInt < p1.toInt)))) ∧ li_fr (fun i => False) M0 M') := by
  refine li_enter (by decide +kernel) (Nat.le_of_ble_eq_true rfl) ?_
  show li_T l Z YX11_within d 0 [(0, .int p1), (1, .int p2), (2, .int p3)] [] M0 _
  have hf : li_fr (fun i => False) M0 M0 := li_fr_refl
  have gp1 := tl_rg p1
  have gp2 := tl_rg p2
  have gp3 := tl_rg p3
  refine li_iload_n 0 dX11_within_0 rfl ?_
  refine li_iload_n 1 dX11_within_1 rfl ?_
  refine li_icmp_lt 14 dX11_within_2 (by decide) (fun c1 => ?_) (fun c1 => ?_)
  · have tc1 : p1.toInt < p2.toInt := tl_lt c1
    refine li_iconst 0 dX11_within_14 (by decide) ?_
    have z0 : (0 : Int32).toInt = 0 := rfl
    exact li_iret dX11_within_15 rfl (li_nz (Or.inl rfl)) ⟨⟨_, rfl, Or.inl rfl, (by first | omega | (intro _; omega) | (intro h; exact absurd h (by decide)))⟩, hf⟩
  · have tc1 : p2.toInt ≤ p1.toInt := tl_nlt c1
    refine li_iload_n 0 dX11_within_5 rfl ?_
    refine li_iload_n 2 dX11_within_6 rfl ?_
    refine li_icmp_gt 14 dX11_within_7 (by decide) (fun c2 => ?_) (fun c2 => ?_)
    · have tc2 : p3.toInt < p1.toInt := tl_lt c2
      refine li_iconst 0 dX11_within_14 (by decide) ?_
      have z0 : (0 : Int32).toInt = 0 := rfl
      exact li_iret dX11_within_15 rfl (li_nz (Or.inl rfl)) ⟨⟨_, rfl, Or.inl rfl, (by first | omega | (intro _; omega) | (intro h; exact absurd h (by decide)))⟩, hf⟩
    · have tc2 : p1.toInt ≤ p3.toInt := tl_nlt c2
      refine li_iconst 1 dX11_within_10 (by decide) ?_
      refine li_goto 15 dX11_within_11 (by decide) ?_
      have z1 : (1 : Int32).toInt = 1 := rfl
      exact li_iret dX11_within_15 rfl (li_nz (Or.inr rfl)) ⟨⟨_, rfl, Or.inr rfl, (by first | omega | (intro _; omega) | (intro h; exact absurd h (by decide)))⟩, hf⟩
set_option maxRecDepth 100000 in
set_option maxHeartbeats 4000000 in
theorem k5_X7_skip {l : Launch} {Z : li_Z} (d : Nat) (hd : 2 ≤ d) (p1 : Int32) (M0 : li_M) (h1 : 0 ≤ (M0.1 1 2).toInt ∧ (M0.1 1 2).toInt ≤ (M0.1 1 1).toInt ∧ (M0.1 1 1).toInt ≤ 80) (Psg_M0 : li_sg (M0.1 2)) (h2 : 0 ≤ p1.toInt) : li_Met l Z YX7_skip d [.ref (Z.2.2 1), .int p1] M0 (fun r M' => (∃ x : Int32, r = some (.int x) ∧ (x = 0 ∨ x = 1) ∧ (((x.toInt = 1 ∧ rd_ch (M0.1 2) ((M0.1 1 1).toInt) ((M0.1 1 2).toInt) = p1.toInt ∧ (M0.1 1 2).toInt < (M0.1 1 1).toInt ∧ (M'.1 1 2).toInt = (M0.1 1 2).toInt + 1) ∨ (x.toInt = 0 ∧ ¬ rd_ch (M0.1 2) ((M0.1 1 1).toInt) ((M0.1 1 2).toInt) = p1.toInt ∧ (M'.1 1 2).toInt = (M0.1 1 2).toInt)) ∧ (M'.1 1 1).toInt = (M0.1 1 1).toInt)) ∧ li_fr (fun i => i = 1) M0 M') := by
  refine li_enter (by decide +kernel) (Nat.le_of_ble_eq_true rfl) ?_
  show li_T l Z YX7_skip d 0 [(0, .ref (Z.2.2 1)), (1, .int p1)] [] M0 _
  have hf : li_fr (fun i => i = 1) M0 M0 := li_fr_refl
  have gp1 := tl_rg p1
  refine li_aload_n 0 dX7_skip_0 rfl ?_
  refine li_geti (k := 2) (N := 3) (T := TX7) (C0 := RX7) dX7_skip_1 (by decide) sh_1 rfl rfl (by decide) li_in7 w_142 ?_
  refine li_top (fun x1 ex1 => ?_)
  have gx1 := tl_rg x1
  have vx1 : x1.toInt = (M0.1 1 2).toInt := tl_eq ex1
  refine li_aload_n 0 dX7_skip_4 rfl ?_
  refine li_geti (k := 1) (N := 3) (T := TX7) (C0 := RX7) dX7_skip_5 (by decide) sh_1 rfl rfl (by decide) li_in7 w_139 ?_
  refine li_top (fun x2 ex2 => ?_)
  have gx2 := tl_rg x2
  have vx2 : x2.toInt = (M0.1 1 1).toInt := tl_eq ex2
  refine li_icmp_ge 26 dX7_skip_8 (by decide) (fun c3 => ?_) (fun c3 => ?_)
  · have tc3 : x2.toInt ≤ x1.toInt := tl_le c3
    refine li_iconst 0 dX7_skip_26 (by decide) ?_
    have z0 : (0 : Int32).toInt = 0 := rfl
    exact li_iret dX7_skip_27 rfl (li_nz (Or.inl rfl)) ⟨⟨_, rfl, Or.inl rfl, (by first | omega | (have zz := rd_no (g := M0.1 2) (len := (M0.1 1 1).toInt) (p := (M0.1 1 2).toInt) (by omega); omega))⟩, hf⟩
  · have tc3 : x1.toInt < x2.toInt := tl_nle c3
    refine li_aload_n 0 dX7_skip_11 rfl ?_
    refine li_getr (k := 0) (N := 3) (T := TX7) (C0 := RX7) dX7_skip_12 (by decide) sh_1 rfl rfl (by decide) (by decide) li_in7 w_138 ?_
    refine li_aload_n 0 dX7_skip_15 rfl ?_
    refine li_geti (k := 2) (N := 3) (T := TX7) (C0 := RX7) dX7_skip_16 (by decide) sh_1 rfl rfl (by decide) li_in7 w_142 ?_
    refine li_top (fun x4 ex4 => ?_)
    have gx4 := tl_rg x4
    have vx4 : x4.toInt = (M0.1 1 2).toInt := tl_eq ex4
    have tvx4 : x4.toInt = x1.toInt := tl_eq (ex4.trans ex1.symm)
    refine li_callN (n := 2) (As := [.ref (Z.2.2 2), .int x4]) dX7_skip_19 (a_X11_at (d - 1) (by omega) (by decide) sh_2 (by decide) x4 M0) (by omega) (Nat.le_of_ble_eq_true rfl) nw_8 w_569 w_101 w_570 (by decide +kernel) rfl rfl (Nat.le_of_ble_eq_true rfl) (fun r M6 h7 => ?_)
    obtain ⟨⟨x5, rfl, qx5⟩, h7⟩ := h7
    have gx5 := tl_rg x5
    have hf := li_fr_trans hf h7 (fun i h => False.elim h)
    have mM6_1_1 : (M6.1 1 1).toInt = (M0.1 1 1).toInt := by rw [h7.1 1 id]
    have mM6_1_2 : (M6.1 1 2).toInt = (M0.1 1 2).toInt := by rw [h7.1 1 id]
    have Psg_M6 : li_sg (M6.1 2)  := li_sg_tr (h7.1 2 (fun h => by first | exact (h : False).elim | omega))  Psg_M0
    have chq : rd_ch (M0.1 2) ((M0.1 1 1).toInt) ((M0.1 1 2).toInt) = x5.toInt := rd_ch_at qx5 (by omega) (by omega) (by omega) (by omega)
    refine li_iload_n 1 dX7_skip_22 rfl ?_
    refine li_icmp_eq 28 dX7_skip_23 (by decide) (fun c8 => ?_) (fun c8 => ?_)
    · have tc8 : x5.toInt = p1.toInt := tl_eq c8
      refine li_aload_n 0 dX7_skip_28 rfl ?_
      refine li_dup dX7_skip_29 rfl ?_
      refine li_geti (k := 2) (N := 3) (T := TX7) (C0 := RX7) dX7_skip_30 (by decide) sh_1 rfl rfl (by decide) li_in7 w_142 ?_
      refine li_top (fun x9 ex9 => ?_)
      have gx9 := tl_rg x9
      have vx9 : x9.toInt = (M6.1 1 2).toInt := tl_eq ex9
      refine li_iconst 1 dX7_skip_33 (by decide) ?_
      refine li_iadd dX7_skip_34 ?_
      refine li_top (fun x10 ex10 => ?_)
      have tx10 : (-2147483648 ≤ x9.toInt + 1 ∧ x9.toInt + 1 ≤ 2147483647) → x10.toInt = x9.toInt + 1 := tl_add ex10
      refine li_puti (k := 2) (N := 3) (T := TX7) (C0 := RX7) dX7_skip_35 (by decide) sh_1 rfl rfl (by decide) li_in7 tyX7_ok nmX7 rfl rfl rfl rfl w_142 ?_
      refine li_nm (fun M11 eM11 => ?_)
      have hf := li_fr_ui hf (show 1 = 1 by omega) eM11
      have mM11_1_1 : (M11.1 1 1).toInt = (M6.1 1 1).toInt := by rw [eM11, li_ui_at, if_pos rfl, if_neg (by decide)]
      have mM11_1_2 : (M11.1 1 2).toInt = x10.toInt := by rw [eM11, li_ui_at, if_pos rfl, if_pos rfl]
      have Psg_M11 : li_sg (M11.1 2)  := li_sg_tr (li_cell_ui eM11 (by decide))  Psg_M6
      have k12 : M11.1 1 2 = x10 := by rw [eM11, li_ui_at, if_pos rfl, if_pos rfl]
      refine li_iconst 1 dX7_skip_38 (by decide) ?_
      have z1 : (1 : Int32).toInt = 1 := rfl
      exact li_iret dX7_skip_39 rfl (li_nz (Or.inr rfl)) ⟨⟨_, rfl, Or.inr rfl, (by first | omega | (have zz := rd_no (g := M0.1 2) (len := (M0.1 1 1).toInt) (p := (M0.1 1 2).toInt) (by omega); omega))⟩, hf⟩
    · have tc8 : ¬ x5.toInt = p1.toInt := tl_ne c8
      refine li_iconst 0 dX7_skip_26 (by decide) ?_
      have z0 : (0 : Int32).toInt = 0 := rfl
      exact li_iret dX7_skip_27 rfl (li_nz (Or.inl rfl)) ⟨⟨_, rfl, Or.inl rfl, (by first | omega | (have zz := rd_no (g := M0.1 2) (len := (M0.1 1 1).toInt) (p := (M0.1 1 2).toInt) (by omega); omega))⟩, hf⟩

set_option maxRecDepth 100000 in
set_option maxHeartbeats 4000000 in
theorem k5_X7_atEnd {l : Launch} {Z : li_Z} (d : Nat) (hd : 1 ≤ d) (M0 : li_M) : li_Met l Z YX7_atEnd d [.ref (Z.2.2 1)] M0 (fun r M' => (∃ x : Int32, r = some (.int x) ∧ (x = 0 ∨ x = 1) ∧ (((x.toInt = 1 ∧ (M0.1 1 1).toInt ≤ (M0.1 1 2).toInt) ∨ (x.toInt = 0 ∧ (M0.1 1 2).toInt < (M0.1 1 1).toInt)))) ∧ li_fr (fun i => False) M0 M') := by
  refine li_enter (by decide +kernel) (Nat.le_of_ble_eq_true rfl) ?_
  show li_T l Z YX7_atEnd d 0 [(0, .ref (Z.2.2 1))] [] M0 _
  have hf : li_fr (fun i => False) M0 M0 := li_fr_refl
  refine li_aload_n 0 dX7_atEnd_0 rfl ?_
  refine li_geti (k := 2) (N := 3) (T := TX7) (C0 := RX7) dX7_atEnd_1 (by decide) sh_1 rfl rfl (by decide) li_in7 w_142 ?_
  refine li_top (fun x1 ex1 => ?_)
  have gx1 := tl_rg x1
  have vx1 : x1.toInt = (M0.1 1 2).toInt := tl_eq ex1
  refine li_aload_n 0 dX7_atEnd_4 rfl ?_
  refine li_geti (k := 1) (N := 3) (T := TX7) (C0 := RX7) dX7_atEnd_5 (by decide) sh_1 rfl rfl (by decide) li_in7 w_139 ?_
  refine li_top (fun x2 ex2 => ?_)
  have gx2 := tl_rg x2
  have vx2 : x2.toInt = (M0.1 1 1).toInt := tl_eq ex2
  refine li_icmp_lt 15 dX7_atEnd_8 (by decide) (fun c3 => ?_) (fun c3 => ?_)
  · have tc3 : x1.toInt < x2.toInt := tl_lt c3
    refine li_iconst 0 dX7_atEnd_15 (by decide) ?_
    have z0 : (0 : Int32).toInt = 0 := rfl
    exact li_iret dX7_atEnd_16 rfl (li_nz (Or.inl rfl)) ⟨⟨_, rfl, Or.inl rfl, (by first | omega | (intro _; omega) | (intro h; exact absurd h (by decide)))⟩, hf⟩
  · have tc3 : x2.toInt ≤ x1.toInt := tl_nlt c3
    refine li_iconst 1 dX7_atEnd_11 (by decide) ?_
    refine li_goto 16 dX7_atEnd_12 (by decide) ?_
    have z1 : (1 : Int32).toInt = 1 := rfl
    exact li_iret dX7_atEnd_16 rfl (li_nz (Or.inr rfl)) ⟨⟨_, rfl, Or.inr rfl, (by first | omega | (intro _; omega) | (intro h; exact absurd h (by decide)))⟩, hf⟩
set_option maxRecDepth 100000 in
set_option maxHeartbeats 4000000 in
theorem k5_X7_verdict {l : Launch} {Z : li_Z} (d : Nat) (hd : 1 ≤ d) (p1 : Int32) (p2 : Int32) (M0 : li_M) (h1 : 0 ≤ (M0.1 1 2).toInt ∧ (M0.1 1 2).toInt ≤ 80) (h2 : 0 ≤ p2.toInt ∧ p2.toInt ≤ 100) : li_Met l Z YX7_verdict d [.ref (Z.2.2 1), .int p1, .int p2] M0 (fun r M' => (∃ x : Int32, r = some (.int x) ∧ ((p1.toInt < 0 ∧ (M0.1 1 2).toInt ≤ p2.toInt ∧ x.toInt = -1 - (M0.1 1 2).toInt) ∨ (p1.toInt < 0 ∧ p2.toInt < (M0.1 1 2).toInt ∧ x.toInt = -1 - p2.toInt) ∨ (0 ≤ p1.toInt ∧ p2.toInt < (M0.1 1 1).toInt ∧ x.toInt = -1 - p2.toInt) ∨ (0 ≤ p1.toInt ∧ (M0.1 1 1).toInt ≤ p2.toInt ∧ x.toInt = p1.toInt))) ∧ li_fr (fun i => False) M0 M') := by
  refine li_enter (by decide +kernel) (Nat.le_of_ble_eq_true rfl) ?_
  show li_T l Z YX7_verdict d 0 [(0, .ref (Z.2.2 1)), (1, .int p1), (2, .int p2)] [] M0 _
  have hf : li_fr (fun i => False) M0 M0 := li_fr_refl
  have gp1 := tl_rg p1
  have gp2 := tl_rg p2
  refine li_iload_n 1 dX7_verdict_0 rfl ?_
  refine li_if_ge 15 dX7_verdict_1 (by decide) (fun c1 => ?_) (fun c1 => ?_)
  · have tc1 : 0 ≤ p1.toInt := tl_le c1
    refine li_aload_n 0 dX7_verdict_15 rfl ?_
    refine li_geti (k := 1) (N := 3) (T := TX7) (C0 := RX7) dX7_verdict_16 (by decide) sh_1 rfl rfl (by decide) li_in7 w_139 ?_
    refine li_top (fun x2 ex2 => ?_)
    have gx2 := tl_rg x2
    have vx2 : x2.toInt = (M0.1 1 1).toInt := tl_eq ex2
    refine li_iload_n 2 dX7_verdict_19 rfl ?_
    refine li_icmp_le 29 dX7_verdict_20 (by decide) (fun c3 => ?_) (fun c3 => ?_)
    · have tc3 : x2.toInt ≤ p2.toInt := tl_le c3
      refine li_iload_n 1 dX7_verdict_29 rfl ?_
      exact li_iret dX7_verdict_30 rfl rfl ⟨⟨_, rfl, (by first | omega | (intro _; omega) | (intro h; exact absurd h (by decide)))⟩, hf⟩
    · have tc3 : p2.toInt < x2.toInt := tl_nle c3
      refine li_iconst (-1) dX7_verdict_23 (by decide) ?_
      refine li_iload_n 2 dX7_verdict_24 rfl ?_
      refine li_isub dX7_verdict_25 ?_
      refine li_top (fun x4 ex4 => ?_)
      have tx4 : (-2147483648 ≤ (-1) - p2.toInt ∧ (-1) - p2.toInt ≤ 2147483647) → x4.toInt = (-1) - p2.toInt := tl_sub ex4
      refine li_goto 30 dX7_verdict_26 (by decide) ?_
      exact li_iret dX7_verdict_30 rfl rfl ⟨⟨_, rfl, (by first | omega | (intro _; omega) | (intro h; exact absurd h (by decide)))⟩, hf⟩
  · have tc1 : p1.toInt < 0 := tl_nle c1
    refine li_iconst (-1) dX7_verdict_4 (by decide) ?_
    refine li_aload_n 0 dX7_verdict_5 rfl ?_
    refine li_geti (k := 2) (N := 3) (T := TX7) (C0 := RX7) dX7_verdict_6 (by decide) sh_1 rfl rfl (by decide) li_in7 w_142 ?_
    refine li_top (fun x5 ex5 => ?_)
    have gx5 := tl_rg x5
    have vx5 : x5.toInt = (M0.1 1 2).toInt := tl_eq ex5
    refine li_iload_n 2 dX7_verdict_9 rfl ?_
    refine li_mmin dX7_verdict_10 (by omega) w_725 w_726 w_113 w_727 (Nat.le_of_ble_eq_true rfl) ?_
    refine li_top (fun x6 ex6 => ?_)
    have tx6 : (p2.toInt < x5.toInt → x6.toInt = p2.toInt) ∧ (x5.toInt ≤ p2.toInt → x6.toInt = x5.toInt) := tl_min ex6
    refine li_isub dX7_verdict_13 ?_
    refine li_top (fun x7 ex7 => ?_)
    have tx7 : (-2147483648 ≤ (-1) - x6.toInt ∧ (-1) - x6.toInt ≤ 2147483647) → x7.toInt = (-1) - x6.toInt := tl_sub ex7
    exact li_iret dX7_verdict_14 rfl rfl ⟨⟨_, rfl, (by first | omega | (intro _; omega) | (intro h; exact absurd h (by decide)))⟩, hf⟩
