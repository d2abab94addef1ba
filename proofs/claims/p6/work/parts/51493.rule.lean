set_option maxRecDepth 100000 in
set_option maxHeartbeats 4000000 in
theorem k14_X6_readAll {l : Launch} {Z : li_Z} (d : Nat) (hd : 42 ≤ d) (M0 : li_M) (g : Nat → Int32) (hg : M0.1 2 = g) (LN P0 : Int) (hLN : (M0.1 1 1).toInt = LN) (hP0 : (M0.1 1 2).toInt = P0) (h1 : 0 ≤ P0 ∧ P0 ≤ LN ∧ LN ≤ 80) (Psg_M0 : li_sg (M0.1 2)) (hz : P0 = 0) : li_Met l Z YX6_readAll d [.ref (Z.2.2 151), .ref (Z.2.2 1)] M0 (fun r M' => (∃ x : Int32, r = some (.int x) ∧ (x = 0 ∨ x = 1) ∧ (∃ ok q : Int, ((LN = 0 ∧ ok = 1 ∧ q = 0) ∨ (0 < LN ∧ rpr g LN 0 0 0 ok q)) ∧ 0 ≤ q ∧ q ≤ LN ∧ ((x.toInt = 1 ∧ ok = 1 ∧ LN ≤ q) ∨ (x.toInt = 0 ∧ ¬ (ok = 1 ∧ LN ≤ q))) ∧ (M'.1 1 2).toInt = q ∧ (M'.1 1 1).toInt = LN)) ∧ li_fr (fun i => i = 1 ∨ i = 151 ∨ i = 152) M0 M') := by
  refine li_enter (by decide +kernel) (Nat.le_of_ble_eq_true rfl) ?_
  show li_T l Z YX6_readAll d 0 [(0, .ref (Z.2.2 151)), (1, .ref (Z.2.2 1))] [] M0 _
  have hf : li_fr (fun i => i = 1 ∨ i = 151 ∨ i = 152) M0 M0 := li_fr_refl
  refine li_aload_n 0 dX6_readAll_0 rfl ?_
  refine li_iconst 0 dX6_readAll_1 (by decide) ?_
  refine li_puti (k := 3) (N := 4) (T := TX6) (C0 := RX6) dX6_readAll_2 (by decide) sh_151 rfl rfl (by decide) li_in6 tyX6_ok nmX6 rfl rfl rfl rfl w_319 ?_
  refine li_nm (fun M1 eM1 => ?_)
  have hf := li_fr_ui hf (show 151 = 1 ∨ 151 = 151 ∨ 151 = 152 by omega) eM1
  have mM1_1_1 : (M1.1 1 1).toInt = (M0.1 1 1).toInt := by rw [eM1, li_ui_at, if_neg (by decide)]
  have mM1_1_2 : (M1.1 1 2).toInt = (M0.1 1 2).toInt := by rw [eM1, li_ui_at, if_neg (by decide)]
  have mM1_151_3 : (M1.1 151 3).toInt = 0 := by rw [eM1, li_ui_at, if_pos rfl, if_pos rfl]; rfl
  have Psg_M1 : li_sg (M1.1 2)  := li_sg_tr (li_cell_ui eM1 (by decide))  Psg_M0
  have k2 : M1.1 151 3 = 0 := by rw [eM1, li_ui_at, if_pos rfl, if_pos rfl]
  refine li_aload_n 1 dX6_readAll_5 rfl ?_
  refine li_callV (n := 0) (As := []) dX6_readAll_6 (k5_X7_atEnd (d - 1) (by omega) M1) (by omega) (Nat.le_of_ble_eq_true rfl) w_544 w_545 w_546 w_102 w_547 (by decide +kernel) rfl (by decide) sh_1 rfl rfl (Nat.le_of_ble_eq_true rfl) (fun r M4 h5 => ?_)
  obtain ⟨⟨x3, rfl, bx3, qx3⟩, h5⟩ := h5
  have ux3 := tl_b bx3
  have hf := li_fr_trans hf h5 (fun i h => False.elim h)
  have mM4_1_1 : (M4.1 1 1).toInt = (M1.1 1 1).toInt := by rw [h5.1 1 id]
  have mM4_1_2 : (M4.1 1 2).toInt = (M1.1 1 2).toInt := by rw [h5.1 1 id]
  have mM4_151_3 : (M4.1 151 3).toInt = (M1.1 151 3).toInt := by rw [h5.1 151 id]
  have Psg_M4 : li_sg (M4.1 2)  := li_sg_tr (h5.1 2 (fun h => by first | exact (h : False).elim | omega))  Psg_M1
  refine li_if_ne 28 dX6_readAll_9 (by decide) (fun c6 => ?_) (fun c6 => ?_)
  · have tc6 : ¬ x3.toInt = 0 := tl_ne c6
    refine li_iconst 1 dX6_readAll_28 (by decide) ?_
    refine li_goto 33 dX6_readAll_29 (by decide) ?_
    have z1 : (1 : Int32).toInt = 1 := rfl
    exact li_iret dX6_readAll_33 rfl (li_nz (Or.inr rfl)) ⟨⟨_, rfl, Or.inr rfl, (by first | (exact ⟨0, qA, Or.inr ⟨by omega, rp_to ra (by decide) (Int.le_antisymm (by omega) (by omega)) (show (0 : Int) = okA from Int.le_antisymm (by omega) (by omega)) rfl⟩, by omega, by omega, Or.inr ⟨by first | rfl | omega, fun h9 => absurd h9.1 (by decide)⟩, Int.le_antisymm (by omega) (by omega), Int.le_antisymm (by omega) (by omega)⟩) | (exact ⟨1, qA, Or.inr ⟨by omega, rp_to ra (by decide) (Int.le_antisymm (by omega) (by omega)) (show (1 : Int) = okA from Int.le_antisymm (by omega) (by omega)) rfl⟩, by omega, by omega, Or.inl ⟨by first | rfl | omega, rfl, by omega⟩, Int.le_antisymm (by omega) (by omega), Int.le_antisymm (by omega) (by omega)⟩) | (exact ⟨1, qA, Or.inr ⟨by omega, rp_to ra (by decide) (Int.le_antisymm (by omega) (by omega)) (show (1 : Int) = okA from Int.le_antisymm (by omega) (by omega)) rfl⟩, by omega, by omega, Or.inr ⟨by first | rfl | omega, fun h9 => absurd h9.2 (by omega)⟩, Int.le_antisymm (by omega) (by omega), Int.le_antisymm (by omega) (by omega)⟩) | (exact ⟨1, 0, Or.inl ⟨Int.le_antisymm (by omega) (by omega), rfl, rfl⟩, by omega, by omega, Or.inl ⟨by first | rfl | omega, rfl, by omega⟩, Int.le_antisymm (by omega) (by omega), Int.le_antisymm (by omega) (by omega)⟩))⟩, hf⟩
  · have tc6 : x3.toInt = 0 := tl_eq c6
    refine li_aload_n 0 dX6_readAll_12 rfl ?_
    refine li_aload_n 1 dX6_readAll_13 rfl ?_
    refine li_iconst 0 dX6_readAll_14 (by decide) ?_
    refine li_callV (n := 2) (As := [.ref (Z.2.2 1), .int 0]) dX6_readAll_15 (kk14_X6_readExpression 4 (d - 1) 0 M4 g ((hf.1 2 (by first | exact id | decide | omega)).trans hg) LN _ (Int.le_antisymm (by omega) (by omega)) rfl ⟨by omega, by omega, by omega⟩ Psg_M4 _ rfl ⟨by omega, by omega⟩ (by decide) (by decide) (by omega)) (by omega) (Nat.le_of_ble_eq_true rfl) w_548 w_550 w_1 w_107 w_551 (by decide +kernel) rfl (by decide) sh_151 rfl rfl (Nat.le_of_ble_eq_true rfl) (fun r M8 h9 => ?_)
    have z0 : (0 : Int32).toInt = 0 := rfl
    obtain ⟨⟨x7, rfl, bx7, qx7⟩, h9⟩ := h9
    have ux7 := tl_b bx7
    have hf := li_fr_trans hf h9 (fun i (h : i = 1 ∨ i = 151 ∨ i = 152) => (show i = 1 ∨ i = 151 ∨ i = 152 by omega))
    have Psg_M8 : li_sg (M8.1 2)  := li_sg_tr (h9.1 2 (fun h => by first | exact (h : False).elim | omega))  Psg_M4
    obtain ⟨okA, qA, ra, e1, e2, e3, e4, e5, e6, e7, e8⟩ := qx7
    refine li_if_eq 32 dX6_readAll_18 (by decide) (fun c10 => ?_) (fun c10 => ?_)
    · have tc10 : x7.toInt = 0 := tl_eq c10
      refine li_iconst 0 dX6_readAll_32 (by decide) ?_
      have z0 : (0 : Int32).toInt = 0 := rfl
      exact li_iret dX6_readAll_33 rfl (li_nz (Or.inl rfl)) ⟨⟨_, rfl, Or.inl rfl, (by first | (exact ⟨0, qA, Or.inr ⟨by omega, rp_to ra (by decide) (Int.le_antisymm (by omega) (by omega)) (show (0 : Int) = okA from Int.le_antisymm (by omega) (by omega)) rfl⟩, by omega, by omega, Or.inr ⟨by first | rfl | omega, fun h9 => absurd h9.1 (by decide)⟩, Int.le_antisymm (by omega) (by omega), Int.le_antisymm (by omega) (by omega)⟩) | (exact ⟨1, qA, Or.inr ⟨by omega, rp_to ra (by decide) (Int.le_antisymm (by omega) (by omega)) (show (1 : Int) = okA from Int.le_antisymm (by omega) (by omega)) rfl⟩, by omega, by omega, Or.inl ⟨by first | rfl | omega, rfl, by omega⟩, Int.le_antisymm (by omega) (by omega), Int.le_antisymm (by omega) (by omega)⟩) | (exact ⟨1, qA, Or.inr ⟨by omega, rp_to ra (by decide) (Int.le_antisymm (by omega) (by omega)) (show (1 : Int) = okA from Int.le_antisymm (by omega) (by omega)) rfl⟩, by omega, by omega, Or.inr ⟨by first | rfl | omega, fun h9 => absurd h9.2 (by omega)⟩, Int.le_antisymm (by omega) (by omega), Int.le_antisymm (by omega) (by omega)⟩) | (exact ⟨1, 0, Or.inl ⟨Int.le_antisymm (by omega) (by omega), rfl, rfl⟩, by omega, by omega, Or.inl ⟨by first | rfl | omega, rfl, by omega⟩, Int.le_antisymm (by omega) (by omega), Int.le_antisymm (by omega) (by omega)⟩))⟩, hf⟩
    · have tc10 : ¬ x7.toInt = 0 := tl_ne c10
      refine li_aload_n 1 dX6_readAll_21 rfl ?_
      refine li_callV (n := 0) (As := []) dX6_readAll_22 (k5_X7_atEnd (d - 1) (by omega) M8) (by omega) (Nat.le_of_ble_eq_true rfl) w_544 w_545 w_546 w_102 w_547 (by decide +kernel) rfl (by decide) sh_1 rfl rfl (Nat.le_of_ble_eq_true rfl) (fun r M12 h13 => ?_)
      obtain ⟨⟨x11, rfl, bx11, qx11⟩, h13⟩ := h13
      have ux11 := tl_b bx11
      have hf := li_fr_trans hf h13 (fun i h => False.elim h)
      have mM12_1_1 : (M12.1 1 1).toInt = (M8.1 1 1).toInt := by rw [h13.1 1 id]
      have mM12_1_2 : (M12.1 1 2).toInt = (M8.1 1 2).toInt := by rw [h13.1 1 id]
      have mM12_151_3 : (M12.1 151 3).toInt = (M8.1 151 3).toInt := by rw [h13.1 151 id]
      have Psg_M12 : li_sg (M12.1 2)  := li_sg_tr (h13.1 2 (fun h => by first | exact (h : False).elim | omega))  Psg_M8
      refine li_if_eq 32 dX6_readAll_25 (by decide) (fun c14 => ?_) (fun c14 => ?_)
      · have tc14 : x11.toInt = 0 := tl_eq c14
        refine li_iconst 0 dX6_readAll_32 (by decide) ?_
        have z0 : (0 : Int32).toInt = 0 := rfl
        exact li_iret dX6_readAll_33 rfl (li_nz (Or.inl rfl)) ⟨⟨_, rfl, Or.inl rfl, (by first | (exact ⟨0, qA, Or.inr ⟨by omega, rp_to ra (by decide) (Int.le_antisymm (by omega) (by omega)) (show (0 : Int) = okA from Int.le_antisymm (by omega) (by omega)) rfl⟩, by omega, by omega, Or.inr ⟨by first | rfl | omega, fun h9 => absurd h9.1 (by decide)⟩, Int.le_antisymm (by omega) (by omega), Int.le_antisymm (by omega) (by omega)⟩) | (exact ⟨1, qA, Or.inr ⟨by omega, rp_to ra (by decide) (Int.le_antisymm (by omega) (by omega)) (show (1 : Int) = okA from Int.le_antisymm (by omega) (by omega)) rfl⟩, by omega, by omega, Or.inl ⟨by first | rfl | omega, rfl, by omega⟩, Int.le_antisymm (by omega) (by omega), Int.le_antisymm (by omega) (by omega)⟩) | (exact ⟨1, qA, Or.inr ⟨by omega, rp_to ra (by decide) (Int.le_antisymm (by omega) (by omega)) (show (1 : Int) = okA from Int.le_antisymm (by omega) (by omega)) rfl⟩, by omega, by omega, Or.inr ⟨by first | rfl | omega, fun h9 => absurd h9.2 (by omega)⟩, Int.le_antisymm (by omega) (by omega), Int.le_antisymm (by omega) (by omega)⟩) | (exact ⟨1, 0, Or.inl ⟨Int.le_antisymm (by omega) (by omega), rfl, rfl⟩, by omega, by omega, Or.inl ⟨by first | rfl | omega, rfl, by omega⟩, Int.le_antisymm (by omega) (by omega), Int.le_antisymm (by omega) (by omega)⟩))⟩, hf⟩
      · have tc14 : ¬ x11.toInt = 0 := tl_ne c14
        refine li_iconst 1 dX6_readAll_28 (by decide) ?_
        refine li_goto 33 dX6_readAll_29 (by decide) ?_
        have z1 : (1 : Int32).toInt = 1 := rfl
        exact li_iret dX6_readAll_33 rfl (li_nz (Or.inr rfl)) ⟨⟨_, rfl, Or.inr rfl, (by first | (exact ⟨0, qA, Or.inr ⟨by omega, rp_to ra (by decide) (Int.le_antisymm (by omega) (by omega)) (show (0 : Int) = okA from Int.le_antisymm (by omega) (by omega)) rfl⟩, by omega, by omega, Or.inr ⟨by first | rfl | omega, fun h9 => absurd h9.1 (by decide)⟩, Int.le_antisymm (by omega) (by omega), Int.le_antisymm (by omega) (by omega)⟩) | (exact ⟨1, qA, Or.inr ⟨by omega, rp_to ra (by decide) (Int.le_antisymm (by omega) (by omega)) (show (1 : Int) = okA from Int.le_antisymm (by omega) (by omega)) rfl⟩, by omega, by omega, Or.inl ⟨by first | rfl | omega, rfl, by omega⟩, Int.le_antisymm (by omega) (by omega), Int.le_antisymm (by omega) (by omega)⟩) | (exact ⟨1, qA, Or.inr ⟨by omega, rp_to ra (by decide) (Int.le_antisymm (by omega) (by omega)) (show (1 : Int) = okA from Int.le_antisymm (by omega) (by omega)) rfl⟩, by omega, by omega, Or.inr ⟨by first | rfl | omega, fun h9 => absurd h9.2 (by omega)⟩, Int.le_antisymm (by omega) (by omega), Int.le_antisymm (by omega) (by omega)⟩) | (exact ⟨1, 0, Or.inl ⟨Int.le_antisymm (by omega) (by omega), rfl, rfl⟩, by omega, by omega, Or.inl ⟨by first | rfl | omega, rfl, by omega⟩, Int.le_antisymm (by omega) (by omega), Int.le_antisymm (by omega) (by omega)⟩))⟩, hf⟩

set_option maxRecDepth 100000 in
set_option maxHeartbeats 4000000 in
theorem k14_X11_readText {l : Launch} {Z : li_Z} (d : Nat) (hd : 44 ≤ d) (p1 : Int32) (p2 : Int32) (p3 : Int32) (M0 : li_M) (h1 : 0 ≤ (M0.1 1 1).toInt ∧ (M0.1 1 1).toInt ≤ 80) (Psg_M0 : li_sg (M0.1 2)) (h2 : p1.toInt = 4 ∧ 0 ≤ p3.toInt ∧ p3.toInt ≤ 100) (g : Nat → Int32) (hg : M0.1 2 = g) (LN : Int) (hLN : (M0.1 1 1).toInt = LN) : li_Met l Z YX11_readText d [.ref (Z.2.2 0), .int p1, .int p2, .int p3] M0 (fun r M' => (∃ x : Int32, r = some (.int x) ∧ (∃ ok q : Int, ((LN = 0 ∧ ok = 1 ∧ q = 0) ∨ (0 < LN ∧ rpr g LN 0 0 0 ok q)) ∧ 0 ≤ q ∧ q ≤ LN ∧ ((ok = 1 ∧ LN ≤ q ∧ LN ≤ p3.toInt ∧ x.toInt = 0) ∨ (ok = 1 ∧ LN ≤ q ∧ p3.toInt < LN ∧ x.toInt = -1 - p3.toInt) ∨ (¬ (ok = 1 ∧ LN ≤ q) ∧ q ≤ p3.toInt ∧ x.toInt = -1 - q) ∨ (¬ (ok = 1 ∧ LN ≤ q) ∧ p3.toInt < q ∧ x.toInt = -1 - p3.toInt)) ∧ (M'.1 1 1).toInt = 0)) ∧ li_fr (fun i => i = 1 ∨ i = 151 ∨ i = 152) M0 M') := by
  refine li_enter (by decide +kernel) (Nat.le_of_ble_eq_true rfl) ?_
  show li_T l Z YX11_readText d 0 [(0, .ref (Z.2.2 0)), (1, .int p1), (2, .int p2), (3, .int p3)] [] M0 _
  have hf : li_fr (fun i => i = 1 ∨ i = 151 ∨ i = 152) M0 M0 := li_fr_refl
  have gp1 := tl_rg p1
  have gp2 := tl_rg p2
  have gp3 := tl_rg p3
  refine li_aload_n 0 dX11_readText_0 rfl ?_
  refine li_getr (k := 0) (N := 13) (T := TX11) (C0 := RX11) dX11_readText_1 (by decide) sh_0 rfl rfl (by decide) (by decide) li_in11 w_473 ?_
  refine li_iconst 0 dX11_readText_4 (by decide) ?_
  refine li_puti (k := 2) (N := 3) (T := TX7) (C0 := RX7) dX11_readText_5 (by decide) sh_1 rfl rfl (by decide) li_in7 tyX7_ok nmX7 rfl rfl rfl rfl w_144 ?_
  refine li_nm (fun M1 eM1 => ?_)
  have hf := li_fr_ui hf (show 1 = 1 ∨ 1 = 151 ∨ 1 = 152 by omega) eM1
  have mM1_1_1 : (M1.1 1 1).toInt = (M0.1 1 1).toInt := by rw [eM1, li_ui_at, if_pos rfl, if_neg (by decide)]
  have mM1_1_2 : (M1.1 1 2).toInt = 0 := by rw [eM1, li_ui_at, if_pos rfl, if_pos rfl]; rfl
  have Psg_M1 : li_sg (M1.1 2)  := li_sg_tr (li_cell_ui eM1 (by decide))  Psg_M0
  have k2 : M1.1 1 2 = 0 := by rw [eM1, li_ui_at, if_pos rfl, if_pos rfl]
  refine li_iload_n 1 dX11_readText_8 rfl ?_
  refine li_iconst 4 dX11_readText_9 (by decide) ?_
  have J80 : ∀ (x4 : Int32) (M5 : li_M), li_fr (fun i => i = 1 ∨ i = 151 ∨ i = 152) M0 M5 → li_hd (∃ ok q : Int, ((LN = 0 ∧ ok = 1 ∧ q = 0) ∨ (0 < LN ∧ rpr g LN 0 0 0 ok q)) ∧ 0 ≤ q ∧ q ≤ LN ∧ (((x4 : Int32).toInt = 0 ∧ ok = 1 ∧ LN ≤ q) ∨ ((x4 : Int32).toInt = -1 ∧ ¬ (ok = 1 ∧ LN ≤ q))) ∧ (M5.1 1 2).toInt = q) ∧ (M5.1 1 1).toInt = LN → li_T l Z YX11_readText d 80 [(0, .ref (Z.2.2 0)), (1, .int p1), (2, .int p2), (3, .int p3), (4, .int x4)] [] M5 (fun r M' => (∃ x : Int32, r = some (.int x) ∧ (∃ ok q : Int, ((LN = 0 ∧ ok = 1 ∧ q = 0) ∨ (0 < LN ∧ rpr g LN 0 0 0 ok q)) ∧ 0 ≤ q ∧ q ≤ LN ∧ ((ok = 1 ∧ LN ≤ q ∧ LN ≤ p3.toInt ∧ x.toInt = 0) ∨ (ok = 1 ∧ LN ≤ q ∧ p3.toInt < LN ∧ x.toInt = -1 - p3.toInt) ∨ (¬ (ok = 1 ∧ LN ≤ q) ∧ q ≤ p3.toInt ∧ x.toInt = -1 - q) ∨ (¬ (ok = 1 ∧ LN ≤ q) ∧ p3.toInt < q ∧ x.toInt = -1 - p3.toInt)) ∧ (M'.1 1 1).toInt = 0)) ∧ li_fr (fun i => i = 1 ∨ i = 151 ∨ i = 152) M0 M') := by
    try clear k2
    try clear mM1_1_2
    try clear mM1_1_1
    try clear eM1
    intro x4 M5 hf hi
    have gx4 := tl_rg x4
    obtain ⟨ok, q, rA, b1, b2, rC, e1⟩ := hi.1
    have e2 := hi.2
    refine li_aload_n 0 dX11_readText_80 rfl ?_
    refine li_getr (k := 0) (N := 13) (T := TX11) (C0 := RX11) dX11_readText_81 (by decide) sh_0 rfl rfl (by decide) (by decide) li_in11 w_473 ?_
    refine li_iload 4 dX11_readText_84 rfl ?_
    refine li_iload_n 3 dX11_readText_86 rfl ?_
    refine li_callV (n := 2) (As := [.int x4, .int p3]) dX11_readText_87 (k5_X7_verdict (d - 1) (by omega) x4 p3 M5 ⟨by omega, by omega⟩ ⟨by omega, by omega⟩) (by omega) (Nat.le_of_ble_eq_true rfl) w_721 w_722 w_723 w_102 w_724 (by decide +kernel) rfl (by decide) sh_1 rfl rfl (Nat.le_of_ble_eq_true rfl) (fun r M7 h8 => ?_)
    obtain ⟨⟨x6, rfl, qx6⟩, h8⟩ := h8
    have gx6 := tl_rg x6
    have hf := li_fr_trans hf h8 (fun i h => False.elim h)
    have mM7_1_1 : (M7.1 1 1).toInt = (M5.1 1 1).toInt := by rw [h8.1 1 id]
    have mM7_1_2 : (M7.1 1 2).toInt = (M5.1 1 2).toInt := by rw [h8.1 1 id]
    have vd : ((ok = 1 ∧ LN ≤ q ∧ LN ≤ p3.toInt ∧ x6.toInt = 0) ∨ (ok = 1 ∧ LN ≤ q ∧ p3.toInt < LN ∧ x6.toInt = -1 - p3.toInt) ∨ (¬ (ok = 1 ∧ LN ≤ q) ∧ q ≤ p3.toInt ∧ x6.toInt = -1 - q) ∨ (¬ (ok = 1 ∧ LN ≤ q) ∧ p3.toInt < q ∧ x6.toInt = -1 - p3.toInt)) := by
      rcases rC with c | c
      · rcases qx6 with t | t | t | t
        · exact absurd t.1 (by omega)
        · exact absurd t.1 (by omega)
        · exact Or.inr (Or.inl ⟨c.2.1, c.2.2, by omega, t.2.2⟩)
        · exact Or.inl ⟨c.2.1, c.2.2, by omega, t.2.2.trans c.1⟩
      · rcases qx6 with t | t | t | t
        · exact Or.inr (Or.inr (Or.inl ⟨c.2, by omega, Int.le_antisymm (by omega) (by omega)⟩))
        · exact Or.inr (Or.inr (Or.inr ⟨c.2, by omega, Int.le_antisymm (by omega) (by omega)⟩))
        · exact absurd t.1 (by omega)
        · exact absurd t.1 (by omega)
    clear qx6
    refine li_istore [(5, .int x6), (0, .ref (Z.2.2 0)), (1, .int p1), (2, .int p2), (3, .int p3), (4, .int x4)] dX11_readText_90 (by decide) rfl ?_
    refine li_aload_n 1 dX11_readText_92 rfl ?_
    refine li_getr (k := 0) (N := 13) (T := TX11) (C0 := RX11) dX11_readText_93 (by decide) sh_0 rfl rfl (by decide) (by decide) li_in11 w_473 ?_
    refine li_iconst 0 dX11_readText_96 (by decide) ?_
    refine li_puti (k := 1) (N := 3) (T := TX7) (C0 := RX7) dX11_readText_97 (by decide) sh_1 rfl rfl (by decide) li_in7 tyX7_ok nmX7 rfl rfl rfl rfl w_140 ?_
    refine li_nm (fun M9 eM9 => ?_)
    have hf := li_fr_ui hf (show 1 = 1 ∨ 1 = 151 ∨ 1 = 152 by omega) eM9
    have mM9_1_1 : (M9.1 1 1).toInt = 0 := by rw [eM9, li_ui_at, if_pos rfl, if_pos rfl]; rfl
    have mM9_1_2 : (M9.1 1 2).toInt = (M7.1 1 2).toInt := by rw [eM9, li_ui_at, if_pos rfl, if_neg (by decide)]
    have k10 : M9.1 1 1 = 0 := by rw [eM9, li_ui_at, if_pos rfl, if_pos rfl]
    refine li_iload 0 dX11_readText_100 rfl ?_
    exact li_iret dX11_readText_102 rfl rfl ⟨⟨_, rfl, (by exact ⟨ok, q, rA, b1, b2, vd, Int.le_antisymm (by omega) (by omega)⟩)⟩, hf⟩
  refine li_icmp_ne 37 dX11_readText_10 (by decide) (fun c3 => ?_) (fun c3 => ?_)
  · have tc3 : ¬ p1.toInt = 4 := tl_ne c3
    exfalso; omega
  · have tc3 : p1.toInt = 4 := tl_eq c3
    refine li_aload_n 0 dX11_readText_13 rfl ?_
    refine li_getr (k := 6) (N := 13) (T := TX11) (C0 := RX11) dX11_readText_14 (by decide) sh_0 rfl rfl (by decide) (by decide) li_in11 w_479 ?_
    refine li_aload_n 0 dX11_readText_17 rfl ?_
    refine li_getr (k := 0) (N := 13) (T := TX11) (C0 := RX11) dX11_readText_18 (by decide) sh_0 rfl rfl (by decide) (by decide) li_in11 w_473 ?_
    refine li_callV (n := 1) (As := [.ref (Z.2.2 1)]) dX11_readText_21 (k14_X6_readAll (d - 1) (by omega) M1 g ((hf.1 2 (by first | exact id | decide | omega)).trans hg) LN _ (Int.le_antisymm (by omega) (by omega)) rfl ⟨by omega, by omega, by omega⟩ Psg_M1 (Int.le_antisymm (by omega) (by omega))) (by omega) (Nat.le_of_ble_eq_true rfl) w_540 w_541 w_542 w_107 w_543 (by decide +kernel) rfl (by decide) sh_151 rfl rfl (Nat.le_of_ble_eq_true rfl) (fun r M12 h13 => ?_)
    obtain ⟨⟨x11, rfl, bx11, qx11⟩, h13⟩ := h13
    have ux11 := tl_b bx11
    have hf := li_fr_trans hf h13 (fun i (h : i = 1 ∨ i = 151 ∨ i = 152) => (show i = 1 ∨ i = 151 ∨ i = 152 by omega))
    have Psg_M12 : li_sg (M12.1 2)  := li_sg_tr (h13.1 2 (fun h => by first | exact (h : False).elim | omega))  Psg_M1
    obtain ⟨ok, q, rA, b1, b2, rC, e1, e2⟩ := qx11
    have J32 : ∀ (x15 : Int32) (M16 : li_M), li_fr (fun i => i = 1 ∨ i = 151 ∨ i = 152) M0 M16 → li_hd (∃ ok q : Int, ((LN = 0 ∧ ok = 1 ∧ q = 0) ∨ (0 < LN ∧ rpr g LN 0 0 0 ok q)) ∧ 0 ≤ q ∧ q ≤ LN ∧ (((x15 : Int32).toInt = 0 ∧ ok = 1 ∧ LN ≤ q) ∨ ((x15 : Int32).toInt = -1 ∧ ¬ (ok = 1 ∧ LN ≤ q))) ∧ (M16.1 1 2).toInt = q) ∧ (M16.1 1 1).toInt = LN → li_T l Z YX11_readText d 32 [(0, .ref (Z.2.2 0)), (1, .int p1), (2, .int p2), (3, .int p3)] [.int x15] M16 (fun r M' => (∃ x : Int32, r = some (.int x) ∧ (∃ ok q : Int, ((LN = 0 ∧ ok = 1 ∧ q = 0) ∨ (0 < LN ∧ rpr g LN 0 0 0 ok q)) ∧ 0 ≤ q ∧ q ≤ LN ∧ ((ok = 1 ∧ LN ≤ q ∧ LN ≤ p3.toInt ∧ x.toInt = 0) ∨ (ok = 1 ∧ LN ≤ q ∧ p3.toInt < LN ∧ x.toInt = -1 - p3.toInt) ∨ (¬ (ok = 1 ∧ LN ≤ q) ∧ q ≤ p3.toInt ∧ x.toInt = -1 - q) ∨ (¬ (ok = 1 ∧ LN ≤ q) ∧ p3.toInt < q ∧ x.toInt = -1 - p3.toInt)) ∧ (M'.1 1 1).toInt = 0)) ∧ li_fr (fun i => i = 1 ∨ i = 151 ∨ i = 152) M0 M') := by
      try clear ok
      try clear q
      try clear rA
      try clear b1
      try clear b2
      try clear rC
      try clear e1
      try clear e2
      try clear ux11
      try clear bx11
      try clear qx11
      try clear h13
      try clear tc3
      try clear c3
      try clear k2
      try clear mM1_1_2
      try clear mM1_1_1
      try clear eM1
      intro x15 M16 hf hi
      have gx15 := tl_rg x15
      refine li_istore [(4, .int x15), (0, .ref (Z.2.2 0)), (1, .int p1), (2, .int p2), (3, .int p3)] dX11_readText_32 (by decide) rfl ?_
      refine li_goto 80 dX11_readText_34 (by decide) ?_
      refine li_pick [1, 2, 3, 4, 0] [(0, .ref (Z.2.2 0)), (1, .int p1), (2, .int p2), (3, .int p3), (4, .int x15)] rfl ?_
      exact J80 x15 M16 hf ⟨(by first | (exact hi.1)), (Int.le_antisymm (by omega) (by omega))⟩
    refine li_if_eq 31 dX11_readText_24 (by decide) (fun c14 => ?_) (fun c14 => ?_)
    · have tc14 : x11.toInt = 0 := tl_eq c14
      refine li_iconst (-1) dX11_readText_31 (by decide) ?_
      refine li_pick [0, 1, 2, 3] [(0, .ref (Z.2.2 0)), (1, .int p1), (2, .int p2), (3, .int p3)] rfl ?_
      have zm1 : ((-1) : Int32).toInt = -1 := rfl
      exact J32 (-1) M12 hf ⟨(by first | (rcases rC with c | c; exact absurd c.1 (by omega); exact ⟨ok, q, rA, b1, b2, Or.inr ⟨rfl, c.2⟩, e1⟩) | (rcases rC with c | c; exact ⟨ok, q, rA, b1, b2, Or.inl ⟨rfl, c.2⟩, e1⟩; exact absurd c.1 (by omega))), (Int.le_antisymm (by omega) (by omega))⟩
    · have tc14 : ¬ x11.toInt = 0 := tl_ne c14
      refine li_iconst 0 dX11_readText_27 (by decide) ?_
      refine li_goto 32 dX11_readText_28 (by decide) ?_
      refine li_pick [0, 1, 2, 3] [(0, .ref (Z.2.2 0)), (1, .int p1), (2, .int p2), (3, .int p3)] rfl ?_
      have z0 : (0 : Int32).toInt = 0 := rfl
      exact J32 0 M12 hf ⟨(by first | (rcases rC with c | c; exact absurd c.1 (by omega); exact ⟨ok, q, rA, b1, b2, Or.inr ⟨rfl, c.2⟩, e1⟩) | (rcases rC with c | c; exact ⟨ok, q, rA, b1, b2, Or.inl ⟨rfl, c.2⟩, e1⟩; exact absurd c.1 (by omega))), (Int.le_antisymm (by omega) (by omega))⟩

set_option maxRecDepth 100000 in
set_option maxHeartbeats 4000000 in
theorem k14_X11_rule {l : Launch} {Z : li_Z} (d : Nat) (hd : 45 ≤ d) (M0 : li_M) (h1 : 0 ≤ (M0.1 1 1).toInt ∧ (M0.1 1 1).toInt ≤ 80) (Psg_M0 : li_sg (M0.1 2)) (g : Nat → Int32) (hg : M0.1 2 = g) (LN : Int) (hLN : (M0.1 1 1).toInt = LN) : li_Met l Z YX11_rule d [.ref (Z.2.2 0)] M0 (fun r M' => (∃ x : Int32, r = some (.int x) ∧ ((∃ ok q : Int, ((LN = 0 ∧ ok = 1 ∧ q = 0) ∨ (0 < LN ∧ rpr g LN 0 0 0 ok q)) ∧ 0 ≤ q ∧ q ≤ LN ∧ ((ok = 1 ∧ LN ≤ q ∧ LN ≤ 40 ∧ x.toInt = 0) ∨ (ok = 1 ∧ LN ≤ q ∧ 40 < LN ∧ x.toInt = -1 - 40) ∨ (¬ (ok = 1 ∧ LN ≤ q) ∧ q ≤ 40 ∧ x.toInt = -1 - q) ∨ (¬ (ok = 1 ∧ LN ≤ q) ∧ 40 < q ∧ x.toInt = -1 - 40)) ∧ True) ∧ (M'.1 1 1).toInt = 0)) ∧ li_fr (fun i => i = 1 ∨ i = 144 ∨ i = 145 ∨ i = 151 ∨ i = 152) M0 M') := by
  refine li_enter (by decide +kernel) (Nat.le_of_ble_eq_true rfl) ?_
  show li_T l Z YX11_rule d 0 [(0, .ref (Z.2.2 0))] [] M0 _
  have hf : li_fr (fun i => i = 1 ∨ i = 144 ∨ i = 145 ∨ i = 151 ∨ i = 152) M0 M0 := li_fr_refl
  refine li_aload_n 0 dX11_rule_0 rfl ?_
  refine li_iconst 4 dX11_rule_1 (by decide) ?_
  refine li_iconst 0 dX11_rule_2 (by decide) ?_
  refine li_bipush 40 dX11_rule_3 (by decide) ?_
  refine li_callV (n := 3) (As := [.int 4, .int 0, .int 40]) dX11_rule_5 (k14_X11_readText (d - 1) (by omega) 4 0 40 M0 ⟨by omega, by omega⟩ Psg_M0 ⟨by decide, by decide, by decide⟩ g hg LN hLN) (by omega) (Nat.le_of_ble_eq_true rfl) w_536 w_538 w_0 w_101 w_539 (by decide +kernel) rfl (by decide) sh_0 rfl rfl (Nat.le_of_ble_eq_true rfl) (fun r M2 h3 => ?_)
  have z4 : (4 : Int32).toInt = 4 := rfl
  have z0 : (0 : Int32).toInt = 0 := rfl
  have z40 : (40 : Int32).toInt = 40 := rfl
  obtain ⟨⟨x1, rfl, qx1⟩, h3⟩ := h3
  have gx1 := tl_rg x1
  have hf := li_fr_trans hf h3 (fun i (h : i = 1 ∨ i = 151 ∨ i = 152) => (show i = 1 ∨ i = 144 ∨ i = 145 ∨ i = 151 ∨ i = 152 by omega))
  have Psg_M2 : li_sg (M2.1 2)  := li_sg_tr (h3.1 2 (fun h => by first | exact (h : False).elim | omega))  Psg_M0
  have q99 := qx1
  clear qx1
  rw [z40] at q99
  refine li_istore_n [(1, .int x1), (0, .ref (Z.2.2 0))] dX11_rule_8 (by decide) rfl ?_
  refine li_iload_n 0 dX11_rule_9 rfl ?_
  refine li_if_lt 24 dX11_rule_10 (by decide) (fun c4 => ?_) (fun c4 => ?_)
  · have tc4 : x1.toInt < 0 := tl_lt c4
    refine li_iload_n 0 dX11_rule_24 rfl ?_
    exact li_iret dX11_rule_25 rfl rfl ⟨⟨_, rfl, (by obtain ⟨ok, q, rA, b1, b2, vd, z9⟩ := q99; exact ⟨⟨ok, q, rA, b1, b2, vd, trivial⟩, Int.le_antisymm (by omega) (by omega)⟩)⟩, hf⟩
  · have tc4 : 0 ≤ x1.toInt := tl_nlt c4
    refine li_aload_n 1 dX11_rule_13 rfl ?_
    refine li_getr (k := 5) (N := 13) (T := TX11) (C0 := RX11) dX11_rule_14 (by decide) sh_0 rfl rfl (by decide) (by decide) li_in11 w_478 ?_
    refine li_aload_n 1 dX11_rule_17 rfl ?_
    refine li_getr (k := 6) (N := 13) (T := TX11) (C0 := RX11) dX11_rule_18 (by decide) sh_0 rfl rfl (by decide) (by decide) li_in11 w_479 ?_
    refine li_callV (n := 1) (As := [.ref (Z.2.2 151)]) dX11_rule_21 (k_X6_copyFrom (d - 1) (by omega)  M2) (by omega) (Nat.le_of_ble_eq_true rfl) w_747 w_748 w_749 w_107 w_750 (by decide +kernel) rfl (by decide) sh_144 rfl rfl (Nat.le_of_ble_eq_true rfl) (fun r M6 h7 => ?_)
    obtain ⟨rfl, h7⟩ := h7
    have hf := li_fr_trans hf h7 (fun i (h : i = 144 ∨ i = 145) => (show i = 1 ∨ i = 144 ∨ i = 145 ∨ i = 151 ∨ i = 152 by omega))
    have mM6_1_1 : (M6.1 1 1).toInt = (M2.1 1 1).toInt := by rw [h7.1 1 (show ¬ (1 = 144 ∨ 1 = 145) by first | (simp; done) | omega)]
    have Psg_M6 : li_sg (M6.1 2)  := li_sg_tr (h7.1 2 (fun h => by first | exact (h : False).elim | omega))  Psg_M2
    refine li_iload_n 0 dX11_rule_24 rfl ?_
    exact li_iret dX11_rule_25 rfl rfl ⟨⟨_, rfl, (by obtain ⟨ok, q, rA, b1, b2, vd, z9⟩ := q99; exact ⟨⟨ok, q, rA, b1, b2, vd, trivial⟩, Int.le_antisymm (by omega) (by omega)⟩)⟩, hf⟩
