def li_hb (b i : Int32) : Int := (li_us b i &&& 1).toInt
def li_kp (b : Int32) (g hZq : Nat → Int32) (c : Int32) : Prop := 0 ≤ b.toInt ∧ b.toInt ≤ 3 ∧ ∀ i : Int32, 0 ≤ i.toInt → i.toInt ≤ 1 → ((¬ li_hb b i = 0) ↔ (¬ (g i.toNatClampNeg).toInt = 0 ∧ (hZq i.toNatClampNeg).toInt = c.toInt)) ∧ (hZq i.toNatClampNeg).toInt ≤ c.toInt
theorem kp_i {i : Int32} (h0 : 0 ≤ i.toInt) (h1 : i.toInt ≤ 1) : i = 0 ∨ i = 1 := by
  rcases (show i.toInt = 0 ∨ i.toInt = 1 by omega) with hZq | hZq
  · exact Or.inl (Int32.toInt_inj.mp hZq)
  · exact Or.inr (Int32.toInt_inj.mp hZq)
theorem kp_b {b : Int32} (h0 : 0 ≤ b.toInt) (h1 : b.toInt ≤ 3) : b = 0 ∨ b = 1 ∨ b = 2 ∨ b = 3 := by
  rcases (show b.toInt = 0 ∨ b.toInt = 1 ∨ b.toInt = 2 ∨ b.toInt = 3 by omega) with hZq | hZq | hZq | hZq
  · exact Or.inl (Int32.toInt_inj.mp hZq)
  · exact Or.inr (Or.inl (Int32.toInt_inj.mp hZq))
  · exact Or.inr (Or.inr (Or.inl (Int32.toInt_inj.mp hZq)))
  · exact Or.inr (Or.inr (Or.inr (Int32.toInt_inj.mp hZq)))
theorem kp_rb {b p : Int32} (h0 : 0 ≤ b.toInt) (h1 : b.toInt ≤ 3) (p0Zq : 0 ≤ p.toInt) (p1Zq : p.toInt ≤ 1) : 0 ≤ (li_rb b p).toInt ∧ (li_rb b p).toInt ≤ 3 ∧ (∀ i : Int32, 0 ≤ i.toInt → i.toInt ≤ 1 → (i = p → ¬ li_hb (li_rb b p) i = 0) ∧ (¬ i = p → li_hb (li_rb b p) i = li_hb b i)) := by
  rcases kp_b h0 h1 with rfl | rfl | rfl | rfl <;> rcases kp_i p0Zq p1Zq with rfl | rfl <;> refine ⟨by decide, by decide, fun i i0Zq i1Zq => ?_⟩ <;> rcases kp_i i0Zq i1Zq with rfl | rfl <;> exact ⟨by decide, by decide⟩
theorem kp_z {i : Int32} (i0Zq : 0 ≤ i.toInt) (i1Zq : i.toInt ≤ 1) : li_hb 0 i = 0 := by
  rcases kp_i i0Zq i1Zq with rfl | rfl <;> decide
def li_k2 (g g0 : Nat → Int32) (p : Int32) : Prop := ∀ k : Nat, g k = if k = p.toNatClampNeg then 1 else g0 k
theorem li_k2_tr {g g' g0 g0' : Nat → Int32} {p p' : Int32} (hg : g' = g) (h1 : g0' = g0) (h2 : p' = p) (hZq : li_k2 g g0 p) : li_k2 g' g0' p' := by
  subst hg; subst h1; subst h2; exact hZq
def li_k3 (g g0 : Nat → Int32) (p c : Int32) : Prop := ∀ k : Nat, g k = if k = p.toNatClampNeg then c else g0 k
theorem li_k3_tr {g g' g0 g0' : Nat → Int32} {p p' c c' : Int32} (hg : g' = g) (h1 : g0' = g0) (h2 : p' = p) (h3 : c' = c) (hZq : li_k3 g g0 p c) : li_k3 g' g0' p' c' := by
  subst hg; subst h1; subst h2; subst h3; exact hZq
def li_c3 (g g0 : Nat → Int32) : Prop := g = g0
theorem li_c3_tr {g g' g0 g0' : Nat → Int32} (hg : g' = g) (h0 : g0' = g0) (hZq : li_c3 g g0) : li_c3 g' g0' := by
  subst hg; subst h0; exact hZq
def li_c4 (g g0 : Nat → Int32) : Prop := g = g0
theorem li_c4_tr {g g' g0 g0' : Nat → Int32} (hg : g' = g) (h0 : g0' = g0) (hZq : li_c4 g g0) : li_c4 g' g0' := by
  subst hg; subst h0; exact hZq
theorem li_kp_mv {b b' : Int32} {g g' hZq h' : Nat → Int32} {c c' : Int32} (hbZq : b'.toInt = b.toInt) (hg : g' = g) (hh : h' = hZq) (hcZq : c'.toInt = c.toInt) (a : li_kp b g hZq c) : li_kp b' g' h' c' := by
  obtain rfl := Int32.toInt_inj.mp hbZq
  obtain rfl := Int32.toInt_inj.mp hcZq
  subst hg; subst hh; exact a
theorem li_kp_0 : li_kp 0 (fun _ => 0) (fun _ => 0) 0 := ⟨by decide, by decide, fun i i0Zq i1Zq => ⟨⟨fun q => absurd (kp_z i0Zq i1Zq) q, fun q => absurd (show ((0 : Int32)).toInt = 0 from rfl) q.1⟩, Int.le_refl _⟩⟩
theorem li_kp_clear {b b' : Int32} {g g' hZq h' : Nat → Int32} {c c' : Int32} (a : li_kp b g hZq c) (hbZq : b'.toInt = 0) (hg : g' = g) (hh : h' = hZq) (hcZq : c'.toInt = c.toInt + 1) : li_kp b' g' h' c' := by
  obtain rfl : b' = 0 := Int32.toInt_inj.mp hbZq
  subst hg; subst hh
  refine ⟨by decide, by decide, fun i i0Zq i1Zq => ⟨⟨fun q => absurd (kp_z i0Zq i1Zq) q, fun q => ?_⟩, ?_⟩⟩
  · have := (a.2.2 i i0Zq i1Zq).2
    omega
  · have := (a.2.2 i i0Zq i1Zq).2
    omega
theorem li_kp_keep {b b' p : Int32} {g g1 g' hZq h1 h' : Nat → Int32} {c c1 c' : Int32} (a : li_kp b g hZq c) (hbZq : b'.toInt = (li_rb b p).toInt) (p0Zq : 0 ≤ p.toInt) (p1Zq : p.toInt ≤ 1) (hg : g1 = g) (hh : h1 = hZq) (hcZq : c1.toInt = c.toInt) (k2Zq : li_k2 g' g1 p) (k3Zq : li_k3 h' h1 p c1) (hc' : c'.toInt = c1.toInt) : li_kp b' g' h' c' := by
  obtain rfl := Int32.toInt_inj.mp hbZq
  obtain rfl := Int32.toInt_inj.mp hcZq
  obtain rfl := Int32.toInt_inj.mp hc'
  subst hg; subst hh
  have r := kp_rb a.1 a.2.1 p0Zq p1Zq
  refine ⟨r.1, r.2.1, fun i i0Zq i1Zq => ?_⟩
  rw [k2Zq i.toNatClampNeg, k3Zq i.toNatClampNeg]
  by_cases q : i = p
  · subst q
    rw [if_pos rfl, if_pos rfl]
    exact ⟨⟨fun _ => ⟨by decide, rfl⟩, fun _ => (r.2.2 i i0Zq i1Zq).1 rfl⟩, Int.le_refl _⟩
  · have neZq : ¬ i.toNatClampNeg = p.toNatClampNeg := fun e => q (Int32.toInt_inj.mp (by have a1Zq := li_cl i0Zq; have a2 := li_cl p0Zq; omega))
    rw [if_neg neZq, if_neg neZq, (r.2.2 i i0Zq i1Zq).2 q]
    exact a.2.2 i i0Zq i1Zq

set_option maxRecDepth 100000 in
set_option maxHeartbeats 4000000 in
theorem k11_X11_holds {l : Launch} {Z : li_Z} (d : Nat) (hdZq : 1 ≤ d) (p1Zq : Int32) (p2Zq : Int32) (M0 : li_M) : li_Met l Z YX11_holds d [.int p1Zq, .int p2Zq] M0 (fun r M' => (∃ x : Int32, r = some (.int x) ∧ (x = 0 ∨ x = 1) ∧ ((x.toInt = 1 ∧ 0 ≤ p2Zq.toInt ∧ p2Zq.toInt < 32 ∧ ¬ li_hb p1Zq p2Zq = 0) ∨ (x.toInt = 0 ∧ ¬ (0 ≤ p2Zq.toInt ∧ p2Zq.toInt < 32 ∧ ¬ li_hb p1Zq p2Zq = 0)))) ∧ li_fr (fun i => False) M0 M') := by
  refine li_enter (by decide +kernel) (Nat.le_of_ble_eq_true rfl) ?_
  show li_T l Z YX11_holds d 0 [(0, .int p1Zq), (1, .int p2Zq)] [] M0 _
  have hf : li_fr (fun i => False) M0 M0 := li_fr_refl
  have gp1 := tl_rg p1Zq
  have gp2 := tl_rg p2Zq
  refine li_iload_n 1 dX11_holds_0 rfl ?_
  refine li_if_lt 22 dX11_holds_1 (by decide) (fun c1 => ?_) (fun c1 => ?_)
  · have tc1 : p2Zq.toInt < 0 := tl_lt c1
    refine li_iconst 0 dX11_holds_22 (by decide) ?_
    have z0 : (0 : Int32).toInt = 0 := rfl
    exact li_iret dX11_holds_23 rfl (li_nz (Or.inl rfl)) ⟨⟨_, rfl, Or.inl rfl, (by omega)⟩, hf⟩
  · have tc1 : 0 ≤ p2Zq.toInt := tl_nlt c1
    refine li_iload_n 1 dX11_holds_4 rfl ?_
    refine li_bipush 32 dX11_holds_5 (by decide) ?_
    refine li_icmp_ge 22 dX11_holds_7 (by decide) (fun c2 => ?_) (fun c2 => ?_)
    · have tc2 : 32 ≤ p2Zq.toInt := tl_le c2
      refine li_iconst 0 dX11_holds_22 (by decide) ?_
      have z0 : (0 : Int32).toInt = 0 := rfl
      exact li_iret dX11_holds_23 rfl (li_nz (Or.inl rfl)) ⟨⟨_, rfl, Or.inl rfl, (by omega)⟩, hf⟩
    · have tc2 : p2Zq.toInt < 32 := tl_nle c2
      refine li_iload_n 0 dX11_holds_10 rfl ?_
      refine li_iload_n 1 dX11_holds_11 rfl ?_
      refine li_iushr dX11_holds_12 ?_
      refine li_top (fun x3 ex3Zq => ?_)
      refine li_iconst 1 dX11_holds_13 (by decide) ?_
      refine li_iand dX11_holds_14 ?_
      refine li_top (fun x4Zq ex4 => ?_)
      have tx4 := tl_and1 ex4
      have hbZq : x4Zq.toInt = li_hb p1Zq p2Zq := by rw [ex4, ex3Zq]; rfl
      refine li_if_eq 22 dX11_holds_15 (by decide) (fun c5Zq => ?_) (fun c5Zq => ?_)
      · have tc5 : x4Zq.toInt = 0 := tl_eq c5Zq
        refine li_iconst 0 dX11_holds_22 (by decide) ?_
        have z0 : (0 : Int32).toInt = 0 := rfl
        exact li_iret dX11_holds_23 rfl (li_nz (Or.inl rfl)) ⟨⟨_, rfl, Or.inl rfl, (by omega)⟩, hf⟩
      · have tc5 : ¬ x4Zq.toInt = 0 := tl_ne c5Zq
        refine li_iconst 1 dX11_holds_18 (by decide) ?_
        refine li_goto 23 dX11_holds_19 (by decide) ?_
        have z1 : (1 : Int32).toInt = 1 := rfl
        exact li_iret dX11_holds_23 rfl (li_nz (Or.inr rfl)) ⟨⟨_, rfl, Or.inr rfl, (by omega)⟩, hf⟩
set_option maxRecDepth 100000 in
set_option maxHeartbeats 4000000 in
theorem k11_X3_clearAll {l : Launch} {Z : li_Z} (d : Nat) (hdZq : 1 ≤ d) (M0 : li_M) : li_Met l Z YX3_clearAll d [.ref (Z.2.2 21)] M0 (fun r M' => r = none ∧ li_fr (fun i => i = 21) M0 M' ∧ (M'.1 21 3).toInt = 0) := by
  refine li_enter (by decide +kernel) (Nat.le_of_ble_eq_true rfl) ?_
  show li_T l Z YX3_clearAll d 0 [(0, .ref (Z.2.2 21))] [] M0 _
  have hf : li_fr (fun i => i = 21) M0 M0 := li_fr_refl
  refine li_aload_n 0 dX3_clearAll_0 rfl ?_
  refine li_iconst 0 dX3_clearAll_1 (by decide) ?_
  refine li_puti (k := 4) (N := 6) (T := TX3) (C0 := RX3) dX3_clearAll_2 (by decide) sh_21 rfl rfl (by decide) li_in3 tyX3_ok nmX3 rfl rfl rfl rfl w_293 ?_
  refine li_nm (fun M1Zq eM1 => ?_)
  have hf := li_fr_ui hf (show 21 = 21 by omega) eM1
  have mM1_21_3 : (M1Zq.1 21 3).toInt = (M0.1 21 3).toInt := by rw [eM1, li_ui_at, if_pos rfl, if_neg (by decide)]
  have k2Zq : M1Zq.1 21 4 = 0 := by rw [eM1, li_ui_at, if_pos rfl, if_pos rfl]
  refine li_aload_n 0 dX3_clearAll_5 rfl ?_
  refine li_iconst 0 dX3_clearAll_6 (by decide) ?_
  refine li_puti (k := 3) (N := 6) (T := TX3) (C0 := RX3) dX3_clearAll_7 (by decide) sh_21 rfl rfl (by decide) li_in3 tyX3_ok nmX3 rfl rfl rfl rfl w_292 ?_
  refine li_nm (fun M3Zq eM3 => ?_)
  have hf := li_fr_ui hf (show 21 = 21 by omega) eM3
  have mM3_21_3 : (M3Zq.1 21 3).toInt = 0 := by rw [eM3, li_ui_at, if_pos rfl, if_pos rfl]; rfl
  have k4Zq : M3Zq.1 21 4 = 0 := by rw [eM3, li_ui_at, if_pos rfl, if_neg (by decide)]; exact k2Zq
  have k5Zq : M3Zq.1 21 3 = 0 := by rw [eM3, li_ui_at, if_pos rfl, if_pos rfl]
  exact li_vret dX3_clearAll_10 rfl ⟨rfl, hf, (by omega)⟩
set_option maxRecDepth 100000 in
set_option maxHeartbeats 4000000 in
theorem k11_X3_hold {l : Launch} {Z : li_Z} (d : Nat) (hdZq : 2 ≤ d) (M0 : li_M) : li_Met l Z YX3_hold d [.ref (Z.2.2 21)] M0 (fun r M' => r = none ∧ li_fr (fun i => i = 21 ∨ (32 ≤ i ∧ i < 128)) M0 M' ∧ ((M'.1 21 3).toInt = (M0.1 21 3).toInt)) := by
  refine li_enter (by decide +kernel) (Nat.le_of_ble_eq_true rfl) ?_
  show li_T l Z YX3_hold d 0 [(0, .ref (Z.2.2 21))] [] M0 _
  have hf : li_fr (fun i => i = 21 ∨ (32 ≤ i ∧ i < 128)) M0 M0 := li_fr_refl
  refine li_aload_n 0 dX3_hold_0 rfl ?_
  refine li_geti (k := 5) (N := 6) (T := TX3) (C0 := RX3) dX3_hold_1 (by decide) sh_21 rfl rfl (by decide) li_in3 w_295 ?_
  refine li_top (fun x1Zq ex1 => ?_)
  have gx1 := tl_rg x1Zq
  have J47 : ∀  (M3Zq : li_M), li_fr (fun i => i = 21 ∨ (32 ≤ i ∧ i < 128)) M0 M3Zq → (M3Zq.1 21 3).toInt = (M0.1 21 3).toInt → li_T l Z YX3_hold d 47 [(0, .ref (Z.2.2 21))] [] M3Zq (fun r M' => r = none ∧ li_fr (fun i => i = 21 ∨ (32 ≤ i ∧ i < 128)) M0 M' ∧ ((M'.1 21 3).toInt = (M0.1 21 3).toInt)) := by
    intro  M3Zq hf hiZq
    refine li_aload_n 0 dX3_hold_47 rfl ?_
    refine li_aload_n 0 dX3_hold_48 rfl ?_
    refine li_geti (k := 5) (N := 6) (T := TX3) (C0 := RX3) dX3_hold_49 (by decide) sh_21 rfl rfl (by decide) li_in3 w_295 ?_
    refine li_top (fun x4Zq ex4 => ?_)
    have gx4 := tl_rg x4Zq
    refine li_iconst 1 dX3_hold_52 (by decide) ?_
    refine li_iadd dX3_hold_53 ?_
    refine li_top (fun x5Zq ex5 => ?_)
    have tx5 : (-2147483648 ≤ x4Zq.toInt + 1 ∧ x4Zq.toInt + 1 ≤ 2147483647) → x5Zq.toInt = x4Zq.toInt + 1 := tl_add ex5
    refine li_bipush 12 dX3_hold_54 (by decide) ?_
    have J69 : ∀ (x7 : Int32) (M8Zq : li_M), li_fr (fun i => i = 21 ∨ (32 ≤ i ∧ i < 128)) M0 M8Zq → (M8Zq.1 21 3).toInt = (M0.1 21 3).toInt → li_T l Z YX3_hold d 69 [(0, .ref (Z.2.2 21))] [.int x7, .ref (Z.2.2 21)] M8Zq (fun r M' => r = none ∧ li_fr (fun i => i = 21 ∨ (32 ≤ i ∧ i < 128)) M0 M' ∧ ((M'.1 21 3).toInt = (M0.1 21 3).toInt)) := by
      intro x7 M8Zq hf hiZq
      have gx7 := tl_rg x7
      refine li_puti (k := 5) (N := 6) (T := TX3) (C0 := RX3) dX3_hold_69 (by decide) sh_21 rfl rfl (by decide) li_in3 tyX3_ok nmX3 rfl rfl rfl rfl w_295 ?_
      refine li_nm (fun M9Zq eM9 => ?_)
      have hf := li_fr_ui hf (show 21 = 21 ∨ (32 ≤ 21 ∧ 21 < 128) by omega) eM9
      have mM9_21_3 : (M9Zq.1 21 3).toInt = (M8Zq.1 21 3).toInt := by rw [eM9, li_ui_at, if_pos rfl, if_neg (by decide)]
      have k10 : M9Zq.1 21 5 = x7 := by rw [eM9, li_ui_at, if_pos rfl, if_pos rfl]
      refine li_aload_n 0 dX3_hold_72 rfl ?_
      refine li_aload_n 0 dX3_hold_73 rfl ?_
      refine li_geti (k := 4) (N := 6) (T := TX3) (C0 := RX3) dX3_hold_74 (by decide) sh_21 rfl rfl (by decide) li_in3 w_293 ?_
      refine li_top (fun x11 ex11 => ?_)
      have gx11 := tl_rg x11
      refine li_iconst 1 dX3_hold_77 (by decide) ?_
      refine li_iadd dX3_hold_78 ?_
      refine li_top (fun x12 ex12 => ?_)
      have tx12 : (-2147483648 ≤ x11.toInt + 1 ∧ x11.toInt + 1 ≤ 2147483647) → x12.toInt = x11.toInt + 1 := tl_add ex12
      refine li_bipush 12 dX3_hold_79 (by decide) ?_
      refine li_mmin dX3_hold_81 (by omega) w_875 w_726 w_113 w_727 (Nat.le_of_ble_eq_true rfl) ?_
      refine li_top (fun x13 ex13 => ?_)
      have tx13 : (12 < x12.toInt → x13.toInt = 12) ∧ (x12.toInt ≤ 12 → x13.toInt = x12.toInt) := tl_min ex13
      refine li_puti (k := 4) (N := 6) (T := TX3) (C0 := RX3) dX3_hold_84 (by decide) sh_21 rfl rfl (by decide) li_in3 tyX3_ok nmX3 rfl rfl rfl rfl w_293 ?_
      refine li_nm (fun M14 eM14 => ?_)
      have hf := li_fr_ui hf (show 21 = 21 ∨ (32 ≤ 21 ∧ 21 < 128) by omega) eM14
      have mM14_21_3 : (M14.1 21 3).toInt = (M9Zq.1 21 3).toInt := by rw [eM14, li_ui_at, if_pos rfl, if_neg (by decide)]
      have k15 : M14.1 21 5 = x7 := by rw [eM14, li_ui_at, if_pos rfl, if_neg (by decide)]; exact k10
      have k16 : M14.1 21 4 = x13 := by rw [eM14, li_ui_at, if_pos rfl, if_pos rfl]
      exact li_vret dX3_hold_87 rfl ⟨rfl, hf, (by omega)⟩
    refine li_icmp_ge 68 dX3_hold_56 (by decide) (fun c6Zq => ?_) (fun c6Zq => ?_)
    · have tc6 : 12 ≤ x5Zq.toInt := tl_le c6Zq
      refine li_iconst 0 dX3_hold_68 (by decide) ?_
      refine li_pick [0] [(0, .ref (Z.2.2 21))] rfl ?_
      have z0 : (0 : Int32).toInt = 0 := rfl
      exact J69 0 M3Zq hf (by omega)
    · have tc6 : x5Zq.toInt < 12 := tl_nle c6Zq
      refine li_aload_n 0 dX3_hold_59 rfl ?_
      refine li_geti (k := 5) (N := 6) (T := TX3) (C0 := RX3) dX3_hold_60 (by decide) sh_21 rfl rfl (by decide) li_in3 w_295 ?_
      refine li_top (fun x17 ex17 => ?_)
      have gx17 := tl_rg x17
      have tvx17 : x17.toInt = x4Zq.toInt := tl_eq (ex17.trans ex4.symm)
      refine li_iconst 1 dX3_hold_63 (by decide) ?_
      refine li_iadd dX3_hold_64 ?_
      refine li_top (fun x18 ex18 => ?_)
      have tx18 : (-2147483648 ≤ x17.toInt + 1 ∧ x17.toInt + 1 ≤ 2147483647) → x18.toInt = x17.toInt + 1 := tl_add ex18
      refine li_goto 69 dX3_hold_65 (by decide) ?_
      refine li_pick [0] [(0, .ref (Z.2.2 21))] rfl ?_
      exact J69 x18 M3Zq hf (by omega)
  refine li_if_lt 47 dX3_hold_4 (by decide) (fun c2 => ?_) (fun c2 => ?_)
  · have tc2 : x1Zq.toInt < 0 := tl_lt c2
    refine li_pick [0] [(0, .ref (Z.2.2 21))] rfl ?_
    exact J47  M0 hf (by omega)
  · have tc2 : 0 ≤ x1Zq.toInt := tl_nlt c2
    refine li_aload_n 0 dX3_hold_7 rfl ?_
    refine li_geti (k := 5) (N := 6) (T := TX3) (C0 := RX3) dX3_hold_8 (by decide) sh_21 rfl rfl (by decide) li_in3 w_295 ?_
    refine li_top (fun x19 ex19 => ?_)
    have gx19 := tl_rg x19
    have tvx19 : x19.toInt = x1Zq.toInt := tl_eq (ex19.trans ex1.symm)
    refine li_aload_n 0 dX3_hold_11 rfl ?_
    refine li_getr (k := 0) (N := 6) (T := TX3) (C0 := RX3) dX3_hold_12 (by decide) sh_21 rfl rfl (by decide) (by decide) li_in3 w_289 ?_
    refine li_alen 12 dX3_hold_15 (by decide) sh_22 (Or.inr (by decide)) rfl ?_
    refine li_icmp_ge 47 dX3_hold_16 (by decide) (fun c20Zq => ?_) (fun c20Zq => ?_)
    · have tc20 : 12 ≤ x19.toInt := tl_le c20Zq
      refine li_pick [0] [(0, .ref (Z.2.2 21))] rfl ?_
      exact J47  M0 hf (by omega)
    · have tc20 : x19.toInt < 12 := tl_nle c20Zq
      refine li_aload_n 0 dX3_hold_19 rfl ?_
      refine li_getr (k := 0) (N := 6) (T := TX3) (C0 := RX3) dX3_hold_20 (by decide) sh_21 rfl rfl (by decide) (by decide) li_in3 w_289 ?_
      refine li_aload_n 0 dX3_hold_23 rfl ?_
      refine li_geti (k := 5) (N := 6) (T := TX3) (C0 := RX3) dX3_hold_24 (by decide) sh_21 rfl rfl (by decide) li_in3 w_295 ?_
      refine li_top (fun x21 ex21 => ?_)
      have gx21 := tl_rg x21
      have tvx21 : x21.toInt = x1Zq.toInt := tl_eq (ex21.trans ex1.symm)
      have vn22 : vp_in x21 12 := tl_in (by omega)
      have n22 : (x21 : Int32).toNatClampNeg < 12 := Nat.not_le.mp fun q => vn22 (Or.inr q)
      refine li_aald (b := 32) dX3_hold_27 (by decide) sh_22 vn22 ?_
      refine li_ifnull dX3_hold_28 ?_
      refine li_aload_n 0 dX3_hold_31 rfl ?_
      refine li_getr (k := 0) (N := 6) (T := TX3) (C0 := RX3) dX3_hold_32 (by decide) sh_21 rfl rfl (by decide) (by decide) li_in3 w_289 ?_
      refine li_aload_n 0 dX3_hold_35 rfl ?_
      refine li_geti (k := 5) (N := 6) (T := TX3) (C0 := RX3) dX3_hold_36 (by decide) sh_21 rfl rfl (by decide) li_in3 w_295 ?_
      refine li_top (fun x23 ex23 => ?_)
      have gx23 := tl_rg x23
      have tvx23 : x23.toInt = x1Zq.toInt := tl_eq (ex23.trans ex1.symm)
      have vn24 : vp_in x23 12 := tl_in (by omega)
      have n24Zq : (x23 : Int32).toNatClampNeg < 12 := Nat.not_le.mp fun q => vn24 (Or.inr q)
      refine li_aald (b := 32) dX3_hold_39 (by decide) sh_22 vn24 ?_
      refine li_aload_n 0 dX3_hold_40 rfl ?_
      refine li_getr (k := 2) (N := 6) (T := TX3) (C0 := RX3) dX3_hold_41 (by decide) sh_21 rfl rfl (by decide) (by decide) li_in3 w_291 ?_
      refine li_callV (n := 1) (As := [.ref (Z.2.2 24)]) dX3_hold_44 (k_X4_copyFrom (d - 1) (by omega) (lg_ring n24Zq) lgb_24 M0) (by omega) (Nat.le_of_ble_eq_true rfl) w_847 w_848 w_849 w_105 w_850 (by decide +kernel) rfl (snL0 (lg_ring n24Zq)) (shL0 (lg_ring n24Zq)) rfl rfl (Nat.le_of_ble_eq_true rfl) (fun r M26 h27 => ?_)
      obtain ⟨rfl, h27⟩ := h27
      have hf := li_fr_trans hf h27 (fun i (hZq : i = (32 + 8 * (x23 : Int32).toNatClampNeg) ∨ i = ((32 + 8 * (x23 : Int32).toNatClampNeg)) + 1 ∨ i = ((32 + 8 * (x23 : Int32).toNatClampNeg)) + 2 ∨ i = ((32 + 8 * (x23 : Int32).toNatClampNeg)) + 3 ∨ i = ((32 + 8 * (x23 : Int32).toNatClampNeg)) + 4 ∨ i = ((32 + 8 * (x23 : Int32).toNatClampNeg)) + 5 ∨ i = ((32 + 8 * (x23 : Int32).toNatClampNeg)) + 6 ∨ i = ((32 + 8 * (x23 : Int32).toNatClampNeg)) + 7) => (show i = 21 ∨ (32 ≤ i ∧ i < 128) by omega))
      have mM26_21_3 : (M26.1 21 3).toInt = (M0.1 21 3).toInt := by rw [h27.1 21 (show ¬ (21 = (32 + 8 * (x23 : Int32).toNatClampNeg) ∨ 21 = ((32 + 8 * (x23 : Int32).toNatClampNeg)) + 1 ∨ 21 = ((32 + 8 * (x23 : Int32).toNatClampNeg)) + 2 ∨ 21 = ((32 + 8 * (x23 : Int32).toNatClampNeg)) + 3 ∨ 21 = ((32 + 8 * (x23 : Int32).toNatClampNeg)) + 4 ∨ 21 = ((32 + 8 * (x23 : Int32).toNatClampNeg)) + 5 ∨ 21 = ((32 + 8 * (x23 : Int32).toNatClampNeg)) + 6 ∨ 21 = ((32 + 8 * (x23 : Int32).toNatClampNeg)) + 7) by omega)]
      refine li_pick [0] [(0, .ref (Z.2.2 21))] rfl ?_
      exact J47  M26 hf (by omega)
set_option maxRecDepth 100000 in
set_option maxHeartbeats 4000000 in
theorem k11_X3_stepBack {l : Launch} {Z : li_Z} (d : Nat) (hdZq : 2 ≤ d) (M0 : li_M) : li_Met l Z YX3_stepBack d [.ref (Z.2.2 21), .ref (Z.2.2 13)] M0 (fun r M' => (∃ x : Int32, r = some (.int x) ∧ (x = 0 ∨ x = 1) ∧ ((M'.1 21 3).toInt = (M0.1 21 3).toInt)) ∧ li_fr (fun i => i = 13 ∨ i = 14 ∨ i = 15 ∨ i = 16 ∨ i = 17 ∨ i = 18 ∨ i = 19 ∨ i = 20 ∨ i = 21) M0 M') := by
  refine li_enter (by decide +kernel) (Nat.le_of_ble_eq_true rfl) ?_
  show li_T l Z YX3_stepBack d 0 [(0, .ref (Z.2.2 21)), (1, .ref (Z.2.2 13))] [] M0 _
  have hf : li_fr (fun i => i = 13 ∨ i = 14 ∨ i = 15 ∨ i = 16 ∨ i = 17 ∨ i = 18 ∨ i = 19 ∨ i = 20 ∨ i = 21) M0 M0 := li_fr_refl
  refine li_aload_n 0 dX3_stepBack_0 rfl ?_
  refine li_geti (k := 4) (N := 6) (T := TX3) (C0 := RX3) dX3_stepBack_1 (by decide) sh_21 rfl rfl (by decide) li_in3 w_293 ?_
  refine li_top (fun x1Zq ex1 => ?_)
  have gx1 := tl_rg x1Zq
  refine li_if_ne 9 dX3_stepBack_4 (by decide) (fun c2 => ?_) (fun c2 => ?_)
  · have tc2 : ¬ x1Zq.toInt = 0 := tl_ne c2
    refine li_aload_n 0 dX3_stepBack_9 rfl ?_
    refine li_aload_n 0 dX3_stepBack_10 rfl ?_
    refine li_geti (k := 5) (N := 6) (T := TX3) (C0 := RX3) dX3_stepBack_11 (by decide) sh_21 rfl rfl (by decide) li_in3 w_295 ?_
    refine li_top (fun x3 ex3Zq => ?_)
    have gx3 := tl_rg x3
    have J28 : ∀ (x5Zq : Int32) (M6Zq : li_M), li_fr (fun i => i = 13 ∨ i = 14 ∨ i = 15 ∨ i = 16 ∨ i = 17 ∨ i = 18 ∨ i = 19 ∨ i = 20 ∨ i = 21) M0 M6Zq → 0 ≤ (x5Zq : Int32).toInt ∧ (x5Zq : Int32).toInt ≤ 2147483646 ∧ (M6Zq.1 21 3).toInt = (M0.1 21 3).toInt → li_T l Z YX3_stepBack d 28 [(0, .ref (Z.2.2 21)), (1, .ref (Z.2.2 13))] [.int x5Zq, .ref (Z.2.2 21)] M6Zq (fun r M' => (∃ x : Int32, r = some (.int x) ∧ (x = 0 ∨ x = 1) ∧ ((M'.1 21 3).toInt = (M0.1 21 3).toInt)) ∧ li_fr (fun i => i = 13 ∨ i = 14 ∨ i = 15 ∨ i = 16 ∨ i = 17 ∨ i = 18 ∨ i = 19 ∨ i = 20 ∨ i = 21) M0 M') := by
      intro x5Zq M6Zq hf hiZq
      have gx5 := tl_rg x5Zq
      refine li_puti (k := 5) (N := 6) (T := TX3) (C0 := RX3) dX3_stepBack_28 (by decide) sh_21 rfl rfl (by decide) li_in3 tyX3_ok nmX3 rfl rfl rfl rfl w_295 ?_
      refine li_nm (fun M7Zq eM7 => ?_)
      have hf := li_fr_ui hf (show 21 = 13 ∨ 21 = 14 ∨ 21 = 15 ∨ 21 = 16 ∨ 21 = 17 ∨ 21 = 18 ∨ 21 = 19 ∨ 21 = 20 ∨ 21 = 21 by omega) eM7
      have mM7_21_3 : (M7Zq.1 21 3).toInt = (M6Zq.1 21 3).toInt := by rw [eM7, li_ui_at, if_pos rfl, if_neg (by decide)]
      have k8Zq : M7Zq.1 21 5 = x5Zq := by rw [eM7, li_ui_at, if_pos rfl, if_pos rfl]
      refine li_aload_n 0 dX3_stepBack_31 rfl ?_
      refine li_dup dX3_stepBack_32 rfl ?_
      refine li_geti (k := 4) (N := 6) (T := TX3) (C0 := RX3) dX3_stepBack_33 (by decide) sh_21 rfl rfl (by decide) li_in3 w_293 ?_
      refine li_top (fun x9 ex9 => ?_)
      have gx9 := tl_rg x9
      refine li_iconst 1 dX3_stepBack_36 (by decide) ?_
      refine li_isub dX3_stepBack_37 ?_
      refine li_top (fun x10 ex10 => ?_)
      have tx10 : (-2147483648 ≤ x9.toInt - 1 ∧ x9.toInt - 1 ≤ 2147483647) → x10.toInt = x9.toInt - 1 := tl_sub ex10
      refine li_puti (k := 4) (N := 6) (T := TX3) (C0 := RX3) dX3_stepBack_38 (by decide) sh_21 rfl rfl (by decide) li_in3 tyX3_ok nmX3 rfl rfl rfl rfl w_293 ?_
      refine li_nm (fun M11 eM11 => ?_)
      have hf := li_fr_ui hf (show 21 = 13 ∨ 21 = 14 ∨ 21 = 15 ∨ 21 = 16 ∨ 21 = 17 ∨ 21 = 18 ∨ 21 = 19 ∨ 21 = 20 ∨ 21 = 21 by omega) eM11
      have mM11_21_3 : (M11.1 21 3).toInt = (M7Zq.1 21 3).toInt := by rw [eM11, li_ui_at, if_pos rfl, if_neg (by decide)]
      have k12 : M11.1 21 5 = x5Zq := by rw [eM11, li_ui_at, if_pos rfl, if_neg (by decide)]; exact k8Zq
      have k13 : M11.1 21 4 = x10 := by rw [eM11, li_ui_at, if_pos rfl, if_pos rfl]
      refine li_aload_n 0 dX3_stepBack_41 rfl ?_
      refine li_geti (k := 5) (N := 6) (T := TX3) (C0 := RX3) dX3_stepBack_42 (by decide) sh_21 rfl rfl (by decide) li_in3 w_295 ?_
      refine li_top (fun x14 ex14 => ?_)
      have gx14 := tl_rg x14
      have tvx14 : x14.toInt = x5Zq.toInt := tl_eq (ex14.trans k12)
      refine li_aload_n 0 dX3_stepBack_45 rfl ?_
      refine li_getr (k := 0) (N := 6) (T := TX3) (C0 := RX3) dX3_stepBack_46 (by decide) sh_21 rfl rfl (by decide) (by decide) li_in3 w_289 ?_
      refine li_alen 12 dX3_stepBack_49 (by decide) sh_22 (Or.inr (by decide)) rfl ?_
      refine li_icmp_ge 66 dX3_stepBack_50 (by decide) (fun c15Zq => ?_) (fun c15Zq => ?_)
      · have tc15 : 12 ≤ x14.toInt := tl_le c15Zq
        refine li_iconst 1 dX3_stepBack_66 (by decide) ?_
        have z1 : (1 : Int32).toInt = 1 := rfl
        exact li_iret dX3_stepBack_67 rfl (li_nz (Or.inr rfl)) ⟨⟨_, rfl, Or.inr rfl, (by omega)⟩, hf⟩
      · have tc15 : x14.toInt < 12 := tl_nle c15Zq
        refine li_aload_n 1 dX3_stepBack_53 rfl ?_
        refine li_aload_n 0 dX3_stepBack_54 rfl ?_
        refine li_getr (k := 0) (N := 6) (T := TX3) (C0 := RX3) dX3_stepBack_55 (by decide) sh_21 rfl rfl (by decide) (by decide) li_in3 w_289 ?_
        refine li_aload_n 0 dX3_stepBack_58 rfl ?_
        refine li_geti (k := 5) (N := 6) (T := TX3) (C0 := RX3) dX3_stepBack_59 (by decide) sh_21 rfl rfl (by decide) li_in3 w_295 ?_
        refine li_top (fun x16 ex16 => ?_)
        have gx16 := tl_rg x16
        have tvx16 : x16.toInt = x5Zq.toInt := tl_eq (ex16.trans k12)
        have vn17 : vp_in x16 12 := tl_in (by omega)
        have n17 : (x16 : Int32).toNatClampNeg < 12 := Nat.not_le.mp fun q => vn17 (Or.inr q)
        refine li_aald (b := 32) dX3_stepBack_62 (by decide) sh_22 vn17 ?_
        refine li_callV (n := 1) (As := [.ref (Z.2.2 ((32 + 8 * (x16 : Int32).toNatClampNeg)))]) dX3_stepBack_63 (k_X4_copyFrom (d - 1) (by omega) lgb_13 (lg_ring n17) M11) (by omega) (Nat.le_of_ble_eq_true rfl) w_847 w_848 w_849 w_105 w_850 (by decide +kernel) rfl (by decide) sh_13 rfl rfl (Nat.le_of_ble_eq_true rfl) (fun r M19 h20 => ?_)
        obtain ⟨rfl, h20⟩ := h20
        have hf := li_fr_trans hf h20 (fun i (hZq : i = 13 ∨ i = 14 ∨ i = 15 ∨ i = 16 ∨ i = 17 ∨ i = 18 ∨ i = 19 ∨ i = 20) => (show i = 13 ∨ i = 14 ∨ i = 15 ∨ i = 16 ∨ i = 17 ∨ i = 18 ∨ i = 19 ∨ i = 20 ∨ i = 21 by omega))
        have mM19_21_3 : (M19.1 21 3).toInt = (M11.1 21 3).toInt := by rw [h20.1 21 (show ¬ (21 = 13 ∨ 21 = 14 ∨ 21 = 15 ∨ 21 = 16 ∨ 21 = 17 ∨ 21 = 18 ∨ 21 = 19 ∨ 21 = 20) by omega)]
        refine li_iconst 1 dX3_stepBack_66 (by decide) ?_
        have z1 : (1 : Int32).toInt = 1 := rfl
        exact li_iret dX3_stepBack_67 rfl (li_nz (Or.inr rfl)) ⟨⟨_, rfl, Or.inr rfl, (by omega)⟩, hf⟩
    refine li_if_le 26 dX3_stepBack_14 (by decide) (fun c4 => ?_) (fun c4 => ?_)
    · have tc4 : x3.toInt ≤ 0 := tl_le c4
      refine li_bipush 11 dX3_stepBack_26 (by decide) ?_
      refine li_pick [0, 1] [(0, .ref (Z.2.2 21)), (1, .ref (Z.2.2 13))] rfl ?_
      have z11 : (11 : Int32).toInt = 11 := rfl
      exact J28 11 M0 hf (by omega)
    · have tc4 : 0 < x3.toInt := tl_nle c4
      refine li_aload_n 0 dX3_stepBack_17 rfl ?_
      refine li_geti (k := 5) (N := 6) (T := TX3) (C0 := RX3) dX3_stepBack_18 (by decide) sh_21 rfl rfl (by decide) li_in3 w_295 ?_
      refine li_top (fun x21 ex21 => ?_)
      have gx21 := tl_rg x21
      have tvx21 : x21.toInt = x3.toInt := tl_eq (ex21.trans ex3Zq.symm)
      refine li_iconst 1 dX3_stepBack_21 (by decide) ?_
      refine li_isub dX3_stepBack_22 ?_
      refine li_top (fun x22 ex22 => ?_)
      have tx22 : (-2147483648 ≤ x21.toInt - 1 ∧ x21.toInt - 1 ≤ 2147483647) → x22.toInt = x21.toInt - 1 := tl_sub ex22
      refine li_goto 28 dX3_stepBack_23 (by decide) ?_
      refine li_pick [0, 1] [(0, .ref (Z.2.2 21)), (1, .ref (Z.2.2 13))] rfl ?_
      exact J28 x22 M0 hf (by omega)
  · have tc2 : x1Zq.toInt = 0 := tl_eq c2
    refine li_iconst 0 dX3_stepBack_7 (by decide) ?_
    have z0 : (0 : Int32).toInt = 0 := rfl
    exact li_iret dX3_stepBack_8 rfl (li_nz (Or.inl rfl)) ⟨⟨_, rfl, Or.inl rfl, (by omega)⟩, hf⟩
set_option maxRecDepth 100000 in
set_option maxHeartbeats 4000000 in
theorem k11_X3_keepUnder {l : Launch} {Z : li_Z} (d : Nat) (hdZq : 2 ≤ d) (p1Zq : Int32) (M0 : li_M) : li_Met l Z YX3_keepUnder d [.ref (Z.2.2 21), .int p1Zq, .ref (Z.2.2 13)] M0 (fun r M' => (∃ x : Int32, r = some (.int x) ∧ (x = 0 ∨ x = 1) ∧ ((x.toInt = 1 ∧ 0 ≤ p1Zq.toInt ∧ p1Zq.toInt ≤ 1 ∧ (M'.1 21 3).toInt = (li_rb (M0.1 21 3) p1Zq).toInt) ∨ (x.toInt = 0 ∧ ¬ (0 ≤ p1Zq.toInt ∧ p1Zq.toInt ≤ 1) ∧ (M'.1 21 3).toInt = (M0.1 21 3).toInt))) ∧ li_fr (fun i => i = 21 ∨ (128 ≤ i ∧ i < 144)) M0 M') := by
  refine li_enter (by decide +kernel) (Nat.le_of_ble_eq_true rfl) ?_
  show li_T l Z YX3_keepUnder d 0 [(0, .ref (Z.2.2 21)), (1, .int p1Zq), (2, .ref (Z.2.2 13))] [] M0 _
  have hf : li_fr (fun i => i = 21 ∨ (128 ≤ i ∧ i < 144)) M0 M0 := li_fr_refl
  have gp1 := tl_rg p1Zq
  refine li_iload_n 1 dX3_keepUnder_0 rfl ?_
  refine li_if_lt 22 dX3_keepUnder_1 (by decide) (fun c1 => ?_) (fun c1 => ?_)
  · have tc1 : p1Zq.toInt < 0 := tl_lt c1
    refine li_iconst 0 dX3_keepUnder_22 (by decide) ?_
    have z0 : (0 : Int32).toInt = 0 := rfl
    exact li_iret dX3_keepUnder_23 rfl (li_nz (Or.inl rfl)) ⟨⟨_, rfl, Or.inl rfl, (by omega)⟩, hf⟩
  · have tc1 : 0 ≤ p1Zq.toInt := tl_nlt c1
    refine li_iload_n 1 dX3_keepUnder_4 rfl ?_
    refine li_aload_n 0 dX3_keepUnder_5 rfl ?_
    refine li_getr (k := 1) (N := 6) (T := TX3) (C0 := RX3) dX3_keepUnder_6 (by decide) sh_21 rfl rfl (by decide) (by decide) li_in3 w_290 ?_
    refine li_alen 2 dX3_keepUnder_9 (by decide) sh_23 (Or.inr (by decide)) rfl ?_
    refine li_icmp_ge 22 dX3_keepUnder_10 (by decide) (fun c2 => ?_) (fun c2 => ?_)
    · have tc2 : 2 ≤ p1Zq.toInt := tl_le c2
      refine li_iconst 0 dX3_keepUnder_22 (by decide) ?_
      have z0 : (0 : Int32).toInt = 0 := rfl
      exact li_iret dX3_keepUnder_23 rfl (li_nz (Or.inl rfl)) ⟨⟨_, rfl, Or.inl rfl, (by omega)⟩, hf⟩
    · have tc2 : p1Zq.toInt < 2 := tl_nle c2
      refine li_aload_n 0 dX3_keepUnder_13 rfl ?_
      refine li_getr (k := 1) (N := 6) (T := TX3) (C0 := RX3) dX3_keepUnder_14 (by decide) sh_21 rfl rfl (by decide) (by decide) li_in3 w_290 ?_
      refine li_iload_n 1 dX3_keepUnder_17 rfl ?_
      have vn3 : vp_in p1Zq 2 := tl_in (by omega)
      have n3Zq : (p1Zq : Int32).toNatClampNeg < 2 := Nat.not_le.mp fun q => vn3 (Or.inr q)
      refine li_aald (b := 128) dX3_keepUnder_18 (by decide) sh_23 vn3 ?_
      refine li_ifnonnull 24 dX3_keepUnder_19 (by decide) ?_
      refine li_aload_n 0 dX3_keepUnder_24 rfl ?_
      refine li_getr (k := 1) (N := 6) (T := TX3) (C0 := RX3) dX3_keepUnder_25 (by decide) sh_21 rfl rfl (by decide) (by decide) li_in3 w_290 ?_
      refine li_iload_n 1 dX3_keepUnder_28 rfl ?_
      have vn4 : vp_in p1Zq 2 := tl_in (by omega)
      have n4Zq : (p1Zq : Int32).toNatClampNeg < 2 := Nat.not_le.mp fun q => vn4 (Or.inr q)
      refine li_aald (b := 128) dX3_keepUnder_29 (by decide) sh_23 vn4 ?_
      refine li_aload_n 2 dX3_keepUnder_30 rfl ?_
      refine li_callV (n := 1) (As := [.ref (Z.2.2 13)]) dX3_keepUnder_31 (k_X4_copyFrom (d - 1) (by omega) (lg_kept n4Zq) lgb_13 M0) (by omega) (Nat.le_of_ble_eq_true rfl) w_847 w_848 w_849 w_105 w_850 (by decide +kernel) rfl (snL0 (lg_kept n4Zq)) (shL0 (lg_kept n4Zq)) rfl rfl (Nat.le_of_ble_eq_true rfl) (fun r M6Zq h7 => ?_)
      obtain ⟨rfl, h7⟩ := h7
      have hf := li_fr_trans hf h7 (fun i (hZq : i = (128 + 8 * (p1Zq : Int32).toNatClampNeg) ∨ i = ((128 + 8 * (p1Zq : Int32).toNatClampNeg)) + 1 ∨ i = ((128 + 8 * (p1Zq : Int32).toNatClampNeg)) + 2 ∨ i = ((128 + 8 * (p1Zq : Int32).toNatClampNeg)) + 3 ∨ i = ((128 + 8 * (p1Zq : Int32).toNatClampNeg)) + 4 ∨ i = ((128 + 8 * (p1Zq : Int32).toNatClampNeg)) + 5 ∨ i = ((128 + 8 * (p1Zq : Int32).toNatClampNeg)) + 6 ∨ i = ((128 + 8 * (p1Zq : Int32).toNatClampNeg)) + 7) => (show i = 21 ∨ (128 ≤ i ∧ i < 144) by omega))
      have mM6_21_3 : (M6Zq.1 21 3).toInt = (M0.1 21 3).toInt := by rw [h7.1 21 (show ¬ (21 = (128 + 8 * (p1Zq : Int32).toNatClampNeg) ∨ 21 = ((128 + 8 * (p1Zq : Int32).toNatClampNeg)) + 1 ∨ 21 = ((128 + 8 * (p1Zq : Int32).toNatClampNeg)) + 2 ∨ 21 = ((128 + 8 * (p1Zq : Int32).toNatClampNeg)) + 3 ∨ 21 = ((128 + 8 * (p1Zq : Int32).toNatClampNeg)) + 4 ∨ 21 = ((128 + 8 * (p1Zq : Int32).toNatClampNeg)) + 5 ∨ 21 = ((128 + 8 * (p1Zq : Int32).toNatClampNeg)) + 6 ∨ 21 = ((128 + 8 * (p1Zq : Int32).toNatClampNeg)) + 7) by omega)]
      refine li_aload_n 0 dX3_keepUnder_34 rfl ?_
      refine li_dup dX3_keepUnder_35 rfl ?_
      refine li_geti (k := 3) (N := 6) (T := TX3) (C0 := RX3) dX3_keepUnder_36 (by decide) sh_21 rfl rfl (by decide) li_in3 w_292 ?_
      refine li_top (fun x8 ex8 => ?_)
      have gx8 := tl_rg x8
      have vx8 : x8.toInt = (M6Zq.1 21 3).toInt := tl_eq ex8
      refine li_iconst 1 dX3_keepUnder_39 (by decide) ?_
      refine li_iload_n 1 dX3_keepUnder_40 rfl ?_
      refine li_ishl dX3_keepUnder_41 ?_
      refine li_top (fun x9 ex9 => ?_)
      refine li_ior dX3_keepUnder_42 ?_
      refine li_top (fun x10 ex10 => ?_)
      refine li_puti (k := 3) (N := 6) (T := TX3) (C0 := RX3) dX3_keepUnder_43 (by decide) sh_21 rfl rfl (by decide) li_in3 tyX3_ok nmX3 rfl rfl rfl rfl w_292 ?_
      refine li_nm (fun M11 eM11 => ?_)
      have hf := li_fr_ui hf (show 21 = 21 ∨ (128 ≤ 21 ∧ 21 < 144) by omega) eM11
      have mM11_21_3 : (M11.1 21 3).toInt = x10.toInt := by rw [eM11, li_ui_at, if_pos rfl, if_pos rfl]
      have k12 : M11.1 21 3 = x10 := by rw [eM11, li_ui_at, if_pos rfl, if_pos rfl]
      have nb : (M11.1 21 3).toInt = (li_rb (M0.1 21 3) p1Zq).toInt := by rw [mM11_21_3, ex10, ex9, show x8 = M0.1 21 3 from Int32.toInt_inj.mp (by omega)]; rfl
      refine li_iconst 1 dX3_keepUnder_46 (by decide) ?_
      have z1 : (1 : Int32).toInt = 1 := rfl
      exact li_iret dX3_keepUnder_47 rfl (li_nz (Or.inr rfl)) ⟨⟨_, rfl, Or.inr rfl, (by omega)⟩, hf⟩
set_option maxRecDepth 100000 in
set_option maxHeartbeats 4000000 in
theorem k11_X3_bringBack {l : Launch} {Z : li_Z} (d : Nat) (hdZq : 2 ≤ d) (p1Zq : Int32) (M0 : li_M) : li_Met l Z YX3_bringBack d [.ref (Z.2.2 21), .int p1Zq, .ref (Z.2.2 13)] M0 (fun r M' => (∃ x : Int32, r = some (.int x) ∧ (x = 0 ∨ x = 1) ∧ (((x.toInt = 1 ∧ 0 ≤ p1Zq.toInt ∧ p1Zq.toInt ≤ 1 ∧ ¬ li_hb (M0.1 21 3) p1Zq = 0) ∨ (x.toInt = 0 ∧ ¬ (0 ≤ p1Zq.toInt ∧ p1Zq.toInt ≤ 1 ∧ ¬ li_hb (M0.1 21 3) p1Zq = 0))) ∧ (M'.1 21 3).toInt = (M0.1 21 3).toInt)) ∧ li_fr (fun i => i = 13 ∨ i = 14 ∨ i = 15 ∨ i = 16 ∨ i = 17 ∨ i = 18 ∨ i = 19 ∨ i = 20 ∨ i = 21) M0 M') := by
  refine li_enter (by decide +kernel) (Nat.le_of_ble_eq_true rfl) ?_
  show li_T l Z YX3_bringBack d 0 [(0, .ref (Z.2.2 21)), (1, .int p1Zq), (2, .ref (Z.2.2 13))] [] M0 _
  have hf : li_fr (fun i => i = 13 ∨ i = 14 ∨ i = 15 ∨ i = 16 ∨ i = 17 ∨ i = 18 ∨ i = 19 ∨ i = 20 ∨ i = 21) M0 M0 := li_fr_refl
  have gp1 := tl_rg p1Zq
  refine li_iload_n 1 dX3_bringBack_0 rfl ?_
  refine li_if_lt 24 dX3_bringBack_1 (by decide) (fun c1 => ?_) (fun c1 => ?_)
  · have tc1 : p1Zq.toInt < 0 := tl_lt c1
    refine li_iconst 0 dX3_bringBack_24 (by decide) ?_
    have z0 : (0 : Int32).toInt = 0 := rfl
    exact li_iret dX3_bringBack_25 rfl (li_nz (Or.inl rfl)) ⟨⟨_, rfl, Or.inl rfl, (by omega)⟩, hf⟩
  · have tc1 : 0 ≤ p1Zq.toInt := tl_nlt c1
    refine li_iload_n 1 dX3_bringBack_4 rfl ?_
    refine li_aload_n 0 dX3_bringBack_5 rfl ?_
    refine li_getr (k := 1) (N := 6) (T := TX3) (C0 := RX3) dX3_bringBack_6 (by decide) sh_21 rfl rfl (by decide) (by decide) li_in3 w_290 ?_
    refine li_alen 2 dX3_bringBack_9 (by decide) sh_23 (Or.inr (by decide)) rfl ?_
    refine li_icmp_ge 24 dX3_bringBack_10 (by decide) (fun c2 => ?_) (fun c2 => ?_)
    · have tc2 : 2 ≤ p1Zq.toInt := tl_le c2
      refine li_iconst 0 dX3_bringBack_24 (by decide) ?_
      have z0 : (0 : Int32).toInt = 0 := rfl
      exact li_iret dX3_bringBack_25 rfl (li_nz (Or.inl rfl)) ⟨⟨_, rfl, Or.inl rfl, (by omega)⟩, hf⟩
    · have tc2 : p1Zq.toInt < 2 := tl_nle c2
      refine li_aload_n 0 dX3_bringBack_13 rfl ?_
      refine li_geti (k := 3) (N := 6) (T := TX3) (C0 := RX3) dX3_bringBack_14 (by decide) sh_21 rfl rfl (by decide) li_in3 w_292 ?_
      refine li_top (fun x3 ex3Zq => ?_)
      have gx3 := tl_rg x3
      have vx3 : x3.toInt = (M0.1 21 3).toInt := tl_eq ex3Zq
      refine li_iload_n 1 dX3_bringBack_17 rfl ?_
      refine li_callN (n := 2) (As := [.int x3, .int p1Zq]) dX3_bringBack_18 (k11_X11_holds (d - 1) (by omega) x3 p1Zq M0) (by omega) (Nat.le_of_ble_eq_true rfl) nw_37 w_857 w_101 w_858 (by decide +kernel) rfl rfl (Nat.le_of_ble_eq_true rfl) (fun r M5Zq h6 => ?_)
      obtain ⟨⟨x4Zq, rfl, bx4, qx4⟩, h6⟩ := h6
      have ux4 := tl_b bx4
      have hf := li_fr_trans hf h6 (fun i hZq => False.elim hZq)
      have mM5_21_3 : (M5Zq.1 21 3).toInt = (M0.1 21 3).toInt := by rw [h6.1 21 id]
      have hbq : li_hb x3 p1Zq = li_hb (M0.1 21 3) p1Zq := by rw [show x3 = M0.1 21 3 from Int32.toInt_inj.mp (by omega)]
      refine li_if_ne 26 dX3_bringBack_21 (by decide) (fun c7Zq => ?_) (fun c7Zq => ?_)
      · have tc7 : ¬ x4Zq.toInt = 0 := tl_ne c7Zq
        refine li_aload_n 2 dX3_bringBack_26 rfl ?_
        refine li_aload_n 0 dX3_bringBack_27 rfl ?_
        refine li_getr (k := 1) (N := 6) (T := TX3) (C0 := RX3) dX3_bringBack_28 (by decide) sh_21 rfl rfl (by decide) (by decide) li_in3 w_290 ?_
        refine li_iload_n 1 dX3_bringBack_31 rfl ?_
        have vn8 : vp_in p1Zq 2 := tl_in (by omega)
        have n8 : (p1Zq : Int32).toNatClampNeg < 2 := Nat.not_le.mp fun q => vn8 (Or.inr q)
        refine li_aald (b := 128) dX3_bringBack_32 (by decide) sh_23 vn8 ?_
        refine li_callV (n := 1) (As := [.ref (Z.2.2 ((128 + 8 * (p1Zq : Int32).toNatClampNeg)))]) dX3_bringBack_33 (k_X4_copyFrom (d - 1) (by omega) lgb_13 (lg_kept n8) M5Zq) (by omega) (Nat.le_of_ble_eq_true rfl) w_847 w_848 w_849 w_105 w_850 (by decide +kernel) rfl (by decide) sh_13 rfl rfl (Nat.le_of_ble_eq_true rfl) (fun r M10 h11 => ?_)
        obtain ⟨rfl, h11⟩ := h11
        have hf := li_fr_trans hf h11 (fun i (hZq : i = 13 ∨ i = 14 ∨ i = 15 ∨ i = 16 ∨ i = 17 ∨ i = 18 ∨ i = 19 ∨ i = 20) => (show i = 13 ∨ i = 14 ∨ i = 15 ∨ i = 16 ∨ i = 17 ∨ i = 18 ∨ i = 19 ∨ i = 20 ∨ i = 21 by omega))
        have mM10_21_3 : (M10.1 21 3).toInt = (M5Zq.1 21 3).toInt := by rw [h11.1 21 (show ¬ (21 = 13 ∨ 21 = 14 ∨ 21 = 15 ∨ 21 = 16 ∨ 21 = 17 ∨ 21 = 18 ∨ 21 = 19 ∨ 21 = 20) by omega)]
        refine li_aload_n 0 dX3_bringBack_36 rfl ?_
        refine li_iconst 0 dX3_bringBack_37 (by decide) ?_
        refine li_puti (k := 4) (N := 6) (T := TX3) (C0 := RX3) dX3_bringBack_38 (by decide) sh_21 rfl rfl (by decide) li_in3 tyX3_ok nmX3 rfl rfl rfl rfl w_293 ?_
        refine li_nm (fun M12 eM12 => ?_)
        have hf := li_fr_ui hf (show 21 = 13 ∨ 21 = 14 ∨ 21 = 15 ∨ 21 = 16 ∨ 21 = 17 ∨ 21 = 18 ∨ 21 = 19 ∨ 21 = 20 ∨ 21 = 21 by omega) eM12
        have mM12_21_3 : (M12.1 21 3).toInt = (M10.1 21 3).toInt := by rw [eM12, li_ui_at, if_pos rfl, if_neg (by decide)]
        have k13 : M12.1 21 4 = 0 := by rw [eM12, li_ui_at, if_pos rfl, if_pos rfl]
        refine li_iconst 1 dX3_bringBack_41 (by decide) ?_
        have z1 : (1 : Int32).toInt = 1 := rfl
        exact li_iret dX3_bringBack_42 rfl (li_nz (Or.inr rfl)) ⟨⟨_, rfl, Or.inr rfl, (by omega)⟩, hf⟩
      · have tc7 : x4Zq.toInt = 0 := tl_eq c7Zq
        refine li_iconst 0 dX3_bringBack_24 (by decide) ?_
        have z0 : (0 : Int32).toInt = 0 := rfl
        exact li_iret dX3_bringBack_25 rfl (li_nz (Or.inl rfl)) ⟨⟨_, rfl, Or.inl rfl, (by omega)⟩, hf⟩
set_option maxRecDepth 100000 in
set_option maxHeartbeats 4000000 in
theorem k11_X11_held {l : Launch} {Z : li_Z} (d : Nat) (hdZq : 3 ≤ d) (p1Zq : Int32) (M0 : li_M) : li_Met l Z YX11_held d [.ref (Z.2.2 0), .int p1Zq] M0 (fun r M' => (∃ x : Int32, r = some (.int x) ∧ ((M'.1 21 3).toInt = (M0.1 21 3).toInt)) ∧ li_fr (fun i => i = 21 ∨ (32 ≤ i ∧ i < 128)) M0 M') := by
  refine li_enter (by decide +kernel) (Nat.le_of_ble_eq_true rfl) ?_
  show li_T l Z YX11_held d 0 [(0, .ref (Z.2.2 0)), (1, .int p1Zq)] [] M0 _
  have hf : li_fr (fun i => i = 21 ∨ (32 ≤ i ∧ i < 128)) M0 M0 := li_fr_refl
  have gp1 := tl_rg p1Zq
  refine li_iload_n 1 dX11_held_0 rfl ?_
  refine li_if_lt 11 dX11_held_1 (by decide) (fun c1 => ?_) (fun c1 => ?_)
  · have tc1 : p1Zq.toInt < 0 := tl_lt c1
    refine li_iload_n 1 dX11_held_11 rfl ?_
    exact li_iret dX11_held_12 rfl rfl ⟨⟨_, rfl, (by omega)⟩, hf⟩
  · have tc1 : 0 ≤ p1Zq.toInt := tl_nlt c1
    refine li_aload_n 0 dX11_held_4 rfl ?_
    refine li_getr (k := 4) (N := 13) (T := TX11) (C0 := RX11) dX11_held_5 (by decide) sh_0 rfl rfl (by decide) (by decide) li_in11 w_477 ?_
    refine li_callV (n := 0) (As := []) dX11_held_8 (k11_X3_hold (d - 1) (by omega)  M0) (by omega) (Nat.le_of_ble_eq_true rfl) w_871 w_872 w_873 w_106 w_874 (by decide +kernel) rfl (by decide) sh_21 rfl rfl (Nat.le_of_ble_eq_true rfl) (fun r M3Zq h4 => ?_)
    obtain ⟨rfl, h4, nM3⟩ := h4
    have hf := li_fr_trans hf h4 (fun i (hZq : i = 21 ∨ (32 ≤ i ∧ i < 128)) => (show i = 21 ∨ (32 ≤ i ∧ i < 128) by omega))
    refine li_iload_n 1 dX11_held_11 rfl ?_
    exact li_iret dX11_held_12 rfl rfl ⟨⟨_, rfl, (by omega)⟩, hf⟩
set_option maxRecDepth 100000 in
set_option maxHeartbeats 4000000 in
theorem k11_X11_say {l : Launch} {Z : li_Z} (d : Nat) (hdZq : 7 ≤ d) (p1Zq : Int32) (p2Zq : Int32) (M0 : li_M) : li_Met l Z YX11_say d [.ref (Z.2.2 0), .int p1Zq, .int p2Zq] M0 (fun r M' => (∃ x : Int32, r = some (.int x) ∧ ((M'.1 21 3).toInt = (M0.1 21 3).toInt)) ∧ li_fr (fun i => i = 13 ∨ i = 14 ∨ i = 146 ∨ i = 147 ∨ i = 15 ∨ i = 21 ∨ i = 24 ∨ i = 25 ∨ i = 26 ∨ i = 27 ∨ i = 28 ∨ i = 29 ∨ i = 30 ∨ i = 31 ∨ (32 ≤ i ∧ i < 128)) M0 M') := by
  refine li_enter (by decide +kernel) (Nat.le_of_ble_eq_true rfl) ?_
  show li_T l Z YX11_say d 0 [(0, .ref (Z.2.2 0)), (1, .int p1Zq), (2, .int p2Zq)] [] M0 _
  have hf : li_fr (fun i => i = 13 ∨ i = 14 ∨ i = 146 ∨ i = 147 ∨ i = 15 ∨ i = 21 ∨ i = 24 ∨ i = 25 ∨ i = 26 ∨ i = 27 ∨ i = 28 ∨ i = 29 ∨ i = 30 ∨ i = 31 ∨ (32 ≤ i ∧ i < 128)) M0 M0 := li_fr_refl
  have gp1 := tl_rg p1Zq
  have gp2 := tl_rg p2Zq
  refine li_aload_n 0 dX11_say_0 rfl ?_
  refine li_getr (k := 4) (N := 13) (T := TX11) (C0 := RX11) dX11_say_1 (by decide) sh_0 rfl rfl (by decide) (by decide) li_in11 w_477 ?_
  refine li_aload_n 0 dX11_say_4 rfl ?_
  refine li_getr (k := 3) (N := 13) (T := TX11) (C0 := RX11) dX11_say_5 (by decide) sh_0 rfl rfl (by decide) (by decide) li_in11 w_476 ?_
  refine li_callV (n := 1) (As := [.ref (Z.2.2 13)]) dX11_say_8 (k_X3_note (d - 1) (by omega)  M0) (by omega) (Nat.le_of_ble_eq_true rfl) w_843 w_844 w_845 w_106 w_846 (by decide +kernel) rfl (by decide) sh_21 rfl rfl (Nat.le_of_ble_eq_true rfl) (fun r M2Zq h3 => ?_)
  obtain ⟨rfl, h3⟩ := h3
  have hf := li_fr_trans hf h3 (fun i (hZq : i = 24 ∨ i = 25 ∨ i = 26 ∨ i = 27 ∨ i = 28 ∨ i = 29 ∨ i = 30 ∨ i = 31) => (show i = 13 ∨ i = 14 ∨ i = 146 ∨ i = 147 ∨ i = 15 ∨ i = 21 ∨ i = 24 ∨ i = 25 ∨ i = 26 ∨ i = 27 ∨ i = 28 ∨ i = 29 ∨ i = 30 ∨ i = 31 ∨ (32 ≤ i ∧ i < 128) by omega))
  have mM2_21_3 : (M2Zq.1 21 3).toInt = (M0.1 21 3).toInt := by rw [h3.1 21 (show ¬ (21 = 24 ∨ 21 = 25 ∨ 21 = 26 ∨ 21 = 27 ∨ 21 = 28 ∨ 21 = 29 ∨ 21 = 30 ∨ 21 = 31) by omega)]
  refine li_aload_n 0 dX11_say_11 rfl ?_
  refine li_aload_n 0 dX11_say_12 rfl ?_
  refine li_iload_n 1 dX11_say_13 rfl ?_
  refine li_iload_n 2 dX11_say_14 rfl ?_
  refine li_callV (n := 2) (As := [.int p1Zq, .int p2Zq]) dX11_say_15 (k_X11_utter (d - 1) (by omega) p1Zq p2Zq M2Zq) (by omega) (Nat.le_of_ble_eq_true rfl) w_852 w_854 w_15 w_101 w_855 (by decide +kernel) rfl (by decide) sh_0 rfl rfl (Nat.le_of_ble_eq_true rfl) (fun r M5Zq h6 => ?_)
  obtain ⟨⟨x4Zq, rfl⟩, h6⟩ := h6
  have gx4 := tl_rg x4Zq
  have hf := li_fr_trans hf h6 (fun i (hZq : i = 13 ∨ i = 14 ∨ i = 146 ∨ i = 147 ∨ i = 15) => (show i = 13 ∨ i = 14 ∨ i = 146 ∨ i = 147 ∨ i = 15 ∨ i = 21 ∨ i = 24 ∨ i = 25 ∨ i = 26 ∨ i = 27 ∨ i = 28 ∨ i = 29 ∨ i = 30 ∨ i = 31 ∨ (32 ≤ i ∧ i < 128) by omega))
  have mM5_21_3 : (M5Zq.1 21 3).toInt = (M2Zq.1 21 3).toInt := by rw [h6.1 21 (show ¬ (21 = 13 ∨ 21 = 14 ∨ 21 = 146 ∨ 21 = 147 ∨ 21 = 15) by omega)]
  refine li_callV (n := 1) (As := [.int x4Zq]) dX11_say_18 (k11_X11_held (d - 1) (by omega) x4Zq M5Zq) (by omega) (Nat.le_of_ble_eq_true rfl) w_867 w_869 w_16 w_101 w_870 (by decide +kernel) rfl (by decide) sh_0 rfl rfl (Nat.le_of_ble_eq_true rfl) (fun r M8Zq h9 => ?_)
  obtain ⟨⟨x7, rfl, qx7⟩, h9⟩ := h9
  have gx7 := tl_rg x7
  have hf := li_fr_trans hf h9 (fun i (hZq : i = 21 ∨ (32 ≤ i ∧ i < 128)) => (show i = 13 ∨ i = 14 ∨ i = 146 ∨ i = 147 ∨ i = 15 ∨ i = 21 ∨ i = 24 ∨ i = 25 ∨ i = 26 ∨ i = 27 ∨ i = 28 ∨ i = 29 ∨ i = 30 ∨ i = 31 ∨ (32 ≤ i ∧ i < 128) by omega))
  exact li_iret dX11_say_21 rfl rfl ⟨⟨_, rfl, (by omega)⟩, hf⟩
set_option maxRecDepth 100000 in
set_option maxHeartbeats 4000000 in
theorem k11_X11_give {l : Launch} {Z : li_Z} (d : Nat) (hdZq : 4 ≤ d) (p1Zq : Int32) (p2Zq : Int32) (p3Zq : Int32) (M0 : li_M) : li_Met l Z YX11_give d [.ref (Z.2.2 0), .int p1Zq, .int p2Zq, .int p3Zq] M0 (fun r M' => (∃ x : Int32, r = some (.int x) ∧ ((M'.1 21 3).toInt = (M0.1 21 3).toInt)) ∧ li_fr (fun i => i = 14 ∨ i = 21 ∨ i = 24 ∨ i = 25 ∨ i = 26 ∨ i = 27 ∨ i = 28 ∨ i = 29 ∨ i = 30 ∨ i = 31 ∨ (32 ≤ i ∧ i < 128)) M0 M') := by
  refine li_enter (by decide +kernel) (Nat.le_of_ble_eq_true rfl) ?_
  show li_T l Z YX11_give d 0 [(0, .ref (Z.2.2 0)), (1, .int p1Zq), (2, .int p2Zq), (3, .int p3Zq)] [] M0 _
  have hf : li_fr (fun i => i = 14 ∨ i = 21 ∨ i = 24 ∨ i = 25 ∨ i = 26 ∨ i = 27 ∨ i = 28 ∨ i = 29 ∨ i = 30 ∨ i = 31 ∨ (32 ≤ i ∧ i < 128)) M0 M0 := li_fr_refl
  have gp1 := tl_rg p1Zq
  have gp2 := tl_rg p2Zq
  have gp3 := tl_rg p3Zq
  refine li_aload_n 0 dX11_give_0 rfl ?_
  refine li_getr (k := 4) (N := 13) (T := TX11) (C0 := RX11) dX11_give_1 (by decide) sh_0 rfl rfl (by decide) (by decide) li_in11 w_477 ?_
  refine li_aload_n 0 dX11_give_4 rfl ?_
  refine li_getr (k := 3) (N := 13) (T := TX11) (C0 := RX11) dX11_give_5 (by decide) sh_0 rfl rfl (by decide) (by decide) li_in11 w_476 ?_
  refine li_callV (n := 1) (As := [.ref (Z.2.2 13)]) dX11_give_8 (k_X3_note (d - 1) (by omega)  M0) (by omega) (Nat.le_of_ble_eq_true rfl) w_843 w_844 w_845 w_106 w_846 (by decide +kernel) rfl (by decide) sh_21 rfl rfl (Nat.le_of_ble_eq_true rfl) (fun r M2Zq h3 => ?_)
  obtain ⟨rfl, h3⟩ := h3
  have hf := li_fr_trans hf h3 (fun i (hZq : i = 24 ∨ i = 25 ∨ i = 26 ∨ i = 27 ∨ i = 28 ∨ i = 29 ∨ i = 30 ∨ i = 31) => (show i = 14 ∨ i = 21 ∨ i = 24 ∨ i = 25 ∨ i = 26 ∨ i = 27 ∨ i = 28 ∨ i = 29 ∨ i = 30 ∨ i = 31 ∨ (32 ≤ i ∧ i < 128) by omega))
  have mM2_21_3 : (M2Zq.1 21 3).toInt = (M0.1 21 3).toInt := by rw [h3.1 21 (show ¬ (21 = 24 ∨ 21 = 25 ∨ 21 = 26 ∨ 21 = 27 ∨ 21 = 28 ∨ 21 = 29 ∨ 21 = 30 ∨ 21 = 31) by omega)]
  refine li_aload_n 0 dX11_give_11 rfl ?_
  refine li_aload_n 0 dX11_give_12 rfl ?_
  refine li_iload_n 1 dX11_give_13 rfl ?_
  refine li_iload_n 2 dX11_give_14 rfl ?_
  refine li_iload_n 3 dX11_give_15 rfl ?_
  refine li_callV (n := 3) (As := [.int p1Zq, .int p2Zq, .int p3Zq]) dX11_give_16 (k_X11_handOver (d - 1) (by omega) p1Zq p2Zq p3Zq M2Zq) (by omega) (Nat.le_of_ble_eq_true rfl) w_880 w_882 w_17 w_101 w_883 (by decide +kernel) rfl (by decide) sh_0 rfl rfl (Nat.le_of_ble_eq_true rfl) (fun r M5Zq h6 => ?_)
  obtain ⟨⟨x4Zq, rfl⟩, h6⟩ := h6
  have gx4 := tl_rg x4Zq
  have hf := li_fr_trans hf h6 (fun i (hZq : i = 14) => (show i = 14 ∨ i = 21 ∨ i = 24 ∨ i = 25 ∨ i = 26 ∨ i = 27 ∨ i = 28 ∨ i = 29 ∨ i = 30 ∨ i = 31 ∨ (32 ≤ i ∧ i < 128) by omega))
  have mM5_21_3 : (M5Zq.1 21 3).toInt = (M2Zq.1 21 3).toInt := by rw [h6.1 21 (show ¬ (21 = 14) by omega)]
  refine li_callV (n := 1) (As := [.int x4Zq]) dX11_give_19 (k11_X11_held (d - 1) (by omega) x4Zq M5Zq) (by omega) (Nat.le_of_ble_eq_true rfl) w_867 w_869 w_16 w_101 w_870 (by decide +kernel) rfl (by decide) sh_0 rfl rfl (Nat.le_of_ble_eq_true rfl) (fun r M8Zq h9 => ?_)
  obtain ⟨⟨x7, rfl, qx7⟩, h9⟩ := h9
  have gx7 := tl_rg x7
  have hf := li_fr_trans hf h9 (fun i (hZq : i = 21 ∨ (32 ≤ i ∧ i < 128)) => (show i = 14 ∨ i = 21 ∨ i = 24 ∨ i = 25 ∨ i = 26 ∨ i = 27 ∨ i = 28 ∨ i = 29 ∨ i = 30 ∨ i = 31 ∨ (32 ≤ i ∧ i < 128) by omega))
  exact li_iret dX11_give_22 rfl rfl ⟨⟨_, rfl, (by omega)⟩, hf⟩
set_option maxRecDepth 100000 in
set_option maxHeartbeats 4000000 in
theorem k11_X11_lend {l : Launch} {Z : li_Z} (d : Nat) (hdZq : 4 ≤ d) (p1Zq : Int32) (p2Zq : Int32) (p3Zq : Int32) (p4Zq : Int32) (M0 : li_M) : li_Met l Z YX11_lend d [.ref (Z.2.2 0), .int p1Zq, .int p2Zq, .int p3Zq, .int p4Zq] M0 (fun r M' => (∃ x : Int32, r = some (.int x) ∧ ((M'.1 21 3).toInt = (M0.1 21 3).toInt)) ∧ li_fr (fun i => i = 13 ∨ i = 14 ∨ i = 17 ∨ i = 18 ∨ i = 19 ∨ i = 20 ∨ i = 21 ∨ i = 24 ∨ i = 25 ∨ i = 26 ∨ i = 27 ∨ i = 28 ∨ i = 29 ∨ i = 30 ∨ i = 31 ∨ (32 ≤ i ∧ i < 128)) M0 M') := by
  refine li_enter (by decide +kernel) (Nat.le_of_ble_eq_true rfl) ?_
  show li_T l Z YX11_lend d 0 [(0, .ref (Z.2.2 0)), (1, .int p1Zq), (2, .int p2Zq), (3, .int p3Zq), (4, .int p4Zq)] [] M0 _
  have hf : li_fr (fun i => i = 13 ∨ i = 14 ∨ i = 17 ∨ i = 18 ∨ i = 19 ∨ i = 20 ∨ i = 21 ∨ i = 24 ∨ i = 25 ∨ i = 26 ∨ i = 27 ∨ i = 28 ∨ i = 29 ∨ i = 30 ∨ i = 31 ∨ (32 ≤ i ∧ i < 128)) M0 M0 := li_fr_refl
  have gp1 := tl_rg p1Zq
  have gp2 := tl_rg p2Zq
  have gp3 := tl_rg p3Zq
  have gp4 := tl_rg p4Zq
  refine li_aload_n 0 dX11_lend_0 rfl ?_
  refine li_getr (k := 2) (N := 13) (T := TX11) (C0 := RX11) dX11_lend_1 (by decide) sh_0 rfl rfl (by decide) (by decide) li_in11 w_475 ?_
  refine li_iload_n 1 dX11_lend_4 rfl ?_
  refine li_iload_n 2 dX11_lend_5 rfl ?_
  refine li_callV (n := 2) (As := [.int p1Zq, .int p2Zq]) dX11_lend_6 (k_X8_areTwo (d - 1) (by omega) p1Zq p2Zq M0) (by omega) (Nat.le_of_ble_eq_true rfl) w_884 w_885 w_886 w_104 w_887 (by decide +kernel) rfl (by decide) sh_5 rfl rfl (Nat.le_of_ble_eq_true rfl) (fun r M2Zq h3 => ?_)
  obtain ⟨⟨x1Zq, rfl, bx1⟩, h3⟩ := h3
  have ux1 := tl_b bx1
  have hf := li_fr_trans hf h3 (fun i hZq => False.elim hZq)
  have mM2_21_3 : (M2Zq.1 21 3).toInt = (M0.1 21 3).toInt := by rw [h3.1 21 id]
  refine li_if_eq 23 dX11_lend_9 (by decide) (fun c4 => ?_) (fun c4 => ?_)
  · have tc4 : x1Zq.toInt = 0 := tl_eq c4
    refine li_iconst (-1) dX11_lend_23 (by decide) ?_
    have zm1 : ((-1) : Int32).toInt = -1 := rfl
    exact li_iret dX11_lend_24 rfl rfl ⟨⟨_, rfl, (by omega)⟩, hf⟩
  · have tc4 : ¬ x1Zq.toInt = 0 := tl_ne c4
    refine li_iload_n 3 dX11_lend_12 rfl ?_
    refine li_iconst 1 dX11_lend_13 (by decide) ?_
    refine li_sipush 999 dX11_lend_14 (by decide) ?_
    refine li_callS (n := 3) (As := [.int p3Zq, .int 1, .int 999]) dX11_lend_17 (k4_X11_within2 (d - 1) (by omega) p3Zq 1 999 M2Zq) (by omega) (Nat.le_of_ble_eq_true rfl) w_762 w_639 w_101 w_640 (by decide +kernel) rfl rfl (Nat.le_of_ble_eq_true rfl) (fun r M6Zq h7 => ?_)
    have z1 : (1 : Int32).toInt = 1 := rfl
    have z999 : (999 : Int32).toInt = 999 := rfl
    obtain ⟨⟨x5Zq, rfl, bx5, qx5⟩, h7⟩ := h7
    have ux5 := tl_b bx5
    have hf := li_fr_trans hf h7 (fun i hZq => False.elim hZq)
    have mM6_21_3 : (M6Zq.1 21 3).toInt = (M2Zq.1 21 3).toInt := by rw [h7.1 21 id]
    refine li_if_ne 25 dX11_lend_20 (by decide) (fun c8Zq => ?_) (fun c8Zq => ?_)
    · have tc8 : ¬ x5Zq.toInt = 0 := tl_ne c8Zq
      refine li_aload_n 0 dX11_lend_25 rfl ?_
      refine li_getr (k := 3) (N := 13) (T := TX11) (C0 := RX11) dX11_lend_26 (by decide) sh_0 rfl rfl (by decide) (by decide) li_in11 w_476 ?_
      refine li_geti (k := 2) (N := 11) (T := TX4) (C0 := RX4) dX11_lend_29 (by decide) sh_13 rfl rfl (by decide) li_in4 w_236 ?_
      refine li_top (fun x9 ex9 => ?_)
      have gx9 := tl_rg x9
      refine li_bipush 6 dX11_lend_32 (by decide) ?_
      refine li_icmp_lt 40 dX11_lend_34 (by decide) (fun c10Zq => ?_) (fun c10Zq => ?_)
      · have tc10 : x9.toInt < 6 := tl_lt c10Zq
        refine li_iload 4 dX11_lend_40 rfl ?_
        refine li_aload_n 0 dX11_lend_42 rfl ?_
        refine li_getr (k := 3) (N := 13) (T := TX11) (C0 := RX11) dX11_lend_43 (by decide) sh_0 rfl rfl (by decide) (by decide) li_in11 w_476 ?_
        refine li_geti (k := 0) (N := 11) (T := TX4) (C0 := RX4) dX11_lend_46 (by decide) sh_13 rfl rfl (by decide) li_in4 w_231 ?_
        refine li_top (fun x11 ex11 => ?_)
        have gx11 := tl_rg x11
        refine li_iconst 1 dX11_lend_49 (by decide) ?_
        refine li_iadd dX11_lend_50 ?_
        refine li_top (fun x12 ex12 => ?_)
        have tx12 : (-2147483648 ≤ x11.toInt + 1 ∧ x11.toInt + 1 ≤ 2147483647) → x12.toInt = x11.toInt + 1 := tl_add ex12
        refine li_sipush 9999 dX11_lend_51 (by decide) ?_
        refine li_callS (n := 3) (As := [.int p4Zq, .int x12, .int 9999]) dX11_lend_54 (k4_X11_within2 (d - 1) (by omega) p4Zq x12 9999 M6Zq) (by omega) (Nat.le_of_ble_eq_true rfl) w_762 w_639 w_101 w_640 (by decide +kernel) rfl rfl (Nat.le_of_ble_eq_true rfl) (fun r M14 h15 => ?_)
        have z9999 : (9999 : Int32).toInt = 9999 := rfl
        obtain ⟨⟨x13, rfl, bx13, qx13⟩, h15⟩ := h15
        have ux13 := tl_b bx13
        have hf := li_fr_trans hf h15 (fun i hZq => False.elim hZq)
        have mM14_21_3 : (M14.1 21 3).toInt = (M6Zq.1 21 3).toInt := by rw [h15.1 21 id]
        refine li_if_ne 63 dX11_lend_57 (by decide) (fun c16 => ?_) (fun c16 => ?_)
        · have tc16 : ¬ x13.toInt = 0 := tl_ne c16
          refine li_aload_n 0 dX11_lend_63 rfl ?_
          refine li_getr (k := 3) (N := 13) (T := TX11) (C0 := RX11) dX11_lend_64 (by decide) sh_0 rfl rfl (by decide) (by decide) li_in11 w_476 ?_
          refine li_getr (k := 4) (N := 11) (T := TX4) (C0 := RX4) dX11_lend_67 (by decide) sh_13 rfl rfl (by decide) (by decide) li_in4 w_243 ?_
          refine li_iload_n 1 dX11_lend_70 rfl ?_
          refine li_callS (n := 2) (As := [.ref (Z.2.2 14), .int p1Zq]) dX11_lend_71 (k_X11_at (d - 1) (by omega) (by decide) sh_14 (by decide) p1Zq M14) (by omega) (Nat.le_of_ble_eq_true rfl) w_763 w_569 w_101 w_570 (by decide +kernel) rfl rfl (Nat.le_of_ble_eq_true rfl) (fun r M18 h19 => ?_)
          obtain ⟨⟨x17, rfl⟩, h19⟩ := h19
          have gx17 := tl_rg x17
          have hf := li_fr_trans hf h19 (fun i hZq => False.elim hZq)
          have mM18_21_3 : (M18.1 21 3).toInt = (M14.1 21 3).toInt := by rw [h19.1 21 id]
          refine li_iload_n 3 dX11_lend_74 rfl ?_
          refine li_icmp_ge 81 dX11_lend_75 (by decide) (fun c20Zq => ?_) (fun c20Zq => ?_)
          · have tc20 : p3Zq.toInt ≤ x17.toInt := tl_le c20Zq
            refine li_aload_n 0 dX11_lend_81 rfl ?_
            refine li_getr (k := 4) (N := 13) (T := TX11) (C0 := RX11) dX11_lend_82 (by decide) sh_0 rfl rfl (by decide) (by decide) li_in11 w_477 ?_
            refine li_aload_n 0 dX11_lend_85 rfl ?_
            refine li_getr (k := 3) (N := 13) (T := TX11) (C0 := RX11) dX11_lend_86 (by decide) sh_0 rfl rfl (by decide) (by decide) li_in11 w_476 ?_
            refine li_callV (n := 1) (As := [.ref (Z.2.2 13)]) dX11_lend_89 (k_X3_note (d - 1) (by omega)  M18) (by omega) (Nat.le_of_ble_eq_true rfl) w_843 w_844 w_845 w_106 w_846 (by decide +kernel) rfl (by decide) sh_21 rfl rfl (Nat.le_of_ble_eq_true rfl) (fun r M22 h23 => ?_)
            obtain ⟨rfl, h23⟩ := h23
            have hf := li_fr_trans hf h23 (fun i (hZq : i = 24 ∨ i = 25 ∨ i = 26 ∨ i = 27 ∨ i = 28 ∨ i = 29 ∨ i = 30 ∨ i = 31) => (show i = 13 ∨ i = 14 ∨ i = 17 ∨ i = 18 ∨ i = 19 ∨ i = 20 ∨ i = 21 ∨ i = 24 ∨ i = 25 ∨ i = 26 ∨ i = 27 ∨ i = 28 ∨ i = 29 ∨ i = 30 ∨ i = 31 ∨ (32 ≤ i ∧ i < 128) by omega))
            have mM22_21_3 : (M22.1 21 3).toInt = (M18.1 21 3).toInt := by rw [h23.1 21 (show ¬ (21 = 24 ∨ 21 = 25 ∨ 21 = 26 ∨ 21 = 27 ∨ 21 = 28 ∨ 21 = 29 ∨ 21 = 30 ∨ 21 = 31) by omega)]
            refine li_aload_n 0 dX11_lend_92 rfl ?_
            refine li_getr (k := 3) (N := 13) (T := TX11) (C0 := RX11) dX11_lend_93 (by decide) sh_0 rfl rfl (by decide) (by decide) li_in11 w_476 ?_
            refine li_iload_n 1 dX11_lend_96 rfl ?_
            refine li_iload_n 2 dX11_lend_97 rfl ?_
            refine li_iload_n 3 dX11_lend_98 rfl ?_
            refine li_callV (n := 3) (As := [.int p1Zq, .int p2Zq, .int p3Zq]) dX11_lend_99 (k_X4_carry (d - 1) (by omega) p1Zq p2Zq p3Zq M22) (by omega) (Nat.le_of_ble_eq_true rfl) w_889 w_890 w_891 w_105 w_892 (by decide +kernel) rfl (by decide) sh_13 rfl rfl (Nat.le_of_ble_eq_true rfl) (fun r M25 h26 => ?_)
            obtain ⟨rfl, h26⟩ := h26
            have hf := li_fr_trans hf h26 (fun i (hZq : i = 14) => (show i = 13 ∨ i = 14 ∨ i = 17 ∨ i = 18 ∨ i = 19 ∨ i = 20 ∨ i = 21 ∨ i = 24 ∨ i = 25 ∨ i = 26 ∨ i = 27 ∨ i = 28 ∨ i = 29 ∨ i = 30 ∨ i = 31 ∨ (32 ≤ i ∧ i < 128) by omega))
            have mM25_21_3 : (M25.1 21 3).toInt = (M22.1 21 3).toInt := by rw [h26.1 21 (show ¬ (21 = 14) by omega)]
            refine li_aload_n 0 dX11_lend_102 rfl ?_
            refine li_aload_n 0 dX11_lend_103 rfl ?_
            refine li_getr (k := 3) (N := 13) (T := TX11) (C0 := RX11) dX11_lend_104 (by decide) sh_0 rfl rfl (by decide) (by decide) li_in11 w_476 ?_
            refine li_iload_n 1 dX11_lend_107 rfl ?_
            refine li_iload_n 2 dX11_lend_108 rfl ?_
            refine li_iload_n 3 dX11_lend_109 rfl ?_
            refine li_iload 4 dX11_lend_110 rfl ?_
            refine li_callV (n := 4) (As := [.int p1Zq, .int p2Zq, .int p3Zq, .int p4Zq]) dX11_lend_112 (k_X4_write (d - 1) (by omega) p1Zq p2Zq p3Zq p4Zq M25) (by omega) (Nat.le_of_ble_eq_true rfl) w_898 w_899 w_900 w_105 w_901 (by decide +kernel) rfl (by decide) sh_13 rfl rfl (Nat.le_of_ble_eq_true rfl) (fun r M28 h29 => ?_)
            obtain ⟨⟨x27, rfl⟩, h29⟩ := h29
            have gx27 := tl_rg x27
            have hf := li_fr_trans hf h29 (fun i (hZq : i = 13 ∨ i = 17 ∨ i = 18 ∨ i = 19 ∨ i = 20) => (show i = 13 ∨ i = 14 ∨ i = 17 ∨ i = 18 ∨ i = 19 ∨ i = 20 ∨ i = 21 ∨ i = 24 ∨ i = 25 ∨ i = 26 ∨ i = 27 ∨ i = 28 ∨ i = 29 ∨ i = 30 ∨ i = 31 ∨ (32 ≤ i ∧ i < 128) by omega))
            have mM28_21_3 : (M28.1 21 3).toInt = (M25.1 21 3).toInt := by rw [h29.1 21 (show ¬ (21 = 13 ∨ 21 = 17 ∨ 21 = 18 ∨ 21 = 19 ∨ 21 = 20) by omega)]
            refine li_callV (n := 1) (As := [.int x27]) dX11_lend_115 (k11_X11_held (d - 1) (by omega) x27 M28) (by omega) (Nat.le_of_ble_eq_true rfl) w_867 w_869 w_16 w_101 w_870 (by decide +kernel) rfl (by decide) sh_0 rfl rfl (Nat.le_of_ble_eq_true rfl) (fun r M31 h32 => ?_)
            obtain ⟨⟨x30, rfl, qx30⟩, h32⟩ := h32
            have gx30 := tl_rg x30
            have hf := li_fr_trans hf h32 (fun i (hZq : i = 21 ∨ (32 ≤ i ∧ i < 128)) => (show i = 13 ∨ i = 14 ∨ i = 17 ∨ i = 18 ∨ i = 19 ∨ i = 20 ∨ i = 21 ∨ i = 24 ∨ i = 25 ∨ i = 26 ∨ i = 27 ∨ i = 28 ∨ i = 29 ∨ i = 30 ∨ i = 31 ∨ (32 ≤ i ∧ i < 128) by omega))
            exact li_iret dX11_lend_118 rfl rfl ⟨⟨_, rfl, (by omega)⟩, hf⟩
          · have tc20 : x17.toInt < p3Zq.toInt := tl_nle c20Zq
            refine li_bipush (-2) dX11_lend_78 (by decide) ?_
            have zm2 : ((-2) : Int32).toInt = -2 := rfl
            exact li_iret dX11_lend_80 rfl rfl ⟨⟨_, rfl, (by omega)⟩, hf⟩
        · have tc16 : x13.toInt = 0 := tl_eq c16
          refine li_bipush (-4) dX11_lend_60 (by decide) ?_
          have zm4 : ((-4) : Int32).toInt = -4 := rfl
          exact li_iret dX11_lend_62 rfl rfl ⟨⟨_, rfl, (by omega)⟩, hf⟩
      · have tc10 : 6 ≤ x9.toInt := tl_nlt c10Zq
        refine li_bipush (-3) dX11_lend_37 (by decide) ?_
        have zm3 : ((-3) : Int32).toInt = -3 := rfl
        exact li_iret dX11_lend_39 rfl rfl ⟨⟨_, rfl, (by omega)⟩, hf⟩
    · have tc8 : x5Zq.toInt = 0 := tl_eq c8Zq
      refine li_iconst (-1) dX11_lend_23 (by decide) ?_
      have zm1 : ((-1) : Int32).toInt = -1 := rfl
      exact li_iret dX11_lend_24 rfl rfl ⟨⟨_, rfl, (by omega)⟩, hf⟩
set_option maxRecDepth 100000 in
set_option maxHeartbeats 4000000 in
theorem k11_X11_days {l : Launch} {Z : li_Z} (d : Nat) (hdZq : 6 ≤ d) (p1Zq : Int32) (M0 : li_M) : li_Met l Z YX11_days d [.ref (Z.2.2 0), .int p1Zq] M0 (fun r M' => (∃ x : Int32, r = some (.int x) ∧ ((M'.1 21 3).toInt = (M0.1 21 3).toInt)) ∧ li_fr (fun i => i = 13 ∨ i = 14 ∨ i = 15 ∨ i = 16 ∨ i = 20 ∨ i = 21 ∨ i = 24 ∨ i = 25 ∨ i = 26 ∨ i = 27 ∨ i = 28 ∨ i = 29 ∨ i = 3 ∨ i = 30 ∨ i = 31 ∨ i = 4 ∨ (32 ≤ i ∧ i < 128)) M0 M') := by
  refine li_enter (by decide +kernel) (Nat.le_of_ble_eq_true rfl) ?_
  show li_T l Z YX11_days d 0 [(0, .ref (Z.2.2 0)), (1, .int p1Zq)] [] M0 _
  have hf : li_fr (fun i => i = 13 ∨ i = 14 ∨ i = 15 ∨ i = 16 ∨ i = 20 ∨ i = 21 ∨ i = 24 ∨ i = 25 ∨ i = 26 ∨ i = 27 ∨ i = 28 ∨ i = 29 ∨ i = 3 ∨ i = 30 ∨ i = 31 ∨ i = 4 ∨ (32 ≤ i ∧ i < 128)) M0 M0 := li_fr_refl
  have gp1 := tl_rg p1Zq
  refine li_iload_n 1 dX11_days_0 rfl ?_
  refine li_iconst 0 dX11_days_1 (by decide) ?_
  refine li_bipush 99 dX11_days_2 (by decide) ?_
  refine li_callS (n := 3) (As := [.int p1Zq, .int 0, .int 99]) dX11_days_4 (k4_X11_within2 (d - 1) (by omega) p1Zq 0 99 M0) (by omega) (Nat.le_of_ble_eq_true rfl) w_762 w_639 w_101 w_640 (by decide +kernel) rfl rfl (Nat.le_of_ble_eq_true rfl) (fun r M2Zq h3 => ?_)
  have z0 : (0 : Int32).toInt = 0 := rfl
  have z99 : (99 : Int32).toInt = 99 := rfl
  obtain ⟨⟨x1Zq, rfl, bx1, qx1⟩, h3⟩ := h3
  have ux1 := tl_b bx1
  have hf := li_fr_trans hf h3 (fun i hZq => False.elim hZq)
  have mM2_21_3 : (M2Zq.1 21 3).toInt = (M0.1 21 3).toInt := by rw [h3.1 21 id]
  refine li_if_ne 12 dX11_days_7 (by decide) (fun c4 => ?_) (fun c4 => ?_)
  · have tc4 : ¬ x1Zq.toInt = 0 := tl_ne c4
    refine li_aload_n 0 dX11_days_12 rfl ?_
    refine li_getr (k := 4) (N := 13) (T := TX11) (C0 := RX11) dX11_days_13 (by decide) sh_0 rfl rfl (by decide) (by decide) li_in11 w_477 ?_
    refine li_aload_n 0 dX11_days_16 rfl ?_
    refine li_getr (k := 3) (N := 13) (T := TX11) (C0 := RX11) dX11_days_17 (by decide) sh_0 rfl rfl (by decide) (by decide) li_in11 w_476 ?_
    refine li_callV (n := 1) (As := [.ref (Z.2.2 13)]) dX11_days_20 (k_X3_note (d - 1) (by omega)  M2Zq) (by omega) (Nat.le_of_ble_eq_true rfl) w_843 w_844 w_845 w_106 w_846 (by decide +kernel) rfl (by decide) sh_21 rfl rfl (Nat.le_of_ble_eq_true rfl) (fun r M6Zq h7 => ?_)
    obtain ⟨rfl, h7⟩ := h7
    have hf := li_fr_trans hf h7 (fun i (hZq : i = 24 ∨ i = 25 ∨ i = 26 ∨ i = 27 ∨ i = 28 ∨ i = 29 ∨ i = 30 ∨ i = 31) => (show i = 13 ∨ i = 14 ∨ i = 15 ∨ i = 16 ∨ i = 20 ∨ i = 21 ∨ i = 24 ∨ i = 25 ∨ i = 26 ∨ i = 27 ∨ i = 28 ∨ i = 29 ∨ i = 3 ∨ i = 30 ∨ i = 31 ∨ i = 4 ∨ (32 ≤ i ∧ i < 128) by omega))
    have mM6_21_3 : (M6Zq.1 21 3).toInt = (M2Zq.1 21 3).toInt := by rw [h7.1 21 (show ¬ (21 = 24 ∨ 21 = 25 ∨ 21 = 26 ∨ 21 = 27 ∨ 21 = 28 ∨ 21 = 29 ∨ 21 = 30 ∨ 21 = 31) by omega)]
    refine li_aload_n 0 dX11_days_23 rfl ?_
    refine li_getr (k := 3) (N := 13) (T := TX11) (C0 := RX11) dX11_days_24 (by decide) sh_0 rfl rfl (by decide) (by decide) li_in11 w_476 ?_
    refine li_callV (n := 0) (As := []) dX11_days_27 (k_X4_endedLoans (d - 1) (by omega)  M6Zq) (by omega) (Nat.le_of_ble_eq_true rfl) w_909 w_910 w_911 w_105 w_912 (by decide +kernel) rfl (by decide) sh_13 rfl rfl (Nat.le_of_ble_eq_true rfl) (fun r M9Zq h10 => ?_)
    obtain ⟨⟨x8, rfl⟩, h10⟩ := h10
    have gx8 := tl_rg x8
    have hf := li_fr_trans hf h10 (fun i hZq => False.elim hZq)
    have mM9_21_3 : (M9Zq.1 21 3).toInt = (M6Zq.1 21 3).toInt := by rw [h10.1 21 id]
    refine li_istore_n [(2, .int x8), (0, .ref (Z.2.2 0)), (1, .int p1Zq)] dX11_days_30 (by decide) rfl ?_
    refine li_aload_n 1 dX11_days_31 rfl ?_
    refine li_getr (k := 3) (N := 13) (T := TX11) (C0 := RX11) dX11_days_32 (by decide) sh_0 rfl rfl (by decide) (by decide) li_in11 w_476 ?_
    refine li_callV (n := 0) (As := []) dX11_days_35 (k_X4_allLosses (d - 1) (by omega)  M9Zq) (by omega) (Nat.le_of_ble_eq_true rfl) w_914 w_915 w_916 w_105 w_917 (by decide +kernel) rfl (by decide) sh_13 rfl rfl (Nat.le_of_ble_eq_true rfl) (fun r M12 h13 => ?_)
    obtain ⟨⟨x11, rfl⟩, h13⟩ := h13
    have hf := li_fr_trans hf h13 (fun i hZq => False.elim hZq)
    have mM12_21_3 : (M12.1 21 3).toInt = (M9Zq.1 21 3).toInt := by rw [h13.1 21 id]
    refine li_lstore_n [(3, .long x11), (2, .int x8), (0, .ref (Z.2.2 0)), (1, .int p1Zq)] dX11_days_38 (by decide) rfl ?_
    refine li_aload_n 2 dX11_days_39 rfl ?_
    refine li_iload_n 3 dX11_days_40 rfl ?_
    refine li_callV (n := 1) (As := [.int p1Zq]) dX11_days_41 (k_X11_passDays (d - 1) (by omega) p1Zq M12) (by omega) (Nat.le_of_ble_eq_true rfl) w_921 w_923 w_18 w_101 w_924 (by decide +kernel) rfl (by decide) sh_0 rfl rfl (Nat.le_of_ble_eq_true rfl) (fun r M15 h16Zq => ?_)
    obtain ⟨rfl, h16Zq⟩ := h16Zq
    have hf := li_fr_trans hf h16Zq (fun i (hZq : i = 13 ∨ i = 14 ∨ i = 15 ∨ i = 16 ∨ i = 20) => (show i = 13 ∨ i = 14 ∨ i = 15 ∨ i = 16 ∨ i = 20 ∨ i = 21 ∨ i = 24 ∨ i = 25 ∨ i = 26 ∨ i = 27 ∨ i = 28 ∨ i = 29 ∨ i = 3 ∨ i = 30 ∨ i = 31 ∨ i = 4 ∨ (32 ≤ i ∧ i < 128) by omega))
    have mM15_21_3 : (M15.1 21 3).toInt = (M12.1 21 3).toInt := by rw [h16Zq.1 21 (show ¬ (21 = 13 ∨ 21 = 14 ∨ 21 = 15 ∨ 21 = 16 ∨ 21 = 20) by omega)]
    refine li_aload_n 2 dX11_days_44 rfl ?_
    refine li_getr (k := 1) (N := 13) (T := TX11) (C0 := RX11) dX11_days_45 (by decide) sh_0 rfl rfl (by decide) (by decide) li_in11 w_474 ?_
    refine li_aload_n 2 dX11_days_48 rfl ?_
    refine li_getr (k := 3) (N := 13) (T := TX11) (C0 := RX11) dX11_days_49 (by decide) sh_0 rfl rfl (by decide) (by decide) li_in11 w_476 ?_
    refine li_callV (n := 0) (As := []) dX11_days_52 (k_X4_endedLoans (d - 1) (by omega)  M15) (by omega) (Nat.le_of_ble_eq_true rfl) w_909 w_910 w_911 w_105 w_912 (by decide +kernel) rfl (by decide) sh_13 rfl rfl (Nat.le_of_ble_eq_true rfl) (fun r M18 h19 => ?_)
    obtain ⟨⟨x17, rfl⟩, h19⟩ := h19
    have gx17 := tl_rg x17
    have hf := li_fr_trans hf h19 (fun i hZq => False.elim hZq)
    have mM18_21_3 : (M18.1 21 3).toInt = (M15.1 21 3).toInt := by rw [h19.1 21 id]
    refine li_iload_n 1 dX11_days_55 rfl ?_
    refine li_isub dX11_days_56 ?_
    refine li_top (fun x20 ex20 => ?_)
    have tx20 : (-2147483648 ≤ x17.toInt - x8.toInt ∧ x17.toInt - x8.toInt ≤ 2147483647) → x20.toInt = x17.toInt - x8.toInt := tl_sub ex20
    refine li_aload_n 2 dX11_days_57 rfl ?_
    refine li_getr (k := 3) (N := 13) (T := TX11) (C0 := RX11) dX11_days_58 (by decide) sh_0 rfl rfl (by decide) (by decide) li_in11 w_476 ?_
    refine li_callV (n := 0) (As := []) dX11_days_61 (k_X4_allLosses (d - 1) (by omega)  M18) (by omega) (Nat.le_of_ble_eq_true rfl) w_914 w_915 w_916 w_105 w_917 (by decide +kernel) rfl (by decide) sh_13 rfl rfl (Nat.le_of_ble_eq_true rfl) (fun r M22 h23 => ?_)
    obtain ⟨⟨x21, rfl⟩, h23⟩ := h23
    have hf := li_fr_trans hf h23 (fun i hZq => False.elim hZq)
    have mM22_21_3 : (M22.1 21 3).toInt = (M18.1 21 3).toInt := by rw [h23.1 21 id]
    refine li_lload_n 0 dX11_days_64 rfl ?_
    refine li_lsub dX11_days_65 ?_
    refine li_topL (fun x24 ex24 => ?_)
    refine li_l2i dX11_days_66 ?_
    refine li_top (fun x25 ex25 => ?_)
    refine li_callV (n := 2) (As := [.int x20, .int x25]) dX11_days_67 (k_X5_tellTwo (d - 1) (by omega) x20 x25 M22) (by omega) (Nat.le_of_ble_eq_true rfl) w_951 w_952 w_953 w_103 w_954 (by decide +kernel) rfl (by decide) sh_3 rfl rfl (Nat.le_of_ble_eq_true rfl) (fun r M27 h28 => ?_)
    obtain ⟨rfl, h28⟩ := h28
    have hf := li_fr_trans hf h28 (fun i (hZq : i = 3 ∨ i = 4) => (show i = 13 ∨ i = 14 ∨ i = 15 ∨ i = 16 ∨ i = 20 ∨ i = 21 ∨ i = 24 ∨ i = 25 ∨ i = 26 ∨ i = 27 ∨ i = 28 ∨ i = 29 ∨ i = 3 ∨ i = 30 ∨ i = 31 ∨ i = 4 ∨ (32 ≤ i ∧ i < 128) by omega))
    have mM27_21_3 : (M27.1 21 3).toInt = (M22.1 21 3).toInt := by rw [h28.1 21 (show ¬ (21 = 3 ∨ 21 = 4) by omega)]
    refine li_iload_n 3 dX11_days_70 rfl ?_
    refine li_if_le 81 dX11_days_71 (by decide) (fun c29Zq => ?_) (fun c29Zq => ?_)
    · have tc29 : p1Zq.toInt ≤ 0 := tl_le c29Zq
      refine li_aload_n 2 dX11_days_81 rfl ?_
      refine li_getr (k := 3) (N := 13) (T := TX11) (C0 := RX11) dX11_days_82 (by decide) sh_0 rfl rfl (by decide) (by decide) li_in11 w_476 ?_
      refine li_geti (k := 0) (N := 11) (T := TX4) (C0 := RX4) dX11_days_85 (by decide) sh_13 rfl rfl (by decide) li_in4 w_231 ?_
      refine li_top (fun x30 ex30 => ?_)
      have gx30 := tl_rg x30
      exact li_iret dX11_days_88 rfl rfl ⟨⟨_, rfl, (by omega)⟩, hf⟩
    · have tc29 : 0 < p1Zq.toInt := tl_nle c29Zq
      refine li_aload_n 2 dX11_days_74 rfl ?_
      refine li_getr (k := 4) (N := 13) (T := TX11) (C0 := RX11) dX11_days_75 (by decide) sh_0 rfl rfl (by decide) (by decide) li_in11 w_477 ?_
      refine li_callV (n := 0) (As := []) dX11_days_78 (k11_X3_hold (d - 1) (by omega)  M27) (by omega) (Nat.le_of_ble_eq_true rfl) w_871 w_872 w_873 w_106 w_874 (by decide +kernel) rfl (by decide) sh_21 rfl rfl (Nat.le_of_ble_eq_true rfl) (fun r M32 h33 => ?_)
      obtain ⟨rfl, h33, nM32⟩ := h33
      have hf := li_fr_trans hf h33 (fun i (hZq : i = 21 ∨ (32 ≤ i ∧ i < 128)) => (show i = 13 ∨ i = 14 ∨ i = 15 ∨ i = 16 ∨ i = 20 ∨ i = 21 ∨ i = 24 ∨ i = 25 ∨ i = 26 ∨ i = 27 ∨ i = 28 ∨ i = 29 ∨ i = 3 ∨ i = 30 ∨ i = 31 ∨ i = 4 ∨ (32 ≤ i ∧ i < 128) by omega))
      refine li_aload_n 2 dX11_days_81 rfl ?_
      refine li_getr (k := 3) (N := 13) (T := TX11) (C0 := RX11) dX11_days_82 (by decide) sh_0 rfl rfl (by decide) (by decide) li_in11 w_476 ?_
      refine li_geti (k := 0) (N := 11) (T := TX4) (C0 := RX4) dX11_days_85 (by decide) sh_13 rfl rfl (by decide) li_in4 w_231 ?_
      refine li_top (fun x34 ex34 => ?_)
      have gx34 := tl_rg x34
      exact li_iret dX11_days_88 rfl rfl ⟨⟨_, rfl, (by omega)⟩, hf⟩
  · have tc4 : x1Zq.toInt = 0 := tl_eq c4
    refine li_iconst (-1) dX11_days_10 (by decide) ?_
    have zm1 : ((-1) : Int32).toInt = -1 := rfl
    exact li_iret dX11_days_11 rfl rfl ⟨⟨_, rfl, (by omega)⟩, hf⟩
set_option maxRecDepth 100000 in
set_option maxHeartbeats 4000000 in
theorem k11_X11_undo {l : Launch} {Z : li_Z} (d : Nat) (hdZq : 3 ≤ d) (M0 : li_M) : li_Met l Z YX11_undo d [.ref (Z.2.2 0)] M0 (fun r M' => (∃ x : Int32, r = some (.int x) ∧ ((M'.1 21 3).toInt = (M0.1 21 3).toInt)) ∧ li_fr (fun i => i = 13 ∨ i = 14 ∨ i = 15 ∨ i = 16 ∨ i = 17 ∨ i = 18 ∨ i = 19 ∨ i = 20 ∨ i = 21) M0 M') := by
  refine li_enter (by decide +kernel) (Nat.le_of_ble_eq_true rfl) ?_
  show li_T l Z YX11_undo d 0 [(0, .ref (Z.2.2 0))] [] M0 _
  have hf : li_fr (fun i => i = 13 ∨ i = 14 ∨ i = 15 ∨ i = 16 ∨ i = 17 ∨ i = 18 ∨ i = 19 ∨ i = 20 ∨ i = 21) M0 M0 := li_fr_refl
  refine li_aload_n 0 dX11_undo_0 rfl ?_
  refine li_getr (k := 4) (N := 13) (T := TX11) (C0 := RX11) dX11_undo_1 (by decide) sh_0 rfl rfl (by decide) (by decide) li_in11 w_477 ?_
  refine li_aload_n 0 dX11_undo_4 rfl ?_
  refine li_getr (k := 3) (N := 13) (T := TX11) (C0 := RX11) dX11_undo_5 (by decide) sh_0 rfl rfl (by decide) (by decide) li_in11 w_476 ?_
  refine li_callV (n := 1) (As := [.ref (Z.2.2 13)]) dX11_undo_8 (k11_X3_stepBack (d - 1) (by omega)  M0) (by omega) (Nat.le_of_ble_eq_true rfl) w_980 w_981 w_982 w_106 w_983 (by decide +kernel) rfl (by decide) sh_21 rfl rfl (Nat.le_of_ble_eq_true rfl) (fun r M2Zq h3 => ?_)
  obtain ⟨⟨x1Zq, rfl, bx1, qx1⟩, h3⟩ := h3
  have ux1 := tl_b bx1
  have hf := li_fr_trans hf h3 (fun i (hZq : i = 13 ∨ i = 14 ∨ i = 15 ∨ i = 16 ∨ i = 17 ∨ i = 18 ∨ i = 19 ∨ i = 20 ∨ i = 21) => (show i = 13 ∨ i = 14 ∨ i = 15 ∨ i = 16 ∨ i = 17 ∨ i = 18 ∨ i = 19 ∨ i = 20 ∨ i = 21 by omega))
  refine li_if_eq 24 dX11_undo_11 (by decide) (fun c4 => ?_) (fun c4 => ?_)
  · have tc4 : x1Zq.toInt = 0 := tl_eq c4
    refine li_iconst (-1) dX11_undo_24 (by decide) ?_
    have zm1 : ((-1) : Int32).toInt = -1 := rfl
    exact li_iret dX11_undo_25 rfl rfl ⟨⟨_, rfl, (by omega)⟩, hf⟩
  · have tc4 : ¬ x1Zq.toInt = 0 := tl_ne c4
    refine li_aload_n 0 dX11_undo_14 rfl ?_
    refine li_getr (k := 4) (N := 13) (T := TX11) (C0 := RX11) dX11_undo_15 (by decide) sh_0 rfl rfl (by decide) (by decide) li_in11 w_477 ?_
    refine li_geti (k := 4) (N := 6) (T := TX3) (C0 := RX3) dX11_undo_18 (by decide) sh_21 rfl rfl (by decide) li_in3 w_294 ?_
    refine li_top (fun x5Zq ex5 => ?_)
    have gx5 := tl_rg x5Zq
    refine li_goto 25 dX11_undo_21 (by decide) ?_
    exact li_iret dX11_undo_25 rfl rfl ⟨⟨_, rfl, (by omega)⟩, hf⟩
set_option maxRecDepth 100000 in
set_option maxHeartbeats 4000000 in
theorem k11_X11_keep {l : Launch} {Z : li_Z} (d : Nat) (hdZq : 3 ≤ d) (p1Zq : Int32) (M0 : li_M) : li_Met l Z YX11_keep d [.ref (Z.2.2 0), .int p1Zq] M0 (fun r M' => (∃ x : Int32, r = some (.int x) ∧ (x = 0 ∨ x = 1) ∧ ((x.toInt = 1 ∧ 0 ≤ p1Zq.toInt ∧ p1Zq.toInt ≤ 1 ∧ (M'.1 21 3).toInt = (li_rb (M0.1 21 3) p1Zq).toInt) ∨ (x.toInt = 0 ∧ ¬ (0 ≤ p1Zq.toInt ∧ p1Zq.toInt ≤ 1) ∧ (M'.1 21 3).toInt = (M0.1 21 3).toInt))) ∧ li_fr (fun i => i = 21 ∨ (128 ≤ i ∧ i < 144)) M0 M') := by
  refine li_enter (by decide +kernel) (Nat.le_of_ble_eq_true rfl) ?_
  show li_T l Z YX11_keep d 0 [(0, .ref (Z.2.2 0)), (1, .int p1Zq)] [] M0 _
  have hf : li_fr (fun i => i = 21 ∨ (128 ≤ i ∧ i < 144)) M0 M0 := li_fr_refl
  have gp1 := tl_rg p1Zq
  refine li_aload_n 0 dX11_keep_0 rfl ?_
  refine li_getr (k := 4) (N := 13) (T := TX11) (C0 := RX11) dX11_keep_1 (by decide) sh_0 rfl rfl (by decide) (by decide) li_in11 w_477 ?_
  refine li_iload_n 1 dX11_keep_4 rfl ?_
  refine li_aload_n 0 dX11_keep_5 rfl ?_
  refine li_getr (k := 3) (N := 13) (T := TX11) (C0 := RX11) dX11_keep_6 (by decide) sh_0 rfl rfl (by decide) (by decide) li_in11 w_476 ?_
  refine li_callV (n := 2) (As := [.int p1Zq, .ref (Z.2.2 13)]) dX11_keep_9 (k11_X3_keepUnder (d - 1) (by omega) p1Zq M0) (by omega) (Nat.le_of_ble_eq_true rfl) w_1278 w_1279 w_1280 w_106 w_1281 (by decide +kernel) rfl (by decide) sh_21 rfl rfl (Nat.le_of_ble_eq_true rfl) (fun r M2Zq h3 => ?_)
  obtain ⟨⟨x1Zq, rfl, bx1, qx1⟩, h3⟩ := h3
  have ux1 := tl_b bx1
  have hf := li_fr_trans hf h3 (fun i (hZq : i = 21 ∨ (128 ≤ i ∧ i < 144)) => (show i = 21 ∨ (128 ≤ i ∧ i < 144) by omega))
  exact li_iret dX11_keep_12 rfl (li_nz (bx1)) ⟨⟨_, rfl, bx1, (by omega)⟩, hf⟩
set_option maxRecDepth 100000 in
set_option maxHeartbeats 4000000 in
theorem k11_X11_again {l : Launch} {Z : li_Z} (d : Nat) (hdZq : 3 ≤ d) (p1Zq : Int32) (M0 : li_M) : li_Met l Z YX11_again d [.ref (Z.2.2 0), .int p1Zq] M0 (fun r M' => (∃ x : Int32, r = some (.int x) ∧ (x = 0 ∨ x = 1) ∧ (((x.toInt = 1 ∧ 0 ≤ p1Zq.toInt ∧ p1Zq.toInt ≤ 1 ∧ ¬ li_hb (M0.1 21 3) p1Zq = 0) ∨ (x.toInt = 0 ∧ ¬ (0 ≤ p1Zq.toInt ∧ p1Zq.toInt ≤ 1 ∧ ¬ li_hb (M0.1 21 3) p1Zq = 0))) ∧ (M'.1 21 3).toInt = (M0.1 21 3).toInt)) ∧ li_fr (fun i => i = 13 ∨ i = 14 ∨ i = 15 ∨ i = 16 ∨ i = 17 ∨ i = 18 ∨ i = 19 ∨ i = 20 ∨ i = 21) M0 M') := by
  refine li_enter (by decide +kernel) (Nat.le_of_ble_eq_true rfl) ?_
  show li_T l Z YX11_again d 0 [(0, .ref (Z.2.2 0)), (1, .int p1Zq)] [] M0 _
  have hf : li_fr (fun i => i = 13 ∨ i = 14 ∨ i = 15 ∨ i = 16 ∨ i = 17 ∨ i = 18 ∨ i = 19 ∨ i = 20 ∨ i = 21) M0 M0 := li_fr_refl
  have gp1 := tl_rg p1Zq
  refine li_aload_n 0 dX11_again_0 rfl ?_
  refine li_getr (k := 4) (N := 13) (T := TX11) (C0 := RX11) dX11_again_1 (by decide) sh_0 rfl rfl (by decide) (by decide) li_in11 w_477 ?_
  refine li_iload_n 1 dX11_again_4 rfl ?_
  refine li_aload_n 0 dX11_again_5 rfl ?_
  refine li_getr (k := 3) (N := 13) (T := TX11) (C0 := RX11) dX11_again_6 (by decide) sh_0 rfl rfl (by decide) (by decide) li_in11 w_476 ?_
  refine li_callV (n := 2) (As := [.int p1Zq, .ref (Z.2.2 13)]) dX11_again_9 (k11_X3_bringBack (d - 1) (by omega) p1Zq M0) (by omega) (Nat.le_of_ble_eq_true rfl) w_1286 w_1287 w_1288 w_106 w_1289 (by decide +kernel) rfl (by decide) sh_21 rfl rfl (Nat.le_of_ble_eq_true rfl) (fun r M2Zq h3 => ?_)
  obtain ⟨⟨x1Zq, rfl, bx1, qx1⟩, h3⟩ := h3
  have ux1 := tl_b bx1
  have hf := li_fr_trans hf h3 (fun i (hZq : i = 13 ∨ i = 14 ∨ i = 15 ∨ i = 16 ∨ i = 17 ∨ i = 18 ∨ i = 19 ∨ i = 20 ∨ i = 21) => (show i = 13 ∨ i = 14 ∨ i = 15 ∨ i = 16 ∨ i = 17 ∨ i = 18 ∨ i = 19 ∨ i = 20 ∨ i = 21 by omega))
  exact li_iret dX11_again_12 rfl (li_nz (bx1)) ⟨⟨_, rfl, bx1, (by omega)⟩, hf⟩

set_option maxRecDepth 100000 in
set_option maxHeartbeats 4000000 in
theorem k11_X11_talk {l : Launch} {Z : li_Z} (d : Nat) (hdZq : 36 ≤ d) (M0 : li_M) : li_Met l Z YX11_talk d [.ref (Z.2.2 0)] M0 (fun r M' => (∃ x : Int32, r = some (.int x) ∧ ((M'.1 1 1).toInt = 0 ∧ ((M'.1 21 3).toInt = (M0.1 21 3).toInt))) ∧ li_fr (fun i => i = 1 ∨ i = 10 ∨ i = 11 ∨ i = 12 ∨ i = 13 ∨ i = 14 ∨ i = 146 ∨ i = 147 ∨ i = 15 ∨ i = 151 ∨ i = 152 ∨ i = 16 ∨ i = 165 ∨ i = 166 ∨ i = 174 ∨ i = 20 ∨ i = 21 ∨ i = 24 ∨ i = 25 ∨ i = 26 ∨ i = 27 ∨ i = 28 ∨ i = 29 ∨ i = 3 ∨ i = 30 ∨ i = 31 ∨ i = 4 ∨ i = 6 ∨ i = 7 ∨ i = 8 ∨ i = 9 ∨ (32 ≤ i ∧ i < 128)) M0 M') := by
  refine li_enter (by decide +kernel) (Nat.le_of_ble_eq_true rfl) ?_
  show li_T l Z YX11_talk d 0 [(0, .ref (Z.2.2 0))] [] M0 _
  have hf : li_fr (fun i => i = 1 ∨ i = 10 ∨ i = 11 ∨ i = 12 ∨ i = 13 ∨ i = 14 ∨ i = 146 ∨ i = 147 ∨ i = 15 ∨ i = 151 ∨ i = 152 ∨ i = 16 ∨ i = 165 ∨ i = 166 ∨ i = 174 ∨ i = 20 ∨ i = 21 ∨ i = 24 ∨ i = 25 ∨ i = 26 ∨ i = 27 ∨ i = 28 ∨ i = 29 ∨ i = 3 ∨ i = 30 ∨ i = 31 ∨ i = 4 ∨ i = 6 ∨ i = 7 ∨ i = 8 ∨ i = 9 ∨ (32 ≤ i ∧ i < 128)) M0 M0 := li_fr_refl
  refine li_aload_n 0 dX11_talk_0 rfl ?_
  refine li_iconst 2 dX11_talk_1 (by decide) ?_
  refine li_bipush 40 dX11_talk_2 (by decide) ?_
  refine li_bipush 60 dX11_talk_4 (by decide) ?_
  refine li_callV (n := 3) (As := [.int 2, .int 40, .int 60]) dX11_talk_6 (k3_X11_readText (d - 1) (by omega) 2 40 60 M0) (by omega) (Nat.le_of_ble_eq_true rfl) w_536 w_538 w_0 w_101 w_539 (by decide +kernel) rfl (by decide) sh_0 rfl rfl (Nat.le_of_ble_eq_true rfl) (fun r M2Zq h3 => ?_)
  have z2 : (2 : Int32).toInt = 2 := rfl
  have z40 : (40 : Int32).toInt = 40 := rfl
  have z60Zq : (60 : Int32).toInt = 60 := rfl
  obtain ⟨⟨x1Zq, rfl, qx1⟩, h3⟩ := h3
  have gx1 := tl_rg x1Zq
  have hf := li_fr_trans hf h3 (fun i (hZq : i = 1 ∨ i = 10 ∨ i = 11 ∨ i = 12 ∨ i = 151 ∨ i = 152 ∨ i = 165 ∨ i = 166 ∨ i = 174 ∨ i = 6 ∨ i = 7 ∨ i = 8 ∨ i = 9) => (show i = 1 ∨ i = 10 ∨ i = 11 ∨ i = 12 ∨ i = 13 ∨ i = 14 ∨ i = 146 ∨ i = 147 ∨ i = 15 ∨ i = 151 ∨ i = 152 ∨ i = 16 ∨ i = 165 ∨ i = 166 ∨ i = 174 ∨ i = 20 ∨ i = 21 ∨ i = 24 ∨ i = 25 ∨ i = 26 ∨ i = 27 ∨ i = 28 ∨ i = 29 ∨ i = 3 ∨ i = 30 ∨ i = 31 ∨ i = 4 ∨ i = 6 ∨ i = 7 ∨ i = 8 ∨ i = 9 ∨ (32 ≤ i ∧ i < 128) by omega))
  have mM2_21_3 : (M2Zq.1 21 3).toInt = (M0.1 21 3).toInt := by rw [h3.1 21 (show ¬ (21 = 1 ∨ 21 = 10 ∨ 21 = 11 ∨ 21 = 12 ∨ 21 = 151 ∨ 21 = 152 ∨ 21 = 165 ∨ 21 = 166 ∨ 21 = 174 ∨ 21 = 6 ∨ 21 = 7 ∨ 21 = 8 ∨ 21 = 9) by omega)]
  refine li_istore_n [(1, .int x1Zq), (0, .ref (Z.2.2 0))] dX11_talk_9 (by decide) rfl ?_
  refine li_iload_n 0 dX11_talk_10 rfl ?_
  refine li_if_ge 16 dX11_talk_11 (by decide) (fun c4 => ?_) (fun c4 => ?_)
  · have tc4 : 0 ≤ x1Zq.toInt := tl_le c4
    refine li_aload_n 1 dX11_talk_16 rfl ?_
    refine li_getr (k := 4) (N := 13) (T := TX11) (C0 := RX11) dX11_talk_17 (by decide) sh_0 rfl rfl (by decide) (by decide) li_in11 w_477 ?_
    refine li_aload_n 1 dX11_talk_20 rfl ?_
    refine li_getr (k := 3) (N := 13) (T := TX11) (C0 := RX11) dX11_talk_21 (by decide) sh_0 rfl rfl (by decide) (by decide) li_in11 w_476 ?_
    refine li_callV (n := 1) (As := [.ref (Z.2.2 13)]) dX11_talk_24 (k_X3_note (d - 1) (by omega)  M2Zq) (by omega) (Nat.le_of_ble_eq_true rfl) w_843 w_844 w_845 w_106 w_846 (by decide +kernel) rfl (by decide) sh_21 rfl rfl (Nat.le_of_ble_eq_true rfl) (fun r M6Zq h7 => ?_)
    obtain ⟨rfl, h7⟩ := h7
    have hf := li_fr_trans hf h7 (fun i (hZq : i = 24 ∨ i = 25 ∨ i = 26 ∨ i = 27 ∨ i = 28 ∨ i = 29 ∨ i = 30 ∨ i = 31) => (show i = 1 ∨ i = 10 ∨ i = 11 ∨ i = 12 ∨ i = 13 ∨ i = 14 ∨ i = 146 ∨ i = 147 ∨ i = 15 ∨ i = 151 ∨ i = 152 ∨ i = 16 ∨ i = 165 ∨ i = 166 ∨ i = 174 ∨ i = 20 ∨ i = 21 ∨ i = 24 ∨ i = 25 ∨ i = 26 ∨ i = 27 ∨ i = 28 ∨ i = 29 ∨ i = 3 ∨ i = 30 ∨ i = 31 ∨ i = 4 ∨ i = 6 ∨ i = 7 ∨ i = 8 ∨ i = 9 ∨ (32 ≤ i ∧ i < 128) by omega))
    have mM6_1_1 : (M6Zq.1 1 1).toInt = (M2Zq.1 1 1).toInt := by rw [h7.1 1 (show ¬ (1 = 24 ∨ 1 = 25 ∨ 1 = 26 ∨ 1 = 27 ∨ 1 = 28 ∨ 1 = 29 ∨ 1 = 30 ∨ 1 = 31) by omega)]
    have mM6_21_3 : (M6Zq.1 21 3).toInt = (M2Zq.1 21 3).toInt := by rw [h7.1 21 (show ¬ (21 = 24 ∨ 21 = 25 ∨ 21 = 26 ∨ 21 = 27 ∨ 21 = 28 ∨ 21 = 29 ∨ 21 = 30 ∨ 21 = 31) by omega)]
    refine li_iconst 0 dX11_talk_27 (by decide) ?_
    refine li_istore_n [(2, .int 0), (1, .int x1Zq), (0, .ref (Z.2.2 0))] dX11_talk_28 (by decide) rfl ?_
    refine li_iconst 0 dX11_talk_29 (by decide) ?_
    refine li_istore_n [(3, .int 0), (2, .int 0), (1, .int x1Zq), (0, .ref (Z.2.2 0))] dX11_talk_30 (by decide) rfl ?_
    refine li_iconst 0 dX11_talk_31 (by decide) ?_
    refine li_istore [(4, .int 0), (3, .int 0), (2, .int 0), (1, .int x1Zq), (0, .ref (Z.2.2 0))] dX11_talk_32 (by decide) rfl ?_
    have L34 : ∀ (n : Nat) (x8 : Int32) (x9 : Int32) (x10 : Int32) (M11 : li_M), (2147483647 - (x8 : Int32).toInt).toNat < n → li_fr (fun i => i = 1 ∨ i = 10 ∨ i = 11 ∨ i = 12 ∨ i = 13 ∨ i = 14 ∨ i = 146 ∨ i = 147 ∨ i = 15 ∨ i = 151 ∨ i = 152 ∨ i = 16 ∨ i = 165 ∨ i = 166 ∨ i = 174 ∨ i = 20 ∨ i = 21 ∨ i = 24 ∨ i = 25 ∨ i = 26 ∨ i = 27 ∨ i = 28 ∨ i = 29 ∨ i = 3 ∨ i = 30 ∨ i = 31 ∨ i = 4 ∨ i = 6 ∨ i = 7 ∨ i = 8 ∨ i = 9 ∨ (32 ≤ i ∧ i < 128)) M0 M11 → (M11.1 21 3).toInt = (M0.1 21 3).toInt ∧ (M11.1 1 1).toInt = 0 → li_T l Z YX11_talk d 34 [(4, .int x8), (3, .int x9), (2, .int x10), (1, .int x1Zq), (0, .ref (Z.2.2 0))] [] M11 (fun r M' => (∃ x : Int32, r = some (.int x) ∧ ((M'.1 1 1).toInt = 0 ∧ ((M'.1 21 3).toInt = (M0.1 21 3).toInt))) ∧ li_fr (fun i => i = 1 ∨ i = 10 ∨ i = 11 ∨ i = 12 ∨ i = 13 ∨ i = 14 ∨ i = 146 ∨ i = 147 ∨ i = 15 ∨ i = 151 ∨ i = 152 ∨ i = 16 ∨ i = 165 ∨ i = 166 ∨ i = 174 ∨ i = 20 ∨ i = 21 ∨ i = 24 ∨ i = 25 ∨ i = 26 ∨ i = 27 ∨ i = 28 ∨ i = 29 ∨ i = 3 ∨ i = 30 ∨ i = 31 ∨ i = 4 ∨ i = 6 ∨ i = 7 ∨ i = 8 ∨ i = 9 ∨ (32 ≤ i ∧ i < 128)) M0 M') := by
      intro n
      induction n with
      | zero => intro x8 x9 x10 M11 hn; exact absurd hn (Nat.not_lt_zero _)
      | succ n ih34 =>
        intro x8 x9 x10 M11 hn hf hiZq
        have gx8 := tl_rg x8
        have gx9 := tl_rg x9
        have gx10 := tl_rg x10
        refine li_iload 0 dX11_talk_34 rfl ?_
        refine li_iload_n 3 dX11_talk_36 rfl ?_
        refine li_icmp_ge 83 dX11_talk_37 (by decide) (fun c12Zq => ?_) (fun c12Zq => ?_)
        · have tc12 : x1Zq.toInt ≤ x8.toInt := tl_le c12Zq
          refine li_iload_n 2 dX11_talk_83 rfl ?_
          have J94 : ∀  (M14 : li_M), li_fr (fun i => i = 1 ∨ i = 10 ∨ i = 11 ∨ i = 12 ∨ i = 13 ∨ i = 14 ∨ i = 146 ∨ i = 147 ∨ i = 15 ∨ i = 151 ∨ i = 152 ∨ i = 16 ∨ i = 165 ∨ i = 166 ∨ i = 174 ∨ i = 20 ∨ i = 21 ∨ i = 24 ∨ i = 25 ∨ i = 26 ∨ i = 27 ∨ i = 28 ∨ i = 29 ∨ i = 3 ∨ i = 30 ∨ i = 31 ∨ i = 4 ∨ i = 6 ∨ i = 7 ∨ i = 8 ∨ i = 9 ∨ (32 ≤ i ∧ i < 128)) M0 M14 → (M14.1 21 3).toInt = (M0.1 21 3).toInt ∧ (M14.1 1 1).toInt = 0 → li_T l Z YX11_talk d 94 [(4, .int x8), (3, .int x9), (2, .int x10), (1, .int x1Zq), (0, .ref (Z.2.2 0))] [] M14 (fun r M' => (∃ x : Int32, r = some (.int x) ∧ ((M'.1 1 1).toInt = 0 ∧ ((M'.1 21 3).toInt = (M0.1 21 3).toInt))) ∧ li_fr (fun i => i = 1 ∨ i = 10 ∨ i = 11 ∨ i = 12 ∨ i = 13 ∨ i = 14 ∨ i = 146 ∨ i = 147 ∨ i = 15 ∨ i = 151 ∨ i = 152 ∨ i = 16 ∨ i = 165 ∨ i = 166 ∨ i = 174 ∨ i = 20 ∨ i = 21 ∨ i = 24 ∨ i = 25 ∨ i = 26 ∨ i = 27 ∨ i = 28 ∨ i = 29 ∨ i = 3 ∨ i = 30 ∨ i = 31 ∨ i = 4 ∨ i = 6 ∨ i = 7 ∨ i = 8 ∨ i = 9 ∨ (32 ≤ i ∧ i < 128)) M0 M') := by
            intro  M14 hf hiZq
            refine li_aload_n 4 dX11_talk_94 rfl ?_
            refine li_getr (k := 1) (N := 13) (T := TX11) (C0 := RX11) dX11_talk_95 (by decide) sh_0 rfl rfl (by decide) (by decide) li_in11 w_474 ?_
            refine li_iload_n 2 dX11_talk_98 rfl ?_
            refine li_iload_n 3 dX11_talk_99 rfl ?_
            refine li_icmp_ge 107 dX11_talk_100 (by decide) (fun c15Zq => ?_) (fun c15Zq => ?_)
            · have tc15 : x1Zq.toInt ≤ x10.toInt := tl_le c15Zq
              refine li_iconst 0 dX11_talk_107 (by decide) ?_
              refine li_iload_n 1 dX11_talk_108 rfl ?_
              refine li_callV (n := 2) (As := [.int 0, .int x9]) dX11_talk_109 (k_X5_tellTwo (d - 1) (by omega) 0 x9 M14) (by omega) (Nat.le_of_ble_eq_true rfl) w_951 w_952 w_953 w_103 w_954 (by decide +kernel) rfl (by decide) sh_3 rfl rfl (Nat.le_of_ble_eq_true rfl) (fun r M17 h18 => ?_)
              obtain ⟨rfl, h18⟩ := h18
              have hf := li_fr_trans hf h18 (fun i (hZq : i = 3 ∨ i = 4) => (show i = 1 ∨ i = 10 ∨ i = 11 ∨ i = 12 ∨ i = 13 ∨ i = 14 ∨ i = 146 ∨ i = 147 ∨ i = 15 ∨ i = 151 ∨ i = 152 ∨ i = 16 ∨ i = 165 ∨ i = 166 ∨ i = 174 ∨ i = 20 ∨ i = 21 ∨ i = 24 ∨ i = 25 ∨ i = 26 ∨ i = 27 ∨ i = 28 ∨ i = 29 ∨ i = 3 ∨ i = 30 ∨ i = 31 ∨ i = 4 ∨ i = 6 ∨ i = 7 ∨ i = 8 ∨ i = 9 ∨ (32 ≤ i ∧ i < 128) by omega))
              have mM17_1_1 : (M17.1 1 1).toInt = (M14.1 1 1).toInt := by rw [h18.1 1 (show ¬ (1 = 3 ∨ 1 = 4) by omega)]
              have mM17_21_3 : (M17.1 21 3).toInt = (M14.1 21 3).toInt := by rw [h18.1 21 (show ¬ (21 = 3 ∨ 21 = 4) by omega)]
              refine li_iload_n 2 dX11_talk_112 rfl ?_
              exact li_iret dX11_talk_113 rfl rfl ⟨⟨_, rfl, (by omega)⟩, hf⟩
            · have tc15 : x10.toInt < x1Zq.toInt := tl_nle c15Zq
              refine li_iconst 1 dX11_talk_103 (by decide) ?_
              refine li_goto 108 dX11_talk_104 (by decide) ?_
              refine li_iload_n 1 dX11_talk_108 rfl ?_
              refine li_callV (n := 2) (As := [.int 1, .int x9]) dX11_talk_109 (k_X5_tellTwo (d - 1) (by omega) 1 x9 M14) (by omega) (Nat.le_of_ble_eq_true rfl) w_951 w_952 w_953 w_103 w_954 (by decide +kernel) rfl (by decide) sh_3 rfl rfl (Nat.le_of_ble_eq_true rfl) (fun r M20 h21 => ?_)
              obtain ⟨rfl, h21⟩ := h21
              have hf := li_fr_trans hf h21 (fun i (hZq : i = 3 ∨ i = 4) => (show i = 1 ∨ i = 10 ∨ i = 11 ∨ i = 12 ∨ i = 13 ∨ i = 14 ∨ i = 146 ∨ i = 147 ∨ i = 15 ∨ i = 151 ∨ i = 152 ∨ i = 16 ∨ i = 165 ∨ i = 166 ∨ i = 174 ∨ i = 20 ∨ i = 21 ∨ i = 24 ∨ i = 25 ∨ i = 26 ∨ i = 27 ∨ i = 28 ∨ i = 29 ∨ i = 3 ∨ i = 30 ∨ i = 31 ∨ i = 4 ∨ i = 6 ∨ i = 7 ∨ i = 8 ∨ i = 9 ∨ (32 ≤ i ∧ i < 128) by omega))
              have mM20_1_1 : (M20.1 1 1).toInt = (M14.1 1 1).toInt := by rw [h21.1 1 (show ¬ (1 = 3 ∨ 1 = 4) by omega)]
              have mM20_21_3 : (M20.1 21 3).toInt = (M14.1 21 3).toInt := by rw [h21.1 21 (show ¬ (21 = 3 ∨ 21 = 4) by omega)]
              refine li_iload_n 2 dX11_talk_112 rfl ?_
              exact li_iret dX11_talk_113 rfl rfl ⟨⟨_, rfl, (by omega)⟩, hf⟩
          refine li_if_le 94 dX11_talk_84 (by decide) (fun c13Zq => ?_) (fun c13Zq => ?_)
          · have tc13 : x10.toInt ≤ 0 := tl_le c13Zq
            refine li_pick [0, 1, 2, 3, 4] [(4, .int x8), (3, .int x9), (2, .int x10), (1, .int x1Zq), (0, .ref (Z.2.2 0))] rfl ?_
            exact J94  M11 hf (by omega)
          · have tc13 : 0 < x10.toInt := tl_nle c13Zq
            refine li_aload_n 4 dX11_talk_87 rfl ?_
            refine li_getr (k := 4) (N := 13) (T := TX11) (C0 := RX11) dX11_talk_88 (by decide) sh_0 rfl rfl (by decide) (by decide) li_in11 w_477 ?_
            refine li_callV (n := 0) (As := []) dX11_talk_91 (k11_X3_hold (d - 1) (by omega)  M11) (by omega) (Nat.le_of_ble_eq_true rfl) w_871 w_872 w_873 w_106 w_874 (by decide +kernel) rfl (by decide) sh_21 rfl rfl (Nat.le_of_ble_eq_true rfl) (fun r M23 h24 => ?_)
            obtain ⟨rfl, h24, nM23⟩ := h24
            have hf := li_fr_trans hf h24 (fun i (hZq : i = 21 ∨ (32 ≤ i ∧ i < 128)) => (show i = 1 ∨ i = 10 ∨ i = 11 ∨ i = 12 ∨ i = 13 ∨ i = 14 ∨ i = 146 ∨ i = 147 ∨ i = 15 ∨ i = 151 ∨ i = 152 ∨ i = 16 ∨ i = 165 ∨ i = 166 ∨ i = 174 ∨ i = 20 ∨ i = 21 ∨ i = 24 ∨ i = 25 ∨ i = 26 ∨ i = 27 ∨ i = 28 ∨ i = 29 ∨ i = 3 ∨ i = 30 ∨ i = 31 ∨ i = 4 ∨ i = 6 ∨ i = 7 ∨ i = 8 ∨ i = 9 ∨ (32 ≤ i ∧ i < 128) by omega))
            have mM23_1_1 : (M23.1 1 1).toInt = (M11.1 1 1).toInt := by rw [h24.1 1 (show ¬ (1 = 21 ∨ (32 ≤ 1 ∧ 1 < 128)) by omega)]
            refine li_pick [0, 1, 2, 3, 4] [(4, .int x8), (3, .int x9), (2, .int x10), (1, .int x1Zq), (0, .ref (Z.2.2 0))] rfl ?_
            exact J94  M23 hf (by omega)
        · have tc12 : x8.toInt < x1Zq.toInt := tl_nle c12Zq
          refine li_aload_n 4 dX11_talk_40 rfl ?_
          refine li_iload 0 dX11_talk_41 rfl ?_
          refine li_callV (n := 1) (As := [.int x8]) dX11_talk_43 (k_X11_doAct (d - 1) (by omega) x8 M11) (by omega) (Nat.le_of_ble_eq_true rfl) w_960 w_962 w_22 w_101 w_963 (by decide +kernel) rfl (by decide) sh_0 rfl rfl (Nat.le_of_ble_eq_true rfl) (fun r M26 h27 => ?_)
          obtain ⟨⟨x25, rfl⟩, h27⟩ := h27
          have gx25 := tl_rg x25
          have hf := li_fr_trans hf h27 (fun i (hZq : i = 13 ∨ i = 14 ∨ i = 146 ∨ i = 147 ∨ i = 15 ∨ i = 16 ∨ i = 20) => (show i = 1 ∨ i = 10 ∨ i = 11 ∨ i = 12 ∨ i = 13 ∨ i = 14 ∨ i = 146 ∨ i = 147 ∨ i = 15 ∨ i = 151 ∨ i = 152 ∨ i = 16 ∨ i = 165 ∨ i = 166 ∨ i = 174 ∨ i = 20 ∨ i = 21 ∨ i = 24 ∨ i = 25 ∨ i = 26 ∨ i = 27 ∨ i = 28 ∨ i = 29 ∨ i = 3 ∨ i = 30 ∨ i = 31 ∨ i = 4 ∨ i = 6 ∨ i = 7 ∨ i = 8 ∨ i = 9 ∨ (32 ≤ i ∧ i < 128) by omega))
          have mM26_1_1 : (M26.1 1 1).toInt = (M11.1 1 1).toInt := by rw [h27.1 1 (show ¬ (1 = 13 ∨ 1 = 14 ∨ 1 = 146 ∨ 1 = 147 ∨ 1 = 15 ∨ 1 = 16 ∨ 1 = 20) by omega)]
          have mM26_21_3 : (M26.1 21 3).toInt = (M11.1 21 3).toInt := by rw [h27.1 21 (show ¬ (21 = 13 ∨ 21 = 14 ∨ 21 = 146 ∨ 21 = 147 ∨ 21 = 15 ∨ 21 = 16 ∨ 21 = 20) by omega)]
          refine li_istore [(5, .int x25), (4, .int x8), (3, .int x9), (2, .int x10), (1, .int x1Zq), (0, .ref (Z.2.2 0))] dX11_talk_46 (by decide) rfl ?_
          refine li_iload 0 dX11_talk_48 rfl ?_
          refine li_if_ge 56 dX11_talk_50 (by decide) (fun c28Zq => ?_) (fun c28Zq => ?_)
          · have tc28 : 0 ≤ x25.toInt := tl_le c28Zq
            refine li_iload_n 2 dX11_talk_56 rfl ?_
            refine li_aload_n 5 dX11_talk_57 rfl ?_
            refine li_iload 1 dX11_talk_58 rfl ?_
            refine li_callV (n := 1) (As := [.int x8]) dX11_talk_60 (k_X11_isSpeech (d - 1) (by omega) x8 M26) (by omega) (Nat.le_of_ble_eq_true rfl) w_972 w_974 w_23 w_101 w_975 (by decide +kernel) rfl (by decide) sh_0 rfl rfl (Nat.le_of_ble_eq_true rfl) (fun r M30 h31 => ?_)
            obtain ⟨⟨x29, rfl, bx29⟩, h31⟩ := h31
            have ux29 := tl_b bx29
            have hf := li_fr_trans hf h31 (fun i hZq => False.elim hZq)
            have mM30_1_1 : (M30.1 1 1).toInt = (M26.1 1 1).toInt := by rw [h31.1 1 id]
            have mM30_21_3 : (M30.1 21 3).toInt = (M26.1 21 3).toInt := by rw [h31.1 21 id]
            have J72 : ∀ (x33 : Int32) (M34 : li_M), li_fr (fun i => i = 1 ∨ i = 10 ∨ i = 11 ∨ i = 12 ∨ i = 13 ∨ i = 14 ∨ i = 146 ∨ i = 147 ∨ i = 15 ∨ i = 151 ∨ i = 152 ∨ i = 16 ∨ i = 165 ∨ i = 166 ∨ i = 174 ∨ i = 20 ∨ i = 21 ∨ i = 24 ∨ i = 25 ∨ i = 26 ∨ i = 27 ∨ i = 28 ∨ i = 29 ∨ i = 3 ∨ i = 30 ∨ i = 31 ∨ i = 4 ∨ i = 6 ∨ i = 7 ∨ i = 8 ∨ i = 9 ∨ (32 ≤ i ∧ i < 128)) M0 M34 → (M34.1 21 3).toInt = (M0.1 21 3).toInt ∧ (M34.1 1 1).toInt = 0 → li_T l Z YX11_talk d 72 [(5, .int x25), (4, .int x8), (3, .int x9), (2, .int x10), (1, .int x1Zq), (0, .ref (Z.2.2 0))] [.int x33, .int x9] M34 (fun r M' => (∃ x : Int32, r = some (.int x) ∧ ((M'.1 1 1).toInt = 0 ∧ ((M'.1 21 3).toInt = (M0.1 21 3).toInt))) ∧ li_fr (fun i => i = 1 ∨ i = 10 ∨ i = 11 ∨ i = 12 ∨ i = 13 ∨ i = 14 ∨ i = 146 ∨ i = 147 ∨ i = 15 ∨ i = 151 ∨ i = 152 ∨ i = 16 ∨ i = 165 ∨ i = 166 ∨ i = 174 ∨ i = 20 ∨ i = 21 ∨ i = 24 ∨ i = 25 ∨ i = 26 ∨ i = 27 ∨ i = 28 ∨ i = 29 ∨ i = 3 ∨ i = 30 ∨ i = 31 ∨ i = 4 ∨ i = 6 ∨ i = 7 ∨ i = 8 ∨ i = 9 ∨ (32 ≤ i ∧ i < 128)) M0 M') := by
              intro x33 M34 hf hiZq
              have gx33 := tl_rg x33
              refine li_iadd dX11_talk_72 ?_
              refine li_top (fun x35 ex35 => ?_)
              have tx35 : (-2147483648 ≤ x9.toInt + x33.toInt ∧ x9.toInt + x33.toInt ≤ 2147483647) → x35.toInt = x9.toInt + x33.toInt := tl_add ex35
              refine li_istore_n [(3, .int x35), (5, .int x25), (4, .int x8), (2, .int x10), (1, .int x1Zq), (0, .ref (Z.2.2 0))] dX11_talk_73 (by decide) rfl ?_
              obtain ⟨x36, ex36⟩ : ∃ y : Int32, y = x10 + 1 := ⟨_, rfl⟩
              have tx36 : (-2147483648 ≤ x10.toInt + 1 ∧ x10.toInt + 1 ≤ 2147483647) → x36.toInt = x10.toInt + 1 := tl_add ex36
              refine li_iinc 3 [(2, .int x36), (3, .int x35), (5, .int x25), (4, .int x8), (1, .int x1Zq), (0, .ref (Z.2.2 0))] x36 dX11_talk_74 rfl (by rw [ex36]; rfl) (by decide) rfl ?_
              obtain ⟨x37, ex37⟩ : ∃ y : Int32, y = x8 + 1 := ⟨_, rfl⟩
              have tx37 : (-2147483648 ≤ x8.toInt + 1 ∧ x8.toInt + 1 ≤ 2147483647) → x37.toInt = x8.toInt + 1 := tl_add ex37
              refine li_iinc 3 [(4, .int x37), (2, .int x36), (3, .int x35), (5, .int x25), (1, .int x1Zq), (0, .ref (Z.2.2 0))] x37 dX11_talk_77 rfl (by rw [ex37]; rfl) (by decide) rfl ?_
              refine li_goto 34 dX11_talk_80 (by decide) ?_
              refine li_pick [0, 2, 1, 4, 5] [(4, .int x37), (3, .int x35), (2, .int x36), (1, .int x1Zq), (0, .ref (Z.2.2 0))] rfl ?_
              exact ih34 x37 x35 x36 M34 (by have h9 := li_up (li_gt c12Zq); rw [← ex37] at h9; omega) hf (by omega)
            refine li_if_eq 71 dX11_talk_63 (by decide) (fun c32Zq => ?_) (fun c32Zq => ?_)
            · have tc32 : x29.toInt = 0 := tl_eq c32Zq
              refine li_iconst 0 dX11_talk_71 (by decide) ?_
              refine li_pick [0, 1, 2, 3, 4, 5] [(5, .int x25), (4, .int x8), (3, .int x9), (2, .int x10), (1, .int x1Zq), (0, .ref (Z.2.2 0))] rfl ?_
              have z0 : (0 : Int32).toInt = 0 := rfl
              exact J72 0 M30 hf (by omega)
            · have tc32 : ¬ x29.toInt = 0 := tl_ne c32Zq
              refine li_iload 0 dX11_talk_66 rfl ?_
              refine li_goto 72 dX11_talk_68 (by decide) ?_
              refine li_pick [0, 1, 2, 3, 4, 5] [(5, .int x25), (4, .int x8), (3, .int x9), (2, .int x10), (1, .int x1Zq), (0, .ref (Z.2.2 0))] rfl ?_
              exact J72 x25 M30 hf (by omega)
          · have tc28 : x25.toInt < 0 := tl_nle c28Zq
            refine li_goto 83 dX11_talk_53 (by decide) ?_
            refine li_iload_n 3 dX11_talk_83 rfl ?_
            have J94 : ∀  (M39 : li_M), li_fr (fun i => i = 1 ∨ i = 10 ∨ i = 11 ∨ i = 12 ∨ i = 13 ∨ i = 14 ∨ i = 146 ∨ i = 147 ∨ i = 15 ∨ i = 151 ∨ i = 152 ∨ i = 16 ∨ i = 165 ∨ i = 166 ∨ i = 174 ∨ i = 20 ∨ i = 21 ∨ i = 24 ∨ i = 25 ∨ i = 26 ∨ i = 27 ∨ i = 28 ∨ i = 29 ∨ i = 3 ∨ i = 30 ∨ i = 31 ∨ i = 4 ∨ i = 6 ∨ i = 7 ∨ i = 8 ∨ i = 9 ∨ (32 ≤ i ∧ i < 128)) M0 M39 → (M39.1 21 3).toInt = (M0.1 21 3).toInt ∧ (M39.1 1 1).toInt = 0 → li_T l Z YX11_talk d 94 [(5, .int x25), (4, .int x8), (3, .int x9), (2, .int x10), (1, .int x1Zq), (0, .ref (Z.2.2 0))] [] M39 (fun r M' => (∃ x : Int32, r = some (.int x) ∧ ((M'.1 1 1).toInt = 0 ∧ ((M'.1 21 3).toInt = (M0.1 21 3).toInt))) ∧ li_fr (fun i => i = 1 ∨ i = 10 ∨ i = 11 ∨ i = 12 ∨ i = 13 ∨ i = 14 ∨ i = 146 ∨ i = 147 ∨ i = 15 ∨ i = 151 ∨ i = 152 ∨ i = 16 ∨ i = 165 ∨ i = 166 ∨ i = 174 ∨ i = 20 ∨ i = 21 ∨ i = 24 ∨ i = 25 ∨ i = 26 ∨ i = 27 ∨ i = 28 ∨ i = 29 ∨ i = 3 ∨ i = 30 ∨ i = 31 ∨ i = 4 ∨ i = 6 ∨ i = 7 ∨ i = 8 ∨ i = 9 ∨ (32 ≤ i ∧ i < 128)) M0 M') := by
              intro  M39 hf hiZq
              refine li_aload_n 5 dX11_talk_94 rfl ?_
              refine li_getr (k := 1) (N := 13) (T := TX11) (C0 := RX11) dX11_talk_95 (by decide) sh_0 rfl rfl (by decide) (by decide) li_in11 w_474 ?_
              refine li_iload_n 3 dX11_talk_98 rfl ?_
              refine li_iload_n 4 dX11_talk_99 rfl ?_
              refine li_icmp_ge 107 dX11_talk_100 (by decide) (fun c40Zq => ?_) (fun c40Zq => ?_)
              · have tc40 : x1Zq.toInt ≤ x10.toInt := tl_le c40Zq
                refine li_iconst 0 dX11_talk_107 (by decide) ?_
                refine li_iload_n 2 dX11_talk_108 rfl ?_
                refine li_callV (n := 2) (As := [.int 0, .int x9]) dX11_talk_109 (k_X5_tellTwo (d - 1) (by omega) 0 x9 M39) (by omega) (Nat.le_of_ble_eq_true rfl) w_951 w_952 w_953 w_103 w_954 (by decide +kernel) rfl (by decide) sh_3 rfl rfl (Nat.le_of_ble_eq_true rfl) (fun r M42 h43 => ?_)
                obtain ⟨rfl, h43⟩ := h43
                have hf := li_fr_trans hf h43 (fun i (hZq : i = 3 ∨ i = 4) => (show i = 1 ∨ i = 10 ∨ i = 11 ∨ i = 12 ∨ i = 13 ∨ i = 14 ∨ i = 146 ∨ i = 147 ∨ i = 15 ∨ i = 151 ∨ i = 152 ∨ i = 16 ∨ i = 165 ∨ i = 166 ∨ i = 174 ∨ i = 20 ∨ i = 21 ∨ i = 24 ∨ i = 25 ∨ i = 26 ∨ i = 27 ∨ i = 28 ∨ i = 29 ∨ i = 3 ∨ i = 30 ∨ i = 31 ∨ i = 4 ∨ i = 6 ∨ i = 7 ∨ i = 8 ∨ i = 9 ∨ (32 ≤ i ∧ i < 128) by omega))
                have mM42_1_1 : (M42.1 1 1).toInt = (M39.1 1 1).toInt := by rw [h43.1 1 (show ¬ (1 = 3 ∨ 1 = 4) by omega)]
                have mM42_21_3 : (M42.1 21 3).toInt = (M39.1 21 3).toInt := by rw [h43.1 21 (show ¬ (21 = 3 ∨ 21 = 4) by omega)]
                refine li_iload_n 3 dX11_talk_112 rfl ?_
                exact li_iret dX11_talk_113 rfl rfl ⟨⟨_, rfl, (by omega)⟩, hf⟩
              · have tc40 : x10.toInt < x1Zq.toInt := tl_nle c40Zq
                refine li_iconst 1 dX11_talk_103 (by decide) ?_
                refine li_goto 108 dX11_talk_104 (by decide) ?_
                refine li_iload_n 2 dX11_talk_108 rfl ?_
                refine li_callV (n := 2) (As := [.int 1, .int x9]) dX11_talk_109 (k_X5_tellTwo (d - 1) (by omega) 1 x9 M39) (by omega) (Nat.le_of_ble_eq_true rfl) w_951 w_952 w_953 w_103 w_954 (by decide +kernel) rfl (by decide) sh_3 rfl rfl (Nat.le_of_ble_eq_true rfl) (fun r M45 h46 => ?_)
                obtain ⟨rfl, h46⟩ := h46
                have hf := li_fr_trans hf h46 (fun i (hZq : i = 3 ∨ i = 4) => (show i = 1 ∨ i = 10 ∨ i = 11 ∨ i = 12 ∨ i = 13 ∨ i = 14 ∨ i = 146 ∨ i = 147 ∨ i = 15 ∨ i = 151 ∨ i = 152 ∨ i = 16 ∨ i = 165 ∨ i = 166 ∨ i = 174 ∨ i = 20 ∨ i = 21 ∨ i = 24 ∨ i = 25 ∨ i = 26 ∨ i = 27 ∨ i = 28 ∨ i = 29 ∨ i = 3 ∨ i = 30 ∨ i = 31 ∨ i = 4 ∨ i = 6 ∨ i = 7 ∨ i = 8 ∨ i = 9 ∨ (32 ≤ i ∧ i < 128) by omega))
                have mM45_1_1 : (M45.1 1 1).toInt = (M39.1 1 1).toInt := by rw [h46.1 1 (show ¬ (1 = 3 ∨ 1 = 4) by omega)]
                have mM45_21_3 : (M45.1 21 3).toInt = (M39.1 21 3).toInt := by rw [h46.1 21 (show ¬ (21 = 3 ∨ 21 = 4) by omega)]
                refine li_iload_n 3 dX11_talk_112 rfl ?_
                exact li_iret dX11_talk_113 rfl rfl ⟨⟨_, rfl, (by omega)⟩, hf⟩
            refine li_if_le 94 dX11_talk_84 (by decide) (fun c38 => ?_) (fun c38 => ?_)
            · have tc38 : x10.toInt ≤ 0 := tl_le c38
              refine li_pick [0, 1, 2, 3, 4, 5] [(5, .int x25), (4, .int x8), (3, .int x9), (2, .int x10), (1, .int x1Zq), (0, .ref (Z.2.2 0))] rfl ?_
              exact J94  M26 hf (by omega)
            · have tc38 : 0 < x10.toInt := tl_nle c38
              refine li_aload_n 5 dX11_talk_87 rfl ?_
              refine li_getr (k := 4) (N := 13) (T := TX11) (C0 := RX11) dX11_talk_88 (by decide) sh_0 rfl rfl (by decide) (by decide) li_in11 w_477 ?_
              refine li_callV (n := 0) (As := []) dX11_talk_91 (k11_X3_hold (d - 1) (by omega)  M26) (by omega) (Nat.le_of_ble_eq_true rfl) w_871 w_872 w_873 w_106 w_874 (by decide +kernel) rfl (by decide) sh_21 rfl rfl (Nat.le_of_ble_eq_true rfl) (fun r M48 h49 => ?_)
              obtain ⟨rfl, h49, nM48⟩ := h49
              have hf := li_fr_trans hf h49 (fun i (hZq : i = 21 ∨ (32 ≤ i ∧ i < 128)) => (show i = 1 ∨ i = 10 ∨ i = 11 ∨ i = 12 ∨ i = 13 ∨ i = 14 ∨ i = 146 ∨ i = 147 ∨ i = 15 ∨ i = 151 ∨ i = 152 ∨ i = 16 ∨ i = 165 ∨ i = 166 ∨ i = 174 ∨ i = 20 ∨ i = 21 ∨ i = 24 ∨ i = 25 ∨ i = 26 ∨ i = 27 ∨ i = 28 ∨ i = 29 ∨ i = 3 ∨ i = 30 ∨ i = 31 ∨ i = 4 ∨ i = 6 ∨ i = 7 ∨ i = 8 ∨ i = 9 ∨ (32 ≤ i ∧ i < 128) by omega))
              have mM48_1_1 : (M48.1 1 1).toInt = (M26.1 1 1).toInt := by rw [h49.1 1 (show ¬ (1 = 21 ∨ (32 ≤ 1 ∧ 1 < 128)) by omega)]
              refine li_pick [0, 1, 2, 3, 4, 5] [(5, .int x25), (4, .int x8), (3, .int x9), (2, .int x10), (1, .int x1Zq), (0, .ref (Z.2.2 0))] rfl ?_
              exact J94  M48 hf (by omega)
    have z0 : (0 : Int32).toInt = 0 := rfl
    have z0 : (0 : Int32).toInt = 0 := rfl
    have z0 : (0 : Int32).toInt = 0 := rfl
    exact L34 _ 0 0 0 M6Zq (Nat.lt_succ_self _) hf (by omega)
  · have tc4 : x1Zq.toInt < 0 := tl_nle c4
    refine li_iload_n 0 dX11_talk_14 rfl ?_
    exact li_iret dX11_talk_15 rfl rfl ⟨⟨_, rfl, (by omega)⟩, hf⟩

set_option maxRecDepth 100000 in
set_option maxHeartbeats 4000000 in
theorem k11_X11_people {l : Launch} {Z : li_Z} (d : Nat) (hdZq : 7 ≤ d) (M0 : li_M) (h1 : 0 ≤ (M0.1 1 1).toInt ∧ (M0.1 1 1).toInt ≤ 80) (Psg_M0 : li_sg (M0.1 2)) (h2 : 0 ≤ (M0.1 5 0).toInt ∧ (M0.1 5 0).toInt ≤ 6) (OK QQ MM : Int) (Ppq_M0 : li_pq (M0.1 2) ((M0.1 1 1).toInt) (6 - (M0.1 5 0).toInt) (0) (0) (OK) (QQ) (MM)) : li_Met l Z YX11_people d [.ref (Z.2.2 0)] M0 (fun r M' => (∃ x : Int32, r = some (.int x) ∧ ((((M0.1 1 1).toInt = 0 ∧ x.toInt = 0) ∨ (0 < (M0.1 1 1).toInt ∧ OK = 1 ∧ (M0.1 1 1).toInt ≤ 76 ∧ x.toInt = MM ∧ 0 ≤ MM ∧ MM ≤ 100) ∨ (0 < (M0.1 1 1).toInt ∧ OK = 1 ∧ 76 < (M0.1 1 1).toInt ∧ x.toInt = -1 - 76) ∨ (0 < (M0.1 1 1).toInt ∧ OK = 0 ∧ 0 ≤ QQ ∧ QQ ≤ 76 ∧ x.toInt = -1 - QQ) ∨ (0 < (M0.1 1 1).toInt ∧ OK = 0 ∧ 76 < QQ ∧ x.toInt = -1 - 76)) ∧ (M'.1 1 1).toInt = 0 ∧ ((0 < x.toInt ∧ (M'.1 5 0).toInt = (M0.1 5 0).toInt + x.toInt ∧ (M'.1 21 3).toInt = 0) ∨ (x.toInt ≤ 0 ∧ (M'.1 5 0).toInt = (M0.1 5 0).toInt ∧ (M'.1 21 3).toInt = (M0.1 21 3).toInt)) ∧ (M'.1 5 1).toInt = (M0.1 5 1).toInt)) ∧ li_fr (fun i => i = 1 ∨ i = 14 ∨ i = 21 ∨ i = 5 ∨ i = 6 ∨ i = 7) M0 M') := by
  refine li_enter (by decide +kernel) (Nat.le_of_ble_eq_true rfl) ?_
  show li_T l Z YX11_people d 0 [(0, .ref (Z.2.2 0))] [] M0 _
  have hf : li_fr (fun i => i = 1 ∨ i = 14 ∨ i = 21 ∨ i = 5 ∨ i = 6 ∨ i = 7) M0 M0 := li_fr_refl
  refine li_aload_n 0 dX11_people_0 rfl ?_
  refine li_iconst 0 dX11_people_1 (by decide) ?_
  refine li_bipush 6 dX11_people_2 (by decide) ?_
  refine li_aload_n 0 dX11_people_4 rfl ?_
  refine li_getr (k := 2) (N := 13) (T := TX11) (C0 := RX11) dX11_people_5 (by decide) sh_0 rfl rfl (by decide) (by decide) li_in11 w_475 ?_
  refine li_geti (k := 0) (N := 9) (T := TX8) (C0 := RX8) dX11_people_8 (by decide) sh_5 rfl rfl (by decide) li_in8 w_178 ?_
  refine li_top (fun x1Zq ex1 => ?_)
  have gx1 := tl_rg x1Zq
  have vx1 : x1Zq.toInt = (M0.1 5 0).toInt := tl_eq ex1
  refine li_isub dX11_people_11 ?_
  refine li_top (fun x2Zq ex2Zq => ?_)
  have tx2 : (-2147483648 ≤ 6 - x1Zq.toInt ∧ 6 - x1Zq.toInt ≤ 2147483647) → x2Zq.toInt = 6 - x1Zq.toInt := tl_sub ex2Zq
  refine li_bipush 76 dX11_people_12 (by decide) ?_
  refine li_callV (n := 3) (As := [.int 0, .int x2Zq, .int 76]) dX11_people_14 (k5_X11_readText (d - 1) (by omega) 0 x2Zq 76 M0 (by omega) Psg_M0 ⟨rfl, by omega, by decide, by decide⟩ OK QQ MM (li_pq_tr rfl rfl (by omega) rfl rfl rfl rfl rfl Ppq_M0)) (by omega) (Nat.le_of_ble_eq_true rfl) w_536 w_538 w_0 w_101 w_539 (by decide +kernel) rfl (by decide) sh_0 rfl rfl (Nat.le_of_ble_eq_true rfl) (fun r M4Zq h5 => ?_)
  have z0 : (0 : Int32).toInt = 0 := rfl
  have z76 : (76 : Int32).toInt = 76 := rfl
  obtain ⟨⟨x3, rfl, qx3⟩, h5⟩ := h5
  have gx3 := tl_rg x3
  have hf := li_fr_trans hf h5 (fun i (hZq : i = 1 ∨ i = 6 ∨ i = 7) => (show i = 1 ∨ i = 14 ∨ i = 21 ∨ i = 5 ∨ i = 6 ∨ i = 7 by omega))
  have mM4_5_0 : (M4Zq.1 5 0).toInt = (M0.1 5 0).toInt := by rw [h5.1 5 (show ¬ (5 = 1 ∨ 5 = 6 ∨ 5 = 7) by omega)]
  have mM4_5_1 : (M4Zq.1 5 1).toInt = (M0.1 5 1).toInt := by rw [h5.1 5 (show ¬ (5 = 1 ∨ 5 = 6 ∨ 5 = 7) by omega)]
  have mM4_21_3 : (M4Zq.1 21 3).toInt = (M0.1 21 3).toInt := by rw [h5.1 21 (show ¬ (21 = 1 ∨ 21 = 6 ∨ 21 = 7) by omega)]
  have qa := qx3.1
  rw [z76] at qa
  have qc := qx3.2
  clear qx3
  have qb : x3.toInt ≤ 100 := by omega
  refine li_istore_n [(1, .int x3), (0, .ref (Z.2.2 0))] dX11_people_17 (by decide) rfl ?_
  refine li_iload_n 0 dX11_people_18 rfl ?_
  refine li_if_le 54 dX11_people_19 (by decide) (fun c6Zq => ?_) (fun c6Zq => ?_)
  · have tc6 : x3.toInt ≤ 0 := tl_le c6Zq
    refine li_iload_n 0 dX11_people_54 rfl ?_
    exact li_iret dX11_people_55 rfl rfl ⟨⟨_, rfl, (by refine ⟨by first | exact qa | omega, ?_, ?_, ?_⟩ <;> (clear qa; omega))⟩, hf⟩
  · have tc6 : 0 < x3.toInt := tl_nle c6Zq
    refine li_aload_n 1 dX11_people_22 rfl ?_
    refine li_getr (k := 3) (N := 13) (T := TX11) (C0 := RX11) dX11_people_23 (by decide) sh_0 rfl rfl (by decide) (by decide) li_in11 w_476 ?_
    refine li_aload_n 1 dX11_people_26 rfl ?_
    refine li_getr (k := 2) (N := 13) (T := TX11) (C0 := RX11) dX11_people_27 (by decide) sh_0 rfl rfl (by decide) (by decide) li_in11 w_475 ?_
    refine li_iload_n 0 dX11_people_30 rfl ?_
    refine li_callV (n := 2) (As := [.ref (Z.2.2 5), .int x3]) dX11_people_31 (k_X4_welcome (d - 1) (by omega) x3 M4Zq) (by omega) (Nat.le_of_ble_eq_true rfl) w_728 w_729 w_730 w_105 w_731 (by decide +kernel) rfl (by decide) sh_13 rfl rfl (Nat.le_of_ble_eq_true rfl) (fun r M8Zq h9 => ?_)
    obtain ⟨rfl, h9⟩ := h9
    have hf := li_fr_trans hf h9 (fun i (hZq : i = 14) => (show i = 1 ∨ i = 14 ∨ i = 21 ∨ i = 5 ∨ i = 6 ∨ i = 7 by omega))
    have mM8_1_1 : (M8Zq.1 1 1).toInt = (M4Zq.1 1 1).toInt := by rw [h9.1 1 (show ¬ (1 = 14) by omega)]
    have mM8_5_0 : (M8Zq.1 5 0).toInt = (M4Zq.1 5 0).toInt := by rw [h9.1 5 (show ¬ (5 = 14) by omega)]
    have mM8_5_1 : (M8Zq.1 5 1).toInt = (M4Zq.1 5 1).toInt := by rw [h9.1 5 (show ¬ (5 = 14) by omega)]
    have mM8_21_3 : (M8Zq.1 21 3).toInt = (M4Zq.1 21 3).toInt := by rw [h9.1 21 (show ¬ (21 = 14) by omega)]
    refine li_aload_n 1 dX11_people_34 rfl ?_
    refine li_getr (k := 2) (N := 13) (T := TX11) (C0 := RX11) dX11_people_35 (by decide) sh_0 rfl rfl (by decide) (by decide) li_in11 w_475 ?_
    refine li_dup dX11_people_38 rfl ?_
    refine li_geti (k := 0) (N := 9) (T := TX8) (C0 := RX8) dX11_people_39 (by decide) sh_5 rfl rfl (by decide) li_in8 w_178 ?_
    refine li_top (fun x10 ex10 => ?_)
    have gx10 := tl_rg x10
    have vx10 : x10.toInt = (M8Zq.1 5 0).toInt := tl_eq ex10
    refine li_iload_n 0 dX11_people_42 rfl ?_
    refine li_iadd dX11_people_43 ?_
    refine li_top (fun x11 ex11 => ?_)
    have tx11 : (-2147483648 ≤ x10.toInt + x3.toInt ∧ x10.toInt + x3.toInt ≤ 2147483647) → x11.toInt = x10.toInt + x3.toInt := tl_add ex11
    refine li_puti (k := 0) (N := 9) (T := TX8) (C0 := RX8) dX11_people_44 (by decide) sh_5 rfl rfl (by decide) li_in8 tyX8_ok nmX8 rfl rfl rfl rfl w_178 ?_
    refine li_nm (fun M12 eM12 => ?_)
    have hf := li_fr_ui hf (show 5 = 1 ∨ 5 = 14 ∨ 5 = 21 ∨ 5 = 5 ∨ 5 = 6 ∨ 5 = 7 by omega) eM12
    have mM12_1_1 : (M12.1 1 1).toInt = (M8Zq.1 1 1).toInt := by rw [eM12, li_ui_at, if_neg (by decide)]
    have mM12_5_0 : (M12.1 5 0).toInt = x11.toInt := by rw [eM12, li_ui_at, if_pos rfl, if_pos rfl]
    have mM12_5_1 : (M12.1 5 1).toInt = (M8Zq.1 5 1).toInt := by rw [eM12, li_ui_at, if_pos rfl, if_neg (by decide)]
    have mM12_21_3 : (M12.1 21 3).toInt = (M8Zq.1 21 3).toInt := by rw [eM12, li_ui_at, if_neg (by decide)]
    have k13 : M12.1 5 0 = x11 := by rw [eM12, li_ui_at, if_pos rfl, if_pos rfl]
    refine li_aload_n 1 dX11_people_47 rfl ?_
    refine li_getr (k := 4) (N := 13) (T := TX11) (C0 := RX11) dX11_people_48 (by decide) sh_0 rfl rfl (by decide) (by decide) li_in11 w_477 ?_
    refine li_callV (n := 0) (As := []) dX11_people_51 (k11_X3_clearAll (d - 1) (by omega)  M12) (by omega) (Nat.le_of_ble_eq_true rfl) w_734 w_735 w_736 w_106 w_737 (by decide +kernel) rfl (by decide) sh_21 rfl rfl (Nat.le_of_ble_eq_true rfl) (fun r M15 h16Zq => ?_)
    obtain ⟨rfl, h16Zq, nM15⟩ := h16Zq
    have hf := li_fr_trans hf h16Zq (fun i (hZq : i = 21) => (show i = 1 ∨ i = 14 ∨ i = 21 ∨ i = 5 ∨ i = 6 ∨ i = 7 by omega))
    have mM15_1_1 : (M15.1 1 1).toInt = (M12.1 1 1).toInt := by rw [h16Zq.1 1 (show ¬ (1 = 21) by omega)]
    have mM15_5_0 : (M15.1 5 0).toInt = (M12.1 5 0).toInt := by rw [h16Zq.1 5 (show ¬ (5 = 21) by omega)]
    have mM15_5_1 : (M15.1 5 1).toInt = (M12.1 5 1).toInt := by rw [h16Zq.1 5 (show ¬ (5 = 21) by omega)]
    refine li_iload_n 0 dX11_people_54 rfl ?_
    exact li_iret dX11_people_55 rfl rfl ⟨⟨_, rfl, (by refine ⟨by first | exact qa | omega, ?_, ?_, ?_⟩ <;> (clear qa; omega))⟩, hf⟩

set_option maxRecDepth 100000 in
set_option maxHeartbeats 4000000 in
theorem k11_X11_things {l : Launch} {Z : li_Z} (d : Nat) (hdZq : 8 ≤ d) (M0 : li_M) (h1 : 0 ≤ (M0.1 1 1).toInt ∧ (M0.1 1 1).toInt ≤ 80) (Psg_M0 : li_sg (M0.1 2)) (hP5 : 0 ≤ (M0.1 5 0).toInt ∧ (M0.1 5 0).toInt ≤ 6) (h2 : 0 ≤ (M0.1 5 1).toInt ∧ (M0.1 5 1).toInt ≤ 8) (MM : Int) (Ptl_M0 : li_tl (M0.1 2) ((M0.1 1 1).toInt) ((M0.1 5 0).toInt) (8 - (M0.1 5 1).toInt) (0) (0) (MM)) : li_Met l Z YX11_things d [.ref (Z.2.2 0)] M0 (fun r M' => (∃ x : Int32, r = some (.int x) ∧ ((((M0.1 1 1).toInt = 0 ∧ x.toInt = 0) ∨ (0 < (M0.1 1 1).toInt ∧ (M0.1 1 1).toInt ≤ 76 ∧ 0 < MM ∧ x.toInt = MM) ∨ (0 < (M0.1 1 1).toInt ∧ (76 < (M0.1 1 1).toInt ∨ MM = -1) ∧ x.toInt < 0)) ∧ (M'.1 1 1).toInt = 0 ∧ ((0 < x.toInt ∧ (M'.1 5 1).toInt = (M0.1 5 1).toInt + x.toInt ∧ (M'.1 21 3).toInt = 0) ∨ (x.toInt ≤ 0 ∧ (M'.1 5 1).toInt = (M0.1 5 1).toInt ∧ (M'.1 21 3).toInt = (M0.1 21 3).toInt)) ∧ (M'.1 5 0).toInt = (M0.1 5 0).toInt)) ∧ li_fr (fun i => i = 1 ∨ i = 10 ∨ i = 11 ∨ i = 12 ∨ i = 21 ∨ i = 5 ∨ i = 8 ∨ i = 9) M0 M') := by
  refine li_enter (by decide +kernel) (Nat.le_of_ble_eq_true rfl) ?_
  show li_T l Z YX11_things d 0 [(0, .ref (Z.2.2 0))] [] M0 _
  have hf : li_fr (fun i => i = 1 ∨ i = 10 ∨ i = 11 ∨ i = 12 ∨ i = 21 ∨ i = 5 ∨ i = 8 ∨ i = 9) M0 M0 := li_fr_refl
  have mle := li_tl_le Ptl_M0 (by omega)
  refine li_aload_n 0 dX11_things_0 rfl ?_
  refine li_iconst 1 dX11_things_1 (by decide) ?_
  refine li_bipush 8 dX11_things_2 (by decide) ?_
  refine li_aload_n 0 dX11_things_4 rfl ?_
  refine li_getr (k := 2) (N := 13) (T := TX11) (C0 := RX11) dX11_things_5 (by decide) sh_0 rfl rfl (by decide) (by decide) li_in11 w_475 ?_
  refine li_geti (k := 1) (N := 9) (T := TX8) (C0 := RX8) dX11_things_8 (by decide) sh_5 rfl rfl (by decide) li_in8 w_180 ?_
  refine li_top (fun x1Zq ex1 => ?_)
  have gx1 := tl_rg x1Zq
  have vx1 : x1Zq.toInt = (M0.1 5 1).toInt := tl_eq ex1
  refine li_isub dX11_things_11 ?_
  refine li_top (fun x2Zq ex2Zq => ?_)
  have tx2 : (-2147483648 ≤ 8 - x1Zq.toInt ∧ 8 - x1Zq.toInt ≤ 2147483647) → x2Zq.toInt = 8 - x1Zq.toInt := tl_sub ex2Zq
  refine li_bipush 76 dX11_things_12 (by decide) ?_
  refine li_callV (n := 3) (As := [.int 1, .int x2Zq, .int 76]) dX11_things_14 (k10_X11_readText (d - 1) (by omega) 1 x2Zq 76 M0 (by omega) Psg_M0 (by omega) ⟨rfl, by omega, by decide, by decide⟩ MM (li_tl_tr rfl rfl rfl (by omega) rfl rfl rfl Ptl_M0)) (by omega) (Nat.le_of_ble_eq_true rfl) w_536 w_538 w_0 w_101 w_539 (by decide +kernel) rfl (by decide) sh_0 rfl rfl (Nat.le_of_ble_eq_true rfl) (fun r M4Zq h5 => ?_)
  have z1 : (1 : Int32).toInt = 1 := rfl
  have z76 : (76 : Int32).toInt = 76 := rfl
  obtain ⟨⟨x3, rfl, qx3⟩, h5⟩ := h5
  have gx3 := tl_rg x3
  have hf := li_fr_trans hf h5 (fun i (hZq : i = 1 ∨ i = 10 ∨ i = 11 ∨ i = 12 ∨ i = 8 ∨ i = 9) => (show i = 1 ∨ i = 10 ∨ i = 11 ∨ i = 12 ∨ i = 21 ∨ i = 5 ∨ i = 8 ∨ i = 9 by omega))
  have mM4_5_0 : (M4Zq.1 5 0).toInt = (M0.1 5 0).toInt := by rw [h5.1 5 (show ¬ (5 = 1 ∨ 5 = 10 ∨ 5 = 11 ∨ 5 = 12 ∨ 5 = 8 ∨ 5 = 9) by omega)]
  have mM4_5_1 : (M4Zq.1 5 1).toInt = (M0.1 5 1).toInt := by rw [h5.1 5 (show ¬ (5 = 1 ∨ 5 = 10 ∨ 5 = 11 ∨ 5 = 12 ∨ 5 = 8 ∨ 5 = 9) by omega)]
  have mM4_21_3 : (M4Zq.1 21 3).toInt = (M0.1 21 3).toInt := by rw [h5.1 21 (show ¬ (21 = 1 ∨ 21 = 10 ∨ 21 = 11 ∨ 21 = 12 ∨ 21 = 8 ∨ 21 = 9) by omega)]
  have qa := qx3.1
  rw [z76] at qa
  have qc := qx3.2
  clear qx3
  have qb : x3.toInt ≤ 100 := by omega
  refine li_istore_n [(1, .int x3), (0, .ref (Z.2.2 0))] dX11_things_17 (by decide) rfl ?_
  refine li_iload_n 0 dX11_things_18 rfl ?_
  refine li_if_le 42 dX11_things_19 (by decide) (fun c6Zq => ?_) (fun c6Zq => ?_)
  · have tc6 : x3.toInt ≤ 0 := tl_le c6Zq
    refine li_iload_n 0 dX11_things_42 rfl ?_
    exact li_iret dX11_things_43 rfl rfl ⟨⟨_, rfl, (by refine ⟨by first | exact qa | omega, ?_, ?_, ?_⟩ <;> (clear qa; omega))⟩, hf⟩
  · have tc6 : 0 < x3.toInt := tl_nle c6Zq
    refine li_aload_n 1 dX11_things_22 rfl ?_
    refine li_getr (k := 2) (N := 13) (T := TX11) (C0 := RX11) dX11_things_23 (by decide) sh_0 rfl rfl (by decide) (by decide) li_in11 w_475 ?_
    refine li_dup dX11_things_26 rfl ?_
    refine li_geti (k := 1) (N := 9) (T := TX8) (C0 := RX8) dX11_things_27 (by decide) sh_5 rfl rfl (by decide) li_in8 w_180 ?_
    refine li_top (fun x7 ex7 => ?_)
    have gx7 := tl_rg x7
    have vx7 : x7.toInt = (M4Zq.1 5 1).toInt := tl_eq ex7
    refine li_iload_n 0 dX11_things_30 rfl ?_
    refine li_iadd dX11_things_31 ?_
    refine li_top (fun x8 ex8 => ?_)
    have tx8 : (-2147483648 ≤ x7.toInt + x3.toInt ∧ x7.toInt + x3.toInt ≤ 2147483647) → x8.toInt = x7.toInt + x3.toInt := tl_add ex8
    refine li_puti (k := 1) (N := 9) (T := TX8) (C0 := RX8) dX11_things_32 (by decide) sh_5 rfl rfl (by decide) li_in8 tyX8_ok nmX8 rfl rfl rfl rfl w_180 ?_
    refine li_nm (fun M9Zq eM9 => ?_)
    have hf := li_fr_ui hf (show 5 = 1 ∨ 5 = 10 ∨ 5 = 11 ∨ 5 = 12 ∨ 5 = 21 ∨ 5 = 5 ∨ 5 = 8 ∨ 5 = 9 by omega) eM9
    have mM9_1_1 : (M9Zq.1 1 1).toInt = (M4Zq.1 1 1).toInt := by rw [eM9, li_ui_at, if_neg (by decide)]
    have mM9_5_0 : (M9Zq.1 5 0).toInt = (M4Zq.1 5 0).toInt := by rw [eM9, li_ui_at, if_pos rfl, if_neg (by decide)]
    have mM9_5_1 : (M9Zq.1 5 1).toInt = x8.toInt := by rw [eM9, li_ui_at, if_pos rfl, if_pos rfl]
    have mM9_21_3 : (M9Zq.1 21 3).toInt = (M4Zq.1 21 3).toInt := by rw [eM9, li_ui_at, if_neg (by decide)]
    have k10 : M9Zq.1 5 1 = x8 := by rw [eM9, li_ui_at, if_pos rfl, if_pos rfl]
    refine li_aload_n 1 dX11_things_35 rfl ?_
    refine li_getr (k := 4) (N := 13) (T := TX11) (C0 := RX11) dX11_things_36 (by decide) sh_0 rfl rfl (by decide) (by decide) li_in11 w_477 ?_
    refine li_callV (n := 0) (As := []) dX11_things_39 (k11_X3_clearAll (d - 1) (by omega)  M9Zq) (by omega) (Nat.le_of_ble_eq_true rfl) w_734 w_735 w_736 w_106 w_737 (by decide +kernel) rfl (by decide) sh_21 rfl rfl (Nat.le_of_ble_eq_true rfl) (fun r M12 h13 => ?_)
    obtain ⟨rfl, h13, nM12⟩ := h13
    have hf := li_fr_trans hf h13 (fun i (hZq : i = 21) => (show i = 1 ∨ i = 10 ∨ i = 11 ∨ i = 12 ∨ i = 21 ∨ i = 5 ∨ i = 8 ∨ i = 9 by omega))
    have mM12_1_1 : (M12.1 1 1).toInt = (M9Zq.1 1 1).toInt := by rw [h13.1 1 (show ¬ (1 = 21) by omega)]
    have mM12_5_0 : (M12.1 5 0).toInt = (M9Zq.1 5 0).toInt := by rw [h13.1 5 (show ¬ (5 = 21) by omega)]
    have mM12_5_1 : (M12.1 5 1).toInt = (M9Zq.1 5 1).toInt := by rw [h13.1 5 (show ¬ (5 = 21) by omega)]
    refine li_iload_n 0 dX11_things_42 rfl ?_
    exact li_iret dX11_things_43 rfl rfl ⟨⟨_, rfl, (by refine ⟨by first | exact qa | omega, ?_, ?_, ?_⟩ <;> (clear qa; omega))⟩, hf⟩
