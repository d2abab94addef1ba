def li_tn (s : Nat) (c n : Int) : Prop := ∀ k : Int32, 0 ≤ k.toInt → k.toInt < n → ¬ (li_ch s k).toInt = c
theorem li_tn_0 {s : Nat} {c n : Int} (h : n = 0) : li_tn s c n := fun k h0 h1 => absurd h1 (by omega)
theorem li_tn_st {s : Nat} {c n n' : Int} {x : Int32} (a : li_tn s c n) (hx : x.toInt = n) (h : ¬ (li_ch s x).toInt = c) (e : n' = n + 1) : li_tn s c n' := fun k h0 h1 => by
  by_cases d : k.toInt = n
  · rw [Int32.toInt_inj.mp (d.trans hx.symm)]; exact h
  · exact a k h0 (by omega)
theorem k14_J0_charAt {l : Launch} {Z : li_Z} (d : Nat) (hd : 4 ≤ d) {i : Nat} (hi : i < 4) (k : Int32) (h1 : 0 ≤ k.toInt) (h2 : k.toInt < (li_len.getD i 0 : Nat)) (M0 : li_M) : li_Met l Z YJ0_charAt_5068e d [.ref (Z.2.2 (2100 + i)), .int k] M0 (fun r M' => (∃ x : Int32, r = some (.int x) ∧ x = li_ch i k) ∧ li_fr (fun _ => False) M0 M') := li_mono (fun r M' h => ⟨⟨_, h.1, rfl⟩, by rw [h.2]; exact li_fr_refl⟩) (x_J0_charAt d hd hi k h1 h2 M0)
theorem tk_of {k : Int32} {n : Nat} (h0 : 0 ≤ k.toInt) (h1 : k.toInt < (n : Int)) (hn : n < 2147483648) : ∃ j : Nat, j < n ∧ k = nI j := by
  refine ⟨k.toInt.toNat, by omega, Int32.toInt_inj.mp ?_⟩
  rw [nI_toInt (by omega)]
  omega
theorem tk_v0 : ∀ j : Nat, j < 3 → ((li_ch 0 (nI j)).toInt = 60 ∨ (li_ch 0 (nI j)).toInt = 62 ∨ (li_ch 0 (nI j)).toInt = 61) := by decide +kernel
theorem tk_v1 : ∀ j : Nat, j < 2 → ((li_ch 1 (nI j)).toInt = 43 ∨ (li_ch 1 (nI j)).toInt = 45) := by decide +kernel
theorem tk_v2 : ∀ j : Nat, j < 2 → ((li_ch 2 (nI j)).toInt = 42 ∨ (li_ch 2 (nI j)).toInt = 47) := by decide +kernel
theorem tk_v3 : ∀ j : Nat, j < 6 → ((li_ch 3 (nI j)).toInt = 108 ∨ (li_ch 3 (nI j)).toInt = 119 ∨ (li_ch 3 (nI j)).toInt = 115 ∨ (li_ch 3 (nI j)).toInt = 99 ∨ (li_ch 3 (nI j)).toInt = 100 ∨ (li_ch 3 (nI j)).toInt = 104) := by decide +kernel
def tk_C (s : Nat) (c : Int) : Prop := if s = 0 then rp_cmp c else if s = 1 then rp_add c else if s = 2 then rp_mul c else rp_let c
theorem tk_yes {s : Nat} (hs : s < 4) {k : Int32} {c : Int} (h0 : 0 ≤ k.toInt) (h1 : k.toInt < (li_len.getD s 0 : Nat)) (h : (li_ch s k).toInt = c) : tk_C s c := by
  rcases (show s = 0 ∨ s = 1 ∨ s = 2 ∨ s = 3 by omega) with rfl | rfl | rfl | rfl
  · obtain ⟨j, hj, e⟩ := tk_of (n := 3) h0 h1 (by decide)
    have z := tk_v0 j hj
    rw [← e, h] at z
    exact z
  · obtain ⟨j, hj, e⟩ := tk_of (n := 2) h0 h1 (by decide)
    have z := tk_v1 j hj
    rw [← e, h] at z
    exact z
  · obtain ⟨j, hj, e⟩ := tk_of (n := 2) h0 h1 (by decide)
    have z := tk_v2 j hj
    rw [← e, h] at z
    exact z
  · obtain ⟨j, hj, e⟩ := tk_of (n := 6) h0 h1 (by decide)
    have z := tk_v3 j hj
    rw [← e, h] at z
    exact z
theorem tk_no {s : Nat} (hs : s < 4) {c n : Int} (h : li_tn s c n) (hn : n = (li_len.getD s 0 : Nat)) : ¬ tk_C s c := by
  rcases (show s = 0 ∨ s = 1 ∨ s = 2 ∨ s = 3 by omega) with rfl | rfl | rfl | rfl
  · subst hn
    rintro (z | z | z)
    · exact h 0 (by decide) (by decide) (z ▸ (by decide +kernel))
    · exact h 1 (by decide) (by decide) (z ▸ (by decide +kernel))
    · exact h 2 (by decide) (by decide) (z ▸ (by decide +kernel))
  · subst hn
    rintro (z | z)
    · exact h 0 (by decide) (by decide) (z ▸ (by decide +kernel))
    · exact h 1 (by decide) (by decide) (z ▸ (by decide +kernel))
  · subst hn
    rintro (z | z)
    · exact h 0 (by decide) (by decide) (z ▸ (by decide +kernel))
    · exact h 1 (by decide) (by decide) (z ▸ (by decide +kernel))
  · subst hn
    rintro (z | z | z | z | z | z)
    · exact h 0 (by decide) (by decide) (z ▸ (by decide +kernel))
    · exact h 1 (by decide) (by decide) (z ▸ (by decide +kernel))
    · exact h 2 (by decide) (by decide) (z ▸ (by decide +kernel))
    · exact h 3 (by decide) (by decide) (z ▸ (by decide +kernel))
    · exact h 4 (by decide) (by decide) (z ▸ (by decide +kernel))
    · exact h 5 (by decide) (by decide) (z ▸ (by decide +kernel))
theorem tk_nn {s : Nat} (hs : s < 4) {k : Int32} (h0 : 0 ≤ k.toInt) (h1 : k.toInt < (li_len.getD s 0 : Nat)) : 0 ≤ (li_ch s k).toInt := by
  have z := tk_yes hs h0 h1 rfl
  rcases (show s = 0 ∨ s = 1 ∨ s = 2 ∨ s = 3 by omega) with rfl | rfl | rfl | rfl
  · exact rp_cmp_nn z
  · exact rp_add_nn z
  · exact rp_mul_nn z
  · exact rp_let_nn z
theorem rp_to {g : Nat → Int32} {len d p ok q d' p' ok' q' : Int} {k : Nat} (h : rpr g len k d p ok q) (h1 : d' = d) (h2 : p' = p) (h3 : ok' = ok) (h4 : q' = q) : rpr g len k d' p' ok' q' := by
  subst h1; subst h2; subst h3; subst h4; exact h
/-- what the rest of a rule gives, the whole gives -/
def li_rk (g : Nat → Int32) (len : Int) (k0 : Nat) (d0 p0 : Int) (k : Nat) (d p : Int) : Prop := ∀ ok q : Int, rpr g len k d p ok q → rpr g len k0 d0 p0 ok q
theorem rk_2 {g : Nat → Int32} {len d p q : Int} (h : rpr g len 3 d p 1 q) : li_rk g len 1 d p 2 d q := fun ok' q' z => rp_in1 (Or.inr ⟨q, h, z⟩)
theorem rk_4 {g : Nat → Int32} {len d p q : Int} (h : rpr g len 5 d p 1 q) : li_rk g len 3 d p 4 d q := fun ok' q' z => rp_in3 (Or.inr ⟨q, h, z⟩)
theorem rk_1f {g : Nat → Int32} {len d p q : Int} (h : rpr g len 3 d p 0 q) : rpr g len 1 d p 0 q := rp_in1 (Or.inl ⟨h, rfl⟩)
theorem rk_3f {g : Nat → Int32} {len d p q : Int} (h : rpr g len 5 d p 0 q) : rpr g len 3 d p 0 q := rp_in3 (Or.inl ⟨h, rfl⟩)
theorem rk_2e {g : Nat → Int32} {len d0 p0 d p : Int} {k0 : Nat} (h : li_rk g len k0 d0 p0 2 d p) (c : ¬ rp_add (rd_ch g len p)) : rpr g len k0 d0 p0 1 p := h 1 p (rp_in2 (Or.inl ⟨c, rfl, rfl⟩))
theorem rk_4e {g : Nat → Int32} {len d0 p0 d p : Int} {k0 : Nat} (h : li_rk g len k0 d0 p0 4 d p) (c : ¬ rp_mul (rd_ch g len p)) : rpr g len k0 d0 p0 1 p := h 1 p (rp_in4 (Or.inl ⟨c, rfl, rfl⟩))
theorem rk_2f {g : Nat → Int32} {len d0 p0 d p q : Int} {k0 : Nat} (h : li_rk g len k0 d0 p0 2 d p) (c : rp_add (rd_ch g len p)) (z : rpr g len 3 d (p + 1) 0 q) : rpr g len k0 d0 p0 0 q := h 0 q (rp_in2 (Or.inr ⟨c, Or.inl ⟨z, rfl⟩⟩))
theorem rk_4f {g : Nat → Int32} {len d0 p0 d p q : Int} {k0 : Nat} (h : li_rk g len k0 d0 p0 4 d p) (c : rp_mul (rd_ch g len p)) (z : rpr g len 5 d (p + 1) 0 q) : rpr g len k0 d0 p0 0 q := h 0 q (rp_in4 (Or.inr ⟨c, Or.inl ⟨z, rfl⟩⟩))
theorem rk_2s {g : Nat → Int32} {len d0 p0 d p q : Int} {k0 : Nat} (h : li_rk g len k0 d0 p0 2 d p) (c : rp_add (rd_ch g len p)) (z : rpr g len 3 d (p + 1) 1 q) : li_rk g len k0 d0 p0 2 d q := fun ok' q' y => h ok' q' (rp_in2 (Or.inr ⟨c, Or.inr ⟨q, z, y⟩⟩))
theorem rk_4s {g : Nat → Int32} {len d0 p0 d p q : Int} {k0 : Nat} (h : li_rk g len k0 d0 p0 4 d p) (c : rp_mul (rd_ch g len p)) (z : rpr g len 5 d (p + 1) 1 q) : li_rk g len k0 d0 p0 4 d q := fun ok' q' y => h ok' q' (rp_in4 (Or.inr ⟨c, Or.inr ⟨q, z, y⟩⟩))
theorem rk_to {g : Nat → Int32} {len d0 p0 d p p' : Int} {k0 k : Nat} (h : li_rk g len k0 d0 p0 k d p) (e : p' = p) : li_rk g len k0 d0 p0 k d p' := by subst e; exact h
theorem rk_5 {g : Nat → Int32} {len d p : Int} : li_rk g len 5 d p 5 d p := fun _ _ z => z
theorem rk_5s {g : Nat → Int32} {len d0 p0 d p : Int} {k0 : Nat} (h : li_rk g len k0 d0 p0 5 d p) (c : rd_ch g len p = 45) : li_rk g len k0 d0 p0 5 d (p + 1) := fun ok q z => h ok q (rp_in5 (Or.inl ⟨c, z⟩))
theorem rk_5e {g : Nat → Int32} {len d0 p0 d p : Int} {k0 : Nat} (h : li_rk g len k0 d0 p0 5 d p) (c : ¬ rd_ch g len p = 45) : li_rk g len k0 d0 p0 6 d p := fun ok q z => h ok q (rp_in5 (Or.inr ⟨c, z⟩))
theorem rk_end {g : Nat → Int32} {len p : Int} (h : len ≤ p) (c : Int) (hc : 0 ≤ c) : ¬ rd_ch g len p = c := fun z => by
  have := rd_no (g := g) h
  omega
theorem rk_na {g : Nat → Int32} {len p : Int} (h : len ≤ p) : ¬ rp_add (rd_ch g len p) := fun z => by
  have a := rp_add_nn z
  have := rd_no (g := g) h
  omega
theorem rk_nm {g : Nat → Int32} {len p : Int} (h : len ≤ p) : ¬ rp_mul (rd_ch g len p) := fun z => by
  have a := rp_mul_nn z
  have := rd_no (g := g) h
  omega
theorem k14_gt {g : Nat → Int32} {len p r q : Int} (h : li_nq g len 3 (-1) p r q) (hr : 0 ≤ r) : p + 1 ≤ q := by
  by_cases c : 48 ≤ rd_ch g len p ∧ rd_ch g len p ≤ 57
  · have z := li_nq_st h (by decide) c (show (2 : Int) = 3 - 1 by decide) rfl rfl
    have y := rd_nm_ge (g := g) (len := len) (2 : Int).toNat (max (-1) 0 * 10 + (rd_ch g len p - 48)) (p + 1)
    unfold li_nq at z
    rw [z] at y
    exact y
  · have := (li_nq_no h c).1
    omega

set_option maxRecDepth 100000 in
set_option maxHeartbeats 4000000 in
theorem k14_X7_takeAnyOf {l : Launch} {Z : li_Z} (d : Nat) (hd : 5 ≤ d) {s : Nat} (hs : s < 4) (M0 : li_M) (g : Nat → Int32) (hg : M0.1 2 = g) (LN P0 : Int) (hLN : (M0.1 1 1).toInt = LN) (hP0 : (M0.1 1 2).toInt = P0) (h1 : 0 ≤ P0 ∧ P0 ≤ LN ∧ LN ≤ 80) (Psg_M0 : li_sg (M0.1 2)) : li_Met l Z YX7_takeAnyOf d [.ref (Z.2.2 1), .ref (Z.2.2 (2100 + s))] M0 (fun r M' => (∃ x : Int32, r = some (.int x) ∧ (((0 ≤ x.toInt ∧ x.toInt < (li_len.getD s 0 : Nat) ∧ (li_ch s x).toInt = rd_ch g LN P0 ∧ (M'.1 1 2).toInt = P0 + 1 ∧ P0 < LN) ∨ (x.toInt = -1 ∧ li_tn s (rd_ch g LN P0) (li_len.getD s 0 : Nat) ∧ (M'.1 1 2).toInt = P0)) ∧ (M'.1 1 1).toInt = LN)) ∧ li_fr (fun i => i = 1) M0 M') := by
  refine li_enter (by decide +kernel) (Nat.le_of_ble_eq_true rfl) ?_
  show li_T l Z YX7_takeAnyOf d 0 [(0, .ref (Z.2.2 1)), (1, .ref (Z.2.2 (2100 + s)))] [] M0 _
  have hf : li_fr (fun i => i = 1) M0 M0 := li_fr_refl
  refine li_iconst 0 dX7_takeAnyOf_0 (by decide) ?_
  refine li_istore_n [(2, .int 0), (0, .ref (Z.2.2 1)), (1, .ref (Z.2.2 (2100 + s)))] dX7_takeAnyOf_1 (by decide) rfl ?_
  have L2 : ∀ (n : Nat) (x1 : Int32) (M2 : li_M), (2147483647 - (x1 : Int32).toInt).toNat < n → li_fr (fun i => i = 1) M0 M2 → 0 ≤ (x1 : Int32).toInt ∧ (M2.1 1 1).toInt = LN ∧ (M2.1 1 2).toInt = P0 ∧ li_tn s (rd_ch g LN P0) ((x1 : Int32).toInt) ∧ (x1 : Int32).toInt ≤ (li_len.getD s 0 : Nat) → li_sg (M2.1 2)  → li_T l Z YX7_takeAnyOf d 2 [(2, .int x1), (0, .ref (Z.2.2 1)), (1, .ref (Z.2.2 (2100 + s)))] [] M2 (fun r M' => (∃ x : Int32, r = some (.int x) ∧ (((0 ≤ x.toInt ∧ x.toInt < (li_len.getD s 0 : Nat) ∧ (li_ch s x).toInt = rd_ch g LN P0 ∧ (M'.1 1 2).toInt = P0 + 1 ∧ P0 < LN) ∨ (x.toInt = -1 ∧ li_tn s (rd_ch g LN P0) (li_len.getD s 0 : Nat) ∧ (M'.1 1 2).toInt = P0)) ∧ (M'.1 1 1).toInt = LN)) ∧ li_fr (fun i => i = 1) M0 M') := by
    intro n
    induction n with
    | zero => intro x1 M2 hn; exact absurd hn (Nat.not_lt_zero _)
    | succ n ih2 =>
      intro x1 M2 hn hf hi Psg_M2
      have gx1 := tl_rg x1
      obtain ⟨i0, i1, i2, i3, i4⟩ := hi
      refine li_iload_n 0 dX7_takeAnyOf_2 rfl ?_
      refine li_aload_n 2 dX7_takeAnyOf_3 rfl ?_
      refine li_callT (n := 0) (As := []) hs dX7_takeAnyOf_4 (k_J0_length (d - 1) (by omega) hs M2) (by omega) (Nat.le_of_ble_eq_true rfl) rfl w_580 w_581 w_582 w_114 w_583 (by decide +kernel) rfl rfl (Nat.le_of_ble_eq_true rfl) (fun r M4 h5 => ?_)
      obtain ⟨⟨x3, rfl, qx3⟩, h5⟩ := h5
      have gx3 := tl_rg x3
      have hf := li_fr_trans hf h5 (fun i h => False.elim h)
      have mM4_1_1 : (M4.1 1 1).toInt = (M2.1 1 1).toInt := by rw [h5.1 1 id]
      have mM4_1_2 : (M4.1 1 2).toInt = (M2.1 1 2).toInt := by rw [h5.1 1 id]
      have Psg_M4 : li_sg (M4.1 2)  := li_sg_tr (h5.1 2 (fun h => by first | exact (h : False).elim | omega))  Psg_M2
      refine li_icmp_ge 30 dX7_takeAnyOf_7 (by decide) (fun c6 => ?_) (fun c6 => ?_)
      · have tc6 : x3.toInt ≤ x1.toInt := tl_le c6
        have i9 := i3
        have xl9 := qx3
        have xi9 : (x1 : Int32).toInt = (li_len.getD s 0 : Nat) := Int.le_antisymm (by omega) (by omega)
        refine li_iconst (-1) dX7_takeAnyOf_30 (by decide) ?_
        have zm1 : ((-1) : Int32).toInt = -1 := rfl
        exact li_iret dX7_takeAnyOf_31 rfl rfl ⟨⟨_, rfl, (by first | (exact ⟨Or.inl ⟨by omega, by omega, f.1, f.2.1, f.2.2⟩, ln⟩) | (exact ⟨Or.inr ⟨by decide, by rw [← xi9]; exact i9, Int.le_antisymm (by omega) (by omega)⟩, Int.le_antisymm (by omega) (by omega)⟩))⟩, hf⟩
      · have tc6 : x1.toInt < x3.toInt := tl_nle c6
        refine li_aload_n 1 dX7_takeAnyOf_10 rfl ?_
        refine li_aload_n 2 dX7_takeAnyOf_11 rfl ?_
        refine li_iload_n 0 dX7_takeAnyOf_12 rfl ?_
        refine li_callT (n := 1) (As := [.int x1]) hs dX7_takeAnyOf_13 (k14_J0_charAt (d - 1) (by omega) hs x1 (by omega) (by omega) M4) (by omega) (Nat.le_of_ble_eq_true rfl) rfl w_590 w_591 w_592 w_114 w_593 (by decide +kernel) rfl rfl (Nat.le_of_ble_eq_true rfl) (fun r M8 h9 => ?_)
        obtain ⟨⟨x7, rfl, qx7⟩, h9⟩ := h9
        have gx7 := tl_rg x7
        have hf := li_fr_trans hf h9 (fun i h => False.elim h)
        have mM8_1_1 : (M8.1 1 1).toInt = (M4.1 1 1).toInt := by rw [h9.1 1 id]
        have mM8_1_2 : (M8.1 1 2).toInt = (M4.1 1 2).toInt := by rw [h9.1 1 id]
        have Psg_M8 : li_sg (M8.1 2)  := li_sg_tr (h9.1 2 (fun h => by first | exact (h : False).elim | omega))  Psg_M4
        have ex7 := qx7
        have cs : rd_ch (M8.1 2) ((M8.1 1 1).toInt) ((M8.1 1 2).toInt) = rd_ch g LN P0 := by rw [show M8.1 2 = g from ((hf.1 2 (by first | exact id | decide | omega)).trans hg), show (M8.1 1 1).toInt = LN from Int.le_antisymm (by omega) (by omega), show (M8.1 1 2).toInt = P0 from Int.le_antisymm (by omega) (by omega)]
        have rg7 : 0 ≤ x7.toInt := by rw [ex7]; exact tk_nn hs (by omega) (by omega)
        refine li_callV (n := 1) (As := [.int x7]) dX7_takeAnyOf_16 (k5_X7_skip (d - 1) (by omega) x7 M8 ⟨by omega, by omega, by omega⟩ Psg_M8 (by first | decide | omega)) (by omega) (Nat.le_of_ble_eq_true rfl) w_628 w_565 w_566 w_102 w_567 (by decide +kernel) rfl (by decide) sh_1 rfl rfl (Nat.le_of_ble_eq_true rfl) (fun r M11 h12 => ?_)
        obtain ⟨⟨x10, rfl, bx10, qx10⟩, h12⟩ := h12
        have ux10 := tl_b bx10
        have hf := li_fr_trans hf h12 (fun i (h : i = 1) => (show i = 1 by omega))
        have Psg_M11 : li_sg (M11.1 2)  := li_sg_tr (h12.1 2 (fun h => by first | exact (h : False).elim | omega))  Psg_M8
        have ln : (M11.1 1 1).toInt = LN := qx10.2.trans (Int.le_antisymm (by omega) (by omega))
        have qy : li_hd (¬ x10.toInt = 0 → (li_ch s x1).toInt = rd_ch g LN P0 ∧ (M11.1 1 2).toInt = P0 + 1 ∧ P0 < LN) := li_hdI fun h9 => by rcases qx10.1 with c | c; exact ⟨by rw [← ex7, ← cs]; exact c.2.1.symm, c.2.2.2.trans (by omega), by omega⟩; exact absurd c.1 h9
        have qn : li_hd (x10.toInt = 0 → ¬ (li_ch s x1).toInt = rd_ch g LN P0 ∧ (M11.1 1 2).toInt = P0) := li_hdI fun h9 => by rcases qx10.1 with c | c; exact absurd (c.1.symm.trans h9) (by decide); exact ⟨fun h8 => c.2.1 (by rw [cs, ← h8, ex7]), c.2.2.trans (Int.le_antisymm (by omega) (by omega))⟩
        clear qx10
        refine li_if_eq 24 dX7_takeAnyOf_19 (by decide) (fun c13 => ?_) (fun c13 => ?_)
        · have tc13 : x10.toInt = 0 := tl_eq c13
          have e := qn (by assumption)
          clear qy qn
          obtain ⟨x14, ex14⟩ : ∃ y : Int32, y = x1 + 1 := ⟨_, rfl⟩
          have tx14 : (-2147483648 ≤ x1.toInt + 1 ∧ x1.toInt + 1 ≤ 2147483647) → x14.toInt = x1.toInt + 1 := tl_add ex14
          refine li_iinc 0 [(2, .int x14), (0, .ref (Z.2.2 1)), (1, .ref (Z.2.2 (2100 + s)))] x14 dX7_takeAnyOf_24 rfl (by rw [ex14]; rfl) (by decide) rfl ?_
          refine li_goto 2 dX7_takeAnyOf_27 (by decide) ?_
          refine li_pick [0, 1, 2] [(2, .int x14), (0, .ref (Z.2.2 1)), (1, .ref (Z.2.2 (2100 + s)))] rfl ?_
          exact ih2 x14 M11 (by omega) hf ⟨(by omega), (Int.le_antisymm (by omega) (by omega)), (Int.le_antisymm (by omega) (by omega)), (by first | (exact li_tn_st i3 rfl e.1 (Int.le_antisymm (by omega) (by omega))) | (exact li_tn_0 rfl)), (by omega)⟩ (by first | exact li_sg_tr rfl  Psg_M11)
        · have tc13 : ¬ x10.toInt = 0 := tl_ne c13
          have f := qy (by assumption)
          clear qy qn
          refine li_iload_n 0 dX7_takeAnyOf_22 rfl ?_
          exact li_iret dX7_takeAnyOf_23 rfl rfl ⟨⟨_, rfl, (by first | (exact ⟨Or.inl ⟨by omega, by omega, f.1, f.2.1, f.2.2⟩, ln⟩) | (exact ⟨Or.inr ⟨by decide, by rw [← xi9]; exact i9, Int.le_antisymm (by omega) (by omega)⟩, Int.le_antisymm (by omega) (by omega)⟩))⟩, hf⟩
  have z0 : (0 : Int32).toInt = 0 := rfl
  exact L2 _ 0 M0 (Nat.lt_succ_self _) hf ⟨(by omega), (Int.le_antisymm (by omega) (by omega)), (Int.le_antisymm (by omega) (by omega)), (by first | (exact li_tn_st i3 rfl e.1 (Int.le_antisymm (by omega) (by omega))) | (exact li_tn_0 rfl)), (by omega)⟩ (by first | exact li_sg_tr rfl  Psg_M0)
set_option maxRecDepth 100000 in
set_option maxHeartbeats 4000000 in
theorem k14_X6_add {l : Launch} {Z : li_Z} (d : Nat) (hd : 2 ≤ d) (p1 : Int32) (M0 : li_M) (hr : 0 ≤ (M0.1 151 3).toInt ∧ (M0.1 151 3).toInt < 80) : li_Met l Z YX6_add d [.ref (Z.2.2 151), .int p1] M0 (fun r M' => (∃ x : Int32, r = some (.int x) ∧ (x = 0 ∨ x = 1) ∧ (x.toInt = 1 ∧ (M'.1 151 3).toInt = (M0.1 151 3).toInt + 1)) ∧ li_fr (fun i => i = 151 ∨ i = 152) M0 M') := by
  refine li_enter (by decide +kernel) (Nat.le_of_ble_eq_true rfl) ?_
  show li_T l Z YX6_add d 0 [(0, .ref (Z.2.2 151)), (1, .int p1)] [] M0 _
  have hf : li_fr (fun i => i = 151 ∨ i = 152) M0 M0 := li_fr_refl
  have gp1 := tl_rg p1
  refine li_aload_n 0 dX6_add_0 rfl ?_
  refine li_geti (k := 3) (N := 4) (T := TX6) (C0 := RX6) dX6_add_1 (by decide) sh_151 rfl rfl (by decide) li_in6 w_319 ?_
  refine li_top (fun x1 ex1 => ?_)
  have gx1 := tl_rg x1
  have vx1 : x1.toInt = (M0.1 151 3).toInt := tl_eq ex1
  refine li_bipush 80 dX6_add_4 (by decide) ?_
  refine li_icmp_lt 11 dX6_add_6 (by decide) (fun c2 => ?_) (fun c2 => ?_)
  · have tc2 : x1.toInt < 80 := tl_lt c2
    refine li_aload_n 0 dX6_add_11 rfl ?_
    refine li_getr (k := 0) (N := 4) (T := TX6) (C0 := RX6) dX6_add_12 (by decide) sh_151 rfl rfl (by decide) (by decide) li_in6 w_315 ?_
    refine li_aload_n 0 dX6_add_15 rfl ?_
    refine li_geti (k := 3) (N := 4) (T := TX6) (C0 := RX6) dX6_add_16 (by decide) sh_151 rfl rfl (by decide) li_in6 w_319 ?_
    refine li_top (fun x3 ex3 => ?_)
    have gx3 := tl_rg x3
    have vx3 : x3.toInt = (M0.1 151 3).toInt := tl_eq ex3
    have tvx3 : x3.toInt = x1.toInt := tl_eq (ex3.trans ex1.symm)
    refine li_iload_n 1 dX6_add_19 rfl ?_
    refine li_callN (n := 3) (As := [.ref (Z.2.2 152), .int x3, .int p1]) dX6_add_20 (a_X11_put (d - 1) (by omega) (by decide) sh_152 (by decide) x3 p1 M0) (by omega) (Nat.le_of_ble_eq_true rfl) nw_9 w_522 w_101 w_523 (by decide +kernel) rfl rfl (Nat.le_of_ble_eq_true rfl) (fun r M5 h6 => ?_)
    obtain ⟨rfl, h6, nM5⟩ := h6
    have hf := li_fr_trans hf h6 (fun i (h : i = 152) => (show i = 151 ∨ i = 152 by omega))
    have mM5_151_3 : (M5.1 151 3).toInt = (M0.1 151 3).toInt := by rw [h6.1 151 (show ¬ (151 = 152) by first | (simp; done) | omega)]
    refine li_aload_n 0 dX6_add_23 rfl ?_
    refine li_dup dX6_add_24 rfl ?_
    refine li_geti (k := 3) (N := 4) (T := TX6) (C0 := RX6) dX6_add_25 (by decide) sh_151 rfl rfl (by decide) li_in6 w_319 ?_
    refine li_top (fun x7 ex7 => ?_)
    have gx7 := tl_rg x7
    have vx7 : x7.toInt = (M5.1 151 3).toInt := tl_eq ex7
    refine li_iconst 1 dX6_add_28 (by decide) ?_
    refine li_iadd dX6_add_29 ?_
    refine li_top (fun x8 ex8 => ?_)
    have tx8 : (-2147483648 ≤ x7.toInt + 1 ∧ x7.toInt + 1 ≤ 2147483647) → x8.toInt = x7.toInt + 1 := tl_add ex8
    refine li_puti (k := 3) (N := 4) (T := TX6) (C0 := RX6) dX6_add_30 (by decide) sh_151 rfl rfl (by decide) li_in6 tyX6_ok nmX6 rfl rfl rfl rfl w_319 ?_
    refine li_nm (fun M9 eM9 => ?_)
    have hf := li_fr_ui hf (show 151 = 151 ∨ 151 = 152 by omega) eM9
    have mM9_151_3 : (M9.1 151 3).toInt = x8.toInt := by rw [eM9, li_ui_at, if_pos rfl, if_pos rfl]
    have k10 : M9.1 151 3 = x8 := by rw [eM9, li_ui_at, if_pos rfl, if_pos rfl]
    refine li_iconst 1 dX6_add_33 (by decide) ?_
    have z1 : (1 : Int32).toInt = 1 := rfl
    exact li_iret dX6_add_34 rfl (li_nz (Or.inr rfl)) ⟨⟨_, rfl, Or.inr rfl, (by exact ⟨by first | rfl | omega, Int.le_antisymm (by omega) (by omega)⟩)⟩, hf⟩
  · have tc2 : 80 ≤ x1.toInt := tl_nlt c2
    refine li_iconst 0 dX6_add_9 (by decide) ?_
    have z0 : (0 : Int32).toInt = 0 := rfl
    exact li_iret dX6_add_10 rfl (li_nz (Or.inl rfl)) ⟨⟨_, rfl, Or.inl rfl, (by exact ⟨by first | rfl | omega, Int.le_antisymm (by omega) (by omega)⟩)⟩, hf⟩

set_option maxRecDepth 100000 in
set_option maxHeartbeats 4000000 in
theorem k14_X6_addSign {l : Launch} {Z : li_Z} (d : Nat) (hd : 5 ≤ d) {s : Nat} (hs : s < 4) (p1 : Int32) (M0 : li_M) (hr : 0 ≤ (M0.1 151 3).toInt ∧ (M0.1 151 3).toInt < 80) (h2 : 0 ≤ p1.toInt ∧ p1.toInt < (li_len.getD s 0 : Nat)) : li_Met l Z YX6_addSign d [.ref (Z.2.2 151), .ref (Z.2.2 (2100 + s)), .int p1] M0 (fun r M' => (∃ x : Int32, r = some (.int x) ∧ (x = 0 ∨ x = 1) ∧ (x.toInt = 1 ∧ (M'.1 151 3).toInt = (M0.1 151 3).toInt + 1)) ∧ li_fr (fun i => i = 151 ∨ i = 152) M0 M') := by
  refine li_enter (by decide +kernel) (Nat.le_of_ble_eq_true rfl) ?_
  show li_T l Z YX6_addSign d 0 [(0, .ref (Z.2.2 151)), (1, .ref (Z.2.2 (2100 + s))), (2, .int p1)] [] M0 _
  have hf : li_fr (fun i => i = 151 ∨ i = 152) M0 M0 := li_fr_refl
  have gp1 := tl_rg p1
  refine li_iload_n 2 dX6_addSign_0 rfl ?_
  refine li_if_lt 29 dX6_addSign_1 (by decide) (fun c1 => ?_) (fun c1 => ?_)
  · have tc1 : p1.toInt < 0 := tl_lt c1
    refine li_iconst 0 dX6_addSign_29 (by decide) ?_
    have z0 : (0 : Int32).toInt = 0 := rfl
    exact li_iret dX6_addSign_30 rfl (li_nz (Or.inl rfl)) ⟨⟨_, rfl, Or.inl rfl, (by exact ⟨by first | rfl | omega, Int.le_antisymm (by omega) (by omega)⟩)⟩, hf⟩
  · have tc1 : 0 ≤ p1.toInt := tl_nlt c1
    refine li_iload_n 2 dX6_addSign_4 rfl ?_
    refine li_aload_n 1 dX6_addSign_5 rfl ?_
    refine li_callT (n := 0) (As := []) hs dX6_addSign_6 (k_J0_length (d - 1) (by omega) hs M0) (by omega) (Nat.le_of_ble_eq_true rfl) rfl w_649 w_581 w_582 w_114 w_583 (by decide +kernel) rfl rfl (Nat.le_of_ble_eq_true rfl) (fun r M3 h4 => ?_)
    obtain ⟨⟨x2, rfl, qx2⟩, h4⟩ := h4
    have gx2 := tl_rg x2
    have hf := li_fr_trans hf h4 (fun i h => False.elim h)
    have mM3_151_3 : (M3.1 151 3).toInt = (M0.1 151 3).toInt := by rw [h4.1 151 id]
    refine li_icmp_ge 29 dX6_addSign_9 (by decide) (fun c5 => ?_) (fun c5 => ?_)
    · have tc5 : x2.toInt ≤ p1.toInt := tl_le c5
      refine li_iconst 0 dX6_addSign_29 (by decide) ?_
      have z0 : (0 : Int32).toInt = 0 := rfl
      exact li_iret dX6_addSign_30 rfl (li_nz (Or.inl rfl)) ⟨⟨_, rfl, Or.inl rfl, (by exact ⟨by first | rfl | omega, Int.le_antisymm (by omega) (by omega)⟩)⟩, hf⟩
    · have tc5 : p1.toInt < x2.toInt := tl_nle c5
      refine li_aload_n 0 dX6_addSign_12 rfl ?_
      refine li_aload_n 1 dX6_addSign_13 rfl ?_
      refine li_iload_n 2 dX6_addSign_14 rfl ?_
      refine li_callT (n := 1) (As := [.int p1]) hs dX6_addSign_15 (k14_J0_charAt (d - 1) (by omega) hs p1 (by omega) (by omega) M3) (by omega) (Nat.le_of_ble_eq_true rfl) rfl w_650 w_591 w_592 w_114 w_593 (by decide +kernel) rfl rfl (Nat.le_of_ble_eq_true rfl) (fun r M7 h8 => ?_)
      obtain ⟨⟨x6, rfl, qx6⟩, h8⟩ := h8
      have gx6 := tl_rg x6
      have hf := li_fr_trans hf h8 (fun i h => False.elim h)
      have mM7_151_3 : (M7.1 151 3).toInt = (M3.1 151 3).toInt := by rw [h8.1 151 id]
      refine li_ineg dX6_addSign_18 ?_
      refine li_top (fun x9 ex9 => ?_)
      have tx9 : (-2147483648 < x6.toInt) → x9.toInt = -x6.toInt := tl_neg ex9
      refine li_callV (n := 1) (As := [.int x9]) dX6_addSign_19 (k14_X6_add (d - 1) (by omega) x9 M7 ⟨by omega, by omega⟩) (by omega) (Nat.le_of_ble_eq_true rfl) w_629 w_631 w_6 w_107 w_632 (by decide +kernel) rfl (by decide) sh_151 rfl rfl (Nat.le_of_ble_eq_true rfl) (fun r M11 h12 => ?_)
      obtain ⟨⟨x10, rfl, bx10, qx10⟩, h12⟩ := h12
      have ux10 := tl_b bx10
      have hf := li_fr_trans hf h12 (fun i (h : i = 151 ∨ i = 152) => (show i = 151 ∨ i = 152 by omega))
      refine li_if_eq 29 dX6_addSign_22 (by decide) (fun c13 => ?_) (fun c13 => ?_)
      · have tc13 : x10.toInt = 0 := tl_eq c13
        refine li_iconst 0 dX6_addSign_29 (by decide) ?_
        have z0 : (0 : Int32).toInt = 0 := rfl
        exact li_iret dX6_addSign_30 rfl (li_nz (Or.inl rfl)) ⟨⟨_, rfl, Or.inl rfl, (by exact ⟨by first | rfl | omega, Int.le_antisymm (by omega) (by omega)⟩)⟩, hf⟩
      · have tc13 : ¬ x10.toInt = 0 := tl_ne c13
        refine li_iconst 1 dX6_addSign_25 (by decide) ?_
        refine li_goto 30 dX6_addSign_26 (by decide) ?_
        have z1 : (1 : Int32).toInt = 1 := rfl
        exact li_iret dX6_addSign_30 rfl (li_nz (Or.inr rfl)) ⟨⟨_, rfl, Or.inr rfl, (by exact ⟨by first | rfl | omega, Int.le_antisymm (by omega) (by omega)⟩)⟩, hf⟩
