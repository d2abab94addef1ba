def li_wpl (a b j : Int) : Nat := (610 * a + 10 * b + j).toNat
/-- what the table of debates holds, as far as it is laid: who has no more than the other never has the last word; who can afford a turn more has it -/
def li_wq (g : Nat → Int32) (k s m t : Int) : Prop := ∀ a b j : Int, 0 ≤ a → a ≤ 60 → 0 ≤ b → b ≤ 60 → 1 ≤ j → j ≤ 9 → (a + b < s ∨ (a + b = s ∧ (a < m ∨ (a = m ∧ j < t)))) → (a ≤ b → (g (li_wpl a b j)).toInt = 0) ∧ (b + j ≤ a → j ≤ k → (g (li_wpl a b j)).toInt = 1)
theorem li_wq_go {g g' : Nat → Int32} {k k' s s' m m' t t' : Int} (hg : g' = g) (h : li_wq g k s m t) (hk : k' = k) (hd : ∀ a b j : Int, 0 ≤ a → a ≤ 60 → 0 ≤ b → b ≤ 60 → 1 ≤ j → j ≤ 9 → (a + b < s' ∨ (a + b = s' ∧ (a < m' ∨ (a = m' ∧ j < t')))) → (a + b < s ∨ (a + b = s ∧ (a < m ∨ (a = m ∧ j < t))))) : li_wq g' k' s' m' t' := by
  subst hg; subst hk
  exact fun a b j h1 h2 h3 h4 h5 h6 h7 => h a b j h1 h2 h3 h4 h5 h6 (hd a b j h1 h2 h3 h4 h5 h6 h7)
theorem li_wq_tr {g g' : Nat → Int32} {k k' s s' m m' t t' : Int} (hg : g' = g) (hk : k' = k) (hs : s' = s) (hm : m' = m) (ht : t' = t) (h : li_wq g k s m t) : li_wq g' k' s' m' t' := by
  subst hg; subst hk; subst hs; subst hm; subst ht; exact h
theorem li_wq_0 {g : Nat → Int32} {k s m t : Int} (hs : s ≤ 0) (hm : m ≤ 0) (ht : t ≤ 1) : li_wq g k s m t := fun a b j h1 h2 h3 h4 h5 h6 h7 => absurd h7 (by omega)
theorem li_wq_z {g : Nat → Int32} {k s m t : Int} (hg : ∀ i, (g i).toInt = 0) (hk : k ≤ 0) : li_wq g k s m t := fun a b j h1 h2 h3 h4 h5 h6 h7 => ⟨fun _ => hg _, fun _ h => absurd h (by omega)⟩
theorem li_wq_mv {M M' : li_M} (h1 : M'.1 192 = M.1 192) (h2 : (M'.1 175 35).toInt = (M.1 175 35).toInt) (h : li_wq (M.1 192) ((M.1 175 35).toInt) (121) (0) (0)) : li_wq (M'.1 192) ((M'.1 175 35).toInt) (121) (0) (0) := by
  rw [h1, h2]; exact h
theorem li_wq_st {M M' : li_M} {i x : Int32} {k s m t b : Int} (e : M' = li_ui M 192 i.toNatClampNeg x) (hi : i.toInt = 610 * m + 10 * b + t) (hb : b = s - m) (hm : 0 ≤ m ∧ m ≤ 60) (hb2 : 0 ≤ b ∧ b ≤ 60) (ht : 1 ≤ t ∧ t ≤ 9) (hx : (m ≤ b → x.toInt = 0) ∧ (b + t ≤ m → t ≤ k → x.toInt = 1)) (h : li_wq (M.1 192) k s m t) : li_wq (M'.1 192) k s m (t + 1) := by
  have h9 := li_cl (i := i) (by omega)
  subst e
  intro a b' j h1 h2 h3 h4 h5 h6 h7
  have hp : ((li_wpl a b' j : Nat) : Int) = 610 * a + 10 * b' + j := by unfold li_wpl; omega
  rw [li_ui_at, if_pos rfl]
  by_cases c : a = m ∧ b' = b ∧ j = t
  · obtain ⟨c1, c2, c3⟩ := c
    rw [if_pos (by omega), c1, c2, c3]
    exact hx
  · have hne : ¬ li_wpl a b' j = i.toNatClampNeg := by
      intro q
      apply c
      have : j = t := by omega
      have : a = m := by omega
      omega
    rw [if_neg hne]
    exact h a b' j h1 h2 h3 h4 h5 h6 (by omega)
theorem li_wq_ld {g : Nat → Int32} {k s m t : Int} {i x : Int32} {a b j : Int} (h : li_wq g k s m t) (e : x = g i.toNatClampNeg) (hi : i.toInt = 610 * a + 10 * b + j) (ha : 0 ≤ a ∧ a ≤ 60) (hb : 0 ≤ b ∧ b ≤ 60) (hj : 1 ≤ j ∧ j ≤ 9) (hc : a + b < s) : (a ≤ b → x.toInt = 0) ∧ (b + j ≤ a → j ≤ k → x.toInt = 1) := by
  have h9 := li_cl (i := i) (by omega)
  have hp : li_wpl a b j = i.toNatClampNeg := by unfold li_wpl; omega
  rw [e, ← hp]
  exact h a b j ha.1 ha.2 hb.1 hb.2 hj.1 hj.2 (Or.inl hc)

set_option maxRecDepth 100000 in
set_option maxHeartbeats 4000000 in
theorem k4_X12_place {l : Launch} {Z : li_Z} (d : Nat) (hd : 1 ≤ d) (p1 p2 p3 : Int32) (M0 : li_M) (hJ : li_J M0) (h1 : 0 ≤ p1.toInt ∧ p1.toInt ≤ 60) (h2 : 0 ≤ p2.toInt ∧ p2.toInt ≤ 60) (h3 : 0 ≤ p3.toInt ∧ p3.toInt ≤ 9) : li_Met l Z YX12_place d [.int p1, .int p2, .int p3] M0 (fun r M' => (∃ x : Int32, r = some (.int x) ∧ (x.toInt = 610 * p1.toInt + 10 * p2.toInt + p3.toInt)) ∧ li_fs (fun i k => False) M0 M' ∧ li_J M') := by
  refine li_enter (by decide +kernel) (Nat.le_of_ble_eq_true rfl) ?_
  show li_T l Z YX12_place d 0 [(0, .int p1), (1, .int p2), (2, .int p3)] [] M0 _
  have hf : li_fs (fun i k => False) M0 M0 := li_fs_refl
  have gp1 := tl_rg p1
  have gp2 := tl_rg p2
  have gp3 := tl_rg p3
  refine li_bipush 61 dX12_place_0 (by decide) ?_
  refine li_iload_n 0 dX12_place_2 rfl ?_
  refine li_imul dX12_place_3 ?_
  refine li_top (fun x1 ex1 => ?_)
  have z61 : (61 : Int32).toInt = 61 := rfl
  try (have tx1 : x1.toInt = 61 * (p1 : Int32).toInt := tl_mul ex1 (show -2147483648 ≤ 61 * (p1 : Int32).toInt ∧ 61 * (p1 : Int32).toInt ≤ 2147483647 by omega))
  refine li_iload_n 1 dX12_place_4 rfl ?_
  refine li_iadd dX12_place_5 ?_
  refine li_top (fun x2 ex2 => ?_)
  try (have tx2 : x2.toInt = (x1 : Int32).toInt + (p2 : Int32).toInt := tl_add ex2 (by omega))
  refine li_bipush 10 dX12_place_6 (by decide) ?_
  refine li_imul dX12_place_8 ?_
  refine li_top (fun x3 ex3 => ?_)
  have z10 : (10 : Int32).toInt = 10 := rfl
  try (have tx3 : x3.toInt = (x2 : Int32).toInt * 10 := tl_mul ex3 (show -2147483648 ≤ (x2 : Int32).toInt * 10 ∧ (x2 : Int32).toInt * 10 ≤ 2147483647 by omega))
  refine li_iload_n 2 dX12_place_9 rfl ?_
  refine li_iadd dX12_place_10 ?_
  refine li_top (fun x4 ex4 => ?_)
  try (have tx4 : x4.toInt = (x3 : Int32).toInt + (p3 : Int32).toInt := tl_add ex4 (by omega))
  exact li_iret dX12_place_11 rfl rfl ⟨⟨_, rfl, (by first | omega | (intro _; omega) | (refine ⟨?_, ?_⟩ <;> first | omega | (intro _; omega)) | (refine ⟨?_, ?_, ?_, ?_⟩ <;> first | omega | (intro _; omega)))⟩, hf, hJ⟩
set_option maxRecDepth 100000 in
set_option maxHeartbeats 4000000 in
theorem k4_X12_layWins {l : Launch} {Z : li_Z} (d : Nat) (hd : 2 ≤ d) (p1 : Int32) (M0 : li_M) (hJ : li_J M0) (h1 : 1 ≤ p1.toInt ∧ p1.toInt ≤ 9) (kq : Int) (hkq : kq = (M0.1 175 35).toInt) (Pwq_M0 : li_wq (M0.1 192) (kq) (121) (0) (0)) : li_Met l Z YX12_layWins d [.ref (Z.2.2 175), .int p1] M0 (fun r M' => r = none ∧ li_fs (fun i k => i = 192 ∨ (i = 175 ∧ k = 35)) M0 M' ∧ li_J M' ∧ (li_wq (M'.1 192) (p1.toInt) (121) (0) (0) ∧ (M'.1 175 35).toInt = p1.toInt)) := by
  refine li_enter (by decide +kernel) (Nat.le_of_ble_eq_true rfl) ?_
  show li_T l Z YX12_layWins d 0 [(0, .ref (Z.2.2 175)), (1, .int p1)] [] M0 _
  have hf : li_fs (fun i k => i = 192 ∨ (i = 175 ∧ k = 35)) M0 M0 := li_fs_refl
  have gp1 := tl_rg p1
  refine li_aload_n 0 dX12_layWins_0 rfl ?_
  refine li_geti (k := 35) (N := 52) (T := TX12) (C0 := RX12) dX12_layWins_1 (by decide) sh_175 rfl rfl (by decide) li_in12 w_1439 ?_
  refine li_top (fun x1 ex1 => ?_)
  have gx1 := tl_rg x1
  have mx1 : x1.toInt = (M0.1 175 35).toInt := tl_slot ex1
  refine li_iload_n 1 dX12_layWins_4 rfl ?_
  refine li_icmp_ne 9 dX12_layWins_5 (by decide) (fun c2 => ?_) (fun c2 => ?_)
  · have tc2 : ¬ x1.toInt = p1.toInt := tl_ne c2
    refine li_aload_n 0 dX12_layWins_9 rfl ?_
    refine li_iload_n 1 dX12_layWins_10 rfl ?_
    refine li_puti (k := 35) (N := 52) (T := TX12) (C0 := RX12) dX12_layWins_11 (by decide) sh_175 rfl rfl (by decide) li_in12 tyX12_ok nmX12 rfl rfl rfl rfl w_1439 ?_
    refine li_nm (fun M3 eM3 => ?_)
    have hf := li_fs_ui hf (Or.inr (⟨rfl, rfl⟩)) eM3
    have hJ := hJ.put (k := 35) (by decide) (rg_free rfl) eM3
    have mM3_35 : (M3.1 175 35).toInt = p1.toInt := by rw [eM3, li_ui_at, if_pos rfl, if_pos rfl]
    have Pwq_M3 : li_wq (M3.1 192) (kq) (121) (0) (0) := li_wq_tr (li_cell_ui eM3 (by decide)) (by omega) (by omega) (by omega) (by omega) Pwq_M0
    refine li_iconst 0 dX12_layWins_14 (by decide) ?_
    refine li_istore_n [(2, .int 0), (0, .ref (Z.2.2 175)), (1, .int p1)] dX12_layWins_15 (by decide) rfl ?_
    have L16 : ∀ (n : Nat) (x4 : Int32) (M5 : li_M), (121 - (x4 : Int32).toInt).toNat < n → li_fs (fun i k => i = 192 ∨ (i = 175 ∧ k = 35)) M0 M5 → li_J M5 → 0 ≤ (x4 : Int32).toInt ∧ (x4 : Int32).toInt ≤ 121 ∧ (M5.1 175 35).toInt = p1.toInt → li_wq (M5.1 192) (p1.toInt) ((x4 : Int32).toInt) (0) (0) → li_T l Z YX12_layWins d 16 [(2, .int x4), (0, .ref (Z.2.2 175)), (1, .int p1)] [] M5 (fun r M' => r = none ∧ li_fs (fun i k => i = 192 ∨ (i = 175 ∧ k = 35)) M0 M' ∧ li_J M' ∧ (li_wq (M'.1 192) (p1.toInt) (121) (0) (0) ∧ (M'.1 175 35).toInt = p1.toInt)) := by
      intro n
      induction n with
      | zero => intro x4 M5 hn; exact absurd hn (Nat.not_lt_zero _)
      | succ n ih16 =>
        intro x4 M5 hn hf hJ hi Pwq_M5
        have gx4 := tl_rg x4
        refine li_iload_n 0 dX12_layWins_16 rfl ?_
        refine li_bipush 120 dX12_layWins_17 (by decide) ?_
        refine li_icmp_gt 142 dX12_layWins_19 (by decide) (fun c6 => ?_) (fun c6 => ?_)
        · have tc6 : 120 < x4.toInt := tl_lt c6
          exact li_vret dX12_layWins_142 rfl ⟨rfl, hf, hJ, (by first | exact ⟨li_wq_go rfl Pwq_M5 (by omega) (fun a b j h1 h2 h3 h4 h5 h6 h7 => by omega), by omega⟩)⟩
        · have tc6 : x4.toInt ≤ 120 := tl_nlt c6
          refine li_iconst 0 dX12_layWins_22 (by decide) ?_
          refine li_iload_n 0 dX12_layWins_23 rfl ?_
          refine li_bipush 61 dX12_layWins_24 (by decide) ?_
          refine li_isub dX12_layWins_26 ?_
          refine li_top (fun x7 ex7 => ?_)
          have z61 : (61 : Int32).toInt = 61 := rfl
          try (have tx7 : x7.toInt = (x4 : Int32).toInt - (61 : Int32).toInt := tl_sub ex7 (by omega))
          refine li_iconst 1 dX12_layWins_27 (by decide) ?_
          refine li_iadd dX12_layWins_28 ?_
          refine li_top (fun x8 ex8 => ?_)
          have z1 : (1 : Int32).toInt = 1 := rfl
          try (have tx8 : x8.toInt = (x7 : Int32).toInt + (1 : Int32).toInt := tl_add ex8 (by omega))
          refine li_mmax dX12_layWins_29 (by omega) w_1403 w_642 w_113 w_643 (Nat.le_of_ble_eq_true rfl) ?_
          refine li_top (fun x9 ex9 => ?_)
          have z0 : (0 : Int32).toInt = 0 := rfl
          have tx9 := tl_max2 ex9
          refine li_istore_n [(3, .int x9), (2, .int x4), (0, .ref (Z.2.2 175)), (1, .int p1)] dX12_layWins_32 (by decide) rfl ?_
          have L33 : ∀ (n : Nat) (x10 : Int32) (M11 : li_M), (61 - (x10 : Int32).toInt).toNat < n → li_fs (fun i k => i = 192 ∨ (i = 175 ∧ k = 35)) M0 M11 → li_J M11 → 0 ≤ (x10 : Int32).toInt ∧ (x4 : Int32).toInt - 60 ≤ (x10 : Int32).toInt ∧ (M11.1 175 35).toInt = p1.toInt → li_wq (M11.1 192) (p1.toInt) ((x4 : Int32).toInt) ((x10 : Int32).toInt) (0) → li_T l Z YX12_layWins d 33 [(3, .int x10), (2, .int x4), (0, .ref (Z.2.2 175)), (1, .int p1)] [] M11 (fun r M' => r = none ∧ li_fs (fun i k => i = 192 ∨ (i = 175 ∧ k = 35)) M0 M' ∧ li_J M' ∧ (li_wq (M'.1 192) (p1.toInt) (121) (0) (0) ∧ (M'.1 175 35).toInt = p1.toInt)) := by
            intro n
            induction n with
            | zero => intro x10 M11 hn; exact absurd hn (Nat.not_lt_zero _)
            | succ n ih33 =>
              intro x10 M11 hn hf hJ hi Pwq_M11
              have gx10 := tl_rg x10
              refine li_iload_n 0 dX12_layWins_33 rfl ?_
              refine li_iload_n 1 dX12_layWins_34 rfl ?_
              refine li_bipush 60 dX12_layWins_35 (by decide) ?_
              refine li_mmin dX12_layWins_37 (by omega) w_1705 w_726 w_113 w_727 (Nat.le_of_ble_eq_true rfl) ?_
              refine li_top (fun x12 ex12 => ?_)
              have z60 : (60 : Int32).toInt = 60 := rfl
              have tx12 := tl_min2 ex12
              refine li_icmp_gt 136 dX12_layWins_40 (by decide) (fun c13 => ?_) (fun c13 => ?_)
              · have tc13 : x12.toInt < x10.toInt := tl_lt c13
                obtain ⟨x14, ex14⟩ : ∃ y : Int32, y = x4 + 1 := ⟨_, rfl⟩
                have z1 : (1 : Int32).toInt = 1 := rfl
                try (have tx14 : x14.toInt = (x4 : Int32).toInt + (1 : Int32).toInt := tl_add ex14 (by omega))
                refine li_iinc 1 [(2, .int x14), (3, .int x10), (0, .ref (Z.2.2 175)), (1, .int p1)] x14 dX12_layWins_136 rfl (by rw [ex14]; rfl) (by decide) rfl ?_
                refine li_goto 16 dX12_layWins_139 (by decide) ?_
                refine li_pick [0, 2, 3] [(2, .int x14), (0, .ref (Z.2.2 175)), (1, .int p1)] rfl ?_
                exact ih16 x14 M11 (by omega) hf hJ (by omega) (by first | exact li_wq_tr rfl (by omega) (by omega) (by omega) (by omega) Pwq_M11 | exact li_wq_0 (by omega) (by omega) (by omega) | exact li_wq_go rfl Pwq_M11 (by omega) (fun a b j h1 h2 h3 h4 h5 h6 h7 => by omega))
              · have tc13 : x10.toInt ≤ x12.toInt := tl_nlt c13
                refine li_iconst 1 dX12_layWins_43 (by decide) ?_
                refine li_istore [(4, .int 1), (3, .int x10), (2, .int x4), (0, .ref (Z.2.2 175)), (1, .int p1)] dX12_layWins_44 (by decide) rfl ?_
                have L46 : ∀ (n : Nat) (x15 : Int32) (M16 : li_M), (10 - (x15 : Int32).toInt).toNat < n → li_fs (fun i k => i = 192 ∨ (i = 175 ∧ k = 35)) M0 M16 → li_J M16 → 1 ≤ (x15 : Int32).toInt ∧ (x15 : Int32).toInt ≤ 10 ∧ (M16.1 175 35).toInt = p1.toInt → li_wq (M16.1 192) (p1.toInt) ((x4 : Int32).toInt) ((x10 : Int32).toInt) ((x15 : Int32).toInt) → li_T l Z YX12_layWins d 46 [(4, .int x15), (3, .int x10), (2, .int x4), (0, .ref (Z.2.2 175)), (1, .int p1)] [] M16 (fun r M' => r = none ∧ li_fs (fun i k => i = 192 ∨ (i = 175 ∧ k = 35)) M0 M' ∧ li_J M' ∧ (li_wq (M'.1 192) (p1.toInt) (121) (0) (0) ∧ (M'.1 175 35).toInt = p1.toInt)) := by
                  intro n
                  induction n with
                  | zero => intro x15 M16 hn; exact absurd hn (Nat.not_lt_zero _)
                  | succ n ih46 =>
                    intro x15 M16 hn hf hJ hi Pwq_M16
                    have gx15 := tl_rg x15
                    refine li_iload 0 dX12_layWins_46 rfl ?_
                    refine li_bipush 9 dX12_layWins_48 (by decide) ?_
                    refine li_icmp_gt 130 dX12_layWins_50 (by decide) (fun c17 => ?_) (fun c17 => ?_)
                    · have tc17 : 9 < x15.toInt := tl_lt c17
                      obtain ⟨x18, ex18⟩ : ∃ y : Int32, y = x10 + 1 := ⟨_, rfl⟩
                      have z1 : (1 : Int32).toInt = 1 := rfl
                      try (have tx18 : x18.toInt = (x10 : Int32).toInt + (1 : Int32).toInt := tl_add ex18 (by omega))
                      refine li_iinc 1 [(3, .int x18), (4, .int x15), (2, .int x4), (0, .ref (Z.2.2 175)), (1, .int p1)] x18 dX12_layWins_130 rfl (by rw [ex18]; rfl) (by decide) rfl ?_
                      refine li_goto 33 dX12_layWins_133 (by decide) ?_
                      refine li_pick [0, 2, 3, 4] [(3, .int x18), (2, .int x4), (0, .ref (Z.2.2 175)), (1, .int p1)] rfl ?_
                      exact ih33 x18 M16 (by omega) hf hJ (by omega) (by first | exact li_wq_tr rfl (by omega) (by omega) (by omega) (by omega) Pwq_M16 | exact li_wq_0 (by omega) (by omega) (by omega) | exact li_wq_go rfl Pwq_M16 (by omega) (fun a b j h1 h2 h3 h4 h5 h6 h7 => by omega))
                    · have tc17 : x15.toInt ≤ 9 := tl_nlt c17
                      refine li_iconst 0 dX12_layWins_53 (by decide) ?_
                      refine li_istore [(5, .int 0), (4, .int x15), (3, .int x10), (2, .int x4), (0, .ref (Z.2.2 175)), (1, .int p1)] dX12_layWins_54 (by decide) rfl ?_
                      refine li_iload 1 dX12_layWins_56 rfl ?_
                      refine li_istore [(6, .int x15), (5, .int 0), (4, .int x15), (3, .int x10), (2, .int x4), (0, .ref (Z.2.2 175)), (1, .int p1)] dX12_layWins_58 (by decide) rfl ?_
                      have L60 : ∀ (n : Nat) (x19 : Int32) (x20 : Int32) (M21 : li_M), (10 - (x19 : Int32).toInt).toNat < n → li_fs (fun i k => i = 192 ∨ (i = 175 ∧ k = 35)) M0 M21 → li_J M21 → (x15 : Int32).toInt ≤ (x19 : Int32).toInt ∧ ((x20 : Int32).toInt = 0 ∨ (x20 : Int32).toInt = 1) ∧ ((x10 : Int32).toInt ≤ (x4 : Int32).toInt - (x10 : Int32).toInt → (x20 : Int32).toInt = 0) ∧ ((x4 : Int32).toInt - (x10 : Int32).toInt + (x15 : Int32).toInt ≤ (x10 : Int32).toInt → (x15 : Int32).toInt ≤ p1.toInt → (x15 : Int32).toInt < (x19 : Int32).toInt → (x20 : Int32).toInt = 1) ∧ (M21.1 175 35).toInt = p1.toInt → li_wq (M21.1 192) (p1.toInt) ((x4 : Int32).toInt) ((x10 : Int32).toInt) ((x15 : Int32).toInt) → li_T l Z YX12_layWins d 60 [(6, .int x19), (5, .int x20), (4, .int x15), (3, .int x10), (2, .int x4), (0, .ref (Z.2.2 175)), (1, .int p1)] [] M21 (fun r M' => r = none ∧ li_fs (fun i k => i = 192 ∨ (i = 175 ∧ k = 35)) M0 M' ∧ li_J M' ∧ (li_wq (M'.1 192) (p1.toInt) (121) (0) (0) ∧ (M'.1 175 35).toInt = p1.toInt)) := by
                        intro n
                        induction n with
                        | zero => intro x19 x20 M21 hn; exact absurd hn (Nat.not_lt_zero _)
                        | succ n ih60 =>
                          intro x19 x20 M21 hn hf hJ hi Pwq_M21
                          have gx19 := tl_rg x19
                          have gx20 := tl_rg x20
                          refine li_iload 0 dX12_layWins_60 rfl ?_
                          refine li_iload_n 6 dX12_layWins_62 rfl ?_
                          refine li_iload_n 3 dX12_layWins_63 rfl ?_
                          refine li_mmin dX12_layWins_64 (by omega) w_1705 w_726 w_113 w_727 (Nat.le_of_ble_eq_true rfl) ?_
                          refine li_top (fun x22 ex22 => ?_)
                          have tx22 := tl_min2 ex22
                          refine li_icmp_gt 108 dX12_layWins_67 (by decide) (fun c23 => ?_) (fun c23 => ?_)
                          · have tc23 : x22.toInt < x19.toInt := tl_lt c23
                            refine li_aload_n 5 dX12_layWins_108 rfl ?_
                            refine li_getr (k := 34) (N := 52) (T := TX12) (C0 := RX12) dX12_layWins_109 (by decide) sh_175 rfl rfl (by decide) (by decide) li_in12 w_1438 ?_
                            refine li_iload_n 3 dX12_layWins_112 rfl ?_
                            refine li_iload_n 4 dX12_layWins_113 rfl ?_
                            refine li_iload_n 3 dX12_layWins_114 rfl ?_
                            refine li_isub dX12_layWins_115 ?_
                            refine li_top (fun x24 ex24 => ?_)
                            try (have tx24 : x24.toInt = (x4 : Int32).toInt - (x10 : Int32).toInt := tl_sub ex24 (by omega))
                            refine li_iload 2 dX12_layWins_116 rfl ?_
                            refine li_callS (n := 3) (As := [.int x10, .int x24, .int x15]) dX12_layWins_118 (k4_X12_place (d - 1) (by omega) x10 x24 x15 M21 hJ (by omega) (by omega) (by omega)) (by omega) (Nat.le_of_ble_eq_true rfl) w_1895 w_1896 w_112 w_1897 (by decide +kernel) rfl rfl (Nat.le_of_ble_eq_true rfl) (fun r M26 h27 => ?_)
                            obtain ⟨⟨x25, rfl, qx25⟩, h27, jM26⟩ := h27
                            have gx25 := tl_rg x25
                            have hf := li_fs_trans hf h27 (fun i k h => False.elim h)
                            have hJ := jM26
                            have mM26_35 : (M26.1 175 35).toInt = (M21.1 175 35).toInt := tl_slot (h27.1 175 35 id)
                            have Pwq_M26 : li_wq (M26.1 192) (p1.toInt) ((x4 : Int32).toInt) ((x10 : Int32).toInt) ((x15 : Int32).toInt) := li_wq_tr (funext fun i => h27.1 192 i id) (by omega) (by omega) (by omega) (by omega) Pwq_M21
                            refine li_iload 1 dX12_layWins_121 rfl ?_
                            refine li_zast dX12_layWins_123 (by decide) sh_192 (tl_in (by omega)) (tl_bz (by omega)) ?_
                            refine li_nm (fun M28 eM28 => ?_)
                            have hf := li_fs_ui hf (Or.inl rfl) eM28
                            have hJ := hJ.st (by decide) (li_el_free (by unfold li_led; omega) (by decide) (by decide) (by unfold li_rq; omega)) eM28
                            have mM28_35 : (M28.1 175 35).toInt = (M26.1 175 35).toInt := by rw [eM28, li_ui_at, if_neg (by decide)]
                            have Pwq_M28 : li_wq (M28.1 192) (p1.toInt) ((x4 : Int32).toInt) ((x10 : Int32).toInt) ((x15 : Int32).toInt + 1) := li_wq_st (b := (x4 : Int32).toInt - (x10 : Int32).toInt) eM28 (by omega) (by omega) (by omega) (by omega) (by omega) ⟨fun h9 => by omega, fun h9 h8 => by omega⟩ Pwq_M26
                            obtain ⟨x29, ex29⟩ : ∃ y : Int32, y = x15 + 1 := ⟨_, rfl⟩
                            have z1 : (1 : Int32).toInt = 1 := rfl
                            try (have tx29 : x29.toInt = (x15 : Int32).toInt + (1 : Int32).toInt := tl_add ex29 (by omega))
                            refine li_iinc 2 [(4, .int x29), (6, .int x19), (5, .int x20), (3, .int x10), (2, .int x4), (0, .ref (Z.2.2 175)), (1, .int p1)] x29 dX12_layWins_124 rfl (by rw [ex29]; rfl) (by decide) rfl ?_
                            refine li_goto 46 dX12_layWins_127 (by decide) ?_
                            refine li_pick [0, 3, 4, 5, 6] [(4, .int x29), (3, .int x10), (2, .int x4), (0, .ref (Z.2.2 175)), (1, .int p1)] rfl ?_
                            exact ih46 x29 M28 (by omega) hf hJ (by omega) (by first | exact li_wq_tr rfl (by omega) (by omega) (by omega) (by omega) Pwq_M28 | exact li_wq_0 (by omega) (by omega) (by omega) | exact li_wq_go rfl Pwq_M28 (by omega) (fun a b j h1 h2 h3 h4 h5 h6 h7 => by omega))
                          · have tc23 : x19.toInt ≤ x22.toInt := tl_nlt c23
                            refine li_iload 1 dX12_layWins_70 rfl ?_
                            have J100 : ∀ (x31 : Int32) (M32 : li_M), li_fs (fun i k => i = 192 ∨ (i = 175 ∧ k = 35)) M0 M32 → li_J M32 → ((x31 : Int32).toInt = 0 ∨ (x31 : Int32).toInt = 1) ∧ ((x10 : Int32).toInt ≤ (x4 : Int32).toInt - (x10 : Int32).toInt → (x31 : Int32).toInt = 0) ∧ ((x4 : Int32).toInt - (x10 : Int32).toInt + (x15 : Int32).toInt ≤ (x10 : Int32).toInt → (x15 : Int32).toInt ≤ p1.toInt → (x31 : Int32).toInt = 1) ∧ (M32.1 175 35).toInt = p1.toInt → li_wq (M32.1 192) (p1.toInt) ((x4 : Int32).toInt) ((x10 : Int32).toInt) ((x15 : Int32).toInt) → li_T l Z YX12_layWins d 100 [(6, .int x19), (5, .int x20), (4, .int x15), (3, .int x10), (2, .int x4), (0, .ref (Z.2.2 175)), (1, .int p1)] [.int x31] M32 (fun r M' => r = none ∧ li_fs (fun i k => i = 192 ∨ (i = 175 ∧ k = 35)) M0 M' ∧ li_J M' ∧ (li_wq (M'.1 192) (p1.toInt) (121) (0) (0) ∧ (M'.1 175 35).toInt = p1.toInt)) := by
                              intro x31 M32 hf hJ hi Pwq_M32
                              have gx31 := tl_rg x31
                              refine li_istore [(5, .int x31), (6, .int x19), (4, .int x15), (3, .int x10), (2, .int x4), (0, .ref (Z.2.2 175)), (1, .int p1)] dX12_layWins_100 (by decide) rfl ?_
                              obtain ⟨x33, ex33⟩ : ∃ y : Int32, y = x19 + 1 := ⟨_, rfl⟩
                              have z1 : (1 : Int32).toInt = 1 := rfl
                              try (have tx33 : x33.toInt = (x19 : Int32).toInt + (1 : Int32).toInt := tl_add ex33 (by omega))
                              refine li_iinc 1 [(6, .int x33), (5, .int x31), (4, .int x15), (3, .int x10), (2, .int x4), (0, .ref (Z.2.2 175)), (1, .int p1)] x33 dX12_layWins_102 rfl (by rw [ex33]; rfl) (by decide) rfl ?_
                              refine li_goto 60 dX12_layWins_105 (by decide) ?_
                              refine li_pick [0, 1, 2, 3, 4, 5, 6] [(6, .int x33), (5, .int x31), (4, .int x15), (3, .int x10), (2, .int x4), (0, .ref (Z.2.2 175)), (1, .int p1)] rfl ?_
                              exact ih60 x33 x31 M32 (by omega) hf hJ (by omega) (by first | exact li_wq_tr rfl (by omega) (by omega) (by omega) (by omega) Pwq_M32 | exact li_wq_0 (by omega) (by omega) (by omega) | exact li_wq_go rfl Pwq_M32 (by omega) (fun a b j h1 h2 h3 h4 h5 h6 h7 => by omega))
                            refine li_if_ne 95 dX12_layWins_72 (by decide) (fun c30 => ?_) (fun c30 => ?_)
                            · have tc30 : ¬ x20.toInt = 0 := tl_ne c30
                              refine li_iconst 1 dX12_layWins_95 (by decide) ?_
                              refine li_goto 100 dX12_layWins_96 (by decide) ?_
                              refine li_pick [0, 1, 2, 3, 4, 5, 6] [(6, .int x19), (5, .int x20), (4, .int x15), (3, .int x10), (2, .int x4), (0, .ref (Z.2.2 175)), (1, .int p1)] rfl ?_
                              have z1 : (1 : Int32).toInt = 1 := rfl
                              exact J100 1 M21 hf hJ (by omega) (by first | exact li_wq_tr rfl (by omega) (by omega) (by omega) (by omega) Pwq_M21 | exact li_wq_0 (by omega) (by omega) (by omega) | exact li_wq_go rfl Pwq_M21 (by omega) (fun a b j h1 h2 h3 h4 h5 h6 h7 => by omega))
                            · have tc30 : x20.toInt = 0 := tl_eq c30
                              refine li_aload_n 5 dX12_layWins_75 rfl ?_
                              refine li_getr (k := 34) (N := 52) (T := TX12) (C0 := RX12) dX12_layWins_76 (by decide) sh_175 rfl rfl (by decide) (by decide) li_in12 w_1438 ?_
                              refine li_iload_n 4 dX12_layWins_79 rfl ?_
                              refine li_iload_n 3 dX12_layWins_80 rfl ?_
                              refine li_isub dX12_layWins_81 ?_
                              refine li_top (fun x34 ex34 => ?_)
                              try (have tx34 : x34.toInt = (x4 : Int32).toInt - (x10 : Int32).toInt := tl_sub ex34 (by omega))
                              refine li_iload_n 3 dX12_layWins_82 rfl ?_
                              refine li_iload 0 dX12_layWins_83 rfl ?_
                              refine li_isub dX12_layWins_85 ?_
                              refine li_top (fun x35 ex35 => ?_)
                              try (have tx35 : x35.toInt = (x10 : Int32).toInt - (x19 : Int32).toInt := tl_sub ex35 (by omega))
                              refine li_iload 0 dX12_layWins_86 rfl ?_
                              refine li_callS (n := 3) (As := [.int x34, .int x35, .int x19]) dX12_layWins_88 (k4_X12_place (d - 1) (by omega) x34 x35 x19 M21 hJ (by omega) (by omega) (by omega)) (by omega) (Nat.le_of_ble_eq_true rfl) w_1895 w_1896 w_112 w_1897 (by decide +kernel) rfl rfl (Nat.le_of_ble_eq_true rfl) (fun r M37 h38 => ?_)
                              obtain ⟨⟨x36, rfl, qx36⟩, h38, jM37⟩ := h38
                              have gx36 := tl_rg x36
                              have hf := li_fs_trans hf h38 (fun i k h => False.elim h)
                              have hJ := jM37
                              have mM37_35 : (M37.1 175 35).toInt = (M21.1 175 35).toInt := tl_slot (h38.1 175 35 id)
                              have Pwq_M37 : li_wq (M37.1 192) (p1.toInt) ((x4 : Int32).toInt) ((x10 : Int32).toInt) ((x15 : Int32).toInt) := li_wq_tr (funext fun i => h38.1 192 i id) (by omega) (by omega) (by omega) (by omega) Pwq_M21
                              refine li_zald dX12_layWins_91 (by decide) sh_192 (tl_in (by omega)) ?_
                              refine li_top (fun x39 ex39 => ?_)
                              have gx39 := tl_rg x39
                              have wx39 := li_wq_ld (a := (x4 : Int32).toInt - (x10 : Int32).toInt) (b := (x10 : Int32).toInt - (x19 : Int32).toInt) (j := (x19 : Int32).toInt) Pwq_M37 ex39 (by omega) (by omega) (by omega) (by omega) (by omega)
                              refine li_if_ne 99 dX12_layWins_92 (by decide) (fun c40 => ?_) (fun c40 => ?_)
                              · have tc40 : ¬ x39.toInt = 0 := tl_ne c40
                                refine li_iconst 0 dX12_layWins_99 (by decide) ?_
                                refine li_pick [0, 1, 2, 3, 4, 5, 6] [(6, .int x19), (5, .int x20), (4, .int x15), (3, .int x10), (2, .int x4), (0, .ref (Z.2.2 175)), (1, .int p1)] rfl ?_
                                have z0 : (0 : Int32).toInt = 0 := rfl
                                exact J100 0 M37 hf hJ (by omega) (by first | exact li_wq_tr rfl (by omega) (by omega) (by omega) (by omega) Pwq_M37 | exact li_wq_0 (by omega) (by omega) (by omega) | exact li_wq_go rfl Pwq_M37 (by omega) (fun a b j h1 h2 h3 h4 h5 h6 h7 => by omega))
                              · have tc40 : x39.toInt = 0 := tl_eq c40
                                refine li_iconst 1 dX12_layWins_95 (by decide) ?_
                                refine li_goto 100 dX12_layWins_96 (by decide) ?_
                                refine li_pick [0, 1, 2, 3, 4, 5, 6] [(6, .int x19), (5, .int x20), (4, .int x15), (3, .int x10), (2, .int x4), (0, .ref (Z.2.2 175)), (1, .int p1)] rfl ?_
                                have z1 : (1 : Int32).toInt = 1 := rfl
                                exact J100 1 M37 hf hJ (by omega) (by first | exact li_wq_tr rfl (by omega) (by omega) (by omega) (by omega) Pwq_M37 | exact li_wq_0 (by omega) (by omega) (by omega) | exact li_wq_go rfl Pwq_M37 (by omega) (fun a b j h1 h2 h3 h4 h5 h6 h7 => by omega))
                      have z0 : (0 : Int32).toInt = 0 := rfl
                      exact L60 _ x15 0 M16 (Nat.lt_succ_self _) hf hJ (by omega) (by first | exact li_wq_tr rfl (by omega) (by omega) (by omega) (by omega) Pwq_M16 | exact li_wq_0 (by omega) (by omega) (by omega) | exact li_wq_go rfl Pwq_M16 (by omega) (fun a b j h1 h2 h3 h4 h5 h6 h7 => by omega))
                have z1 : (1 : Int32).toInt = 1 := rfl
                exact L46 _ 1 M11 (Nat.lt_succ_self _) hf hJ (by omega) (by first | exact li_wq_tr rfl (by omega) (by omega) (by omega) (by omega) Pwq_M11 | exact li_wq_0 (by omega) (by omega) (by omega) | exact li_wq_go rfl Pwq_M11 (by omega) (fun a b j h1 h2 h3 h4 h5 h6 h7 => by omega))
          exact L33 _ x9 M5 (Nat.lt_succ_self _) hf hJ (by omega) (by first | exact li_wq_tr rfl (by omega) (by omega) (by omega) (by omega) Pwq_M5 | exact li_wq_0 (by omega) (by omega) (by omega) | exact li_wq_go rfl Pwq_M5 (by omega) (fun a b j h1 h2 h3 h4 h5 h6 h7 => by omega))
    have z0 : (0 : Int32).toInt = 0 := rfl
    exact L16 _ 0 M3 (Nat.lt_succ_self _) hf hJ (by omega) (by first | exact li_wq_tr rfl (by omega) (by omega) (by omega) (by omega) Pwq_M3 | exact li_wq_0 (by omega) (by omega) (by omega) | exact li_wq_go rfl Pwq_M3 (by omega) (fun a b j h1 h2 h3 h4 h5 h6 h7 => by omega))
  · have tc2 : x1.toInt = p1.toInt := tl_eq c2
    exact li_vret dX12_layWins_8 rfl ⟨rfl, hf, hJ, (by first | exact ⟨li_wq_go rfl Pwq_M0 (by omega) (fun a b j h1 h2 h3 h4 h5 h6 h7 => by omega), by omega⟩)⟩

set_option maxRecDepth 100000 in
set_option maxHeartbeats 4000000 in
theorem k4_X12_debate {l : Launch} {Z : li_Z} (d : Nat) (hd : 3 ≤ d) (p1 p2 p3 : Int32) (M0 : li_M) (hJ : li_J M0) (Pwq_M0 : li_wq (M0.1 192) ((M0.1 175 35).toInt) (121) (0) (0)) : li_Met l Z YX12_debate d [.ref (Z.2.2 175), .int p1, .int p2, .int p3] M0 (fun r M' => (∃ x : Int32, r = some (.int x) ∧ ((x.toInt = -1 ∧ ¬ (0 ≤ p1.toInt ∧ p1.toInt ≤ 60 ∧ 0 ≤ p2.toInt ∧ p2.toInt ≤ 60 ∧ 1 ≤ p3.toInt ∧ p3.toInt ≤ 9)) ∨ ((0 ≤ p1.toInt ∧ p1.toInt ≤ 60 ∧ 0 ≤ p2.toInt ∧ p2.toInt ≤ 60 ∧ 1 ≤ p3.toInt ∧ p3.toInt ≤ 9) ∧ (p2.toInt < p1.toInt → x.toInt = 1) ∧ (p1.toInt ≤ p2.toInt → x.toInt = 0)))) ∧ li_fs (fun i k => i = 181 ∨ i = 192 ∨ (i = 175 ∧ k = 10) ∨ (i = 175 ∧ k = 35) ∨ (i = 175 ∧ k = 9)) M0 M' ∧ li_J M' ∧ (li_wq (M'.1 192) ((M'.1 175 35).toInt) (121) (0) (0))) := by
  refine li_enter (by decide +kernel) (Nat.le_of_ble_eq_true rfl) ?_
  show li_T l Z YX12_debate d 0 [(0, .ref (Z.2.2 175)), (1, .int p1), (2, .int p2), (3, .int p3)] [] M0 _
  have hf : li_fs (fun i k => i = 181 ∨ i = 192 ∨ (i = 175 ∧ k = 10) ∨ (i = 175 ∧ k = 35) ∨ (i = 175 ∧ k = 9)) M0 M0 := li_fs_refl
  have gp1 := tl_rg p1
  have gp2 := tl_rg p2
  have gp3 := tl_rg p3
  have rM0_9 := J_sl9 (M := M0) hJ
  refine li_aload_n 0 dX12_debate_0 rfl ?_
  refine li_iconst 0 dX12_debate_1 (by decide) ?_
  refine li_puti (k := 10) (N := 52) (T := TX12) (C0 := RX12) dX12_debate_2 (by decide) sh_175 rfl rfl (by decide) li_in12 tyX12_ok nmX12 rfl rfl rfl rfl w_1414 ?_
  refine li_nm (fun M1 eM1 => ?_)
  have hf := li_fs_ui hf (Or.inr (Or.inr (Or.inl ⟨rfl, rfl⟩))) eM1
  have z0 : (0 : Int32).toInt = 0 := rfl
  have hJ := hJ.put (k := 10) (by decide) (rg_free rfl) eM1
  have rM1_9 := J_sl9 (M := M1) hJ
  have mM1_9 : (M1.1 175 9).toInt = (M0.1 175 9).toInt := by rw [eM1, li_ui_at, if_pos rfl, if_neg (by decide)]
  have mM1_35 : (M1.1 175 35).toInt = (M0.1 175 35).toInt := by rw [eM1, li_ui_at, if_pos rfl, if_neg (by decide)]
  have Pwq_M1 : li_wq (M1.1 192) ((M1.1 175 35).toInt) (121) (0) (0) := li_wq_tr (li_cell_ui eM1 (by decide)) (by omega) (by omega) (by omega) (by omega) Pwq_M0
  refine li_iload_n 1 dX12_debate_5 rfl ?_
  refine li_callS (n := 1) (As := [.int p1]) dX12_debate_6 (k_X12_isLeft (d - 1) (by omega) p1 M1 hJ ) (by omega) (Nat.le_of_ble_eq_true rfl) w_1888 w_1889 w_112 w_1890 (by decide +kernel) rfl rfl (Nat.le_of_ble_eq_true rfl) (fun r M3 h4 => ?_)
  obtain ⟨qx2, h4, jM3⟩ := h4
  have hf := li_fs_trans hf h4 (fun i k h => False.elim h)
  have hJ := jM3
  have rM3_9 := J_sl9 (M := M3) hJ
  have mM3_9 : (M3.1 175 9).toInt = (M1.1 175 9).toInt := tl_slot (h4.1 175 9 id)
  have mM3_35 : (M3.1 175 35).toInt = (M1.1 175 35).toInt := tl_slot (h4.1 175 35 id)
  have Pwq_M3 : li_wq (M3.1 192) ((M3.1 175 35).toInt) (121) (0) (0) := li_wq_tr (funext fun i => h4.1 192 i id) (by omega) (by omega) (by omega) (by omega) Pwq_M1
  rcases qx2 with ⟨rfl, qx2⟩ | ⟨rfl, qx2⟩
  · skip
    refine li_if_eq 29 dX12_debate_9 (by decide) (fun c => absurd c (by decide)) (fun c => ?_)
    refine li_iload_n 2 dX12_debate_12 rfl ?_
    refine li_callS (n := 1) (As := [.int p2]) dX12_debate_13 (k_X12_isLeft (d - 1) (by omega) p2 M3 hJ ) (by omega) (Nat.le_of_ble_eq_true rfl) w_1888 w_1889 w_112 w_1890 (by decide +kernel) rfl rfl (Nat.le_of_ble_eq_true rfl) (fun r M7 h8 => ?_)
    obtain ⟨qx6, h8, jM7⟩ := h8
    have hf := li_fs_trans hf h8 (fun i k h => False.elim h)
    have hJ := jM7
    have rM7_9 := J_sl9 (M := M7) hJ
    have mM7_9 : (M7.1 175 9).toInt = (M3.1 175 9).toInt := tl_slot (h8.1 175 9 id)
    have mM7_35 : (M7.1 175 35).toInt = (M3.1 175 35).toInt := tl_slot (h8.1 175 35 id)
    have Pwq_M7 : li_wq (M7.1 192) ((M7.1 175 35).toInt) (121) (0) (0) := li_wq_tr (funext fun i => h8.1 192 i id) (by omega) (by omega) (by omega) (by omega) Pwq_M3
    rcases qx6 with ⟨rfl, qx6⟩ | ⟨rfl, qx6⟩
    · skip
      refine li_if_eq 29 dX12_debate_16 (by decide) (fun c => absurd c (by decide)) (fun c => ?_)
      refine li_iload_n 3 dX12_debate_19 rfl ?_
      refine li_iconst 1 dX12_debate_20 (by decide) ?_
      refine li_bipush 9 dX12_debate_21 (by decide) ?_
      have z1 : (1 : Int32).toInt = 1 := rfl
      have z9 : (9 : Int32).toInt = 9 := rfl
      refine li_callS (n := 3) (As := [.int p3, .int 1, .int 9]) dX12_debate_23 (k_X12_in (d - 1) (by omega) p3 1 9 M7 hJ ) (by omega) (Nat.le_of_ble_eq_true rfl) w_1574 w_1575 w_112 w_1576 (by decide +kernel) rfl rfl (Nat.le_of_ble_eq_true rfl) (fun r M11 h12 => ?_)
      obtain ⟨qx10, h12, jM11⟩ := h12
      have hf := li_fs_trans hf h12 (fun i k h => False.elim h)
      have hJ := jM11
      have rM11_9 := J_sl9 (M := M11) hJ
      have mM11_9 : (M11.1 175 9).toInt = (M7.1 175 9).toInt := tl_slot (h12.1 175 9 id)
      have mM11_35 : (M11.1 175 35).toInt = (M7.1 175 35).toInt := tl_slot (h12.1 175 35 id)
      have Pwq_M11 : li_wq (M11.1 192) ((M11.1 175 35).toInt) (121) (0) (0) := li_wq_tr (funext fun i => h12.1 192 i id) (by omega) (by omega) (by omega) (by omega) Pwq_M7
      rcases qx10 with ⟨rfl, qx10⟩ | ⟨rfl, qx10⟩
      · skip
        refine li_if_ne 31 dX12_debate_26 (by decide) (fun c => ?_) (fun c => absurd c (by decide))
        refine li_aload_n 0 dX12_debate_31 rfl ?_
        refine li_iload_n 3 dX12_debate_32 rfl ?_
        refine li_callV (n := 1) (As := [.int p3]) dX12_debate_33 (k4_X12_layWins (d - 1) (by omega) p3 M11 hJ (by omega) _ rfl Pwq_M11) (by omega) (Nat.le_of_ble_eq_true rfl) w_1891 w_1893 w_92 w_112 w_1894 (by decide +kernel) rfl (by decide) sh_175 rfl rfl (Nat.le_of_ble_eq_true rfl) (fun r M15 h16 => ?_)
        obtain ⟨rfl, h16, jM15, nM15⟩ := h16
        have hf := li_fs_trans hf h16 (fun i k => fun h => Or.elim h (fun h => Or.inr (Or.inl h)) (fun h => Or.inr (Or.inr (Or.inr (Or.inl h)))))
        have hJ := jM15
        have rM15_9 := J_sl9 (M := M15) hJ
        have mM15_9 : (M15.1 175 9).toInt = (M11.1 175 9).toInt := tl_slot (h16.1 175 9 (show ¬ (175 = 192 ∨ (175 = 175 ∧ 9 = 35)) by decide))
        have Pwq_M15 : li_wq (M15.1 192) ((M15.1 175 35).toInt) (121) (0) (0) := li_wq_go rfl nM15.1 (by omega) (fun a b j h1 h2 h3 h4 h5 h6 h7 => by omega)
        refine li_iconst 1 dX12_debate_36 (by decide) ?_
        refine li_istore [(4, .int 1), (0, .ref (Z.2.2 175)), (1, .int p1), (2, .int p2), (3, .int p3)] dX12_debate_37 (by decide) rfl ?_
        have L39 : ∀ (n : Nat) (x17 : Int32) (M18 : li_M), (10 - (x17 : Int32).toInt).toNat < n → li_fs (fun i k => i = 181 ∨ i = 192 ∨ (i = 175 ∧ k = 10) ∨ (i = 175 ∧ k = 35) ∨ (i = 175 ∧ k = 9)) M0 M18 → li_J M18 → 1 ≤ (x17 : Int32).toInt ∧ (p2.toInt < p1.toInt → (x17 : Int32).toInt = 1) ∧ (M18.1 175 35).toInt = p3.toInt → li_wq (M18.1 192) (p3.toInt) (121) (0) (0) → li_T l Z YX12_debate d 39 [(4, .int x17), (0, .ref (Z.2.2 175)), (1, .int p1), (2, .int p2), (3, .int p3)] [] M18 (fun r M' => (∃ x : Int32, r = some (.int x) ∧ ((x.toInt = -1 ∧ ¬ (0 ≤ p1.toInt ∧ p1.toInt ≤ 60 ∧ 0 ≤ p2.toInt ∧ p2.toInt ≤ 60 ∧ 1 ≤ p3.toInt ∧ p3.toInt ≤ 9)) ∨ ((0 ≤ p1.toInt ∧ p1.toInt ≤ 60 ∧ 0 ≤ p2.toInt ∧ p2.toInt ≤ 60 ∧ 1 ≤ p3.toInt ∧ p3.toInt ≤ 9) ∧ (p2.toInt < p1.toInt → x.toInt = 1) ∧ (p1.toInt ≤ p2.toInt → x.toInt = 0)))) ∧ li_fs (fun i k => i = 181 ∨ i = 192 ∨ (i = 175 ∧ k = 10) ∨ (i = 175 ∧ k = 35) ∨ (i = 175 ∧ k = 9)) M0 M' ∧ li_J M' ∧ (li_wq (M'.1 192) ((M'.1 175 35).toInt) (121) (0) (0))) := by
          intro n
          induction n with
          | zero => intro x17 M18 hn; exact absurd hn (Nat.not_lt_zero _)
          | succ n ih39 =>
            intro x17 M18 hn hf hJ hi Pwq_M18
            have gx17 := tl_rg x17
            have rM18_9 := J_sl9 (M := M18) hJ
            refine li_iload 0 dX12_debate_39 rfl ?_
            refine li_iload_n 4 dX12_debate_41 rfl ?_
            refine li_iload_n 2 dX12_debate_42 rfl ?_
            refine li_mmin dX12_debate_43 (by omega) w_1705 w_726 w_113 w_727 (Nat.le_of_ble_eq_true rfl) ?_
            refine li_top (fun x19 ex19 => ?_)
            have tx19 := tl_min2 ex19
            refine li_icmp_gt 73 dX12_debate_46 (by decide) (fun c20 => ?_) (fun c20 => ?_)
            · have tc20 : x19.toInt < x17.toInt := tl_lt c20
              refine li_iload 0 dX12_debate_73 rfl ?_
              refine li_iload_n 4 dX12_debate_75 rfl ?_
              refine li_iload_n 2 dX12_debate_76 rfl ?_
              refine li_mmin dX12_debate_77 (by omega) w_1705 w_726 w_113 w_727 (Nat.le_of_ble_eq_true rfl) ?_
              refine li_top (fun x21 ex21 => ?_)
              have tx21 := tl_min2 ex21
              have J88 : ∀ (x23 : Int32) (M24 : li_M), li_fs (fun i k => i = 181 ∨ i = 192 ∨ (i = 175 ∧ k = 10) ∨ (i = 175 ∧ k = 35) ∨ (i = 175 ∧ k = 9)) M0 M24 → li_J M24 → (p2.toInt < p1.toInt → (x23 : Int32).toInt = 1) ∧ (p1.toInt ≤ p2.toInt → (x23 : Int32).toInt = 0) ∧ (M24.1 175 35).toInt = p3.toInt → li_wq (M24.1 192) (p3.toInt) (121) (0) (0) → li_T l Z YX12_debate d 88 [(4, .int x17), (0, .ref (Z.2.2 175)), (1, .int p1), (2, .int p2), (3, .int p3)] [.int x23] M24 (fun r M' => (∃ x : Int32, r = some (.int x) ∧ ((x.toInt = -1 ∧ ¬ (0 ≤ p1.toInt ∧ p1.toInt ≤ 60 ∧ 0 ≤ p2.toInt ∧ p2.toInt ≤ 60 ∧ 1 ≤ p3.toInt ∧ p3.toInt ≤ 9)) ∨ ((0 ≤ p1.toInt ∧ p1.toInt ≤ 60 ∧ 0 ≤ p2.toInt ∧ p2.toInt ≤ 60 ∧ 1 ≤ p3.toInt ∧ p3.toInt ≤ 9) ∧ (p2.toInt < p1.toInt → x.toInt = 1) ∧ (p1.toInt ≤ p2.toInt → x.toInt = 0)))) ∧ li_fs (fun i k => i = 181 ∨ i = 192 ∨ (i = 175 ∧ k = 10) ∨ (i = 175 ∧ k = 35) ∨ (i = 175 ∧ k = 9)) M0 M' ∧ li_J M' ∧ (li_wq (M'.1 192) ((M'.1 175 35).toInt) (121) (0) (0))) := by
                intro x23 M24 hf hJ hi Pwq_M24
                have gx23 := tl_rg x23
                have rM24_9 := J_sl9 (M := M24) hJ
                refine li_istore [(5, .int x23), (4, .int x17), (0, .ref (Z.2.2 175)), (1, .int p1), (2, .int p2), (3, .int p3)] dX12_debate_88 (by decide) rfl ?_
                refine li_aload_n 2 dX12_debate_90 rfl ?_
                refine li_iconst 0 dX12_debate_91 (by decide) ?_
                refine li_puti (k := 9) (N := 52) (T := TX12) (C0 := RX12) dX12_debate_92 (by decide) sh_175 rfl rfl (by decide) li_in12 tyX12_ok nmX12 rfl rfl rfl rfl w_1413 ?_
                refine li_nm (fun M25 eM25 => ?_)
                have hf := li_fs_ui hf (Or.inr (Or.inr (Or.inr (Or.inr (⟨rfl, rfl⟩))))) eM25
                have z0 : (0 : Int32).toInt = 0 := rfl
                have hJ := J_pt9 hJ (show 0 ≤ (0 : Int32).toInt ∧ (0 : Int32).toInt ≤ 20 by omega) eM25
                have rM25_9 := J_sl9 (M := M25) hJ
                have mM25_9 : (M25.1 175 9).toInt = 0 := by rw [eM25, li_ui_at, if_pos rfl, if_pos rfl]; rfl
                have mM25_35 : (M25.1 175 35).toInt = (M24.1 175 35).toInt := by rw [eM25, li_ui_at, if_pos rfl, if_neg (by decide)]
                have Pwq_M25 : li_wq (M25.1 192) (p3.toInt) (121) (0) (0) := li_wq_tr (li_cell_ui eM25 (by decide)) (by omega) (by omega) (by omega) (by omega) Pwq_M24
                refine li_aload_n 2 dX12_debate_95 rfl ?_
                refine li_iload 0 dX12_debate_96 rfl ?_
                have J107 : ∀ (x27 : Int32) (M28 : li_M), li_fs (fun i k => i = 181 ∨ i = 192 ∨ (i = 175 ∧ k = 10) ∨ (i = 175 ∧ k = 35) ∨ (i = 175 ∧ k = 9)) M0 M28 → li_J M28 → (M28.1 175 9).toInt = 0 ∧ (M28.1 175 35).toInt = p3.toInt → li_wq (M28.1 192) (p3.toInt) (121) (0) (0) → li_T l Z YX12_debate d 107 [(5, .int x23), (4, .int x17), (0, .ref (Z.2.2 175)), (1, .int p1), (2, .int p2), (3, .int p3)] [.int x27, .ref (Z.2.2 175)] M28 (fun r M' => (∃ x : Int32, r = some (.int x) ∧ ((x.toInt = -1 ∧ ¬ (0 ≤ p1.toInt ∧ p1.toInt ≤ 60 ∧ 0 ≤ p2.toInt ∧ p2.toInt ≤ 60 ∧ 1 ≤ p3.toInt ∧ p3.toInt ≤ 9)) ∨ ((0 ≤ p1.toInt ∧ p1.toInt ≤ 60 ∧ 0 ≤ p2.toInt ∧ p2.toInt ≤ 60 ∧ 1 ≤ p3.toInt ∧ p3.toInt ≤ 9) ∧ (p2.toInt < p1.toInt → x.toInt = 1) ∧ (p1.toInt ≤ p2.toInt → x.toInt = 0)))) ∧ li_fs (fun i k => i = 181 ∨ i = 192 ∨ (i = 175 ∧ k = 10) ∨ (i = 175 ∧ k = 35) ∨ (i = 175 ∧ k = 9)) M0 M' ∧ li_J M' ∧ (li_wq (M'.1 192) ((M'.1 175 35).toInt) (121) (0) (0))) := by
                  intro x27 M28 hf hJ hi Pwq_M28
                  have gx27 := tl_rg x27
                  have rM28_9 := J_sl9 (M := M28) hJ
                  refine li_callV (n := 1) (As := [.int x27]) dX12_debate_107 (k_X12_tell (d - 1) (by omega) x27 M28 hJ (by omega)) (by omega) (Nat.le_of_ble_eq_true rfl) w_1787 w_1789 w_77 w_112 w_1790 (by decide +kernel) rfl (by decide) sh_175 rfl rfl (Nat.le_of_ble_eq_true rfl) (fun r M30 h31 => ?_)
                  obtain ⟨rfl, h31, jM30, nM30⟩ := h31
                  have hf := li_fs_trans hf h31 (fun i k => fun h => Or.elim h (fun h => Or.inl h) (fun h => Or.inr (Or.inr (Or.inr (Or.inr h)))))
                  have hJ := jM30
                  have rM30_9 := J_sl9 (M := M30) hJ
                  have mM30_35 : (M30.1 175 35).toInt = (M28.1 175 35).toInt := tl_slot (h31.1 175 35 (show ¬ (175 = 181 ∨ (175 = 175 ∧ 35 = 9)) by decide))
                  have Pwq_M30 : li_wq (M30.1 192) (p3.toInt) (121) (0) (0) := li_wq_tr (funext fun i => h31.1 192 i (show ¬ (192 = 181 ∨ (192 = 175 ∧ i = 9)) by omega)) (by omega) (by omega) (by omega) (by omega) Pwq_M28
                  refine li_iload 0 dX12_debate_110 rfl ?_
                  refine li_if_eq 119 dX12_debate_112 (by decide) (fun c32 => ?_) (fun c32 => ?_)
                  · have tc32 : x23.toInt = 0 := tl_eq c32
                    refine li_iconst 0 dX12_debate_119 (by decide) ?_
                    have z0 : (0 : Int32).toInt = 0 := rfl
                    exact li_iret dX12_debate_120 rfl rfl ⟨⟨_, rfl, (by first | omega | exact li_wq_go rfl Pwq_M30 (by omega) (fun a b j h1 h2 h3 h4 h5 h6 h7 => by omega))⟩, hf, hJ, (by first | omega | exact li_wq_go rfl Pwq_M30 (by omega) (fun a b j h1 h2 h3 h4 h5 h6 h7 => by omega))⟩
                  · have tc32 : ¬ x23.toInt = 0 := tl_ne c32
                    refine li_iconst 1 dX12_debate_115 (by decide) ?_
                    refine li_goto 120 dX12_debate_116 (by decide) ?_
                    have z1 : (1 : Int32).toInt = 1 := rfl
                    exact li_iret dX12_debate_120 rfl rfl ⟨⟨_, rfl, (by first | omega | exact li_wq_go rfl Pwq_M30 (by omega) (fun a b j h1 h2 h3 h4 h5 h6 h7 => by omega))⟩, hf, hJ, (by first | omega | exact li_wq_go rfl Pwq_M30 (by omega) (fun a b j h1 h2 h3 h4 h5 h6 h7 => by omega))⟩
                refine li_if_eq 106 dX12_debate_98 (by decide) (fun c26 => ?_) (fun c26 => ?_)
                · have tc26 : x23.toInt = 0 := tl_eq c26
                  refine li_iconst 0 dX12_debate_106 (by decide) ?_
                  refine li_pick [0, 1, 2, 3, 4, 5] [(5, .int x23), (4, .int x17), (0, .ref (Z.2.2 175)), (1, .int p1), (2, .int p2), (3, .int p3)] rfl ?_
                  have z0 : (0 : Int32).toInt = 0 := rfl
                  exact J107 0 M25 hf hJ (by omega) (by first | exact li_wq_tr rfl (by omega) (by omega) (by omega) (by omega) Pwq_M25 | exact li_wq_0 (by omega) (by omega) (by omega) | exact li_wq_go rfl Pwq_M25 (by omega) (fun a b j h1 h2 h3 h4 h5 h6 h7 => by omega))
                · have tc26 : ¬ x23.toInt = 0 := tl_ne c26
                  refine li_iload 1 dX12_debate_101 rfl ?_
                  refine li_goto 107 dX12_debate_103 (by decide) ?_
                  refine li_pick [0, 1, 2, 3, 4, 5] [(5, .int x23), (4, .int x17), (0, .ref (Z.2.2 175)), (1, .int p1), (2, .int p2), (3, .int p3)] rfl ?_
                  exact J107 x17 M25 hf hJ (by omega) (by first | exact li_wq_tr rfl (by omega) (by omega) (by omega) (by omega) Pwq_M25 | exact li_wq_0 (by omega) (by omega) (by omega) | exact li_wq_go rfl Pwq_M25 (by omega) (fun a b j h1 h2 h3 h4 h5 h6 h7 => by omega))
              refine li_icmp_gt 87 dX12_debate_80 (by decide) (fun c22 => ?_) (fun c22 => ?_)
              · have tc22 : x21.toInt < x17.toInt := tl_lt c22
                refine li_iconst 0 dX12_debate_87 (by decide) ?_
                refine li_pick [0, 1, 2, 3, 4] [(4, .int x17), (0, .ref (Z.2.2 175)), (1, .int p1), (2, .int p2), (3, .int p3)] rfl ?_
                have z0 : (0 : Int32).toInt = 0 := rfl
                exact J88 0 M18 hf hJ (by omega) (by first | exact li_wq_tr rfl (by omega) (by omega) (by omega) (by omega) Pwq_M18 | exact li_wq_0 (by omega) (by omega) (by omega) | exact li_wq_go rfl Pwq_M18 (by omega) (fun a b j h1 h2 h3 h4 h5 h6 h7 => by omega))
              · have tc22 : x17.toInt ≤ x21.toInt := tl_nlt c22
                refine li_iconst 1 dX12_debate_83 (by decide) ?_
                refine li_goto 88 dX12_debate_84 (by decide) ?_
                refine li_pick [0, 1, 2, 3, 4] [(4, .int x17), (0, .ref (Z.2.2 175)), (1, .int p1), (2, .int p2), (3, .int p3)] rfl ?_
                have z1 : (1 : Int32).toInt = 1 := rfl
                exact J88 1 M18 hf hJ (by omega) (by first | exact li_wq_tr rfl (by omega) (by omega) (by omega) (by omega) Pwq_M18 | exact li_wq_0 (by omega) (by omega) (by omega) | exact li_wq_go rfl Pwq_M18 (by omega) (fun a b j h1 h2 h3 h4 h5 h6 h7 => by omega))
            · have tc20 : x17.toInt ≤ x19.toInt := tl_nlt c20
              refine li_aload_n 1 dX12_debate_49 rfl ?_
              refine li_getr (k := 34) (N := 52) (T := TX12) (C0 := RX12) dX12_debate_50 (by decide) sh_175 rfl rfl (by decide) (by decide) li_in12 w_1438 ?_
              refine li_iload_n 3 dX12_debate_53 rfl ?_
              refine li_iload_n 2 dX12_debate_54 rfl ?_
              refine li_iload 0 dX12_debate_55 rfl ?_
              refine li_isub dX12_debate_57 ?_
              refine li_top (fun x33 ex33 => ?_)
              try (have tx33 : x33.toInt = (p1 : Int32).toInt - (x17 : Int32).toInt := tl_sub ex33 (by omega))
              refine li_iload 0 dX12_debate_58 rfl ?_
              refine li_callS (n := 3) (As := [.int p2, .int x33, .int x17]) dX12_debate_60 (k4_X12_place (d - 1) (by omega) p2 x33 x17 M18 hJ (by omega) (by omega) (by omega)) (by omega) (Nat.le_of_ble_eq_true rfl) w_1895 w_1896 w_112 w_1897 (by decide +kernel) rfl rfl (Nat.le_of_ble_eq_true rfl) (fun r M35 h36 => ?_)
              obtain ⟨⟨x34, rfl, qx34⟩, h36, jM35⟩ := h36
              have gx34 := tl_rg x34
              have hf := li_fs_trans hf h36 (fun i k h => False.elim h)
              have hJ := jM35
              have rM35_9 := J_sl9 (M := M35) hJ
              have mM35_9 : (M35.1 175 9).toInt = (M18.1 175 9).toInt := tl_slot (h36.1 175 9 id)
              have mM35_35 : (M35.1 175 35).toInt = (M18.1 175 35).toInt := tl_slot (h36.1 175 35 id)
              have Pwq_M35 : li_wq (M35.1 192) (p3.toInt) (121) (0) (0) := li_wq_tr (funext fun i => h36.1 192 i id) (by omega) (by omega) (by omega) (by omega) Pwq_M18
              refine li_zald dX12_debate_63 (by decide) sh_192 (tl_in (by omega)) ?_
              refine li_top (fun x37 ex37 => ?_)
              have gx37 := tl_rg x37
              have wx37 := li_wq_ld (a := p2.toInt) (b := p1.toInt - (x17 : Int32).toInt) (j := (x17 : Int32).toInt) Pwq_M35 ex37 (by omega) (by omega) (by omega) (by omega) (by omega)
              refine li_if_eq 73 dX12_debate_64 (by decide) (fun c38 => ?_) (fun c38 => ?_)
              · have tc38 : x37.toInt = 0 := tl_eq c38
                refine li_iload 0 dX12_debate_73 rfl ?_
                refine li_iload_n 4 dX12_debate_75 rfl ?_
                refine li_iload_n 2 dX12_debate_76 rfl ?_
                refine li_mmin dX12_debate_77 (by omega) w_1705 w_726 w_113 w_727 (Nat.le_of_ble_eq_true rfl) ?_
                refine li_top (fun x39 ex39 => ?_)
                have tx39 := tl_min2 ex39
                have J88 : ∀ (x41 : Int32) (M42 : li_M), li_fs (fun i k => i = 181 ∨ i = 192 ∨ (i = 175 ∧ k = 10) ∨ (i = 175 ∧ k = 35) ∨ (i = 175 ∧ k = 9)) M0 M42 → li_J M42 → (p2.toInt < p1.toInt → (x41 : Int32).toInt = 1) ∧ (p1.toInt ≤ p2.toInt → (x41 : Int32).toInt = 0) ∧ (M42.1 175 35).toInt = p3.toInt → li_wq (M42.1 192) (p3.toInt) (121) (0) (0) → li_T l Z YX12_debate d 88 [(4, .int x17), (0, .ref (Z.2.2 175)), (1, .int p1), (2, .int p2), (3, .int p3)] [.int x41] M42 (fun r M' => (∃ x : Int32, r = some (.int x) ∧ ((x.toInt = -1 ∧ ¬ (0 ≤ p1.toInt ∧ p1.toInt ≤ 60 ∧ 0 ≤ p2.toInt ∧ p2.toInt ≤ 60 ∧ 1 ≤ p3.toInt ∧ p3.toInt ≤ 9)) ∨ ((0 ≤ p1.toInt ∧ p1.toInt ≤ 60 ∧ 0 ≤ p2.toInt ∧ p2.toInt ≤ 60 ∧ 1 ≤ p3.toInt ∧ p3.toInt ≤ 9) ∧ (p2.toInt < p1.toInt → x.toInt = 1) ∧ (p1.toInt ≤ p2.toInt → x.toInt = 0)))) ∧ li_fs (fun i k => i = 181 ∨ i = 192 ∨ (i = 175 ∧ k = 10) ∨ (i = 175 ∧ k = 35) ∨ (i = 175 ∧ k = 9)) M0 M' ∧ li_J M' ∧ (li_wq (M'.1 192) ((M'.1 175 35).toInt) (121) (0) (0))) := by
                  intro x41 M42 hf hJ hi Pwq_M42
                  have gx41 := tl_rg x41
                  have rM42_9 := J_sl9 (M := M42) hJ
                  refine li_istore [(5, .int x41), (4, .int x17), (0, .ref (Z.2.2 175)), (1, .int p1), (2, .int p2), (3, .int p3)] dX12_debate_88 (by decide) rfl ?_
                  refine li_aload_n 2 dX12_debate_90 rfl ?_
                  refine li_iconst 0 dX12_debate_91 (by decide) ?_
                  refine li_puti (k := 9) (N := 52) (T := TX12) (C0 := RX12) dX12_debate_92 (by decide) sh_175 rfl rfl (by decide) li_in12 tyX12_ok nmX12 rfl rfl rfl rfl w_1413 ?_
                  refine li_nm (fun M43 eM43 => ?_)
                  have hf := li_fs_ui hf (Or.inr (Or.inr (Or.inr (Or.inr (⟨rfl, rfl⟩))))) eM43
                  have z0 : (0 : Int32).toInt = 0 := rfl
                  have hJ := J_pt9 hJ (show 0 ≤ (0 : Int32).toInt ∧ (0 : Int32).toInt ≤ 20 by omega) eM43
                  have rM43_9 := J_sl9 (M := M43) hJ
                  have mM43_9 : (M43.1 175 9).toInt = 0 := by rw [eM43, li_ui_at, if_pos rfl, if_pos rfl]; rfl
                  have mM43_35 : (M43.1 175 35).toInt = (M42.1 175 35).toInt := by rw [eM43, li_ui_at, if_pos rfl, if_neg (by decide)]
                  have Pwq_M43 : li_wq (M43.1 192) (p3.toInt) (121) (0) (0) := li_wq_tr (li_cell_ui eM43 (by decide)) (by omega) (by omega) (by omega) (by omega) Pwq_M42
                  refine li_aload_n 2 dX12_debate_95 rfl ?_
                  refine li_iload 0 dX12_debate_96 rfl ?_
                  have J107 : ∀ (x45 : Int32) (M46 : li_M), li_fs (fun i k => i = 181 ∨ i = 192 ∨ (i = 175 ∧ k = 10) ∨ (i = 175 ∧ k = 35) ∨ (i = 175 ∧ k = 9)) M0 M46 → li_J M46 → (M46.1 175 9).toInt = 0 ∧ (M46.1 175 35).toInt = p3.toInt → li_wq (M46.1 192) (p3.toInt) (121) (0) (0) → li_T l Z YX12_debate d 107 [(5, .int x41), (4, .int x17), (0, .ref (Z.2.2 175)), (1, .int p1), (2, .int p2), (3, .int p3)] [.int x45, .ref (Z.2.2 175)] M46 (fun r M' => (∃ x : Int32, r = some (.int x) ∧ ((x.toInt = -1 ∧ ¬ (0 ≤ p1.toInt ∧ p1.toInt ≤ 60 ∧ 0 ≤ p2.toInt ∧ p2.toInt ≤ 60 ∧ 1 ≤ p3.toInt ∧ p3.toInt ≤ 9)) ∨ ((0 ≤ p1.toInt ∧ p1.toInt ≤ 60 ∧ 0 ≤ p2.toInt ∧ p2.toInt ≤ 60 ∧ 1 ≤ p3.toInt ∧ p3.toInt ≤ 9) ∧ (p2.toInt < p1.toInt → x.toInt = 1) ∧ (p1.toInt ≤ p2.toInt → x.toInt = 0)))) ∧ li_fs (fun i k => i = 181 ∨ i = 192 ∨ (i = 175 ∧ k = 10) ∨ (i = 175 ∧ k = 35) ∨ (i = 175 ∧ k = 9)) M0 M' ∧ li_J M' ∧ (li_wq (M'.1 192) ((M'.1 175 35).toInt) (121) (0) (0))) := by
                    intro x45 M46 hf hJ hi Pwq_M46
                    have gx45 := tl_rg x45
                    have rM46_9 := J_sl9 (M := M46) hJ
                    refine li_callV (n := 1) (As := [.int x45]) dX12_debate_107 (k_X12_tell (d - 1) (by omega) x45 M46 hJ (by omega)) (by omega) (Nat.le_of_ble_eq_true rfl) w_1787 w_1789 w_77 w_112 w_1790 (by decide +kernel) rfl (by decide) sh_175 rfl rfl (Nat.le_of_ble_eq_true rfl) (fun r M48 h49 => ?_)
                    obtain ⟨rfl, h49, jM48, nM48⟩ := h49
                    have hf := li_fs_trans hf h49 (fun i k => fun h => Or.elim h (fun h => Or.inl h) (fun h => Or.inr (Or.inr (Or.inr (Or.inr h)))))
                    have hJ := jM48
                    have rM48_9 := J_sl9 (M := M48) hJ
                    have mM48_35 : (M48.1 175 35).toInt = (M46.1 175 35).toInt := tl_slot (h49.1 175 35 (show ¬ (175 = 181 ∨ (175 = 175 ∧ 35 = 9)) by decide))
                    have Pwq_M48 : li_wq (M48.1 192) (p3.toInt) (121) (0) (0) := li_wq_tr (funext fun i => h49.1 192 i (show ¬ (192 = 181 ∨ (192 = 175 ∧ i = 9)) by omega)) (by omega) (by omega) (by omega) (by omega) Pwq_M46
                    refine li_iload 0 dX12_debate_110 rfl ?_
                    refine li_if_eq 119 dX12_debate_112 (by decide) (fun c50 => ?_) (fun c50 => ?_)
                    · have tc50 : x41.toInt = 0 := tl_eq c50
                      refine li_iconst 0 dX12_debate_119 (by decide) ?_
                      have z0 : (0 : Int32).toInt = 0 := rfl
                      exact li_iret dX12_debate_120 rfl rfl ⟨⟨_, rfl, (by first | omega | exact li_wq_go rfl Pwq_M48 (by omega) (fun a b j h1 h2 h3 h4 h5 h6 h7 => by omega))⟩, hf, hJ, (by first | omega | exact li_wq_go rfl Pwq_M48 (by omega) (fun a b j h1 h2 h3 h4 h5 h6 h7 => by omega))⟩
                    · have tc50 : ¬ x41.toInt = 0 := tl_ne c50
                      refine li_iconst 1 dX12_debate_115 (by decide) ?_
                      refine li_goto 120 dX12_debate_116 (by decide) ?_
                      have z1 : (1 : Int32).toInt = 1 := rfl
                      exact li_iret dX12_debate_120 rfl rfl ⟨⟨_, rfl, (by first | omega | exact li_wq_go rfl Pwq_M48 (by omega) (fun a b j h1 h2 h3 h4 h5 h6 h7 => by omega))⟩, hf, hJ, (by first | omega | exact li_wq_go rfl Pwq_M48 (by omega) (fun a b j h1 h2 h3 h4 h5 h6 h7 => by omega))⟩
                  refine li_if_eq 106 dX12_debate_98 (by decide) (fun c44 => ?_) (fun c44 => ?_)
                  · have tc44 : x41.toInt = 0 := tl_eq c44
                    refine li_iconst 0 dX12_debate_106 (by decide) ?_
                    refine li_pick [0, 1, 2, 3, 4, 5] [(5, .int x41), (4, .int x17), (0, .ref (Z.2.2 175)), (1, .int p1), (2, .int p2), (3, .int p3)] rfl ?_
                    have z0 : (0 : Int32).toInt = 0 := rfl
                    exact J107 0 M43 hf hJ (by omega) (by first | exact li_wq_tr rfl (by omega) (by omega) (by omega) (by omega) Pwq_M43 | exact li_wq_0 (by omega) (by omega) (by omega) | exact li_wq_go rfl Pwq_M43 (by omega) (fun a b j h1 h2 h3 h4 h5 h6 h7 => by omega))
                  · have tc44 : ¬ x41.toInt = 0 := tl_ne c44
                    refine li_iload 1 dX12_debate_101 rfl ?_
                    refine li_goto 107 dX12_debate_103 (by decide) ?_
                    refine li_pick [0, 1, 2, 3, 4, 5] [(5, .int x41), (4, .int x17), (0, .ref (Z.2.2 175)), (1, .int p1), (2, .int p2), (3, .int p3)] rfl ?_
                    exact J107 x17 M43 hf hJ (by omega) (by first | exact li_wq_tr rfl (by omega) (by omega) (by omega) (by omega) Pwq_M43 | exact li_wq_0 (by omega) (by omega) (by omega) | exact li_wq_go rfl Pwq_M43 (by omega) (fun a b j h1 h2 h3 h4 h5 h6 h7 => by omega))
                refine li_icmp_gt 87 dX12_debate_80 (by decide) (fun c40 => ?_) (fun c40 => ?_)
                · have tc40 : x39.toInt < x17.toInt := tl_lt c40
                  refine li_iconst 0 dX12_debate_87 (by decide) ?_
                  refine li_pick [0, 1, 2, 3, 4] [(4, .int x17), (0, .ref (Z.2.2 175)), (1, .int p1), (2, .int p2), (3, .int p3)] rfl ?_
                  have z0 : (0 : Int32).toInt = 0 := rfl
                  exact J88 0 M35 hf hJ (by omega) (by first | exact li_wq_tr rfl (by omega) (by omega) (by omega) (by omega) Pwq_M35 | exact li_wq_0 (by omega) (by omega) (by omega) | exact li_wq_go rfl Pwq_M35 (by omega) (fun a b j h1 h2 h3 h4 h5 h6 h7 => by omega))
                · have tc40 : x17.toInt ≤ x39.toInt := tl_nlt c40
                  refine li_iconst 1 dX12_debate_83 (by decide) ?_
                  refine li_goto 88 dX12_debate_84 (by decide) ?_
                  refine li_pick [0, 1, 2, 3, 4] [(4, .int x17), (0, .ref (Z.2.2 175)), (1, .int p1), (2, .int p2), (3, .int p3)] rfl ?_
                  have z1 : (1 : Int32).toInt = 1 := rfl
                  exact J88 1 M35 hf hJ (by omega) (by first | exact li_wq_tr rfl (by omega) (by omega) (by omega) (by omega) Pwq_M35 | exact li_wq_0 (by omega) (by omega) (by omega) | exact li_wq_go rfl Pwq_M35 (by omega) (fun a b j h1 h2 h3 h4 h5 h6 h7 => by omega))
              · have tc38 : ¬ x37.toInt = 0 := tl_ne c38
                obtain ⟨x51, ex51⟩ : ∃ y : Int32, y = x17 + 1 := ⟨_, rfl⟩
                have z1 : (1 : Int32).toInt = 1 := rfl
                try (have tx51 : x51.toInt = (x17 : Int32).toInt + (1 : Int32).toInt := tl_add ex51 (by omega))
                refine li_iinc 0 [(4, .int x51), (0, .ref (Z.2.2 175)), (1, .int p1), (2, .int p2), (3, .int p3)] x51 dX12_debate_67 rfl (by rw [ex51]; rfl) (by decide) rfl ?_
                refine li_goto 39 dX12_debate_70 (by decide) ?_
                refine li_pick [0, 1, 2, 3, 4] [(4, .int x51), (0, .ref (Z.2.2 175)), (1, .int p1), (2, .int p2), (3, .int p3)] rfl ?_
                exact ih39 x51 M35 (by omega) hf hJ (by omega) (by first | exact li_wq_tr rfl (by omega) (by omega) (by omega) (by omega) Pwq_M35 | exact li_wq_0 (by omega) (by omega) (by omega) | exact li_wq_go rfl Pwq_M35 (by omega) (fun a b j h1 h2 h3 h4 h5 h6 h7 => by omega))
        have z1 : (1 : Int32).toInt = 1 := rfl
        exact L39 _ 1 M15 (Nat.lt_succ_self _) hf hJ (by omega) (by first | exact li_wq_tr rfl (by omega) (by omega) (by omega) (by omega) Pwq_M15 | exact li_wq_0 (by omega) (by omega) (by omega) | exact li_wq_go rfl Pwq_M15 (by omega) (fun a b j h1 h2 h3 h4 h5 h6 h7 => by omega))
      · skip
        refine li_if_ne 31 dX12_debate_26 (by decide) (fun c => absurd rfl c) (fun c => ?_)
        refine li_iconst (-1) dX12_debate_29 (by decide) ?_
        have zm1 : ((-1) : Int32).toInt = -1 := rfl
        exact li_iret dX12_debate_30 rfl rfl ⟨⟨_, rfl, (by first | omega | exact li_wq_go rfl Pwq_M11 (by omega) (fun a b j h1 h2 h3 h4 h5 h6 h7 => by omega))⟩, hf, hJ, (by first | omega | exact li_wq_go rfl Pwq_M11 (by omega) (fun a b j h1 h2 h3 h4 h5 h6 h7 => by omega))⟩
    · skip
      refine li_if_eq 29 dX12_debate_16 (by decide) (fun c => ?_) (fun c => absurd rfl c)
      refine li_iconst (-1) dX12_debate_29 (by decide) ?_
      have zm1 : ((-1) : Int32).toInt = -1 := rfl
      exact li_iret dX12_debate_30 rfl rfl ⟨⟨_, rfl, (by first | omega | exact li_wq_go rfl Pwq_M7 (by omega) (fun a b j h1 h2 h3 h4 h5 h6 h7 => by omega))⟩, hf, hJ, (by first | omega | exact li_wq_go rfl Pwq_M7 (by omega) (fun a b j h1 h2 h3 h4 h5 h6 h7 => by omega))⟩
  · skip
    refine li_if_eq 29 dX12_debate_9 (by decide) (fun c => ?_) (fun c => absurd rfl c)
    refine li_iconst (-1) dX12_debate_29 (by decide) ?_
    have zm1 : ((-1) : Int32).toInt = -1 := rfl
    exact li_iret dX12_debate_30 rfl rfl ⟨⟨_, rfl, (by first | omega | exact li_wq_go rfl Pwq_M3 (by omega) (fun a b j h1 h2 h3 h4 h5 h6 h7 => by omega))⟩, hf, hJ, (by first | omega | exact li_wq_go rfl Pwq_M3 (by omega) (fun a b j h1 h2 h3 h4 h5 h6 h7 => by omega))⟩
set_option maxRecDepth 100000 in
set_option maxHeartbeats 4000000 in
theorem k4_X12_enough {l : Launch} {Z : li_Z} (d : Nat) (hd : 3 ≤ d) (p1 p2 : Int32) (M0 : li_M) (hJ : li_J M0) (Pwq_M0 : li_wq (M0.1 192) ((M0.1 175 35).toInt) (121) (0) (0)) : li_Met l Z YX12_enough d [.ref (Z.2.2 175), .int p1, .int p2] M0 (fun r M' => (∃ x : Int32, r = some (.int x) ∧ ((x.toInt = -1 ∧ ¬ (0 ≤ p1.toInt ∧ p1.toInt ≤ 60 ∧ 1 ≤ p2.toInt ∧ p2.toInt ≤ 9)) ∨ ((0 ≤ p1.toInt ∧ p1.toInt ≤ 60 ∧ 1 ≤ p2.toInt ∧ p2.toInt ≤ 9) ∧ (p1.toInt < 60 → x.toInt = p1.toInt + 1) ∧ (p1.toInt = 60 → x.toInt = -2)))) ∧ li_fs (fun i k => i = 192 ∨ (i = 175 ∧ k = 10) ∨ (i = 175 ∧ k = 35)) M0 M' ∧ li_J M' ∧ (li_wq (M'.1 192) ((M'.1 175 35).toInt) (121) (0) (0))) := by
  refine li_enter (by decide +kernel) (Nat.le_of_ble_eq_true rfl) ?_
  show li_T l Z YX12_enough d 0 [(0, .ref (Z.2.2 175)), (1, .int p1), (2, .int p2)] [] M0 _
  have hf : li_fs (fun i k => i = 192 ∨ (i = 175 ∧ k = 10) ∨ (i = 175 ∧ k = 35)) M0 M0 := li_fs_refl
  have gp1 := tl_rg p1
  have gp2 := tl_rg p2
  refine li_aload_n 0 dX12_enough_0 rfl ?_
  refine li_iconst 0 dX12_enough_1 (by decide) ?_
  refine li_puti (k := 10) (N := 52) (T := TX12) (C0 := RX12) dX12_enough_2 (by decide) sh_175 rfl rfl (by decide) li_in12 tyX12_ok nmX12 rfl rfl rfl rfl w_1414 ?_
  refine li_nm (fun M1 eM1 => ?_)
  have hf := li_fs_ui hf (Or.inr (Or.inl ⟨rfl, rfl⟩)) eM1
  have z0 : (0 : Int32).toInt = 0 := rfl
  have hJ := hJ.put (k := 10) (by decide) (rg_free rfl) eM1
  have mM1_35 : (M1.1 175 35).toInt = (M0.1 175 35).toInt := by rw [eM1, li_ui_at, if_pos rfl, if_neg (by decide)]
  have Pwq_M1 : li_wq (M1.1 192) ((M1.1 175 35).toInt) (121) (0) (0) := li_wq_tr (li_cell_ui eM1 (by decide)) (by omega) (by omega) (by omega) (by omega) Pwq_M0
  refine li_iload_n 1 dX12_enough_5 rfl ?_
  refine li_callS (n := 1) (As := [.int p1]) dX12_enough_6 (k_X12_isLeft (d - 1) (by omega) p1 M1 hJ ) (by omega) (Nat.le_of_ble_eq_true rfl) w_1888 w_1889 w_112 w_1890 (by decide +kernel) rfl rfl (Nat.le_of_ble_eq_true rfl) (fun r M3 h4 => ?_)
  obtain ⟨qx2, h4, jM3⟩ := h4
  have hf := li_fs_trans hf h4 (fun i k h => False.elim h)
  have hJ := jM3
  have mM3_35 : (M3.1 175 35).toInt = (M1.1 175 35).toInt := tl_slot (h4.1 175 35 id)
  have Pwq_M3 : li_wq (M3.1 192) ((M3.1 175 35).toInt) (121) (0) (0) := li_wq_tr (funext fun i => h4.1 192 i id) (by omega) (by omega) (by omega) (by omega) Pwq_M1
  rcases qx2 with ⟨rfl, qx2⟩ | ⟨rfl, qx2⟩
  · skip
    refine li_if_eq 22 dX12_enough_9 (by decide) (fun c => absurd c (by decide)) (fun c => ?_)
    refine li_iload_n 2 dX12_enough_12 rfl ?_
    refine li_iconst 1 dX12_enough_13 (by decide) ?_
    refine li_bipush 9 dX12_enough_14 (by decide) ?_
    have z1 : (1 : Int32).toInt = 1 := rfl
    have z9 : (9 : Int32).toInt = 9 := rfl
    refine li_callS (n := 3) (As := [.int p2, .int 1, .int 9]) dX12_enough_16 (k_X12_in (d - 1) (by omega) p2 1 9 M3 hJ ) (by omega) (Nat.le_of_ble_eq_true rfl) w_1574 w_1575 w_112 w_1576 (by decide +kernel) rfl rfl (Nat.le_of_ble_eq_true rfl) (fun r M7 h8 => ?_)
    obtain ⟨qx6, h8, jM7⟩ := h8
    have hf := li_fs_trans hf h8 (fun i k h => False.elim h)
    have hJ := jM7
    have mM7_35 : (M7.1 175 35).toInt = (M3.1 175 35).toInt := tl_slot (h8.1 175 35 id)
    have Pwq_M7 : li_wq (M7.1 192) ((M7.1 175 35).toInt) (121) (0) (0) := li_wq_tr (funext fun i => h8.1 192 i id) (by omega) (by omega) (by omega) (by omega) Pwq_M3
    rcases qx6 with ⟨rfl, qx6⟩ | ⟨rfl, qx6⟩
    · skip
      refine li_if_ne 24 dX12_enough_19 (by decide) (fun c => ?_) (fun c => absurd c (by decide))
      refine li_aload_n 0 dX12_enough_24 rfl ?_
      refine li_iload_n 2 dX12_enough_25 rfl ?_
      refine li_callV (n := 1) (As := [.int p2]) dX12_enough_26 (k4_X12_layWins (d - 1) (by omega) p2 M7 hJ (by omega) _ rfl Pwq_M7) (by omega) (Nat.le_of_ble_eq_true rfl) w_1891 w_1893 w_92 w_112 w_1894 (by decide +kernel) rfl (by decide) sh_175 rfl rfl (Nat.le_of_ble_eq_true rfl) (fun r M11 h12 => ?_)
      obtain ⟨rfl, h12, jM11, nM11⟩ := h12
      have hf := li_fs_trans hf h12 (fun i k => fun h => Or.elim h (fun h => Or.inl h) (fun h => Or.inr (Or.inr h)))
      have hJ := jM11
      have Pwq_M11 : li_wq (M11.1 192) ((M11.1 175 35).toInt) (121) (0) (0) := li_wq_go rfl nM11.1 (by omega) (fun a b j h1 h2 h3 h4 h5 h6 h7 => by omega)
      refine li_iconst 0 dX12_enough_29 (by decide) ?_
      refine li_istore_n [(3, .int 0), (0, .ref (Z.2.2 175)), (1, .int p1), (2, .int p2)] dX12_enough_30 (by decide) rfl ?_
      have L31 : ∀ (n : Nat) (x13 : Int32) (M14 : li_M), (61 - (x13 : Int32).toInt).toNat < n → li_fs (fun i k => i = 192 ∨ (i = 175 ∧ k = 10) ∨ (i = 175 ∧ k = 35)) M0 M14 → li_J M14 → 0 ≤ (x13 : Int32).toInt ∧ (x13 : Int32).toInt ≤ p1.toInt + 1 ∧ (M14.1 175 35).toInt = p2.toInt → li_wq (M14.1 192) (p2.toInt) (121) (0) (0) → li_T l Z YX12_enough d 31 [(3, .int x13), (0, .ref (Z.2.2 175)), (1, .int p1), (2, .int p2)] [] M14 (fun r M' => (∃ x : Int32, r = some (.int x) ∧ ((x.toInt = -1 ∧ ¬ (0 ≤ p1.toInt ∧ p1.toInt ≤ 60 ∧ 1 ≤ p2.toInt ∧ p2.toInt ≤ 9)) ∨ ((0 ≤ p1.toInt ∧ p1.toInt ≤ 60 ∧ 1 ≤ p2.toInt ∧ p2.toInt ≤ 9) ∧ (p1.toInt < 60 → x.toInt = p1.toInt + 1) ∧ (p1.toInt = 60 → x.toInt = -2)))) ∧ li_fs (fun i k => i = 192 ∨ (i = 175 ∧ k = 10) ∨ (i = 175 ∧ k = 35)) M0 M' ∧ li_J M' ∧ (li_wq (M'.1 192) ((M'.1 175 35).toInt) (121) (0) (0))) := by
        intro n
        induction n with
        | zero => intro x13 M14 hn; exact absurd hn (Nat.not_lt_zero _)
        | succ n ih31 =>
          intro x13 M14 hn hf hJ hi Pwq_M14
          have gx13 := tl_rg x13
          refine li_iload_n 0 dX12_enough_31 rfl ?_
          refine li_bipush 61 dX12_enough_32 (by decide) ?_
          refine li_icmp_ge 59 dX12_enough_34 (by decide) (fun c15 => ?_) (fun c15 => ?_)
          · have tc15 : 61 ≤ x13.toInt := tl_le c15
            refine li_bipush (-2) dX12_enough_59 (by decide) ?_
            have zm2 : ((-2) : Int32).toInt = -2 := rfl
            exact li_iret dX12_enough_61 rfl rfl ⟨⟨_, rfl, (by first | omega | exact li_wq_go rfl Pwq_M14 (by omega) (fun a b j h1 h2 h3 h4 h5 h6 h7 => by omega))⟩, hf, hJ, (by first | omega | exact li_wq_go rfl Pwq_M14 (by omega) (fun a b j h1 h2 h3 h4 h5 h6 h7 => by omega))⟩
          · have tc15 : x13.toInt < 61 := tl_nle c15
            refine li_aload_n 1 dX12_enough_37 rfl ?_
            refine li_getr (k := 34) (N := 52) (T := TX12) (C0 := RX12) dX12_enough_38 (by decide) sh_175 rfl rfl (by decide) (by decide) li_in12 w_1438 ?_
            refine li_iload_n 0 dX12_enough_41 rfl ?_
            refine li_iload_n 2 dX12_enough_42 rfl ?_
            refine li_iconst 1 dX12_enough_43 (by decide) ?_
            have z1 : (1 : Int32).toInt = 1 := rfl
            refine li_callS (n := 3) (As := [.int x13, .int p1, .int 1]) dX12_enough_44 (k4_X12_place (d - 1) (by omega) x13 p1 1 M14 hJ (by omega) (by omega) (by omega)) (by omega) (Nat.le_of_ble_eq_true rfl) w_1895 w_1896 w_112 w_1897 (by decide +kernel) rfl rfl (Nat.le_of_ble_eq_true rfl) (fun r M17 h18 => ?_)
            obtain ⟨⟨x16, rfl, qx16⟩, h18, jM17⟩ := h18
            have gx16 := tl_rg x16
            have hf := li_fs_trans hf h18 (fun i k h => False.elim h)
            have hJ := jM17
            have mM17_35 : (M17.1 175 35).toInt = (M14.1 175 35).toInt := tl_slot (h18.1 175 35 id)
            have Pwq_M17 : li_wq (M17.1 192) (p2.toInt) (121) (0) (0) := li_wq_tr (funext fun i => h18.1 192 i id) (by omega) (by omega) (by omega) (by omega) Pwq_M14
            refine li_zald dX12_enough_47 (by decide) sh_192 (tl_in (by omega)) ?_
            refine li_top (fun x19 ex19 => ?_)
            have gx19 := tl_rg x19
            have wx19 := li_wq_ld (a := (x13 : Int32).toInt) (b := p1.toInt) (j := 1) Pwq_M17 ex19 (by omega) (by omega) (by omega) (by omega) (by omega)
            refine li_if_eq 53 dX12_enough_48 (by decide) (fun c20 => ?_) (fun c20 => ?_)
            · have tc20 : x19.toInt = 0 := tl_eq c20
              obtain ⟨x21, ex21⟩ : ∃ y : Int32, y = x13 + 1 := ⟨_, rfl⟩
              have z1 : (1 : Int32).toInt = 1 := rfl
              try (have tx21 : x21.toInt = (x13 : Int32).toInt + (1 : Int32).toInt := tl_add ex21 (by omega))
              refine li_iinc 0 [(3, .int x21), (0, .ref (Z.2.2 175)), (1, .int p1), (2, .int p2)] x21 dX12_enough_53 rfl (by rw [ex21]; rfl) (by decide) rfl ?_
              refine li_goto 31 dX12_enough_56 (by decide) ?_
              refine li_pick [0, 1, 2, 3] [(3, .int x21), (0, .ref (Z.2.2 175)), (1, .int p1), (2, .int p2)] rfl ?_
              exact ih31 x21 M17 (by omega) hf hJ (by omega) (by first | exact li_wq_tr rfl (by omega) (by omega) (by omega) (by omega) Pwq_M17 | exact li_wq_0 (by omega) (by omega) (by omega) | exact li_wq_go rfl Pwq_M17 (by omega) (fun a b j h1 h2 h3 h4 h5 h6 h7 => by omega))
            · have tc20 : ¬ x19.toInt = 0 := tl_ne c20
              refine li_iload_n 0 dX12_enough_51 rfl ?_
              exact li_iret dX12_enough_52 rfl rfl ⟨⟨_, rfl, (by first | omega | exact li_wq_go rfl Pwq_M17 (by omega) (fun a b j h1 h2 h3 h4 h5 h6 h7 => by omega))⟩, hf, hJ, (by first | omega | exact li_wq_go rfl Pwq_M17 (by omega) (fun a b j h1 h2 h3 h4 h5 h6 h7 => by omega))⟩
      have z0 : (0 : Int32).toInt = 0 := rfl
      exact L31 _ 0 M11 (Nat.lt_succ_self _) hf hJ (by omega) (by first | exact li_wq_tr rfl (by omega) (by omega) (by omega) (by omega) Pwq_M11 | exact li_wq_0 (by omega) (by omega) (by omega) | exact li_wq_go rfl Pwq_M11 (by omega) (fun a b j h1 h2 h3 h4 h5 h6 h7 => by omega))
    · skip
      refine li_if_ne 24 dX12_enough_19 (by decide) (fun c => absurd rfl c) (fun c => ?_)
      refine li_iconst (-1) dX12_enough_22 (by decide) ?_
      have zm1 : ((-1) : Int32).toInt = -1 := rfl
      exact li_iret dX12_enough_23 rfl rfl ⟨⟨_, rfl, (by first | omega | exact li_wq_go rfl Pwq_M7 (by omega) (fun a b j h1 h2 h3 h4 h5 h6 h7 => by omega))⟩, hf, hJ, (by first | omega | exact li_wq_go rfl Pwq_M7 (by omega) (fun a b j h1 h2 h3 h4 h5 h6 h7 => by omega))⟩
  · skip
    refine li_if_eq 22 dX12_enough_9 (by decide) (fun c => ?_) (fun c => absurd rfl c)
    refine li_iconst (-1) dX12_enough_22 (by decide) ?_
    have zm1 : ((-1) : Int32).toInt = -1 := rfl
    exact li_iret dX12_enough_23 rfl rfl ⟨⟨_, rfl, (by first | omega | exact li_wq_go rfl Pwq_M3 (by omega) (fun a b j h1 h2 h3 h4 h5 h6 h7 => by omega))⟩, hf, hJ, (by first | omega | exact li_wq_go rfl Pwq_M3 (by omega) (fun a b j h1 h2 h3 h4 h5 h6 h7 => by omega))⟩
set_option maxRecDepth 100000 in
set_option maxHeartbeats 4000000 in
theorem k4_X11_within {l : Launch} {Z : li_Z} (d : Nat) (hd : 1 ≤ d) (p1 : Int32) (p2 : Int32) (p3 : Int32) (M0 : li_M) : li_Met l Z YX11_within d [.int p1, .int p2, .int p3] M0 (fun r M' => (∃ x : Int32, r = some (.int x) ∧ (x = 0 ∨ x = 1) ∧ ((x.toInt = 1 ∧ p2.toInt ≤ p1.toInt ∧ p1.toInt ≤ p3.toInt) ∨ (x.toInt = 0 ∧ (p1.toInt < p2.toInt ∨ p3.toInt < p1.toInt)))) ∧ li_fr (fun i => False) M0 M') := by
  refine li_enter (by decide +kernel) (Nat.le_of_ble_eq_true rfl) ?_
  show li_T l Z YX11_within d 0 [(0, .int p1), (1, .int p2), (2, .int p3)] [] M0 _
  have hf : li_fr (fun i => False) M0 M0 := li_fr_refl
  have gp1 := tl_rg p1
  have gp2 := tl_rg p2
  have gp3 := tl_rg p3
  refine li_iload_n 0 dX11_within_0 rfl ?_
  refine li_iload_n 1 dX11_within_1 rfl ?_
  refine li_icmp_lt 14 dX11_within_2 (by decide) (fun c1 => ?_) (fun c1 => ?_)
  · have tc1 : p1.toInt < p2.toInt := tl_lt c1
    refine li_iconst 0 dX11_within_14 (by decide) ?_
    have z0 : (0 : Int32).toInt = 0 := rfl
    exact li_iret dX11_within_15 rfl (li_nz (Or.inl rfl)) ⟨⟨_, rfl, Or.inl rfl, (by first | omega | (intro _; omega) | (intro h; exact absurd h (by decide)))⟩, hf⟩
  · have tc1 : p2.toInt ≤ p1.toInt := tl_nlt c1
    refine li_iload_n 0 dX11_within_5 rfl ?_
    refine li_iload_n 2 dX11_within_6 rfl ?_
    refine li_icmp_gt 14 dX11_within_7 (by decide) (fun c2 => ?_) (fun c2 => ?_)
    · have tc2 : p3.toInt < p1.toInt := tl_lt c2
      refine li_iconst 0 dX11_within_14 (by decide) ?_
      have z0 : (0 : Int32).toInt = 0 := rfl
      exact li_iret dX11_within_15 rfl (li_nz (Or.inl rfl)) ⟨⟨_, rfl, Or.inl rfl, (by first | omega | (intro _; omega) | (intro h; exact absurd h (by decide)))⟩, hf⟩
    · have tc2 : p1.toInt ≤ p3.toInt := tl_nlt c2
      refine li_iconst 1 dX11_within_10 (by decide) ?_
      refine li_goto 15 dX11_within_11 (by decide) ?_
      have z1 : (1 : Int32).toInt = 1 := rfl
      exact li_iret dX11_within_15 rfl (li_nz (Or.inr rfl)) ⟨⟨_, rfl, Or.inr rfl, (by first | omega | (intro _; omega) | (intro h; exact absurd h (by decide)))⟩, hf⟩
set_option maxRecDepth 100000 in
set_option maxHeartbeats 4000000 in
theorem k4_X11_debate {l : Launch} {Z : li_Z} (d : Nat) (hd : 3 ≤ d) (p1 : Int32) (p2 : Int32) (p3 : Int32) (M0 : li_M) : li_Met l Z YX11_debate d [.ref (Z.2.2 0), .int p1, .int p2, .int p3] M0 (fun r M' => (∃ x : Int32, r = some (.int x) ∧ ((x.toInt = -1 ∧ ¬ (0 ≤ p1.toInt ∧ p1.toInt ≤ 60 ∧ 0 ≤ p2.toInt ∧ p2.toInt ≤ 60 ∧ 1 ≤ p3.toInt ∧ p3.toInt ≤ 9)) ∨ ((0 ≤ p1.toInt ∧ p1.toInt ≤ 60 ∧ 0 ≤ p2.toInt ∧ p2.toInt ≤ 60 ∧ 1 ≤ p3.toInt ∧ p3.toInt ≤ 9) ∧ (p2.toInt < p1.toInt → x.toInt = 1) ∧ (p1.toInt ≤ p2.toInt → x.toInt = 0)))) ∧ li_fr (fun i => i = 3 ∨ i = 4) M0 M') := by
  refine li_enter (by decide +kernel) (Nat.le_of_ble_eq_true rfl) ?_
  show li_T l Z YX11_debate d 0 [(0, .ref (Z.2.2 0)), (1, .int p1), (2, .int p2), (3, .int p3)] [] M0 _
  have hf : li_fr (fun i => i = 3 ∨ i = 4) M0 M0 := li_fr_refl
  have gp1 := tl_rg p1
  have gp2 := tl_rg p2
  have gp3 := tl_rg p3
  refine li_iload_n 1 dX11_debate_0 rfl ?_
  refine li_iconst 0 dX11_debate_1 (by decide) ?_
  refine li_bipush 60 dX11_debate_2 (by decide) ?_
  refine li_callS (n := 3) (As := [.int p1, .int 0, .int 60]) dX11_debate_4 (k4_X11_within (d - 1) (by omega) p1 0 60 M0) (by omega) (Nat.le_of_ble_eq_true rfl) w_762 w_639 w_101 w_640 (by decide +kernel) rfl rfl (Nat.le_of_ble_eq_true rfl) (fun r M2 h3 => ?_)
  have z0 : (0 : Int32).toInt = 0 := rfl
  have z60 : (60 : Int32).toInt = 60 := rfl
  obtain ⟨⟨x1, rfl, bx1, qx1⟩, h3⟩ := h3
  have ux1 := tl_b bx1
  have hf := li_fr_trans hf h3 (fun i h => False.elim h)
  refine li_if_eq 30 dX11_debate_7 (by decide) (fun c4 => ?_) (fun c4 => ?_)
  · have tc4 : x1.toInt = 0 := tl_eq c4
    refine li_iconst (-1) dX11_debate_30 (by decide) ?_
    have zm1 : ((-1) : Int32).toInt = -1 := rfl
    exact li_iret dX11_debate_31 rfl rfl ⟨⟨_, rfl, (by first | omega | (intro _; omega) | (intro h; exact absurd h (by decide)))⟩, hf⟩
  · have tc4 : ¬ x1.toInt = 0 := tl_ne c4
    refine li_iload_n 2 dX11_debate_10 rfl ?_
    refine li_iconst 0 dX11_debate_11 (by decide) ?_
    refine li_bipush 60 dX11_debate_12 (by decide) ?_
    refine li_callS (n := 3) (As := [.int p2, .int 0, .int 60]) dX11_debate_14 (k4_X11_within (d - 1) (by omega) p2 0 60 M2) (by omega) (Nat.le_of_ble_eq_true rfl) w_762 w_639 w_101 w_640 (by decide +kernel) rfl rfl (Nat.le_of_ble_eq_true rfl) (fun r M6 h7 => ?_)
    have z0 : (0 : Int32).toInt = 0 := rfl
    have z60 : (60 : Int32).toInt = 60 := rfl
    obtain ⟨⟨x5, rfl, bx5, qx5⟩, h7⟩ := h7
    have ux5 := tl_b bx5
    have hf := li_fr_trans hf h7 (fun i h => False.elim h)
    refine li_if_eq 30 dX11_debate_17 (by decide) (fun c8 => ?_) (fun c8 => ?_)
    · have tc8 : x5.toInt = 0 := tl_eq c8
      refine li_iconst (-1) dX11_debate_30 (by decide) ?_
      have zm1 : ((-1) : Int32).toInt = -1 := rfl
      exact li_iret dX11_debate_31 rfl rfl ⟨⟨_, rfl, (by first | omega | (intro _; omega) | (intro h; exact absurd h (by decide)))⟩, hf⟩
    · have tc8 : ¬ x5.toInt = 0 := tl_ne c8
      refine li_iload_n 3 dX11_debate_20 rfl ?_
      refine li_iconst 1 dX11_debate_21 (by decide) ?_
      refine li_bipush 9 dX11_debate_22 (by decide) ?_
      refine li_callS (n := 3) (As := [.int p3, .int 1, .int 9]) dX11_debate_24 (k4_X11_within (d - 1) (by omega) p3 1 9 M6) (by omega) (Nat.le_of_ble_eq_true rfl) w_762 w_639 w_101 w_640 (by decide +kernel) rfl rfl (Nat.le_of_ble_eq_true rfl) (fun r M10 h11 => ?_)
      have z1 : (1 : Int32).toInt = 1 := rfl
      have z9 : (9 : Int32).toInt = 9 := rfl
      obtain ⟨⟨x9, rfl, bx9, qx9⟩, h11⟩ := h11
      have ux9 := tl_b bx9
      have hf := li_fr_trans hf h11 (fun i h => False.elim h)
      refine li_if_ne 32 dX11_debate_27 (by decide) (fun c12 => ?_) (fun c12 => ?_)
      · have tc12 : ¬ x9.toInt = 0 := tl_ne c12
        refine li_iload_n 1 dX11_debate_32 rfl ?_
        refine li_iload_n 2 dX11_debate_33 rfl ?_
        have J42 : ∀ (x14 : Int32) (M15 : li_M), li_fr (fun i => i = 3 ∨ i = 4) M0 M15 → (p2.toInt < p1.toInt → (x14 : Int32).toInt = 1) ∧ (p1.toInt ≤ p2.toInt → (x14 : Int32).toInt = 0) → li_T l Z YX11_debate d 42 [(0, .ref (Z.2.2 0)), (1, .int p1), (2, .int p2), (3, .int p3)] [.int x14] M15 (fun r M' => (∃ x : Int32, r = some (.int x) ∧ ((x.toInt = -1 ∧ ¬ (0 ≤ p1.toInt ∧ p1.toInt ≤ 60 ∧ 0 ≤ p2.toInt ∧ p2.toInt ≤ 60 ∧ 1 ≤ p3.toInt ∧ p3.toInt ≤ 9)) ∨ ((0 ≤ p1.toInt ∧ p1.toInt ≤ 60 ∧ 0 ≤ p2.toInt ∧ p2.toInt ≤ 60 ∧ 1 ≤ p3.toInt ∧ p3.toInt ≤ 9) ∧ (p2.toInt < p1.toInt → x.toInt = 1) ∧ (p1.toInt ≤ p2.toInt → x.toInt = 0)))) ∧ li_fr (fun i => i = 3 ∨ i = 4) M0 M') := by
          intro x14 M15 hf hi
          have gx14 := tl_rg x14
          refine li_istore [(4, .int x14), (0, .ref (Z.2.2 0)), (1, .int p1), (2, .int p2), (3, .int p3)] dX11_debate_42 (by decide) rfl ?_
          refine li_aload_n 1 dX11_debate_44 rfl ?_
          refine li_getr (k := 1) (N := 13) (T := TX11) (C0 := RX11) dX11_debate_45 (by decide) sh_0 rfl rfl (by decide) (by decide) li_in11 w_474 ?_
          refine li_iload 0 dX11_debate_48 rfl ?_
          refine li_callV (n := 1) (As := [.int x14]) dX11_debate_50 (k_X5_tell (d - 1) (by omega) x14 M15) (by omega) (Nat.le_of_ble_eq_true rfl) w_1045 w_1046 w_1047 w_103 w_1048 (by decide +kernel) rfl (by decide) sh_3 rfl rfl (Nat.le_of_ble_eq_true rfl) (fun r M17 h18 => ?_)
          obtain ⟨rfl, h18⟩ := h18
          have hf := li_fr_trans hf h18 (fun i (h : i = 3 ∨ i = 4) => (show i = 3 ∨ i = 4 by omega))
          refine li_iload 0 dX11_debate_53 rfl ?_
          exact li_iret dX11_debate_55 rfl rfl ⟨⟨_, rfl, (by first | omega | (intro _; omega) | (intro h; exact absurd h (by decide)))⟩, hf⟩
        refine li_icmp_le 41 dX11_debate_34 (by decide) (fun c13 => ?_) (fun c13 => ?_)
        · have tc13 : p1.toInt ≤ p2.toInt := tl_le c13
          refine li_iconst 0 dX11_debate_41 (by decide) ?_
          refine li_pick [0, 1, 2, 3] [(0, .ref (Z.2.2 0)), (1, .int p1), (2, .int p2), (3, .int p3)] rfl ?_
          have z0 : (0 : Int32).toInt = 0 := rfl
          exact J42 0 M10 hf (by omega)
        · have tc13 : p2.toInt < p1.toInt := tl_nle c13
          refine li_iconst 1 dX11_debate_37 (by decide) ?_
          refine li_goto 42 dX11_debate_38 (by decide) ?_
          refine li_pick [0, 1, 2, 3] [(0, .ref (Z.2.2 0)), (1, .int p1), (2, .int p2), (3, .int p3)] rfl ?_
          have z1 : (1 : Int32).toInt = 1 := rfl
          exact J42 1 M10 hf (by omega)
      · have tc12 : x9.toInt = 0 := tl_eq c12
        refine li_iconst (-1) dX11_debate_30 (by decide) ?_
        have zm1 : ((-1) : Int32).toInt = -1 := rfl
        exact li_iret dX11_debate_31 rfl rfl ⟨⟨_, rfl, (by first | omega | (intro _; omega) | (intro h; exact absurd h (by decide)))⟩, hf⟩
set_option maxRecDepth 100000 in
set_option maxHeartbeats 4000000 in
theorem k4_X11_enough {l : Launch} {Z : li_Z} (d : Nat) (hd : 2 ≤ d) (p1 : Int32) (p2 : Int32) (M0 : li_M) : li_Met l Z YX11_enough d [.ref (Z.2.2 0), .int p1, .int p2] M0 (fun r M' => (∃ x : Int32, r = some (.int x) ∧ ((x.toInt = -1 ∧ ¬ (0 ≤ p1.toInt ∧ p1.toInt ≤ 60 ∧ 1 ≤ p2.toInt ∧ p2.toInt ≤ 9)) ∨ ((0 ≤ p1.toInt ∧ p1.toInt ≤ 60 ∧ 1 ≤ p2.toInt ∧ p2.toInt ≤ 9) ∧ (p1.toInt < 60 → x.toInt = p1.toInt + 1) ∧ (p1.toInt = 60 → x.toInt = -2)))) ∧ li_fr (fun i => False) M0 M') := by
  refine li_enter (by decide +kernel) (Nat.le_of_ble_eq_true rfl) ?_
  show li_T l Z YX11_enough d 0 [(0, .ref (Z.2.2 0)), (1, .int p1), (2, .int p2)] [] M0 _
  have hf : li_fr (fun i => False) M0 M0 := li_fr_refl
  have gp1 := tl_rg p1
  have gp2 := tl_rg p2
  refine li_iload_n 1 dX11_enough_0 rfl ?_
  refine li_iconst 0 dX11_enough_1 (by decide) ?_
  refine li_bipush 60 dX11_enough_2 (by decide) ?_
  refine li_callS (n := 3) (As := [.int p1, .int 0, .int 60]) dX11_enough_4 (k4_X11_within (d - 1) (by omega) p1 0 60 M0) (by omega) (Nat.le_of_ble_eq_true rfl) w_762 w_639 w_101 w_640 (by decide +kernel) rfl rfl (Nat.le_of_ble_eq_true rfl) (fun r M2 h3 => ?_)
  have z0 : (0 : Int32).toInt = 0 := rfl
  have z60 : (60 : Int32).toInt = 60 := rfl
  obtain ⟨⟨x1, rfl, bx1, qx1⟩, h3⟩ := h3
  have ux1 := tl_b bx1
  have hf := li_fr_trans hf h3 (fun i h => False.elim h)
  refine li_if_eq 20 dX11_enough_7 (by decide) (fun c4 => ?_) (fun c4 => ?_)
  · have tc4 : x1.toInt = 0 := tl_eq c4
    refine li_iconst (-1) dX11_enough_20 (by decide) ?_
    have zm1 : ((-1) : Int32).toInt = -1 := rfl
    exact li_iret dX11_enough_21 rfl rfl ⟨⟨_, rfl, (by first | omega | (intro _; omega) | (intro h; exact absurd h (by decide)))⟩, hf⟩
  · have tc4 : ¬ x1.toInt = 0 := tl_ne c4
    refine li_iload_n 2 dX11_enough_10 rfl ?_
    refine li_iconst 1 dX11_enough_11 (by decide) ?_
    refine li_bipush 9 dX11_enough_12 (by decide) ?_
    refine li_callS (n := 3) (As := [.int p2, .int 1, .int 9]) dX11_enough_14 (k4_X11_within (d - 1) (by omega) p2 1 9 M2) (by omega) (Nat.le_of_ble_eq_true rfl) w_762 w_639 w_101 w_640 (by decide +kernel) rfl rfl (Nat.le_of_ble_eq_true rfl) (fun r M6 h7 => ?_)
    have z1 : (1 : Int32).toInt = 1 := rfl
    have z9 : (9 : Int32).toInt = 9 := rfl
    obtain ⟨⟨x5, rfl, bx5, qx5⟩, h7⟩ := h7
    have ux5 := tl_b bx5
    have hf := li_fr_trans hf h7 (fun i h => False.elim h)
    refine li_if_ne 22 dX11_enough_17 (by decide) (fun c8 => ?_) (fun c8 => ?_)
    · have tc8 : ¬ x5.toInt = 0 := tl_ne c8
      refine li_iload_n 1 dX11_enough_22 rfl ?_
      refine li_bipush 60 dX11_enough_23 (by decide) ?_
      refine li_icmp_ge 34 dX11_enough_25 (by decide) (fun c9 => ?_) (fun c9 => ?_)
      · have tc9 : 60 ≤ p1.toInt := tl_le c9
        refine li_bipush (-2) dX11_enough_34 (by decide) ?_
        have zm2 : ((-2) : Int32).toInt = -2 := rfl
        exact li_iret dX11_enough_36 rfl rfl ⟨⟨_, rfl, (by first | omega | (intro _; omega) | (intro h; exact absurd h (by decide)))⟩, hf⟩
      · have tc9 : p1.toInt < 60 := tl_nle c9
        refine li_iload_n 1 dX11_enough_28 rfl ?_
        refine li_iconst 1 dX11_enough_29 (by decide) ?_
        refine li_iadd dX11_enough_30 ?_
        refine li_top (fun x10 ex10 => ?_)
        have tx10 : (-2147483648 ≤ p1.toInt + 1 ∧ p1.toInt + 1 ≤ 2147483647) → x10.toInt = p1.toInt + 1 := tl_add ex10
        refine li_goto 36 dX11_enough_31 (by decide) ?_
        exact li_iret dX11_enough_36 rfl rfl ⟨⟨_, rfl, (by first | omega | (intro _; omega) | (intro h; exact absurd h (by decide)))⟩, hf⟩
    · have tc8 : x5.toInt = 0 := tl_eq c8
      refine li_iconst (-1) dX11_enough_20 (by decide) ?_
      have zm1 : ((-1) : Int32).toInt = -1 := rfl
      exact li_iret dX11_enough_21 rfl rfl ⟨⟨_, rfl, (by first | omega | (intro _; omega) | (intro h; exact absurd h (by decide)))⟩, hf⟩
