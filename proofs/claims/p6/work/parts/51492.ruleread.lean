set_option maxRecDepth 100000 in
set_option maxHeartbeats 4000000 in
theorem k14_X6_readAtom {l : Launch} {Z : li_Z} (d : Nat) (hd : 7 ≤ d) (p1 : Int32) (dE : Nat) (IH : p1.toInt < 4 → ∀ (q9 : Int32), q9.toInt = p1.toInt + 1 → ∀ (M0 : li_M) (g : Nat → Int32) (hg : M0.1 2 = g) (LN P0 : Int) (hLN : (M0.1 1 1).toInt = LN) (hP0 : (M0.1 1 2).toInt = P0) (h1 : 0 ≤ P0 ∧ P0 ≤ LN ∧ LN ≤ 80) (Psg_M0 : li_sg (M0.1 2)) (R0 : Int) (hR0 : (M0.1 151 3).toInt = R0) (hr : 0 ≤ R0 ∧ R0 ≤ P0), li_Met l Z YX6_readExpression dE [.ref (Z.2.2 151), .ref (Z.2.2 1), .int q9] M0 (fun r M' => (∃ x : Int32, r = some (.int x) ∧ (x = 0 ∨ x = 1) ∧ (∃ ok q : Int, rpr g LN 0 (q9.toInt) P0 ok q ∧ x.toInt = ok ∧ (M'.1 1 2).toInt = q ∧ (M'.1 1 1).toInt = LN ∧ P0 ≤ q ∧ q ≤ LN ∧ (ok = 0 ∨ ok = 1) ∧ 0 ≤ (M'.1 151 3).toInt ∧ (M'.1 151 3).toInt - R0 ≤ q - P0)) ∧ li_fr (fun i => i = 1 ∨ i = 151 ∨ i = 152) M0 M')) (hE : dE + 1 ≤ d) (M0 : li_M) (g : Nat → Int32) (hg : M0.1 2 = g) (LN P0 : Int) (hLN : (M0.1 1 1).toInt = LN) (hP0 : (M0.1 1 2).toInt = P0) (h1 : 0 ≤ P0 ∧ P0 ≤ LN ∧ LN ≤ 80) (Psg_M0 : li_sg (M0.1 2)) (R0 : Int) (hR0 : (M0.1 151 3).toInt = R0) (hr : 0 ≤ R0 ∧ R0 ≤ P0) (h4 : p1.toInt ≤ 4) : li_Met l Z YX6_readAtom d [.ref (Z.2.2 151), .ref (Z.2.2 1), .int p1] M0 (fun r M' => (∃ x : Int32, r = some (.int x) ∧ (x = 0 ∨ x = 1) ∧ (∃ ok q : Int, rpr g LN 6 (p1.toInt) P0 ok q ∧ x.toInt = ok ∧ (M'.1 1 2).toInt = q ∧ (M'.1 1 1).toInt = LN ∧ P0 ≤ q ∧ q ≤ LN ∧ (ok = 0 ∨ ok = 1) ∧ 0 ≤ (M'.1 151 3).toInt ∧ (M'.1 151 3).toInt - R0 ≤ q - P0)) ∧ li_fr (fun i => i = 1 ∨ i = 151 ∨ i = 152) M0 M') := by
  refine li_enter (by decide +kernel) (Nat.le_of_ble_eq_true rfl) ?_
  show li_T l Z YX6_readAtom d 0 [(0, .ref (Z.2.2 151)), (1, .ref (Z.2.2 1)), (2, .int p1)] [] M0 _
  have hf : li_fr (fun i => i = 1 ∨ i = 151 ∨ i = 152) M0 M0 := li_fr_refl
  have gp1 := tl_rg p1
  refine li_iload_n 2 dX6_readAtom_0 rfl ?_
  refine li_iconst 4 dX6_readAtom_1 (by decide) ?_
  refine li_icmp_ge 40 dX6_readAtom_2 (by decide) (fun c1 => ?_) (fun c1 => ?_)
  · have tc1 : 4 ≤ p1.toInt := tl_le c1
    have i1 : (M0.1 1 2).toInt = P0 := by first | exact (qn8 (by assumption)).2 | exact Int.le_antisymm (by omega) (by omega)
    have i3 : ¬ (rd_ch g LN P0 = 40 ∧ p1.toInt < 4) := by first | exact (fun h9 => (qn8 (by assumption)).1 h9.1) | exact (fun h9 => absurd h9.2 (by omega))
    try clear qy8 qn8
    refine li_aload_n 1 dX6_readAtom_40 rfl ?_
    refine li_ldcS 3 dX6_readAtom_41 (by decide) ⟨rfl, rfl⟩ ?_
    refine li_callV (n := 1) (As := [.ref (Z.2.2 (2100 + 3))]) dX6_readAtom_43 (k14_X7_takeAnyOf (d - 1) (by omega) (by decide) M0 g ((hf.1 2 (by first | exact id | decide | omega)).trans hg) LN (P0) (Int.le_antisymm (by omega) (by omega)) (Int.le_antisymm (by omega) (by omega)) ⟨by omega, by omega, by omega⟩ Psg_M0) (by omega) (Nat.le_of_ble_eq_true rfl) w_576 w_577 w_578 w_102 w_579 (by decide +kernel) rfl (by decide) sh_1 rfl rfl (Nat.le_of_ble_eq_true rfl) (fun r M3 h4 => ?_)
    obtain ⟨⟨x2, rfl, qx2⟩, h4⟩ := h4
    have gx2 := tl_rg x2
    have hf := li_fr_trans hf h4 (fun i (h : i = 1) => (show i = 1 ∨ i = 151 ∨ i = 152 by omega))
    have mM3_151_3 : (M3.1 151 3).toInt = (M0.1 151 3).toInt := by rw [h4.1 151 (show ¬ (151 = 1) by first | (simp; done) | omega)]
    have Psg_M3 : li_sg (M3.1 2)  := li_sg_tr (h4.1 2 (fun h => by first | exact (h : False).elim | omega))  Psg_M0
    have ln43 : (M3.1 1 1).toInt = LN := qx2.2
    have ty43 : li_hd (0 ≤ x2.toInt → x2.toInt < (li_len.getD 3 0 : Nat) ∧ tk_C 3 (rd_ch g LN (P0)) ∧ (M3.1 1 2).toInt = P0 + 1 ∧ P0 < LN) := li_hdI fun h9 => by rcases qx2.1 with c | c; exact ⟨c.2.1, tk_yes (by decide) c.1 c.2.1 c.2.2.1, c.2.2.2.1, c.2.2.2.2⟩; exact absurd h9 (by omega)
    have tn43 : li_hd (x2.toInt < 0 → ¬ tk_C 3 (rd_ch g LN (P0)) ∧ (M3.1 1 2).toInt = P0) := li_hdI fun h9 => by rcases qx2.1 with c | c; exact absurd h9 (by omega); exact ⟨tk_no (by decide) c.2.1 rfl, c.2.2⟩
    have rx43 : -1 ≤ x2.toInt := by rcases qx2.1 with c | c <;> omega
    clear qx2
    refine li_istore_n [(3, .int x2), (0, .ref (Z.2.2 151)), (1, .ref (Z.2.2 1)), (2, .int p1)] dX6_readAtom_46 (by decide) rfl ?_
    refine li_iload_n 0 dX6_readAtom_47 rfl ?_
    refine li_if_lt 61 dX6_readAtom_48 (by decide) (fun c5 => ?_) (fun c5 => ?_)
    · have tc5 : x2.toInt < 0 := tl_lt c5
      have e43 := tn43 (by omega)
      clear ty43 tn43
      refine li_aload_n 2 dX6_readAtom_61 rfl ?_
      refine li_iconst 3 dX6_readAtom_62 (by decide) ?_
      obtain ⟨rn, qn, nq0⟩ : ∃ r q, li_nq g LN 3 (-1) P0 r q := li_nq_self
      refine li_callV (n := 1) (As := [.int 3]) dX6_readAtom_63 (k5_X7_takeNumber (d - 1) (by omega) 3 M3 ⟨by omega, by omega, by omega⟩ Psg_M3 (by decide) _ _ (li_nq_tr ((hf.1 2 (by first | exact id | decide | omega)).trans hg) (Int.le_antisymm (by omega) (by omega)) (by decide) rfl (Int.le_antisymm (by omega) (by omega)) rfl rfl nq0)) (by omega) (Nat.le_of_ble_eq_true rfl) w_634 w_635 w_636 w_102 w_637 (by decide +kernel) rfl (by decide) sh_1 rfl rfl (Nat.le_of_ble_eq_true rfl) (fun r M7 h8 => ?_)
      have z3 : (3 : Int32).toInt = 3 := rfl
      obtain ⟨⟨x6, rfl, qx6⟩, h8⟩ := h8
      have gx6 := tl_rg x6
      have hf := li_fr_trans hf h8 (fun i (h : i = 1) => (show i = 1 ∨ i = 151 ∨ i = 152 by omega))
      have mM7_151_3 : (M7.1 151 3).toInt = (M3.1 151 3).toInt := by rw [h8.1 151 (show ¬ (151 = 1) by first | (simp; done) | omega)]
      have Psg_M7 : li_sg (M7.1 2)  := li_sg_tr (h8.1 2 (fun h => by first | exact (h : False).elim | omega))  Psg_M3
      refine li_istore [(4, .int x6), (3, .int x2), (0, .ref (Z.2.2 151)), (1, .ref (Z.2.2 1)), (2, .int p1)] dX6_readAtom_66 (by decide) rfl ?_
      refine li_iload 0 dX6_readAtom_68 rfl ?_
      refine li_if_lt 86 dX6_readAtom_70 (by decide) (fun c9 => ?_) (fun c9 => ?_)
      · have tc9 : x6.toInt < 0 := tl_lt c9
        refine li_iconst 0 dX6_readAtom_86 (by decide) ?_
        have z0 : (0 : Int32).toInt = 0 := rfl
        exact li_iret dX6_readAtom_87 rfl (li_nz (Or.inl rfl)) ⟨⟨_, rfl, Or.inl rfl, (by first | (exact ⟨1, q1 + 1, rp_in6 (Or.inl ⟨⟨f8.1, by omega⟩, Or.inr ⟨q1, rp_to ra (Int.le_antisymm (by omega) (by omega)) (Int.le_antisymm (by omega) (by omega)) (Int.le_antisymm (by omega) (by omega)) rfl, Or.inl ⟨f28.1, rfl, rfl⟩⟩⟩), (by first | rfl | omega), Int.le_antisymm (by omega) (by omega), Int.le_antisymm (by omega) (by omega), by omega, by omega, Or.inr rfl, by omega, by omega⟩) | (exact ⟨0, q1, rp_in6 (Or.inl ⟨⟨f8.1, by omega⟩, Or.inr ⟨q1, rp_to ra (Int.le_antisymm (by omega) (by omega)) (Int.le_antisymm (by omega) (by omega)) (Int.le_antisymm (by omega) (by omega)) rfl, Or.inr ⟨e28.1, rfl, rfl⟩⟩⟩), (by first | rfl | omega), Int.le_antisymm (by omega) (by omega), Int.le_antisymm (by omega) (by omega), by omega, by omega, Or.inl rfl, by omega, by omega⟩) | (exact ⟨0, q1, rp_in6 (Or.inl ⟨⟨f8.1, by omega⟩, Or.inl ⟨rp_to ra (Int.le_antisymm (by omega) (by omega)) (Int.le_antisymm (by omega) (by omega)) (Int.le_antisymm (by omega) (by omega)) rfl, rfl⟩⟩), (by first | rfl | omega), Int.le_antisymm (by omega) (by omega), Int.le_antisymm (by omega) (by omega), by omega, by omega, Or.inl rfl, by omega, by omega⟩) | (exact ⟨1, P0 + 1, rp_in6 (Or.inr ⟨i3, Or.inl ⟨f43.2.1, rfl, rfl⟩⟩), (by first | rfl | omega), Int.le_antisymm (by omega) (by omega), Int.le_antisymm (by omega) (by omega), by omega, by omega, Or.inr rfl, by omega, by omega⟩) | (exact ⟨1, qn, rp_in6 (Or.inr ⟨i3, Or.inr ⟨e43.1, rn, nq0, Or.inl ⟨by omega, rfl⟩⟩⟩), (by first | rfl | omega), Int.le_antisymm (by omega) (by omega), Int.le_antisymm (by omega) (by omega), by omega, by omega, Or.inr rfl, by omega, by omega⟩) | (exact ⟨0, qn, rp_in6 (Or.inr ⟨i3, Or.inr ⟨e43.1, rn, nq0, Or.inr ⟨by omega, rfl⟩⟩⟩), (by first | rfl | omega), Int.le_antisymm (by omega) (by omega), Int.le_antisymm (by omega) (by omega), by omega, by omega, Or.inl rfl, by omega, by omega⟩))⟩, hf⟩
      · have tc9 : 0 ≤ x6.toInt := tl_nlt c9
        have ng := k14_gt nq0 (by omega)
        refine li_aload_n 2 dX6_readAtom_73 rfl ?_
        refine li_iload 0 dX6_readAtom_74 rfl ?_
        refine li_callV (n := 1) (As := [.int x6]) dX6_readAtom_76 (k14_X6_add (d - 1) (by omega) x6 M7 ⟨by omega, by omega⟩) (by omega) (Nat.le_of_ble_eq_true rfl) w_629 w_631 w_6 w_107 w_632 (by decide +kernel) rfl (by decide) sh_151 rfl rfl (Nat.le_of_ble_eq_true rfl) (fun r M11 h12 => ?_)
        obtain ⟨⟨x10, rfl, bx10, qx10⟩, h12⟩ := h12
        have ux10 := tl_b bx10
        have hf := li_fr_trans hf h12 (fun i (h : i = 151 ∨ i = 152) => (show i = 1 ∨ i = 151 ∨ i = 152 by omega))
        have mM11_1_1 : (M11.1 1 1).toInt = (M7.1 1 1).toInt := by rw [h12.1 1 (show ¬ (1 = 151 ∨ 1 = 152) by first | (simp; done) | omega)]
        have mM11_1_2 : (M11.1 1 2).toInt = (M7.1 1 2).toInt := by rw [h12.1 1 (show ¬ (1 = 151 ∨ 1 = 152) by first | (simp; done) | omega)]
        have Psg_M11 : li_sg (M11.1 2)  := li_sg_tr (h12.1 2 (fun h => by first | exact (h : False).elim | omega))  Psg_M7
        refine li_if_eq 86 dX6_readAtom_79 (by decide) (fun c13 => ?_) (fun c13 => ?_)
        · have tc13 : x10.toInt = 0 := tl_eq c13
          refine li_iconst 0 dX6_readAtom_86 (by decide) ?_
          have z0 : (0 : Int32).toInt = 0 := rfl
          exact li_iret dX6_readAtom_87 rfl (li_nz (Or.inl rfl)) ⟨⟨_, rfl, Or.inl rfl, (by first | (exact ⟨1, q1 + 1, rp_in6 (Or.inl ⟨⟨f8.1, by omega⟩, Or.inr ⟨q1, rp_to ra (Int.le_antisymm (by omega) (by omega)) (Int.le_antisymm (by omega) (by omega)) (Int.le_antisymm (by omega) (by omega)) rfl, Or.inl ⟨f28.1, rfl, rfl⟩⟩⟩), (by first | rfl | omega), Int.le_antisymm (by omega) (by omega), Int.le_antisymm (by omega) (by omega), by omega, by omega, Or.inr rfl, by omega, by omega⟩) | (exact ⟨0, q1, rp_in6 (Or.inl ⟨⟨f8.1, by omega⟩, Or.inr ⟨q1, rp_to ra (Int.le_antisymm (by omega) (by omega)) (Int.le_antisymm (by omega) (by omega)) (Int.le_antisymm (by omega) (by omega)) rfl, Or.inr ⟨e28.1, rfl, rfl⟩⟩⟩), (by first | rfl | omega), Int.le_antisymm (by omega) (by omega), Int.le_antisymm (by omega) (by omega), by omega, by omega, Or.inl rfl, by omega, by omega⟩) | (exact ⟨0, q1, rp_in6 (Or.inl ⟨⟨f8.1, by omega⟩, Or.inl ⟨rp_to ra (Int.le_antisymm (by omega) (by omega)) (Int.le_antisymm (by omega) (by omega)) (Int.le_antisymm (by omega) (by omega)) rfl, rfl⟩⟩), (by first | rfl | omega), Int.le_antisymm (by omega) (by omega), Int.le_antisymm (by omega) (by omega), by omega, by omega, Or.inl rfl, by omega, by omega⟩) | (exact ⟨1, P0 + 1, rp_in6 (Or.inr ⟨i3, Or.inl ⟨f43.2.1, rfl, rfl⟩⟩), (by first | rfl | omega), Int.le_antisymm (by omega) (by omega), Int.le_antisymm (by omega) (by omega), by omega, by omega, Or.inr rfl, by omega, by omega⟩) | (exact ⟨1, qn, rp_in6 (Or.inr ⟨i3, Or.inr ⟨e43.1, rn, nq0, Or.inl ⟨by omega, rfl⟩⟩⟩), (by first | rfl | omega), Int.le_antisymm (by omega) (by omega), Int.le_antisymm (by omega) (by omega), by omega, by omega, Or.inr rfl, by omega, by omega⟩) | (exact ⟨0, qn, rp_in6 (Or.inr ⟨i3, Or.inr ⟨e43.1, rn, nq0, Or.inr ⟨by omega, rfl⟩⟩⟩), (by first | rfl | omega), Int.le_antisymm (by omega) (by omega), Int.le_antisymm (by omega) (by omega), by omega, by omega, Or.inl rfl, by omega, by omega⟩))⟩, hf⟩
        · have tc13 : ¬ x10.toInt = 0 := tl_ne c13
          refine li_iconst 1 dX6_readAtom_82 (by decide) ?_
          refine li_goto 87 dX6_readAtom_83 (by decide) ?_
          have z1 : (1 : Int32).toInt = 1 := rfl
          exact li_iret dX6_readAtom_87 rfl (li_nz (Or.inr rfl)) ⟨⟨_, rfl, Or.inr rfl, (by first | (exact ⟨1, q1 + 1, rp_in6 (Or.inl ⟨⟨f8.1, by omega⟩, Or.inr ⟨q1, rp_to ra (Int.le_antisymm (by omega) (by omega)) (Int.le_antisymm (by omega) (by omega)) (Int.le_antisymm (by omega) (by omega)) rfl, Or.inl ⟨f28.1, rfl, rfl⟩⟩⟩), (by first | rfl | omega), Int.le_antisymm (by omega) (by omega), Int.le_antisymm (by omega) (by omega), by omega, by omega, Or.inr rfl, by omega, by omega⟩) | (exact ⟨0, q1, rp_in6 (Or.inl ⟨⟨f8.1, by omega⟩, Or.inr ⟨q1, rp_to ra (Int.le_antisymm (by omega) (by omega)) (Int.le_antisymm (by omega) (by omega)) (Int.le_antisymm (by omega) (by omega)) rfl, Or.inr ⟨e28.1, rfl, rfl⟩⟩⟩), (by first | rfl | omega), Int.le_antisymm (by omega) (by omega), Int.le_antisymm (by omega) (by omega), by omega, by omega, Or.inl rfl, by omega, by omega⟩) | (exact ⟨0, q1, rp_in6 (Or.inl ⟨⟨f8.1, by omega⟩, Or.inl ⟨rp_to ra (Int.le_antisymm (by omega) (by omega)) (Int.le_antisymm (by omega) (by omega)) (Int.le_antisymm (by omega) (by omega)) rfl, rfl⟩⟩), (by first | rfl | omega), Int.le_antisymm (by omega) (by omega), Int.le_antisymm (by omega) (by omega), by omega, by omega, Or.inl rfl, by omega, by omega⟩) | (exact ⟨1, P0 + 1, rp_in6 (Or.inr ⟨i3, Or.inl ⟨f43.2.1, rfl, rfl⟩⟩), (by first | rfl | omega), Int.le_antisymm (by omega) (by omega), Int.le_antisymm (by omega) (by omega), by omega, by omega, Or.inr rfl, by omega, by omega⟩) | (exact ⟨1, qn, rp_in6 (Or.inr ⟨i3, Or.inr ⟨e43.1, rn, nq0, Or.inl ⟨by omega, rfl⟩⟩⟩), (by first | rfl | omega), Int.le_antisymm (by omega) (by omega), Int.le_antisymm (by omega) (by omega), by omega, by omega, Or.inr rfl, by omega, by omega⟩) | (exact ⟨0, qn, rp_in6 (Or.inr ⟨i3, Or.inr ⟨e43.1, rn, nq0, Or.inr ⟨by omega, rfl⟩⟩⟩), (by first | rfl | omega), Int.le_antisymm (by omega) (by omega), Int.le_antisymm (by omega) (by omega), by omega, by omega, Or.inl rfl, by omega, by omega⟩))⟩, hf⟩
    · have tc5 : 0 ≤ x2.toInt := tl_nlt c5
      have f43 := ty43 (by omega)
      clear ty43 tn43
      refine li_aload_n 1 dX6_readAtom_51 rfl ?_
      refine li_sipush 1000 dX6_readAtom_52 (by decide) ?_
      refine li_iload_n 0 dX6_readAtom_55 rfl ?_
      refine li_iadd dX6_readAtom_56 ?_
      refine li_top (fun x14 ex14 => ?_)
      have tx14 : (-2147483648 ≤ 1000 + x2.toInt ∧ 1000 + x2.toInt ≤ 2147483647) → x14.toInt = 1000 + x2.toInt := tl_add ex14
      refine li_callV (n := 1) (As := [.int x14]) dX6_readAtom_57 (k14_X6_add (d - 1) (by omega) x14 M3 ⟨by omega, by omega⟩) (by omega) (Nat.le_of_ble_eq_true rfl) w_629 w_631 w_6 w_107 w_632 (by decide +kernel) rfl (by decide) sh_151 rfl rfl (Nat.le_of_ble_eq_true rfl) (fun r M16 h17 => ?_)
      obtain ⟨⟨x15, rfl, bx15, qx15⟩, h17⟩ := h17
      have ux15 := tl_b bx15
      have hf := li_fr_trans hf h17 (fun i (h : i = 151 ∨ i = 152) => (show i = 1 ∨ i = 151 ∨ i = 152 by omega))
      have mM16_1_1 : (M16.1 1 1).toInt = (M3.1 1 1).toInt := by rw [h17.1 1 (show ¬ (1 = 151 ∨ 1 = 152) by first | (simp; done) | omega)]
      have mM16_1_2 : (M16.1 1 2).toInt = (M3.1 1 2).toInt := by rw [h17.1 1 (show ¬ (1 = 151 ∨ 1 = 152) by first | (simp; done) | omega)]
      have Psg_M16 : li_sg (M16.1 2)  := li_sg_tr (h17.1 2 (fun h => by first | exact (h : False).elim | omega))  Psg_M3
      exact li_iret dX6_readAtom_60 rfl (li_nz (bx15)) ⟨⟨_, rfl, bx15, (by first | (exact ⟨1, q1 + 1, rp_in6 (Or.inl ⟨⟨f8.1, by omega⟩, Or.inr ⟨q1, rp_to ra (Int.le_antisymm (by omega) (by omega)) (Int.le_antisymm (by omega) (by omega)) (Int.le_antisymm (by omega) (by omega)) rfl, Or.inl ⟨f28.1, rfl, rfl⟩⟩⟩), (by first | rfl | omega), Int.le_antisymm (by omega) (by omega), Int.le_antisymm (by omega) (by omega), by omega, by omega, Or.inr rfl, by omega, by omega⟩) | (exact ⟨0, q1, rp_in6 (Or.inl ⟨⟨f8.1, by omega⟩, Or.inr ⟨q1, rp_to ra (Int.le_antisymm (by omega) (by omega)) (Int.le_antisymm (by omega) (by omega)) (Int.le_antisymm (by omega) (by omega)) rfl, Or.inr ⟨e28.1, rfl, rfl⟩⟩⟩), (by first | rfl | omega), Int.le_antisymm (by omega) (by omega), Int.le_antisymm (by omega) (by omega), by omega, by omega, Or.inl rfl, by omega, by omega⟩) | (exact ⟨0, q1, rp_in6 (Or.inl ⟨⟨f8.1, by omega⟩, Or.inl ⟨rp_to ra (Int.le_antisymm (by omega) (by omega)) (Int.le_antisymm (by omega) (by omega)) (Int.le_antisymm (by omega) (by omega)) rfl, rfl⟩⟩), (by first | rfl | omega), Int.le_antisymm (by omega) (by omega), Int.le_antisymm (by omega) (by omega), by omega, by omega, Or.inl rfl, by omega, by omega⟩) | (exact ⟨1, P0 + 1, rp_in6 (Or.inr ⟨i3, Or.inl ⟨f43.2.1, rfl, rfl⟩⟩), (by first | rfl | omega), Int.le_antisymm (by omega) (by omega), Int.le_antisymm (by omega) (by omega), by omega, by omega, Or.inr rfl, by omega, by omega⟩) | (exact ⟨1, qn, rp_in6 (Or.inr ⟨i3, Or.inr ⟨e43.1, rn, nq0, Or.inl ⟨by omega, rfl⟩⟩⟩), (by first | rfl | omega), Int.le_antisymm (by omega) (by omega), Int.le_antisymm (by omega) (by omega), by omega, by omega, Or.inr rfl, by omega, by omega⟩) | (exact ⟨0, qn, rp_in6 (Or.inr ⟨i3, Or.inr ⟨e43.1, rn, nq0, Or.inr ⟨by omega, rfl⟩⟩⟩), (by first | rfl | omega), Int.le_antisymm (by omega) (by omega), Int.le_antisymm (by omega) (by omega), by omega, by omega, Or.inl rfl, by omega, by omega⟩))⟩, hf⟩
  · have tc1 : p1.toInt < 4 := tl_nle c1
    refine li_aload_n 1 dX6_readAtom_5 rfl ?_
    refine li_bipush 40 dX6_readAtom_6 (by decide) ?_
    have cs8 : rd_ch (M0.1 2) ((M0.1 1 1).toInt) ((M0.1 1 2).toInt) = rd_ch g LN P0 := by rw [show M0.1 2 = g from ((hf.1 2 (by first | exact id | decide | omega)).trans hg), show (M0.1 1 1).toInt = LN from Int.le_antisymm (by omega) (by omega), show (M0.1 1 2).toInt = P0 from Int.le_antisymm (by omega) (by omega)]
    refine li_callV (n := 1) (As := [.int 40]) dX6_readAtom_8 (k5_X7_skip (d - 1) (by omega) 40 M0 ⟨by omega, by omega, by omega⟩ Psg_M0 (by first | decide | omega)) (by omega) (Nat.le_of_ble_eq_true rfl) w_564 w_565 w_566 w_102 w_567 (by decide +kernel) rfl (by decide) sh_1 rfl rfl (Nat.le_of_ble_eq_true rfl) (fun r M19 h20 => ?_)
    have z40 : (40 : Int32).toInt = 40 := rfl
    obtain ⟨⟨x18, rfl, bx18, qx18⟩, h20⟩ := h20
    have ux18 := tl_b bx18
    have hf := li_fr_trans hf h20 (fun i (h : i = 1) => (show i = 1 ∨ i = 151 ∨ i = 152 by omega))
    have mM19_151_3 : (M19.1 151 3).toInt = (M0.1 151 3).toInt := by rw [h20.1 151 (show ¬ (151 = 1) by first | (simp; done) | omega)]
    have Psg_M19 : li_sg (M19.1 2)  := li_sg_tr (h20.1 2 (fun h => by first | exact (h : False).elim | omega))  Psg_M0
    have ln8 : (M19.1 1 1).toInt = LN := qx18.2.trans (Int.le_antisymm (by omega) (by omega))
    have qy8 : li_hd (¬ x18.toInt = 0 → rd_ch g LN P0 = 40 ∧ (M19.1 1 2).toInt = P0 + 1 ∧ P0 < LN) := li_hdI fun h9 => by rcases qx18.1 with c | c; exact ⟨cs8.symm.trans c.2.1, c.2.2.2.trans (by omega), by omega⟩; exact absurd c.1 h9
    have qn8 : li_hd (x18.toInt = 0 → ¬ rd_ch g LN P0 = 40 ∧ (M19.1 1 2).toInt = P0) := li_hdI fun h9 => by rcases qx18.1 with c | c; exact absurd (c.1.symm.trans h9) (by decide); exact ⟨fun h8 => c.2.1 (cs8.trans h8), c.2.2.trans (Int.le_antisymm (by omega) (by omega))⟩
    clear qx18
    refine li_if_eq 40 dX6_readAtom_11 (by decide) (fun c21 => ?_) (fun c21 => ?_)
    · have tc21 : x18.toInt = 0 := tl_eq c21
      have i1 : (M19.1 1 2).toInt = P0 := by first | exact (qn8 (by assumption)).2 | exact Int.le_antisymm (by omega) (by omega)
      have i3 : ¬ (rd_ch g LN P0 = 40 ∧ p1.toInt < 4) := by first | exact (fun h9 => (qn8 (by assumption)).1 h9.1) | exact (fun h9 => absurd h9.2 (by omega))
      try clear qy8 qn8
      refine li_aload_n 1 dX6_readAtom_40 rfl ?_
      refine li_ldcS 3 dX6_readAtom_41 (by decide) ⟨rfl, rfl⟩ ?_
      refine li_callV (n := 1) (As := [.ref (Z.2.2 (2100 + 3))]) dX6_readAtom_43 (k14_X7_takeAnyOf (d - 1) (by omega) (by decide) M19 g ((hf.1 2 (by first | exact id | decide | omega)).trans hg) LN (P0) (Int.le_antisymm (by omega) (by omega)) (Int.le_antisymm (by omega) (by omega)) ⟨by omega, by omega, by omega⟩ Psg_M19) (by omega) (Nat.le_of_ble_eq_true rfl) w_576 w_577 w_578 w_102 w_579 (by decide +kernel) rfl (by decide) sh_1 rfl rfl (Nat.le_of_ble_eq_true rfl) (fun r M23 h24 => ?_)
      obtain ⟨⟨x22, rfl, qx22⟩, h24⟩ := h24
      have gx22 := tl_rg x22
      have hf := li_fr_trans hf h24 (fun i (h : i = 1) => (show i = 1 ∨ i = 151 ∨ i = 152 by omega))
      have mM23_151_3 : (M23.1 151 3).toInt = (M19.1 151 3).toInt := by rw [h24.1 151 (show ¬ (151 = 1) by first | (simp; done) | omega)]
      have Psg_M23 : li_sg (M23.1 2)  := li_sg_tr (h24.1 2 (fun h => by first | exact (h : False).elim | omega))  Psg_M19
      have ln43 : (M23.1 1 1).toInt = LN := qx22.2
      have ty43 : li_hd (0 ≤ x22.toInt → x22.toInt < (li_len.getD 3 0 : Nat) ∧ tk_C 3 (rd_ch g LN (P0)) ∧ (M23.1 1 2).toInt = P0 + 1 ∧ P0 < LN) := li_hdI fun h9 => by rcases qx22.1 with c | c; exact ⟨c.2.1, tk_yes (by decide) c.1 c.2.1 c.2.2.1, c.2.2.2.1, c.2.2.2.2⟩; exact absurd h9 (by omega)
      have tn43 : li_hd (x22.toInt < 0 → ¬ tk_C 3 (rd_ch g LN (P0)) ∧ (M23.1 1 2).toInt = P0) := li_hdI fun h9 => by rcases qx22.1 with c | c; exact absurd h9 (by omega); exact ⟨tk_no (by decide) c.2.1 rfl, c.2.2⟩
      have rx43 : -1 ≤ x22.toInt := by rcases qx22.1 with c | c <;> omega
      clear qx22
      refine li_istore_n [(3, .int x22), (0, .ref (Z.2.2 151)), (1, .ref (Z.2.2 1)), (2, .int p1)] dX6_readAtom_46 (by decide) rfl ?_
      refine li_iload_n 0 dX6_readAtom_47 rfl ?_
      refine li_if_lt 61 dX6_readAtom_48 (by decide) (fun c25 => ?_) (fun c25 => ?_)
      · have tc25 : x22.toInt < 0 := tl_lt c25
        have e43 := tn43 (by omega)
        clear ty43 tn43
        refine li_aload_n 2 dX6_readAtom_61 rfl ?_
        refine li_iconst 3 dX6_readAtom_62 (by decide) ?_
        obtain ⟨rn, qn, nq0⟩ : ∃ r q, li_nq g LN 3 (-1) P0 r q := li_nq_self
        refine li_callV (n := 1) (As := [.int 3]) dX6_readAtom_63 (k5_X7_takeNumber (d - 1) (by omega) 3 M23 ⟨by omega, by omega, by omega⟩ Psg_M23 (by decide) _ _ (li_nq_tr ((hf.1 2 (by first | exact id | decide | omega)).trans hg) (Int.le_antisymm (by omega) (by omega)) (by decide) rfl (Int.le_antisymm (by omega) (by omega)) rfl rfl nq0)) (by omega) (Nat.le_of_ble_eq_true rfl) w_634 w_635 w_636 w_102 w_637 (by decide +kernel) rfl (by decide) sh_1 rfl rfl (Nat.le_of_ble_eq_true rfl) (fun r M27 h28 => ?_)
        have z3 : (3 : Int32).toInt = 3 := rfl
        obtain ⟨⟨x26, rfl, qx26⟩, h28⟩ := h28
        have gx26 := tl_rg x26
        have hf := li_fr_trans hf h28 (fun i (h : i = 1) => (show i = 1 ∨ i = 151 ∨ i = 152 by omega))
        have mM27_151_3 : (M27.1 151 3).toInt = (M23.1 151 3).toInt := by rw [h28.1 151 (show ¬ (151 = 1) by first | (simp; done) | omega)]
        have Psg_M27 : li_sg (M27.1 2)  := li_sg_tr (h28.1 2 (fun h => by first | exact (h : False).elim | omega))  Psg_M23
        refine li_istore [(4, .int x26), (3, .int x22), (0, .ref (Z.2.2 151)), (1, .ref (Z.2.2 1)), (2, .int p1)] dX6_readAtom_66 (by decide) rfl ?_
        refine li_iload 0 dX6_readAtom_68 rfl ?_
        refine li_if_lt 86 dX6_readAtom_70 (by decide) (fun c29 => ?_) (fun c29 => ?_)
        · have tc29 : x26.toInt < 0 := tl_lt c29
          refine li_iconst 0 dX6_readAtom_86 (by decide) ?_
          have z0 : (0 : Int32).toInt = 0 := rfl
          exact li_iret dX6_readAtom_87 rfl (li_nz (Or.inl rfl)) ⟨⟨_, rfl, Or.inl rfl, (by first | (exact ⟨1, q1 + 1, rp_in6 (Or.inl ⟨⟨f8.1, by omega⟩, Or.inr ⟨q1, rp_to ra (Int.le_antisymm (by omega) (by omega)) (Int.le_antisymm (by omega) (by omega)) (Int.le_antisymm (by omega) (by omega)) rfl, Or.inl ⟨f28.1, rfl, rfl⟩⟩⟩), (by first | rfl | omega), Int.le_antisymm (by omega) (by omega), Int.le_antisymm (by omega) (by omega), by omega, by omega, Or.inr rfl, by omega, by omega⟩) | (exact ⟨0, q1, rp_in6 (Or.inl ⟨⟨f8.1, by omega⟩, Or.inr ⟨q1, rp_to ra (Int.le_antisymm (by omega) (by omega)) (Int.le_antisymm (by omega) (by omega)) (Int.le_antisymm (by omega) (by omega)) rfl, Or.inr ⟨e28.1, rfl, rfl⟩⟩⟩), (by first | rfl | omega), Int.le_antisymm (by omega) (by omega), Int.le_antisymm (by omega) (by omega), by omega, by omega, Or.inl rfl, by omega, by omega⟩) | (exact ⟨0, q1, rp_in6 (Or.inl ⟨⟨f8.1, by omega⟩, Or.inl ⟨rp_to ra (Int.le_antisymm (by omega) (by omega)) (Int.le_antisymm (by omega) (by omega)) (Int.le_antisymm (by omega) (by omega)) rfl, rfl⟩⟩), (by first | rfl | omega), Int.le_antisymm (by omega) (by omega), Int.le_antisymm (by omega) (by omega), by omega, by omega, Or.inl rfl, by omega, by omega⟩) | (exact ⟨1, P0 + 1, rp_in6 (Or.inr ⟨i3, Or.inl ⟨f43.2.1, rfl, rfl⟩⟩), (by first | rfl | omega), Int.le_antisymm (by omega) (by omega), Int.le_antisymm (by omega) (by omega), by omega, by omega, Or.inr rfl, by omega, by omega⟩) | (exact ⟨1, qn, rp_in6 (Or.inr ⟨i3, Or.inr ⟨e43.1, rn, nq0, Or.inl ⟨by omega, rfl⟩⟩⟩), (by first | rfl | omega), Int.le_antisymm (by omega) (by omega), Int.le_antisymm (by omega) (by omega), by omega, by omega, Or.inr rfl, by omega, by omega⟩) | (exact ⟨0, qn, rp_in6 (Or.inr ⟨i3, Or.inr ⟨e43.1, rn, nq0, Or.inr ⟨by omega, rfl⟩⟩⟩), (by first | rfl | omega), Int.le_antisymm (by omega) (by omega), Int.le_antisymm (by omega) (by omega), by omega, by omega, Or.inl rfl, by omega, by omega⟩))⟩, hf⟩
        · have tc29 : 0 ≤ x26.toInt := tl_nlt c29
          have ng := k14_gt nq0 (by omega)
          refine li_aload_n 2 dX6_readAtom_73 rfl ?_
          refine li_iload 0 dX6_readAtom_74 rfl ?_
          refine li_callV (n := 1) (As := [.int x26]) dX6_readAtom_76 (k14_X6_add (d - 1) (by omega) x26 M27 ⟨by omega, by omega⟩) (by omega) (Nat.le_of_ble_eq_true rfl) w_629 w_631 w_6 w_107 w_632 (by decide +kernel) rfl (by decide) sh_151 rfl rfl (Nat.le_of_ble_eq_true rfl) (fun r M31 h32 => ?_)
          obtain ⟨⟨x30, rfl, bx30, qx30⟩, h32⟩ := h32
          have ux30 := tl_b bx30
          have hf := li_fr_trans hf h32 (fun i (h : i = 151 ∨ i = 152) => (show i = 1 ∨ i = 151 ∨ i = 152 by omega))
          have mM31_1_1 : (M31.1 1 1).toInt = (M27.1 1 1).toInt := by rw [h32.1 1 (show ¬ (1 = 151 ∨ 1 = 152) by first | (simp; done) | omega)]
          have mM31_1_2 : (M31.1 1 2).toInt = (M27.1 1 2).toInt := by rw [h32.1 1 (show ¬ (1 = 151 ∨ 1 = 152) by first | (simp; done) | omega)]
          have Psg_M31 : li_sg (M31.1 2)  := li_sg_tr (h32.1 2 (fun h => by first | exact (h : False).elim | omega))  Psg_M27
          refine li_if_eq 86 dX6_readAtom_79 (by decide) (fun c33 => ?_) (fun c33 => ?_)
          · have tc33 : x30.toInt = 0 := tl_eq c33
            refine li_iconst 0 dX6_readAtom_86 (by decide) ?_
            have z0 : (0 : Int32).toInt = 0 := rfl
            exact li_iret dX6_readAtom_87 rfl (li_nz (Or.inl rfl)) ⟨⟨_, rfl, Or.inl rfl, (by first | (exact ⟨1, q1 + 1, rp_in6 (Or.inl ⟨⟨f8.1, by omega⟩, Or.inr ⟨q1, rp_to ra (Int.le_antisymm (by omega) (by omega)) (Int.le_antisymm (by omega) (by omega)) (Int.le_antisymm (by omega) (by omega)) rfl, Or.inl ⟨f28.1, rfl, rfl⟩⟩⟩), (by first | rfl | omega), Int.le_antisymm (by omega) (by omega), Int.le_antisymm (by omega) (by omega), by omega, by omega, Or.inr rfl, by omega, by omega⟩) | (exact ⟨0, q1, rp_in6 (Or.inl ⟨⟨f8.1, by omega⟩, Or.inr ⟨q1, rp_to ra (Int.le_antisymm (by omega) (by omega)) (Int.le_antisymm (by omega) (by omega)) (Int.le_antisymm (by omega) (by omega)) rfl, Or.inr ⟨e28.1, rfl, rfl⟩⟩⟩), (by first | rfl | omega), Int.le_antisymm (by omega) (by omega), Int.le_antisymm (by omega) (by omega), by omega, by omega, Or.inl rfl, by omega, by omega⟩) | (exact ⟨0, q1, rp_in6 (Or.inl ⟨⟨f8.1, by omega⟩, Or.inl ⟨rp_to ra (Int.le_antisymm (by omega) (by omega)) (Int.le_antisymm (by omega) (by omega)) (Int.le_antisymm (by omega) (by omega)) rfl, rfl⟩⟩), (by first | rfl | omega), Int.le_antisymm (by omega) (by omega), Int.le_antisymm (by omega) (by omega), by omega, by omega, Or.inl rfl, by omega, by omega⟩) | (exact ⟨1, P0 + 1, rp_in6 (Or.inr ⟨i3, Or.inl ⟨f43.2.1, rfl, rfl⟩⟩), (by first | rfl | omega), Int.le_antisymm (by omega) (by omega), Int.le_antisymm (by omega) (by omega), by omega, by omega, Or.inr rfl, by omega, by omega⟩) | (exact ⟨1, qn, rp_in6 (Or.inr ⟨i3, Or.inr ⟨e43.1, rn, nq0, Or.inl ⟨by omega, rfl⟩⟩⟩), (by first | rfl | omega), Int.le_antisymm (by omega) (by omega), Int.le_antisymm (by omega) (by omega), by omega, by omega, Or.inr rfl, by omega, by omega⟩) | (exact ⟨0, qn, rp_in6 (Or.inr ⟨i3, Or.inr ⟨e43.1, rn, nq0, Or.inr ⟨by omega, rfl⟩⟩⟩), (by first | rfl | omega), Int.le_antisymm (by omega) (by omega), Int.le_antisymm (by omega) (by omega), by omega, by omega, Or.inl rfl, by omega, by omega⟩))⟩, hf⟩
          · have tc33 : ¬ x30.toInt = 0 := tl_ne c33
            refine li_iconst 1 dX6_readAtom_82 (by decide) ?_
            refine li_goto 87 dX6_readAtom_83 (by decide) ?_
            have z1 : (1 : Int32).toInt = 1 := rfl
            exact li_iret dX6_readAtom_87 rfl (li_nz (Or.inr rfl)) ⟨⟨_, rfl, Or.inr rfl, (by first | (exact ⟨1, q1 + 1, rp_in6 (Or.inl ⟨⟨f8.1, by omega⟩, Or.inr ⟨q1, rp_to ra (Int.le_antisymm (by omega) (by omega)) (Int.le_antisymm (by omega) (by omega)) (Int.le_antisymm (by omega) (by omega)) rfl, Or.inl ⟨f28.1, rfl, rfl⟩⟩⟩), (by first | rfl | omega), Int.le_antisymm (by omega) (by omega), Int.le_antisymm (by omega) (by omega), by omega, by omega, Or.inr rfl, by omega, by omega⟩) | (exact ⟨0, q1, rp_in6 (Or.inl ⟨⟨f8.1, by omega⟩, Or.inr ⟨q1, rp_to ra (Int.le_antisymm (by omega) (by omega)) (Int.le_antisymm (by omega) (by omega)) (Int.le_antisymm (by omega) (by omega)) rfl, Or.inr ⟨e28.1, rfl, rfl⟩⟩⟩), (by first | rfl | omega), Int.le_antisymm (by omega) (by omega), Int.le_antisymm (by omega) (by omega), by omega, by omega, Or.inl rfl, by omega, by omega⟩) | (exact ⟨0, q1, rp_in6 (Or.inl ⟨⟨f8.1, by omega⟩, Or.inl ⟨rp_to ra (Int.le_antisymm (by omega) (by omega)) (Int.le_antisymm (by omega) (by omega)) (Int.le_antisymm (by omega) (by omega)) rfl, rfl⟩⟩), (by first | rfl | omega), Int.le_antisymm (by omega) (by omega), Int.le_antisymm (by omega) (by omega), by omega, by omega, Or.inl rfl, by omega, by omega⟩) | (exact ⟨1, P0 + 1, rp_in6 (Or.inr ⟨i3, Or.inl ⟨f43.2.1, rfl, rfl⟩⟩), (by first | rfl | omega), Int.le_antisymm (by omega) (by omega), Int.le_antisymm (by omega) (by omega), by omega, by omega, Or.inr rfl, by omega, by omega⟩) | (exact ⟨1, qn, rp_in6 (Or.inr ⟨i3, Or.inr ⟨e43.1, rn, nq0, Or.inl ⟨by omega, rfl⟩⟩⟩), (by first | rfl | omega), Int.le_antisymm (by omega) (by omega), Int.le_antisymm (by omega) (by omega), by omega, by omega, Or.inr rfl, by omega, by omega⟩) | (exact ⟨0, qn, rp_in6 (Or.inr ⟨i3, Or.inr ⟨e43.1, rn, nq0, Or.inr ⟨by omega, rfl⟩⟩⟩), (by first | rfl | omega), Int.le_antisymm (by omega) (by omega), Int.le_antisymm (by omega) (by omega), by omega, by omega, Or.inl rfl, by omega, by omega⟩))⟩, hf⟩
      · have tc25 : 0 ≤ x22.toInt := tl_nlt c25
        have f43 := ty43 (by omega)
        clear ty43 tn43
        refine li_aload_n 1 dX6_readAtom_51 rfl ?_
        refine li_sipush 1000 dX6_readAtom_52 (by decide) ?_
        refine li_iload_n 0 dX6_readAtom_55 rfl ?_
        refine li_iadd dX6_readAtom_56 ?_
        refine li_top (fun x34 ex34 => ?_)
        have tx34 : (-2147483648 ≤ 1000 + x22.toInt ∧ 1000 + x22.toInt ≤ 2147483647) → x34.toInt = 1000 + x22.toInt := tl_add ex34
        refine li_callV (n := 1) (As := [.int x34]) dX6_readAtom_57 (k14_X6_add (d - 1) (by omega) x34 M23 ⟨by omega, by omega⟩) (by omega) (Nat.le_of_ble_eq_true rfl) w_629 w_631 w_6 w_107 w_632 (by decide +kernel) rfl (by decide) sh_151 rfl rfl (Nat.le_of_ble_eq_true rfl) (fun r M36 h37 => ?_)
        obtain ⟨⟨x35, rfl, bx35, qx35⟩, h37⟩ := h37
        have ux35 := tl_b bx35
        have hf := li_fr_trans hf h37 (fun i (h : i = 151 ∨ i = 152) => (show i = 1 ∨ i = 151 ∨ i = 152 by omega))
        have mM36_1_1 : (M36.1 1 1).toInt = (M23.1 1 1).toInt := by rw [h37.1 1 (show ¬ (1 = 151 ∨ 1 = 152) by first | (simp; done) | omega)]
        have mM36_1_2 : (M36.1 1 2).toInt = (M23.1 1 2).toInt := by rw [h37.1 1 (show ¬ (1 = 151 ∨ 1 = 152) by first | (simp; done) | omega)]
        have Psg_M36 : li_sg (M36.1 2)  := li_sg_tr (h37.1 2 (fun h => by first | exact (h : False).elim | omega))  Psg_M23
        exact li_iret dX6_readAtom_60 rfl (li_nz (bx35)) ⟨⟨_, rfl, bx35, (by first | (exact ⟨1, q1 + 1, rp_in6 (Or.inl ⟨⟨f8.1, by omega⟩, Or.inr ⟨q1, rp_to ra (Int.le_antisymm (by omega) (by omega)) (Int.le_antisymm (by omega) (by omega)) (Int.le_antisymm (by omega) (by omega)) rfl, Or.inl ⟨f28.1, rfl, rfl⟩⟩⟩), (by first | rfl | omega), Int.le_antisymm (by omega) (by omega), Int.le_antisymm (by omega) (by omega), by omega, by omega, Or.inr rfl, by omega, by omega⟩) | (exact ⟨0, q1, rp_in6 (Or.inl ⟨⟨f8.1, by omega⟩, Or.inr ⟨q1, rp_to ra (Int.le_antisymm (by omega) (by omega)) (Int.le_antisymm (by omega) (by omega)) (Int.le_antisymm (by omega) (by omega)) rfl, Or.inr ⟨e28.1, rfl, rfl⟩⟩⟩), (by first | rfl | omega), Int.le_antisymm (by omega) (by omega), Int.le_antisymm (by omega) (by omega), by omega, by omega, Or.inl rfl, by omega, by omega⟩) | (exact ⟨0, q1, rp_in6 (Or.inl ⟨⟨f8.1, by omega⟩, Or.inl ⟨rp_to ra (Int.le_antisymm (by omega) (by omega)) (Int.le_antisymm (by omega) (by omega)) (Int.le_antisymm (by omega) (by omega)) rfl, rfl⟩⟩), (by first | rfl | omega), Int.le_antisymm (by omega) (by omega), Int.le_antisymm (by omega) (by omega), by omega, by omega, Or.inl rfl, by omega, by omega⟩) | (exact ⟨1, P0 + 1, rp_in6 (Or.inr ⟨i3, Or.inl ⟨f43.2.1, rfl, rfl⟩⟩), (by first | rfl | omega), Int.le_antisymm (by omega) (by omega), Int.le_antisymm (by omega) (by omega), by omega, by omega, Or.inr rfl, by omega, by omega⟩) | (exact ⟨1, qn, rp_in6 (Or.inr ⟨i3, Or.inr ⟨e43.1, rn, nq0, Or.inl ⟨by omega, rfl⟩⟩⟩), (by first | rfl | omega), Int.le_antisymm (by omega) (by omega), Int.le_antisymm (by omega) (by omega), by omega, by omega, Or.inr rfl, by omega, by omega⟩) | (exact ⟨0, qn, rp_in6 (Or.inr ⟨i3, Or.inr ⟨e43.1, rn, nq0, Or.inr ⟨by omega, rfl⟩⟩⟩), (by first | rfl | omega), Int.le_antisymm (by omega) (by omega), Int.le_antisymm (by omega) (by omega), by omega, by omega, Or.inl rfl, by omega, by omega⟩))⟩, hf⟩
    · have tc21 : ¬ x18.toInt = 0 := tl_ne c21
      have f8 := qy8 (by assumption)
      clear qy8 qn8
      refine li_aload_n 0 dX6_readAtom_14 rfl ?_
      refine li_aload_n 1 dX6_readAtom_15 rfl ?_
      refine li_iload_n 2 dX6_readAtom_16 rfl ?_
      refine li_iconst 1 dX6_readAtom_17 (by decide) ?_
      refine li_iadd dX6_readAtom_18 ?_
      refine li_top (fun x38 ex38 => ?_)
      have tx38 : (-2147483648 ≤ p1.toInt + 1 ∧ p1.toInt + 1 ≤ 2147483647) → x38.toInt = p1.toInt + 1 := tl_add ex38
      refine li_callV (n := 2) (As := [.ref (Z.2.2 1), .int x38]) dX6_readAtom_19 (IH (by omega) x38 (by omega) M19 g ((hf.1 2 (by first | exact id | decide | omega)).trans hg) LN _ (Int.le_antisymm (by omega) (by omega)) rfl ⟨by omega, by omega, by omega⟩ Psg_M19 _ rfl ⟨by omega, by omega⟩) (by omega) (Nat.le_of_ble_eq_true rfl) w_548 w_550 w_1 w_107 w_551 (by decide +kernel) rfl (by decide) sh_151 rfl rfl (Nat.le_of_ble_eq_true rfl) (fun r M40 h41 => ?_)
      obtain ⟨⟨x39, rfl, bx39, qx39⟩, h41⟩ := h41
      have ux39 := tl_b bx39
      have hf := li_fr_trans hf h41 (fun i (h : i = 1 ∨ i = 151 ∨ i = 152) => (show i = 1 ∨ i = 151 ∨ i = 152 by omega))
      have Psg_M40 : li_sg (M40.1 2)  := li_sg_tr (h41.1 2 (fun h => by first | exact (h : False).elim | omega))  Psg_M19
      obtain ⟨ok1, q1, ra, ea1, ea2, ea3, ea4, ea5, ea6, ea7, ea8⟩ := qx39
      refine li_if_eq 38 dX6_readAtom_22 (by decide) (fun c42 => ?_) (fun c42 => ?_)
      · have tc42 : x39.toInt = 0 := tl_eq c42
        first | (have e28 := qn28 (by assumption)) | skip
        refine li_iconst 0 dX6_readAtom_38 (by decide) ?_
        have z0 : (0 : Int32).toInt = 0 := rfl
        exact li_iret dX6_readAtom_39 rfl (li_nz (Or.inl rfl)) ⟨⟨_, rfl, Or.inl rfl, (by first | (exact ⟨1, q1 + 1, rp_in6 (Or.inl ⟨⟨f8.1, by omega⟩, Or.inr ⟨q1, rp_to ra (Int.le_antisymm (by omega) (by omega)) (Int.le_antisymm (by omega) (by omega)) (Int.le_antisymm (by omega) (by omega)) rfl, Or.inl ⟨f28.1, rfl, rfl⟩⟩⟩), (by first | rfl | omega), Int.le_antisymm (by omega) (by omega), Int.le_antisymm (by omega) (by omega), by omega, by omega, Or.inr rfl, by omega, by omega⟩) | (exact ⟨0, q1, rp_in6 (Or.inl ⟨⟨f8.1, by omega⟩, Or.inr ⟨q1, rp_to ra (Int.le_antisymm (by omega) (by omega)) (Int.le_antisymm (by omega) (by omega)) (Int.le_antisymm (by omega) (by omega)) rfl, Or.inr ⟨e28.1, rfl, rfl⟩⟩⟩), (by first | rfl | omega), Int.le_antisymm (by omega) (by omega), Int.le_antisymm (by omega) (by omega), by omega, by omega, Or.inl rfl, by omega, by omega⟩) | (exact ⟨0, q1, rp_in6 (Or.inl ⟨⟨f8.1, by omega⟩, Or.inl ⟨rp_to ra (Int.le_antisymm (by omega) (by omega)) (Int.le_antisymm (by omega) (by omega)) (Int.le_antisymm (by omega) (by omega)) rfl, rfl⟩⟩), (by first | rfl | omega), Int.le_antisymm (by omega) (by omega), Int.le_antisymm (by omega) (by omega), by omega, by omega, Or.inl rfl, by omega, by omega⟩) | (exact ⟨1, P0 + 1, rp_in6 (Or.inr ⟨i3, Or.inl ⟨f43.2.1, rfl, rfl⟩⟩), (by first | rfl | omega), Int.le_antisymm (by omega) (by omega), Int.le_antisymm (by omega) (by omega), by omega, by omega, Or.inr rfl, by omega, by omega⟩) | (exact ⟨1, qn, rp_in6 (Or.inr ⟨i3, Or.inr ⟨e43.1, rn, nq0, Or.inl ⟨by omega, rfl⟩⟩⟩), (by first | rfl | omega), Int.le_antisymm (by omega) (by omega), Int.le_antisymm (by omega) (by omega), by omega, by omega, Or.inr rfl, by omega, by omega⟩) | (exact ⟨0, qn, rp_in6 (Or.inr ⟨i3, Or.inr ⟨e43.1, rn, nq0, Or.inr ⟨by omega, rfl⟩⟩⟩), (by first | rfl | omega), Int.le_antisymm (by omega) (by omega), Int.le_antisymm (by omega) (by omega), by omega, by omega, Or.inl rfl, by omega, by omega⟩))⟩, hf⟩
      · have tc42 : ¬ x39.toInt = 0 := tl_ne c42
        refine li_aload_n 1 dX6_readAtom_25 rfl ?_
        refine li_bipush 41 dX6_readAtom_26 (by decide) ?_
        have cs28 : rd_ch (M40.1 2) ((M40.1 1 1).toInt) ((M40.1 1 2).toInt) = rd_ch g LN q1 := by rw [show M40.1 2 = g from ((hf.1 2 (by first | exact id | decide | omega)).trans hg), show (M40.1 1 1).toInt = LN from Int.le_antisymm (by omega) (by omega), show (M40.1 1 2).toInt = q1 from Int.le_antisymm (by omega) (by omega)]
        refine li_callV (n := 1) (As := [.int 41]) dX6_readAtom_28 (k5_X7_skip (d - 1) (by omega) 41 M40 ⟨by omega, by omega, by omega⟩ Psg_M40 (by first | decide | omega)) (by omega) (Nat.le_of_ble_eq_true rfl) w_564 w_565 w_566 w_102 w_567 (by decide +kernel) rfl (by decide) sh_1 rfl rfl (Nat.le_of_ble_eq_true rfl) (fun r M44 h45 => ?_)
        have z41 : (41 : Int32).toInt = 41 := rfl
        obtain ⟨⟨x43, rfl, bx43, qx43⟩, h45⟩ := h45
        have ux43 := tl_b bx43
        have hf := li_fr_trans hf h45 (fun i (h : i = 1) => (show i = 1 ∨ i = 151 ∨ i = 152 by omega))
        have mM44_151_3 : (M44.1 151 3).toInt = (M40.1 151 3).toInt := by rw [h45.1 151 (show ¬ (151 = 1) by first | (simp; done) | omega)]
        have Psg_M44 : li_sg (M44.1 2)  := li_sg_tr (h45.1 2 (fun h => by first | exact (h : False).elim | omega))  Psg_M40
        have ln28 : (M44.1 1 1).toInt = LN := qx43.2.trans (Int.le_antisymm (by omega) (by omega))
        have qy28 : li_hd (¬ x43.toInt = 0 → rd_ch g LN q1 = 41 ∧ (M44.1 1 2).toInt = q1 + 1 ∧ q1 < LN) := li_hdI fun h9 => by rcases qx43.1 with c | c; exact ⟨cs28.symm.trans c.2.1, c.2.2.2.trans (by omega), by omega⟩; exact absurd c.1 h9
        have qn28 : li_hd (x43.toInt = 0 → ¬ rd_ch g LN q1 = 41 ∧ (M44.1 1 2).toInt = q1) := li_hdI fun h9 => by rcases qx43.1 with c | c; exact absurd (c.1.symm.trans h9) (by decide); exact ⟨fun h8 => c.2.1 (cs28.trans h8), c.2.2.trans (Int.le_antisymm (by omega) (by omega))⟩
        clear qx43
        refine li_if_eq 38 dX6_readAtom_31 (by decide) (fun c46 => ?_) (fun c46 => ?_)
        · have tc46 : x43.toInt = 0 := tl_eq c46
          first | (have e28 := qn28 (by assumption)) | skip
          refine li_iconst 0 dX6_readAtom_38 (by decide) ?_
          have z0 : (0 : Int32).toInt = 0 := rfl
          exact li_iret dX6_readAtom_39 rfl (li_nz (Or.inl rfl)) ⟨⟨_, rfl, Or.inl rfl, (by first | (exact ⟨1, q1 + 1, rp_in6 (Or.inl ⟨⟨f8.1, by omega⟩, Or.inr ⟨q1, rp_to ra (Int.le_antisymm (by omega) (by omega)) (Int.le_antisymm (by omega) (by omega)) (Int.le_antisymm (by omega) (by omega)) rfl, Or.inl ⟨f28.1, rfl, rfl⟩⟩⟩), (by first | rfl | omega), Int.le_antisymm (by omega) (by omega), Int.le_antisymm (by omega) (by omega), by omega, by omega, Or.inr rfl, by omega, by omega⟩) | (exact ⟨0, q1, rp_in6 (Or.inl ⟨⟨f8.1, by omega⟩, Or.inr ⟨q1, rp_to ra (Int.le_antisymm (by omega) (by omega)) (Int.le_antisymm (by omega) (by omega)) (Int.le_antisymm (by omega) (by omega)) rfl, Or.inr ⟨e28.1, rfl, rfl⟩⟩⟩), (by first | rfl | omega), Int.le_antisymm (by omega) (by omega), Int.le_antisymm (by omega) (by omega), by omega, by omega, Or.inl rfl, by omega, by omega⟩) | (exact ⟨0, q1, rp_in6 (Or.inl ⟨⟨f8.1, by omega⟩, Or.inl ⟨rp_to ra (Int.le_antisymm (by omega) (by omega)) (Int.le_antisymm (by omega) (by omega)) (Int.le_antisymm (by omega) (by omega)) rfl, rfl⟩⟩), (by first | rfl | omega), Int.le_antisymm (by omega) (by omega), Int.le_antisymm (by omega) (by omega), by omega, by omega, Or.inl rfl, by omega, by omega⟩) | (exact ⟨1, P0 + 1, rp_in6 (Or.inr ⟨i3, Or.inl ⟨f43.2.1, rfl, rfl⟩⟩), (by first | rfl | omega), Int.le_antisymm (by omega) (by omega), Int.le_antisymm (by omega) (by omega), by omega, by omega, Or.inr rfl, by omega, by omega⟩) | (exact ⟨1, qn, rp_in6 (Or.inr ⟨i3, Or.inr ⟨e43.1, rn, nq0, Or.inl ⟨by omega, rfl⟩⟩⟩), (by first | rfl | omega), Int.le_antisymm (by omega) (by omega), Int.le_antisymm (by omega) (by omega), by omega, by omega, Or.inr rfl, by omega, by omega⟩) | (exact ⟨0, qn, rp_in6 (Or.inr ⟨i3, Or.inr ⟨e43.1, rn, nq0, Or.inr ⟨by omega, rfl⟩⟩⟩), (by first | rfl | omega), Int.le_antisymm (by omega) (by omega), Int.le_antisymm (by omega) (by omega), by omega, by omega, Or.inl rfl, by omega, by omega⟩))⟩, hf⟩
        · have tc46 : ¬ x43.toInt = 0 := tl_ne c46
          have f28 := qy28 (by assumption)
          refine li_iconst 1 dX6_readAtom_34 (by decide) ?_
          refine li_goto 39 dX6_readAtom_35 (by decide) ?_
          have z1 : (1 : Int32).toInt = 1 := rfl
          exact li_iret dX6_readAtom_39 rfl (li_nz (Or.inr rfl)) ⟨⟨_, rfl, Or.inr rfl, (by first | (exact ⟨1, q1 + 1, rp_in6 (Or.inl ⟨⟨f8.1, by omega⟩, Or.inr ⟨q1, rp_to ra (Int.le_antisymm (by omega) (by omega)) (Int.le_antisymm (by omega) (by omega)) (Int.le_antisymm (by omega) (by omega)) rfl, Or.inl ⟨f28.1, rfl, rfl⟩⟩⟩), (by first | rfl | omega), Int.le_antisymm (by omega) (by omega), Int.le_antisymm (by omega) (by omega), by omega, by omega, Or.inr rfl, by omega, by omega⟩) | (exact ⟨0, q1, rp_in6 (Or.inl ⟨⟨f8.1, by omega⟩, Or.inr ⟨q1, rp_to ra (Int.le_antisymm (by omega) (by omega)) (Int.le_antisymm (by omega) (by omega)) (Int.le_antisymm (by omega) (by omega)) rfl, Or.inr ⟨e28.1, rfl, rfl⟩⟩⟩), (by first | rfl | omega), Int.le_antisymm (by omega) (by omega), Int.le_antisymm (by omega) (by omega), by omega, by omega, Or.inl rfl, by omega, by omega⟩) | (exact ⟨0, q1, rp_in6 (Or.inl ⟨⟨f8.1, by omega⟩, Or.inl ⟨rp_to ra (Int.le_antisymm (by omega) (by omega)) (Int.le_antisymm (by omega) (by omega)) (Int.le_antisymm (by omega) (by omega)) rfl, rfl⟩⟩), (by first | rfl | omega), Int.le_antisymm (by omega) (by omega), Int.le_antisymm (by omega) (by omega), by omega, by omega, Or.inl rfl, by omega, by omega⟩) | (exact ⟨1, P0 + 1, rp_in6 (Or.inr ⟨i3, Or.inl ⟨f43.2.1, rfl, rfl⟩⟩), (by first | rfl | omega), Int.le_antisymm (by omega) (by omega), Int.le_antisymm (by omega) (by omega), by omega, by omega, Or.inr rfl, by omega, by omega⟩) | (exact ⟨1, qn, rp_in6 (Or.inr ⟨i3, Or.inr ⟨e43.1, rn, nq0, Or.inl ⟨by omega, rfl⟩⟩⟩), (by first | rfl | omega), Int.le_antisymm (by omega) (by omega), Int.le_antisymm (by omega) (by omega), by omega, by omega, Or.inr rfl, by omega, by omega⟩) | (exact ⟨0, qn, rp_in6 (Or.inr ⟨i3, Or.inr ⟨e43.1, rn, nq0, Or.inr ⟨by omega, rfl⟩⟩⟩), (by first | rfl | omega), Int.le_antisymm (by omega) (by omega), Int.le_antisymm (by omega) (by omega), by omega, by omega, Or.inl rfl, by omega, by omega⟩))⟩, hf⟩
set_option maxRecDepth 100000 in
set_option maxHeartbeats 4000000 in
theorem k14_X6_readFactor {l : Launch} {Z : li_Z} (d : Nat) (hd : 8 ≤ d) (p1 : Int32) (dE : Nat) (IH : p1.toInt < 4 → ∀ (q9 : Int32), q9.toInt = p1.toInt + 1 → ∀ (M0 : li_M) (g : Nat → Int32) (hg : M0.1 2 = g) (LN P0 : Int) (hLN : (M0.1 1 1).toInt = LN) (hP0 : (M0.1 1 2).toInt = P0) (h1 : 0 ≤ P0 ∧ P0 ≤ LN ∧ LN ≤ 80) (Psg_M0 : li_sg (M0.1 2)) (R0 : Int) (hR0 : (M0.1 151 3).toInt = R0) (hr : 0 ≤ R0 ∧ R0 ≤ P0), li_Met l Z YX6_readExpression dE [.ref (Z.2.2 151), .ref (Z.2.2 1), .int q9] M0 (fun r M' => (∃ x : Int32, r = some (.int x) ∧ (x = 0 ∨ x = 1) ∧ (∃ ok q : Int, rpr g LN 0 (q9.toInt) P0 ok q ∧ x.toInt = ok ∧ (M'.1 1 2).toInt = q ∧ (M'.1 1 1).toInt = LN ∧ P0 ≤ q ∧ q ≤ LN ∧ (ok = 0 ∨ ok = 1) ∧ 0 ≤ (M'.1 151 3).toInt ∧ (M'.1 151 3).toInt - R0 ≤ q - P0)) ∧ li_fr (fun i => i = 1 ∨ i = 151 ∨ i = 152) M0 M')) (hE : dE + 2 ≤ d) (M0 : li_M) (g : Nat → Int32) (hg : M0.1 2 = g) (LN P0 : Int) (hLN : (M0.1 1 1).toInt = LN) (hP0 : (M0.1 1 2).toInt = P0) (h1 : 0 ≤ P0 ∧ P0 ≤ LN ∧ LN ≤ 80) (Psg_M0 : li_sg (M0.1 2)) (R0 : Int) (hR0 : (M0.1 151 3).toInt = R0) (hr : 0 ≤ R0 ∧ R0 ≤ P0) (h4 : p1.toInt ≤ 4) : li_Met l Z YX6_readFactor d [.ref (Z.2.2 151), .ref (Z.2.2 1), .int p1] M0 (fun r M' => (∃ x : Int32, r = some (.int x) ∧ (x = 0 ∨ x = 1) ∧ (∃ ok q : Int, rpr g LN 5 (p1.toInt) P0 ok q ∧ x.toInt = ok ∧ (M'.1 1 2).toInt = q ∧ (M'.1 1 1).toInt = LN ∧ P0 ≤ q ∧ q ≤ LN ∧ (ok = 0 ∨ ok = 1) ∧ 0 ≤ (M'.1 151 3).toInt ∧ (M'.1 151 3).toInt - R0 ≤ q - P0)) ∧ li_fr (fun i => i = 1 ∨ i = 151 ∨ i = 152) M0 M') := by
  refine li_enter (by decide +kernel) (Nat.le_of_ble_eq_true rfl) ?_
  show li_T l Z YX6_readFactor d 0 [(0, .ref (Z.2.2 151)), (1, .ref (Z.2.2 1)), (2, .int p1)] [] M0 _
  have hf : li_fr (fun i => i = 1 ∨ i = 151 ∨ i = 152) M0 M0 := li_fr_refl
  have gp1 := tl_rg p1
  refine li_iconst 0 dX6_readFactor_0 (by decide) ?_
  refine li_istore_n [(3, .int 0), (0, .ref (Z.2.2 151)), (1, .ref (Z.2.2 1)), (2, .int p1)] dX6_readFactor_1 (by decide) rfl ?_
  refine li_iconst 0 dX6_readFactor_2 (by decide) ?_
  refine li_istore [(4, .int 0), (3, .int 0), (0, .ref (Z.2.2 151)), (1, .ref (Z.2.2 1)), (2, .int p1)] dX6_readFactor_3 (by decide) rfl ?_
  have L5 : ∀ (n : Nat) (x1 : Int32) (x2 : Int32) (M3 : li_M), (80 - (x1 : Int32).toInt).toNat < n → li_fr (fun i => i = 1 ∨ i = 151 ∨ i = 152) M0 M3 → 0 ≤ (x1 : Int32).toInt ∧ (x1 : Int32).toInt ≤ (M3.1 1 2).toInt - P0 ∧ (M3.1 1 1).toInt = LN ∧ (M3.1 1 2).toInt ≤ LN ∧ (M3.1 151 3).toInt = R0 ∧ 0 ≤ (x2 : Int32).toInt ∧ (x2 : Int32).toInt ≤ 1 ∧ (x2 : Int32).toInt ≤ (M3.1 1 2).toInt - P0 ∧ li_rk g LN 5 (p1.toInt) P0 5 (p1.toInt) ((M3.1 1 2).toInt) → li_sg (M3.1 2)  → li_T l Z YX6_readFactor d 5 [(4, .int x1), (3, .int x2), (0, .ref (Z.2.2 151)), (1, .ref (Z.2.2 1)), (2, .int p1)] [] M3 (fun r M' => (∃ x : Int32, r = some (.int x) ∧ (x = 0 ∨ x = 1) ∧ (∃ ok q : Int, rpr g LN 5 (p1.toInt) P0 ok q ∧ x.toInt = ok ∧ (M'.1 1 2).toInt = q ∧ (M'.1 1 1).toInt = LN ∧ P0 ≤ q ∧ q ≤ LN ∧ (ok = 0 ∨ ok = 1) ∧ 0 ≤ (M'.1 151 3).toInt ∧ (M'.1 151 3).toInt - R0 ≤ q - P0)) ∧ li_fr (fun i => i = 1 ∨ i = 151 ∨ i = 152) M0 M') := by
    intro n
    induction n with
    | zero => intro x1 x2 M3 hn; exact absurd hn (Nat.not_lt_zero _)
    | succ n ih5 =>
      intro x1 x2 M3 hn hf hi Psg_M3
      have gx1 := tl_rg x1
      have gx2 := tl_rg x2
      obtain ⟨i0, i1, i2, i3, i4, i5, i6, i6b, i7⟩ := hi
      refine li_iload 0 dX6_readFactor_5 rfl ?_
      refine li_bipush 80 dX6_readFactor_7 (by decide) ?_
      refine li_icmp_ge 37 dX6_readFactor_9 (by decide) (fun c4 => ?_) (fun c4 => ?_)
      · have tc4 : 80 ≤ x1.toInt := tl_le c4
        have j6 : li_rk g LN 5 (p1.toInt) P0 6 (p1.toInt) ((M3.1 1 2).toInt) := by first | exact rk_to (rk_5e i7 (by rw [← hP1]; exact (qn15 (by assumption)).1)) (by rw [(qn15 (by assumption)).2, hP1]) | exact rk_5e i7 (rk_end (by omega) 45 (by decide))
        first | (have e15 := qn15 (by assumption)) | skip
        try clear qy15 qn15
        refine li_aload_n 2 dX6_readFactor_37 rfl ?_
        refine li_aload_n 3 dX6_readFactor_38 rfl ?_
        refine li_iload_n 4 dX6_readFactor_39 rfl ?_
        refine li_callV (n := 2) (As := [.ref (Z.2.2 1), .int p1]) dX6_readFactor_40 (k14_X6_readAtom (d - 1) (by omega) p1 dE IH (by omega) M3 g ((hf.1 2 (by first | exact id | decide | omega)).trans hg) LN _ (Int.le_antisymm (by omega) (by omega)) rfl ⟨by omega, by omega, by omega⟩ Psg_M3 _ rfl ⟨by omega, by omega⟩ (by omega)) (by omega) (Nat.le_of_ble_eq_true rfl) w_571 w_573 w_5 w_107 w_574 (by decide +kernel) rfl (by decide) sh_151 rfl rfl (Nat.le_of_ble_eq_true rfl) (fun r M6 h7 => ?_)
        obtain ⟨⟨x5, rfl, bx5, qx5⟩, h7⟩ := h7
        have ux5 := tl_b bx5
        have hf := li_fr_trans hf h7 (fun i (h : i = 1 ∨ i = 151 ∨ i = 152) => (show i = 1 ∨ i = 151 ∨ i = 152 by omega))
        have Psg_M6 : li_sg (M6.1 2)  := li_sg_tr (h7.1 2 (fun h => by first | exact (h : False).elim | omega))  Psg_M3
        obtain ⟨ok6, q6, ra, ea1, ea2, ea3, ea4, ea5, ea6, ea7, ea8⟩ := qx5
        refine li_if_eq 63 dX6_readFactor_43 (by decide) (fun c8 => ?_) (fun c8 => ?_)
        · have tc8 : x5.toInt = 0 := tl_eq c8
          refine li_iconst 0 dX6_readFactor_63 (by decide) ?_
          have z0 : (0 : Int32).toInt = 0 := rfl
          exact li_iret dX6_readFactor_64 rfl (li_nz (Or.inl rfl)) ⟨⟨_, rfl, Or.inl rfl, (by first | (exact ⟨0, q6, rp_to (j6 _ _ ra) rfl rfl (Int.le_antisymm (by omega) (by omega)) rfl, (by first | rfl | omega), Int.le_antisymm (by omega) (by omega), Int.le_antisymm (by omega) (by omega), by omega, by omega, Or.inl rfl, by omega, by omega⟩) | (exact ⟨1, q6, rp_to (j6 _ _ ra) rfl rfl (Int.le_antisymm (by omega) (by omega)) rfl, (by first | rfl | omega), Int.le_antisymm (by omega) (by omega), Int.le_antisymm (by omega) (by omega), by omega, by omega, Or.inr rfl, by omega, by omega⟩))⟩, hf⟩
        · have tc8 : ¬ x5.toInt = 0 := tl_ne c8
          refine li_iload_n 1 dX6_readFactor_46 rfl ?_
          refine li_if_eq 59 dX6_readFactor_47 (by decide) (fun c9 => ?_) (fun c9 => ?_)
          · have tc9 : x2.toInt = 0 := tl_eq c9
            refine li_iconst 1 dX6_readFactor_59 (by decide) ?_
            refine li_goto 64 dX6_readFactor_60 (by decide) ?_
            have z1 : (1 : Int32).toInt = 1 := rfl
            exact li_iret dX6_readFactor_64 rfl (li_nz (Or.inr rfl)) ⟨⟨_, rfl, Or.inr rfl, (by first | (exact ⟨0, q6, rp_to (j6 _ _ ra) rfl rfl (Int.le_antisymm (by omega) (by omega)) rfl, (by first | rfl | omega), Int.le_antisymm (by omega) (by omega), Int.le_antisymm (by omega) (by omega), by omega, by omega, Or.inl rfl, by omega, by omega⟩) | (exact ⟨1, q6, rp_to (j6 _ _ ra) rfl rfl (Int.le_antisymm (by omega) (by omega)) rfl, (by first | rfl | omega), Int.le_antisymm (by omega) (by omega), Int.le_antisymm (by omega) (by omega), by omega, by omega, Or.inr rfl, by omega, by omega⟩))⟩, hf⟩
          · have tc9 : ¬ x2.toInt = 0 := tl_ne c9
            refine li_aload_n 2 dX6_readFactor_50 rfl ?_
            refine li_bipush (-126) dX6_readFactor_51 (by decide) ?_
            refine li_callV (n := 1) (As := [.int (-126)]) dX6_readFactor_53 (k14_X6_add (d - 1) (by omega) (-126) M6 ⟨by omega, by omega⟩) (by omega) (Nat.le_of_ble_eq_true rfl) w_629 w_631 w_6 w_107 w_632 (by decide +kernel) rfl (by decide) sh_151 rfl rfl (Nat.le_of_ble_eq_true rfl) (fun r M11 h12 => ?_)
            have zm126 : ((-126) : Int32).toInt = -126 := rfl
            obtain ⟨⟨x10, rfl, bx10, qx10⟩, h12⟩ := h12
            have ux10 := tl_b bx10
            have hf := li_fr_trans hf h12 (fun i (h : i = 151 ∨ i = 152) => (show i = 1 ∨ i = 151 ∨ i = 152 by omega))
            have mM11_1_1 : (M11.1 1 1).toInt = (M6.1 1 1).toInt := by rw [h12.1 1 (show ¬ (1 = 151 ∨ 1 = 152) by first | (simp; done) | omega)]
            have mM11_1_2 : (M11.1 1 2).toInt = (M6.1 1 2).toInt := by rw [h12.1 1 (show ¬ (1 = 151 ∨ 1 = 152) by first | (simp; done) | omega)]
            have Psg_M11 : li_sg (M11.1 2)  := li_sg_tr (h12.1 2 (fun h => by first | exact (h : False).elim | omega))  Psg_M6
            refine li_if_eq 63 dX6_readFactor_56 (by decide) (fun c13 => ?_) (fun c13 => ?_)
            · have tc13 : x10.toInt = 0 := tl_eq c13
              refine li_iconst 0 dX6_readFactor_63 (by decide) ?_
              have z0 : (0 : Int32).toInt = 0 := rfl
              exact li_iret dX6_readFactor_64 rfl (li_nz (Or.inl rfl)) ⟨⟨_, rfl, Or.inl rfl, (by first | (exact ⟨0, q6, rp_to (j6 _ _ ra) rfl rfl (Int.le_antisymm (by omega) (by omega)) rfl, (by first | rfl | omega), Int.le_antisymm (by omega) (by omega), Int.le_antisymm (by omega) (by omega), by omega, by omega, Or.inl rfl, by omega, by omega⟩) | (exact ⟨1, q6, rp_to (j6 _ _ ra) rfl rfl (Int.le_antisymm (by omega) (by omega)) rfl, (by first | rfl | omega), Int.le_antisymm (by omega) (by omega), Int.le_antisymm (by omega) (by omega), by omega, by omega, Or.inr rfl, by omega, by omega⟩))⟩, hf⟩
            · have tc13 : ¬ x10.toInt = 0 := tl_ne c13
              refine li_iconst 1 dX6_readFactor_59 (by decide) ?_
              refine li_goto 64 dX6_readFactor_60 (by decide) ?_
              have z1 : (1 : Int32).toInt = 1 := rfl
              exact li_iret dX6_readFactor_64 rfl (li_nz (Or.inr rfl)) ⟨⟨_, rfl, Or.inr rfl, (by first | (exact ⟨0, q6, rp_to (j6 _ _ ra) rfl rfl (Int.le_antisymm (by omega) (by omega)) rfl, (by first | rfl | omega), Int.le_antisymm (by omega) (by omega), Int.le_antisymm (by omega) (by omega), by omega, by omega, Or.inl rfl, by omega, by omega⟩) | (exact ⟨1, q6, rp_to (j6 _ _ ra) rfl rfl (Int.le_antisymm (by omega) (by omega)) rfl, (by first | rfl | omega), Int.le_antisymm (by omega) (by omega), Int.le_antisymm (by omega) (by omega), by omega, by omega, Or.inr rfl, by omega, by omega⟩))⟩, hf⟩
      · have tc4 : x1.toInt < 80 := tl_nle c4
        refine li_aload_n 3 dX6_readFactor_12 rfl ?_
        refine li_bipush 45 dX6_readFactor_13 (by decide) ?_
        obtain ⟨P1, hP1⟩ : ∃ z : Int, z = (M3.1 1 2).toInt := ⟨_, rfl⟩
        have cs15 : rd_ch (M3.1 2) ((M3.1 1 1).toInt) ((M3.1 1 2).toInt) = rd_ch g LN P1 := by rw [show M3.1 2 = g from ((hf.1 2 (by first | exact id | decide | omega)).trans hg), show (M3.1 1 1).toInt = LN from Int.le_antisymm (by omega) (by omega), show (M3.1 1 2).toInt = P1 from Int.le_antisymm (by omega) (by omega)]
        refine li_callV (n := 1) (As := [.int 45]) dX6_readFactor_15 (k5_X7_skip (d - 1) (by omega) 45 M3 ⟨by omega, by omega, by omega⟩ Psg_M3 (by first | decide | omega)) (by omega) (Nat.le_of_ble_eq_true rfl) w_564 w_565 w_566 w_102 w_567 (by decide +kernel) rfl (by decide) sh_1 rfl rfl (Nat.le_of_ble_eq_true rfl) (fun r M15 h16 => ?_)
        have z45 : (45 : Int32).toInt = 45 := rfl
        obtain ⟨⟨x14, rfl, bx14, qx14⟩, h16⟩ := h16
        have ux14 := tl_b bx14
        have hf := li_fr_trans hf h16 (fun i (h : i = 1) => (show i = 1 ∨ i = 151 ∨ i = 152 by omega))
        have mM15_151_3 : (M15.1 151 3).toInt = (M3.1 151 3).toInt := by rw [h16.1 151 (show ¬ (151 = 1) by first | (simp; done) | omega)]
        have Psg_M15 : li_sg (M15.1 2)  := li_sg_tr (h16.1 2 (fun h => by first | exact (h : False).elim | omega))  Psg_M3
        have ln15 : (M15.1 1 1).toInt = LN := qx14.2.trans (Int.le_antisymm (by omega) (by omega))
        have qy15 : li_hd (¬ x14.toInt = 0 → rd_ch g LN P1 = 45 ∧ (M15.1 1 2).toInt = P1 + 1 ∧ P1 < LN) := li_hdI fun h9 => by rcases qx14.1 with c | c; exact ⟨cs15.symm.trans c.2.1, c.2.2.2.trans (by omega), by omega⟩; exact absurd c.1 h9
        have qn15 : li_hd (x14.toInt = 0 → ¬ rd_ch g LN P1 = 45 ∧ (M15.1 1 2).toInt = P1) := li_hdI fun h9 => by rcases qx14.1 with c | c; exact absurd (c.1.symm.trans h9) (by decide); exact ⟨fun h8 => c.2.1 (cs15.trans h8), c.2.2.trans (Int.le_antisymm (by omega) (by omega))⟩
        clear qx14
        refine li_if_eq 37 dX6_readFactor_18 (by decide) (fun c17 => ?_) (fun c17 => ?_)
        · have tc17 : x14.toInt = 0 := tl_eq c17
          have j6 : li_rk g LN 5 (p1.toInt) P0 6 (p1.toInt) ((M15.1 1 2).toInt) := by first | exact rk_to (rk_5e i7 (by rw [← hP1]; exact (qn15 (by assumption)).1)) (by rw [(qn15 (by assumption)).2, hP1]) | exact rk_5e i7 (rk_end (by omega) 45 (by decide))
          first | (have e15 := qn15 (by assumption)) | skip
          try clear qy15 qn15
          refine li_aload_n 2 dX6_readFactor_37 rfl ?_
          refine li_aload_n 3 dX6_readFactor_38 rfl ?_
          refine li_iload_n 4 dX6_readFactor_39 rfl ?_
          refine li_callV (n := 2) (As := [.ref (Z.2.2 1), .int p1]) dX6_readFactor_40 (k14_X6_readAtom (d - 1) (by omega) p1 dE IH (by omega) M15 g ((hf.1 2 (by first | exact id | decide | omega)).trans hg) LN _ (Int.le_antisymm (by omega) (by omega)) rfl ⟨by omega, by omega, by omega⟩ Psg_M15 _ rfl ⟨by omega, by omega⟩ (by omega)) (by omega) (Nat.le_of_ble_eq_true rfl) w_571 w_573 w_5 w_107 w_574 (by decide +kernel) rfl (by decide) sh_151 rfl rfl (Nat.le_of_ble_eq_true rfl) (fun r M19 h20 => ?_)
          obtain ⟨⟨x18, rfl, bx18, qx18⟩, h20⟩ := h20
          have ux18 := tl_b bx18
          have hf := li_fr_trans hf h20 (fun i (h : i = 1 ∨ i = 151 ∨ i = 152) => (show i = 1 ∨ i = 151 ∨ i = 152 by omega))
          have Psg_M19 : li_sg (M19.1 2)  := li_sg_tr (h20.1 2 (fun h => by first | exact (h : False).elim | omega))  Psg_M15
          obtain ⟨ok6, q6, ra, ea1, ea2, ea3, ea4, ea5, ea6, ea7, ea8⟩ := qx18
          refine li_if_eq 63 dX6_readFactor_43 (by decide) (fun c21 => ?_) (fun c21 => ?_)
          · have tc21 : x18.toInt = 0 := tl_eq c21
            refine li_iconst 0 dX6_readFactor_63 (by decide) ?_
            have z0 : (0 : Int32).toInt = 0 := rfl
            exact li_iret dX6_readFactor_64 rfl (li_nz (Or.inl rfl)) ⟨⟨_, rfl, Or.inl rfl, (by first | (exact ⟨0, q6, rp_to (j6 _ _ ra) rfl rfl (Int.le_antisymm (by omega) (by omega)) rfl, (by first | rfl | omega), Int.le_antisymm (by omega) (by omega), Int.le_antisymm (by omega) (by omega), by omega, by omega, Or.inl rfl, by omega, by omega⟩) | (exact ⟨1, q6, rp_to (j6 _ _ ra) rfl rfl (Int.le_antisymm (by omega) (by omega)) rfl, (by first | rfl | omega), Int.le_antisymm (by omega) (by omega), Int.le_antisymm (by omega) (by omega), by omega, by omega, Or.inr rfl, by omega, by omega⟩))⟩, hf⟩
          · have tc21 : ¬ x18.toInt = 0 := tl_ne c21
            refine li_iload_n 1 dX6_readFactor_46 rfl ?_
            refine li_if_eq 59 dX6_readFactor_47 (by decide) (fun c22 => ?_) (fun c22 => ?_)
            · have tc22 : x2.toInt = 0 := tl_eq c22
              refine li_iconst 1 dX6_readFactor_59 (by decide) ?_
              refine li_goto 64 dX6_readFactor_60 (by decide) ?_
              have z1 : (1 : Int32).toInt = 1 := rfl
              exact li_iret dX6_readFactor_64 rfl (li_nz (Or.inr rfl)) ⟨⟨_, rfl, Or.inr rfl, (by first | (exact ⟨0, q6, rp_to (j6 _ _ ra) rfl rfl (Int.le_antisymm (by omega) (by omega)) rfl, (by first | rfl | omega), Int.le_antisymm (by omega) (by omega), Int.le_antisymm (by omega) (by omega), by omega, by omega, Or.inl rfl, by omega, by omega⟩) | (exact ⟨1, q6, rp_to (j6 _ _ ra) rfl rfl (Int.le_antisymm (by omega) (by omega)) rfl, (by first | rfl | omega), Int.le_antisymm (by omega) (by omega), Int.le_antisymm (by omega) (by omega), by omega, by omega, Or.inr rfl, by omega, by omega⟩))⟩, hf⟩
            · have tc22 : ¬ x2.toInt = 0 := tl_ne c22
              refine li_aload_n 2 dX6_readFactor_50 rfl ?_
              refine li_bipush (-126) dX6_readFactor_51 (by decide) ?_
              refine li_callV (n := 1) (As := [.int (-126)]) dX6_readFactor_53 (k14_X6_add (d - 1) (by omega) (-126) M19 ⟨by omega, by omega⟩) (by omega) (Nat.le_of_ble_eq_true rfl) w_629 w_631 w_6 w_107 w_632 (by decide +kernel) rfl (by decide) sh_151 rfl rfl (Nat.le_of_ble_eq_true rfl) (fun r M24 h25 => ?_)
              have zm126 : ((-126) : Int32).toInt = -126 := rfl
              obtain ⟨⟨x23, rfl, bx23, qx23⟩, h25⟩ := h25
              have ux23 := tl_b bx23
              have hf := li_fr_trans hf h25 (fun i (h : i = 151 ∨ i = 152) => (show i = 1 ∨ i = 151 ∨ i = 152 by omega))
              have mM24_1_1 : (M24.1 1 1).toInt = (M19.1 1 1).toInt := by rw [h25.1 1 (show ¬ (1 = 151 ∨ 1 = 152) by first | (simp; done) | omega)]
              have mM24_1_2 : (M24.1 1 2).toInt = (M19.1 1 2).toInt := by rw [h25.1 1 (show ¬ (1 = 151 ∨ 1 = 152) by first | (simp; done) | omega)]
              have Psg_M24 : li_sg (M24.1 2)  := li_sg_tr (h25.1 2 (fun h => by first | exact (h : False).elim | omega))  Psg_M19
              refine li_if_eq 63 dX6_readFactor_56 (by decide) (fun c26 => ?_) (fun c26 => ?_)
              · have tc26 : x23.toInt = 0 := tl_eq c26
                refine li_iconst 0 dX6_readFactor_63 (by decide) ?_
                have z0 : (0 : Int32).toInt = 0 := rfl
                exact li_iret dX6_readFactor_64 rfl (li_nz (Or.inl rfl)) ⟨⟨_, rfl, Or.inl rfl, (by first | (exact ⟨0, q6, rp_to (j6 _ _ ra) rfl rfl (Int.le_antisymm (by omega) (by omega)) rfl, (by first | rfl | omega), Int.le_antisymm (by omega) (by omega), Int.le_antisymm (by omega) (by omega), by omega, by omega, Or.inl rfl, by omega, by omega⟩) | (exact ⟨1, q6, rp_to (j6 _ _ ra) rfl rfl (Int.le_antisymm (by omega) (by omega)) rfl, (by first | rfl | omega), Int.le_antisymm (by omega) (by omega), Int.le_antisymm (by omega) (by omega), by omega, by omega, Or.inr rfl, by omega, by omega⟩))⟩, hf⟩
              · have tc26 : ¬ x23.toInt = 0 := tl_ne c26
                refine li_iconst 1 dX6_readFactor_59 (by decide) ?_
                refine li_goto 64 dX6_readFactor_60 (by decide) ?_
                have z1 : (1 : Int32).toInt = 1 := rfl
                exact li_iret dX6_readFactor_64 rfl (li_nz (Or.inr rfl)) ⟨⟨_, rfl, Or.inr rfl, (by first | (exact ⟨0, q6, rp_to (j6 _ _ ra) rfl rfl (Int.le_antisymm (by omega) (by omega)) rfl, (by first | rfl | omega), Int.le_antisymm (by omega) (by omega), Int.le_antisymm (by omega) (by omega), by omega, by omega, Or.inl rfl, by omega, by omega⟩) | (exact ⟨1, q6, rp_to (j6 _ _ ra) rfl rfl (Int.le_antisymm (by omega) (by omega)) rfl, (by first | rfl | omega), Int.le_antisymm (by omega) (by omega), Int.le_antisymm (by omega) (by omega), by omega, by omega, Or.inr rfl, by omega, by omega⟩))⟩, hf⟩
        · have tc17 : ¬ x14.toInt = 0 := tl_ne c17
          have f15 := qy15 (by assumption)
          clear qy15 qn15
          refine li_iload_n 1 dX6_readFactor_21 rfl ?_
          have J30 : ∀ (x28 : Int32) (M29 : li_M), li_fr (fun i => i = 1 ∨ i = 151 ∨ i = 152) M0 M29 → 0 ≤ (x1 : Int32).toInt ∧ (x1 : Int32).toInt + 1 ≤ (M29.1 1 2).toInt - P0 ∧ (M29.1 1 1).toInt = LN ∧ (M29.1 1 2).toInt ≤ LN ∧ (M29.1 151 3).toInt = R0 ∧ 0 ≤ (x28 : Int32).toInt ∧ (x28 : Int32).toInt ≤ 1 ∧ (x1 : Int32).toInt < 80 ∧ li_rk g LN 5 (p1.toInt) P0 5 (p1.toInt) ((M29.1 1 2).toInt) → li_sg (M29.1 2)  → li_T l Z YX6_readFactor d 30 [(4, .int x1), (3, .int x2), (0, .ref (Z.2.2 151)), (1, .ref (Z.2.2 1)), (2, .int p1)] [.int x28] M29 (fun r M' => (∃ x : Int32, r = some (.int x) ∧ (x = 0 ∨ x = 1) ∧ (∃ ok q : Int, rpr g LN 5 (p1.toInt) P0 ok q ∧ x.toInt = ok ∧ (M'.1 1 2).toInt = q ∧ (M'.1 1 1).toInt = LN ∧ P0 ≤ q ∧ q ≤ LN ∧ (ok = 0 ∨ ok = 1) ∧ 0 ≤ (M'.1 151 3).toInt ∧ (M'.1 151 3).toInt - R0 ≤ q - P0)) ∧ li_fr (fun i => i = 1 ∨ i = 151 ∨ i = 152) M0 M') := by
            try clear f15
            try clear tc17
            try clear c21
            try clear ok6
            try clear ra
            try clear ea1
            try clear ea2
            try clear ea3
            try clear ea4
            try clear ea5
            try clear ea6
            try clear ea7
            try clear ea8
            try clear ux18
            try clear bx18
            try clear qx18
            try clear h20
            try clear j6
            try clear c17
            try clear qn15
            try clear qy15
            try clear ln15
            try clear mM15_151_3
            try clear ux14
            try clear bx14
            try clear qx14
            try clear h16
            try clear cs15
            try clear hP1
            try clear tc4
            try clear c8
            try clear ux5
            try clear bx5
            try clear qx5
            try clear h7
            try clear c4
            try clear i0
            try clear i1
            try clear i2
            try clear i3
            try clear i4
            try clear i5
            try clear i6
            try clear i6b
            try clear i7
            try clear hi
            intro x28 M29 hf hi Psg_M29
            have gx28 := tl_rg x28
            obtain ⟨k0, k1, k2, k3, k4, k5, k6, k6b, k7⟩ := hi
            refine li_istore_n [(3, .int x28), (4, .int x1), (0, .ref (Z.2.2 151)), (1, .ref (Z.2.2 1)), (2, .int p1)] dX6_readFactor_30 (by decide) rfl ?_
            obtain ⟨x30, ex30⟩ : ∃ y : Int32, y = x1 + 1 := ⟨_, rfl⟩
            have tx30 : (-2147483648 ≤ x1.toInt + 1 ∧ x1.toInt + 1 ≤ 2147483647) → x30.toInt = x1.toInt + 1 := tl_add ex30
            refine li_iinc 1 [(4, .int x30), (3, .int x28), (0, .ref (Z.2.2 151)), (1, .ref (Z.2.2 1)), (2, .int p1)] x30 dX6_readFactor_31 rfl (by rw [ex30]; rfl) (by decide) rfl ?_
            refine li_goto 5 dX6_readFactor_34 (by decide) ?_
            refine li_pick [0, 1, 2, 3, 4] [(4, .int x30), (3, .int x28), (0, .ref (Z.2.2 151)), (1, .ref (Z.2.2 1)), (2, .int p1)] rfl ?_
            exact ih5 x30 x28 M29 (by omega) hf ⟨(by omega), (by omega), (Int.le_antisymm (by omega) (by omega)), (by omega), (Int.le_antisymm (by omega) (by omega)), (by omega), (by omega), (by omega), (by first | (exact rk_to k7 (Int.le_antisymm (by omega) (by omega))) | (exact rk_to rk_5 (Int.le_antisymm (by omega) (by omega))))⟩ (by first | exact li_sg_tr rfl  Psg_M29)
          refine li_if_ne 29 dX6_readFactor_22 (by decide) (fun c27 => ?_) (fun c27 => ?_)
          · have tc27 : ¬ x2.toInt = 0 := tl_ne c27
            refine li_iconst 0 dX6_readFactor_29 (by decide) ?_
            refine li_pick [0, 1, 2, 3, 4] [(4, .int x1), (3, .int x2), (0, .ref (Z.2.2 151)), (1, .ref (Z.2.2 1)), (2, .int p1)] rfl ?_
            have z0 : (0 : Int32).toInt = 0 := rfl
            exact J30 0 M15 hf ⟨(by omega), (by omega), (Int.le_antisymm (by omega) (by omega)), (by omega), (Int.le_antisymm (by omega) (by omega)), (by omega), (by omega), (by omega), (by first | (exact rk_to (rk_5s i7 (by rw [← hP1]; exact f15.1)) (Int.le_antisymm (by omega) (by omega))))⟩ (by first | exact li_sg_tr rfl  Psg_M15)
          · have tc27 : x2.toInt = 0 := tl_eq c27
            refine li_iconst 1 dX6_readFactor_25 (by decide) ?_
            refine li_goto 30 dX6_readFactor_26 (by decide) ?_
            refine li_pick [0, 1, 2, 3, 4] [(4, .int x1), (3, .int x2), (0, .ref (Z.2.2 151)), (1, .ref (Z.2.2 1)), (2, .int p1)] rfl ?_
            have z1 : (1 : Int32).toInt = 1 := rfl
            exact J30 1 M15 hf ⟨(by omega), (by omega), (Int.le_antisymm (by omega) (by omega)), (by omega), (Int.le_antisymm (by omega) (by omega)), (by omega), (by omega), (by omega), (by first | (exact rk_to (rk_5s i7 (by rw [← hP1]; exact f15.1)) (Int.le_antisymm (by omega) (by omega))))⟩ (by first | exact li_sg_tr rfl  Psg_M15)
  have z0 : (0 : Int32).toInt = 0 := rfl
  have z0 : (0 : Int32).toInt = 0 := rfl
  exact L5 _ 0 0 M0 (Nat.lt_succ_self _) hf ⟨(by omega), (by omega), (Int.le_antisymm (by omega) (by omega)), (by omega), (Int.le_antisymm (by omega) (by omega)), (by omega), (by omega), (by omega), (by first | (exact rk_to k7 (Int.le_antisymm (by omega) (by omega))) | (exact rk_to rk_5 (Int.le_antisymm (by omega) (by omega))))⟩ (by first | exact li_sg_tr rfl  Psg_M0)
set_option maxRecDepth 100000 in
set_option maxHeartbeats 4000000 in
theorem k14_X6_readProduct {l : Launch} {Z : li_Z} (d : Nat) (hd : 9 ≤ d) (p1 : Int32) (dE : Nat) (IH : p1.toInt < 4 → ∀ (q9 : Int32), q9.toInt = p1.toInt + 1 → ∀ (M0 : li_M) (g : Nat → Int32) (hg : M0.1 2 = g) (LN P0 : Int) (hLN : (M0.1 1 1).toInt = LN) (hP0 : (M0.1 1 2).toInt = P0) (h1 : 0 ≤ P0 ∧ P0 ≤ LN ∧ LN ≤ 80) (Psg_M0 : li_sg (M0.1 2)) (R0 : Int) (hR0 : (M0.1 151 3).toInt = R0) (hr : 0 ≤ R0 ∧ R0 ≤ P0), li_Met l Z YX6_readExpression dE [.ref (Z.2.2 151), .ref (Z.2.2 1), .int q9] M0 (fun r M' => (∃ x : Int32, r = some (.int x) ∧ (x = 0 ∨ x = 1) ∧ (∃ ok q : Int, rpr g LN 0 (q9.toInt) P0 ok q ∧ x.toInt = ok ∧ (M'.1 1 2).toInt = q ∧ (M'.1 1 1).toInt = LN ∧ P0 ≤ q ∧ q ≤ LN ∧ (ok = 0 ∨ ok = 1) ∧ 0 ≤ (M'.1 151 3).toInt ∧ (M'.1 151 3).toInt - R0 ≤ q - P0)) ∧ li_fr (fun i => i = 1 ∨ i = 151 ∨ i = 152) M0 M')) (hE : dE + 3 ≤ d) (M0 : li_M) (g : Nat → Int32) (hg : M0.1 2 = g) (LN P0 : Int) (hLN : (M0.1 1 1).toInt = LN) (hP0 : (M0.1 1 2).toInt = P0) (h1 : 0 ≤ P0 ∧ P0 ≤ LN ∧ LN ≤ 80) (Psg_M0 : li_sg (M0.1 2)) (R0 : Int) (hR0 : (M0.1 151 3).toInt = R0) (hr : 0 ≤ R0 ∧ R0 ≤ P0) (h4 : p1.toInt ≤ 4) : li_Met l Z YX6_readProduct d [.ref (Z.2.2 151), .ref (Z.2.2 1), .int p1] M0 (fun r M' => (∃ x : Int32, r = some (.int x) ∧ (x = 0 ∨ x = 1) ∧ (∃ ok q : Int, rpr g LN 3 (p1.toInt) P0 ok q ∧ x.toInt = ok ∧ (M'.1 1 2).toInt = q ∧ (M'.1 1 1).toInt = LN ∧ P0 ≤ q ∧ q ≤ LN ∧ (ok = 0 ∨ ok = 1) ∧ 0 ≤ (M'.1 151 3).toInt ∧ (M'.1 151 3).toInt - R0 ≤ q - P0)) ∧ li_fr (fun i => i = 1 ∨ i = 151 ∨ i = 152) M0 M') := by
  refine li_enter (by decide +kernel) (Nat.le_of_ble_eq_true rfl) ?_
  show li_T l Z YX6_readProduct d 0 [(0, .ref (Z.2.2 151)), (1, .ref (Z.2.2 1)), (2, .int p1)] [] M0 _
  have hf : li_fr (fun i => i = 1 ∨ i = 151 ∨ i = 152) M0 M0 := li_fr_refl
  have gp1 := tl_rg p1
  refine li_aload_n 0 dX6_readProduct_0 rfl ?_
  refine li_aload_n 1 dX6_readProduct_1 rfl ?_
  refine li_iload_n 2 dX6_readProduct_2 rfl ?_
  refine li_callV (n := 2) (As := [.ref (Z.2.2 1), .int p1]) dX6_readProduct_3 (k14_X6_readFactor (d - 1) (by omega) p1 dE IH (by omega) M0 g ((hf.1 2 (by first | exact id | decide | omega)).trans hg) LN _ (Int.le_antisymm (by omega) (by omega)) rfl ⟨by omega, by omega, by omega⟩ Psg_M0 _ rfl ⟨by omega, by omega⟩ (by omega)) (by omega) (Nat.le_of_ble_eq_true rfl) w_560 w_562 w_4 w_107 w_563 (by decide +kernel) rfl (by decide) sh_151 rfl rfl (Nat.le_of_ble_eq_true rfl) (fun r M2 h3 => ?_)
  obtain ⟨⟨x1, rfl, bx1, qx1⟩, h3⟩ := h3
  have ux1 := tl_b bx1
  have hf := li_fr_trans hf h3 (fun i (h : i = 1 ∨ i = 151 ∨ i = 152) => (show i = 1 ∨ i = 151 ∨ i = 152 by omega))
  have Psg_M2 : li_sg (M2.1 2)  := li_sg_tr (h3.1 2 (fun h => by first | exact (h : False).elim | omega))  Psg_M0
  obtain ⟨okA, qA, ra, ea1, ea2, ea3, ea4, ea5, ea6, ea7, ea8⟩ := qx1
  refine li_if_ne 11 dX6_readProduct_6 (by decide) (fun c4 => ?_) (fun c4 => ?_)
  · have tc4 : ¬ x1.toInt = 0 := tl_ne c4
    refine li_iconst 0 dX6_readProduct_11 (by decide) ?_
    refine li_istore_n [(3, .int 0), (0, .ref (Z.2.2 151)), (1, .ref (Z.2.2 1)), (2, .int p1)] dX6_readProduct_12 (by decide) rfl ?_
    have L13 : ∀ (n : Nat) (x5 : Int32) (M6 : li_M), (80 - (x5 : Int32).toInt).toNat < n → li_fr (fun i => i = 1 ∨ i = 151 ∨ i = 152) M0 M6 → 0 ≤ (x5 : Int32).toInt ∧ (x5 : Int32).toInt ≤ (M6.1 1 2).toInt - P0 ∧ (M6.1 1 1).toInt = LN ∧ (M6.1 1 2).toInt ≤ LN ∧ 0 ≤ (M6.1 151 3).toInt ∧ (M6.1 151 3).toInt - R0 ≤ (M6.1 1 2).toInt - P0 ∧ li_rk g LN 3 (p1.toInt) P0 4 (p1.toInt) ((M6.1 1 2).toInt) → li_sg (M6.1 2)  → li_T l Z YX6_readProduct d 13 [(3, .int x5), (0, .ref (Z.2.2 151)), (1, .ref (Z.2.2 1)), (2, .int p1)] [] M6 (fun r M' => (∃ x : Int32, r = some (.int x) ∧ (x = 0 ∨ x = 1) ∧ (∃ ok q : Int, rpr g LN 3 (p1.toInt) P0 ok q ∧ x.toInt = ok ∧ (M'.1 1 2).toInt = q ∧ (M'.1 1 1).toInt = LN ∧ P0 ≤ q ∧ q ≤ LN ∧ (ok = 0 ∨ ok = 1) ∧ 0 ≤ (M'.1 151 3).toInt ∧ (M'.1 151 3).toInt - R0 ≤ q - P0)) ∧ li_fr (fun i => i = 1 ∨ i = 151 ∨ i = 152) M0 M') := by
      try clear tc4
      try clear okA
      try clear qA
      try clear ra
      try clear ea1
      try clear ea2
      try clear ea3
      try clear ea4
      try clear ea5
      try clear ea6
      try clear ea7
      try clear ea8
      try clear ux1
      try clear bx1
      try clear qx1
      try clear h3
      intro n
      induction n with
      | zero => intro x5 M6 hn; exact absurd hn (Nat.not_lt_zero _)
      | succ n ih13 =>
        intro x5 M6 hn hf hi Psg_M6
        have gx5 := tl_rg x5
        obtain ⟨i0, i1, i2, i3, i4, i5, i6⟩ := hi
        refine li_iload_n 0 dX6_readProduct_13 rfl ?_
        refine li_bipush 80 dX6_readProduct_14 (by decide) ?_
        refine li_icmp_ge 62 dX6_readProduct_16 (by decide) (fun c7 => ?_) (fun c7 => ?_)
        · have tc7 : 80 ≤ x5.toInt := tl_le c7
          refine li_iconst 1 dX6_readProduct_62 (by decide) ?_
          have z1 : (1 : Int32).toInt = 1 := rfl
          exact li_iret dX6_readProduct_63 rfl (li_nz (Or.inr rfl)) ⟨⟨_, rfl, Or.inr rfl, (by first | (exact ⟨0, qB, rk_4f i9 f22.2.1 (rp_to rb rfl (Int.le_antisymm (by omega) (by omega)) (Int.le_antisymm (by omega) (by omega)) rfl), (by first | rfl | omega), Int.le_antisymm (by omega) (by omega), Int.le_antisymm (by omega) (by omega), by omega, by omega, Or.inl rfl, by omega, by omega⟩) | (exact ⟨1, P1, rk_4e i9 e22.1, (by first | rfl | omega), Int.le_antisymm (by omega) (by omega), Int.le_antisymm (by omega) (by omega), by omega, by omega, Or.inr rfl, by omega, by omega⟩) | (exact ⟨1, _, rk_4e i6 (rk_nm (by omega)), (by first | rfl | omega), Int.le_antisymm (by omega) (by omega), Int.le_antisymm (by omega) (by omega), by omega, by omega, Or.inr rfl, by omega, by omega⟩) | (exact ⟨0, qA, rk_3f (rp_to ra rfl (Int.le_antisymm (by omega) (by omega)) (Int.le_antisymm (by omega) (by omega)) rfl), (by first | rfl | omega), Int.le_antisymm (by omega) (by omega), Int.le_antisymm (by omega) (by omega), by omega, by omega, Or.inl rfl, by omega, by omega⟩))⟩, hf⟩
        · have tc7 : x5.toInt < 80 := tl_nle c7
          refine li_aload_n 2 dX6_readProduct_19 rfl ?_
          refine li_ldcS 2 dX6_readProduct_20 (by decide) ⟨rfl, rfl⟩ ?_
          obtain ⟨P1, hP1⟩ : ∃ z : Int, z = (M6.1 1 2).toInt := ⟨_, rfl⟩
          have i9 := rk_to i6 hP1
          refine li_callV (n := 1) (As := [.ref (Z.2.2 (2100 + 2))]) dX6_readProduct_22 (k14_X7_takeAnyOf (d - 1) (by omega) (by decide) M6 g ((hf.1 2 (by first | exact id | decide | omega)).trans hg) LN (P1) (Int.le_antisymm (by omega) (by omega)) (Int.le_antisymm (by omega) (by omega)) ⟨by omega, by omega, by omega⟩ Psg_M6) (by omega) (Nat.le_of_ble_eq_true rfl) w_576 w_577 w_578 w_102 w_579 (by decide +kernel) rfl (by decide) sh_1 rfl rfl (Nat.le_of_ble_eq_true rfl) (fun r M9 h10 => ?_)
          obtain ⟨⟨x8, rfl, qx8⟩, h10⟩ := h10
          have gx8 := tl_rg x8
          have hf := li_fr_trans hf h10 (fun i (h : i = 1) => (show i = 1 ∨ i = 151 ∨ i = 152 by omega))
          have mM9_151_3 : (M9.1 151 3).toInt = (M6.1 151 3).toInt := by rw [h10.1 151 (show ¬ (151 = 1) by first | (simp; done) | omega)]
          have Psg_M9 : li_sg (M9.1 2)  := li_sg_tr (h10.1 2 (fun h => by first | exact (h : False).elim | omega))  Psg_M6
          have ln22 : (M9.1 1 1).toInt = LN := qx8.2
          have ty22 : li_hd (0 ≤ x8.toInt → x8.toInt < (li_len.getD 2 0 : Nat) ∧ tk_C 2 (rd_ch g LN (P1)) ∧ (M9.1 1 2).toInt = P1 + 1 ∧ P1 < LN) := li_hdI fun h9 => by rcases qx8.1 with c | c; exact ⟨c.2.1, tk_yes (by decide) c.1 c.2.1 c.2.2.1, c.2.2.2.1, c.2.2.2.2⟩; exact absurd h9 (by omega)
          have tn22 : li_hd (x8.toInt < 0 → ¬ tk_C 2 (rd_ch g LN (P1)) ∧ (M9.1 1 2).toInt = P1) := li_hdI fun h9 => by rcases qx8.1 with c | c; exact absurd h9 (by omega); exact ⟨tk_no (by decide) c.2.1 rfl, c.2.2⟩
          have rx22 : -1 ≤ x8.toInt := by rcases qx8.1 with c | c <;> omega
          clear qx8
          refine li_istore [(4, .int x8), (3, .int x5), (0, .ref (Z.2.2 151)), (1, .ref (Z.2.2 1)), (2, .int p1)] dX6_readProduct_25 (by decide) rfl ?_
          refine li_iload 0 dX6_readProduct_27 rfl ?_
          refine li_if_ge 34 dX6_readProduct_29 (by decide) (fun c11 => ?_) (fun c11 => ?_)
          · have tc11 : 0 ≤ x8.toInt := tl_le c11
            have f22 := ty22 (by omega)
            clear ty22 tn22
            refine li_aload_n 2 dX6_readProduct_34 rfl ?_
            refine li_aload_n 3 dX6_readProduct_35 rfl ?_
            refine li_iload_n 4 dX6_readProduct_36 rfl ?_
            refine li_callV (n := 2) (As := [.ref (Z.2.2 1), .int p1]) dX6_readProduct_37 (k14_X6_readFactor (d - 1) (by omega) p1 dE IH (by omega) M9 g ((hf.1 2 (by first | exact id | decide | omega)).trans hg) LN _ (Int.le_antisymm (by omega) (by omega)) rfl ⟨by omega, by omega, by omega⟩ Psg_M9 _ rfl ⟨by omega, by omega⟩ (by omega)) (by omega) (Nat.le_of_ble_eq_true rfl) w_560 w_562 w_4 w_107 w_563 (by decide +kernel) rfl (by decide) sh_151 rfl rfl (Nat.le_of_ble_eq_true rfl) (fun r M13 h14 => ?_)
            obtain ⟨⟨x12, rfl, bx12, qx12⟩, h14⟩ := h14
            have ux12 := tl_b bx12
            have hf := li_fr_trans hf h14 (fun i (h : i = 1 ∨ i = 151 ∨ i = 152) => (show i = 1 ∨ i = 151 ∨ i = 152 by omega))
            have Psg_M13 : li_sg (M13.1 2)  := li_sg_tr (h14.1 2 (fun h => by first | exact (h : False).elim | omega))  Psg_M9
            obtain ⟨okB, qB, rb, eb1, eb2, eb3, eb4, eb5, eb6, eb7, eb8⟩ := qx12
            refine li_if_eq 54 dX6_readProduct_40 (by decide) (fun c15 => ?_) (fun c15 => ?_)
            · have tc15 : x12.toInt = 0 := tl_eq c15
              refine li_iconst 0 dX6_readProduct_54 (by decide) ?_
              have z0 : (0 : Int32).toInt = 0 := rfl
              exact li_iret dX6_readProduct_55 rfl (li_nz (Or.inl rfl)) ⟨⟨_, rfl, Or.inl rfl, (by first | (exact ⟨0, qB, rk_4f i9 f22.2.1 (rp_to rb rfl (Int.le_antisymm (by omega) (by omega)) (Int.le_antisymm (by omega) (by omega)) rfl), (by first | rfl | omega), Int.le_antisymm (by omega) (by omega), Int.le_antisymm (by omega) (by omega), by omega, by omega, Or.inl rfl, by omega, by omega⟩) | (exact ⟨1, P1, rk_4e i9 e22.1, (by first | rfl | omega), Int.le_antisymm (by omega) (by omega), Int.le_antisymm (by omega) (by omega), by omega, by omega, Or.inr rfl, by omega, by omega⟩) | (exact ⟨1, _, rk_4e i6 (rk_nm (by omega)), (by first | rfl | omega), Int.le_antisymm (by omega) (by omega), Int.le_antisymm (by omega) (by omega), by omega, by omega, Or.inr rfl, by omega, by omega⟩) | (exact ⟨0, qA, rk_3f (rp_to ra rfl (Int.le_antisymm (by omega) (by omega)) (Int.le_antisymm (by omega) (by omega)) rfl), (by first | rfl | omega), Int.le_antisymm (by omega) (by omega), Int.le_antisymm (by omega) (by omega), by omega, by omega, Or.inl rfl, by omega, by omega⟩))⟩, hf⟩
            · have tc15 : ¬ x12.toInt = 0 := tl_ne c15
              refine li_aload_n 2 dX6_readProduct_43 rfl ?_
              refine li_ldcS 2 dX6_readProduct_44 (by decide) ⟨rfl, rfl⟩ ?_
              refine li_iload 0 dX6_readProduct_46 rfl ?_
              refine li_callV (n := 2) (As := [.ref (Z.2.2 (2100 + 2)), .int x8]) dX6_readProduct_48 (k14_X6_addSign (d - 1) (by omega) (by decide) x8 M13 ⟨by omega, by omega⟩ ⟨by omega, by omega⟩) (by omega) (Nat.le_of_ble_eq_true rfl) w_645 w_647 w_7 w_107 w_648 (by decide +kernel) rfl (by decide) sh_151 rfl rfl (Nat.le_of_ble_eq_true rfl) (fun r M17 h18 => ?_)
              obtain ⟨⟨x16, rfl, bx16, qx16⟩, h18⟩ := h18
              have ux16 := tl_b bx16
              have hf := li_fr_trans hf h18 (fun i (h : i = 151 ∨ i = 152) => (show i = 1 ∨ i = 151 ∨ i = 152 by omega))
              have mM17_1_1 : (M17.1 1 1).toInt = (M13.1 1 1).toInt := by rw [h18.1 1 (show ¬ (1 = 151 ∨ 1 = 152) by first | (simp; done) | omega)]
              have mM17_1_2 : (M17.1 1 2).toInt = (M13.1 1 2).toInt := by rw [h18.1 1 (show ¬ (1 = 151 ∨ 1 = 152) by first | (simp; done) | omega)]
              have Psg_M17 : li_sg (M17.1 2)  := li_sg_tr (h18.1 2 (fun h => by first | exact (h : False).elim | omega))  Psg_M13
              refine li_if_ne 56 dX6_readProduct_51 (by decide) (fun c19 => ?_) (fun c19 => ?_)
              · have tc19 : ¬ x16.toInt = 0 := tl_ne c19
                obtain ⟨x20, ex20⟩ : ∃ y : Int32, y = x5 + 1 := ⟨_, rfl⟩
                have tx20 : (-2147483648 ≤ x5.toInt + 1 ∧ x5.toInt + 1 ≤ 2147483647) → x20.toInt = x5.toInt + 1 := tl_add ex20
                refine li_iinc 1 [(3, .int x20), (4, .int x8), (0, .ref (Z.2.2 151)), (1, .ref (Z.2.2 1)), (2, .int p1)] x20 dX6_readProduct_56 rfl (by rw [ex20]; rfl) (by decide) rfl ?_
                refine li_goto 13 dX6_readProduct_59 (by decide) ?_
                refine li_pick [0, 2, 3, 4] [(3, .int x20), (0, .ref (Z.2.2 151)), (1, .ref (Z.2.2 1)), (2, .int p1)] rfl ?_
                exact ih13 x20 M17 (by omega) hf ⟨(by omega), (by omega), (Int.le_antisymm (by omega) (by omega)), (by omega), (by omega), (by omega), (by first | (exact rk_to (rk_4s i9 f22.2.1 (rp_to rb rfl (Int.le_antisymm (by omega) (by omega)) (Int.le_antisymm (by omega) (by omega)) rfl)) (Int.le_antisymm (by omega) (by omega))) | (exact rk_to (rk_4 (rp_to ra rfl (Int.le_antisymm (by omega) (by omega)) (Int.le_antisymm (by omega) (by omega)) rfl)) (Int.le_antisymm (by omega) (by omega))))⟩ (by first | exact li_sg_tr rfl  Psg_M17)
              · have tc19 : x16.toInt = 0 := tl_eq c19
                refine li_iconst 0 dX6_readProduct_54 (by decide) ?_
                have z0 : (0 : Int32).toInt = 0 := rfl
                exact li_iret dX6_readProduct_55 rfl (li_nz (Or.inl rfl)) ⟨⟨_, rfl, Or.inl rfl, (by first | (exact ⟨0, qB, rk_4f i9 f22.2.1 (rp_to rb rfl (Int.le_antisymm (by omega) (by omega)) (Int.le_antisymm (by omega) (by omega)) rfl), (by first | rfl | omega), Int.le_antisymm (by omega) (by omega), Int.le_antisymm (by omega) (by omega), by omega, by omega, Or.inl rfl, by omega, by omega⟩) | (exact ⟨1, P1, rk_4e i9 e22.1, (by first | rfl | omega), Int.le_antisymm (by omega) (by omega), Int.le_antisymm (by omega) (by omega), by omega, by omega, Or.inr rfl, by omega, by omega⟩) | (exact ⟨1, _, rk_4e i6 (rk_nm (by omega)), (by first | rfl | omega), Int.le_antisymm (by omega) (by omega), Int.le_antisymm (by omega) (by omega), by omega, by omega, Or.inr rfl, by omega, by omega⟩) | (exact ⟨0, qA, rk_3f (rp_to ra rfl (Int.le_antisymm (by omega) (by omega)) (Int.le_antisymm (by omega) (by omega)) rfl), (by first | rfl | omega), Int.le_antisymm (by omega) (by omega), Int.le_antisymm (by omega) (by omega), by omega, by omega, Or.inl rfl, by omega, by omega⟩))⟩, hf⟩
          · have tc11 : x8.toInt < 0 := tl_nle c11
            have e22 := tn22 (by omega)
            clear ty22 tn22
            refine li_iconst 1 dX6_readProduct_32 (by decide) ?_
            have z1 : (1 : Int32).toInt = 1 := rfl
            exact li_iret dX6_readProduct_33 rfl (li_nz (Or.inr rfl)) ⟨⟨_, rfl, Or.inr rfl, (by first | (exact ⟨0, qB, rk_4f i9 f22.2.1 (rp_to rb rfl (Int.le_antisymm (by omega) (by omega)) (Int.le_antisymm (by omega) (by omega)) rfl), (by first | rfl | omega), Int.le_antisymm (by omega) (by omega), Int.le_antisymm (by omega) (by omega), by omega, by omega, Or.inl rfl, by omega, by omega⟩) | (exact ⟨1, P1, rk_4e i9 e22.1, (by first | rfl | omega), Int.le_antisymm (by omega) (by omega), Int.le_antisymm (by omega) (by omega), by omega, by omega, Or.inr rfl, by omega, by omega⟩) | (exact ⟨1, _, rk_4e i6 (rk_nm (by omega)), (by first | rfl | omega), Int.le_antisymm (by omega) (by omega), Int.le_antisymm (by omega) (by omega), by omega, by omega, Or.inr rfl, by omega, by omega⟩) | (exact ⟨0, qA, rk_3f (rp_to ra rfl (Int.le_antisymm (by omega) (by omega)) (Int.le_antisymm (by omega) (by omega)) rfl), (by first | rfl | omega), Int.le_antisymm (by omega) (by omega), Int.le_antisymm (by omega) (by omega), by omega, by omega, Or.inl rfl, by omega, by omega⟩))⟩, hf⟩
    have z0 : (0 : Int32).toInt = 0 := rfl
    exact L13 _ 0 M2 (Nat.lt_succ_self _) hf ⟨(by omega), (by omega), (Int.le_antisymm (by omega) (by omega)), (by omega), (by omega), (by omega), (by first | (exact rk_to (rk_4s i9 f22.2.1 (rp_to rb rfl (Int.le_antisymm (by omega) (by omega)) (Int.le_antisymm (by omega) (by omega)) rfl)) (Int.le_antisymm (by omega) (by omega))) | (exact rk_to (rk_4 (rp_to ra rfl (Int.le_antisymm (by omega) (by omega)) (Int.le_antisymm (by omega) (by omega)) rfl)) (Int.le_antisymm (by omega) (by omega))))⟩ (by first | exact li_sg_tr rfl  Psg_M2)
  · have tc4 : x1.toInt = 0 := tl_eq c4
    refine li_iconst 0 dX6_readProduct_9 (by decide) ?_
    have z0 : (0 : Int32).toInt = 0 := rfl
    exact li_iret dX6_readProduct_10 rfl (li_nz (Or.inl rfl)) ⟨⟨_, rfl, Or.inl rfl, (by first | (exact ⟨0, qB, rk_4f i9 f22.2.1 (rp_to rb rfl (Int.le_antisymm (by omega) (by omega)) (Int.le_antisymm (by omega) (by omega)) rfl), (by first | rfl | omega), Int.le_antisymm (by omega) (by omega), Int.le_antisymm (by omega) (by omega), by omega, by omega, Or.inl rfl, by omega, by omega⟩) | (exact ⟨1, P1, rk_4e i9 e22.1, (by first | rfl | omega), Int.le_antisymm (by omega) (by omega), Int.le_antisymm (by omega) (by omega), by omega, by omega, Or.inr rfl, by omega, by omega⟩) | (exact ⟨1, _, rk_4e i6 (rk_nm (by omega)), (by first | rfl | omega), Int.le_antisymm (by omega) (by omega), Int.le_antisymm (by omega) (by omega), by omega, by omega, Or.inr rfl, by omega, by omega⟩) | (exact ⟨0, qA, rk_3f (rp_to ra rfl (Int.le_antisymm (by omega) (by omega)) (Int.le_antisymm (by omega) (by omega)) rfl), (by first | rfl | omega), Int.le_antisymm (by omega) (by omega), Int.le_antisymm (by omega) (by omega), by omega, by omega, Or.inl rfl, by omega, by omega⟩))⟩, hf⟩
set_option maxRecDepth 100000 in
set_option maxHeartbeats 4000000 in
theorem k14_X6_readSum {l : Launch} {Z : li_Z} (d : Nat) (hd : 10 ≤ d) (p1 : Int32) (dE : Nat) (IH : p1.toInt < 4 → ∀ (q9 : Int32), q9.toInt = p1.toInt + 1 → ∀ (M0 : li_M) (g : Nat → Int32) (hg : M0.1 2 = g) (LN P0 : Int) (hLN : (M0.1 1 1).toInt = LN) (hP0 : (M0.1 1 2).toInt = P0) (h1 : 0 ≤ P0 ∧ P0 ≤ LN ∧ LN ≤ 80) (Psg_M0 : li_sg (M0.1 2)) (R0 : Int) (hR0 : (M0.1 151 3).toInt = R0) (hr : 0 ≤ R0 ∧ R0 ≤ P0), li_Met l Z YX6_readExpression dE [.ref (Z.2.2 151), .ref (Z.2.2 1), .int q9] M0 (fun r M' => (∃ x : Int32, r = some (.int x) ∧ (x = 0 ∨ x = 1) ∧ (∃ ok q : Int, rpr g LN 0 (q9.toInt) P0 ok q ∧ x.toInt = ok ∧ (M'.1 1 2).toInt = q ∧ (M'.1 1 1).toInt = LN ∧ P0 ≤ q ∧ q ≤ LN ∧ (ok = 0 ∨ ok = 1) ∧ 0 ≤ (M'.1 151 3).toInt ∧ (M'.1 151 3).toInt - R0 ≤ q - P0)) ∧ li_fr (fun i => i = 1 ∨ i = 151 ∨ i = 152) M0 M')) (hE : dE + 4 ≤ d) (M0 : li_M) (g : Nat → Int32) (hg : M0.1 2 = g) (LN P0 : Int) (hLN : (M0.1 1 1).toInt = LN) (hP0 : (M0.1 1 2).toInt = P0) (h1 : 0 ≤ P0 ∧ P0 ≤ LN ∧ LN ≤ 80) (Psg_M0 : li_sg (M0.1 2)) (R0 : Int) (hR0 : (M0.1 151 3).toInt = R0) (hr : 0 ≤ R0 ∧ R0 ≤ P0) (h4 : p1.toInt ≤ 4) : li_Met l Z YX6_readSum d [.ref (Z.2.2 151), .ref (Z.2.2 1), .int p1] M0 (fun r M' => (∃ x : Int32, r = some (.int x) ∧ (x = 0 ∨ x = 1) ∧ (∃ ok q : Int, rpr g LN 1 (p1.toInt) P0 ok q ∧ x.toInt = ok ∧ (M'.1 1 2).toInt = q ∧ (M'.1 1 1).toInt = LN ∧ P0 ≤ q ∧ q ≤ LN ∧ (ok = 0 ∨ ok = 1) ∧ 0 ≤ (M'.1 151 3).toInt ∧ (M'.1 151 3).toInt - R0 ≤ q - P0)) ∧ li_fr (fun i => i = 1 ∨ i = 151 ∨ i = 152) M0 M') := by
  refine li_enter (by decide +kernel) (Nat.le_of_ble_eq_true rfl) ?_
  show li_T l Z YX6_readSum d 0 [(0, .ref (Z.2.2 151)), (1, .ref (Z.2.2 1)), (2, .int p1)] [] M0 _
  have hf : li_fr (fun i => i = 1 ∨ i = 151 ∨ i = 152) M0 M0 := li_fr_refl
  have gp1 := tl_rg p1
  refine li_aload_n 0 dX6_readSum_0 rfl ?_
  refine li_aload_n 1 dX6_readSum_1 rfl ?_
  refine li_iload_n 2 dX6_readSum_2 rfl ?_
  refine li_callV (n := 2) (As := [.ref (Z.2.2 1), .int p1]) dX6_readSum_3 (k14_X6_readProduct (d - 1) (by omega) p1 dE IH (by omega) M0 g ((hf.1 2 (by first | exact id | decide | omega)).trans hg) LN _ (Int.le_antisymm (by omega) (by omega)) rfl ⟨by omega, by omega, by omega⟩ Psg_M0 _ rfl ⟨by omega, by omega⟩ (by omega)) (by omega) (Nat.le_of_ble_eq_true rfl) w_556 w_558 w_3 w_107 w_559 (by decide +kernel) rfl (by decide) sh_151 rfl rfl (Nat.le_of_ble_eq_true rfl) (fun r M2 h3 => ?_)
  obtain ⟨⟨x1, rfl, bx1, qx1⟩, h3⟩ := h3
  have ux1 := tl_b bx1
  have hf := li_fr_trans hf h3 (fun i (h : i = 1 ∨ i = 151 ∨ i = 152) => (show i = 1 ∨ i = 151 ∨ i = 152 by omega))
  have Psg_M2 : li_sg (M2.1 2)  := li_sg_tr (h3.1 2 (fun h => by first | exact (h : False).elim | omega))  Psg_M0
  obtain ⟨okA, qA, ra, ea1, ea2, ea3, ea4, ea5, ea6, ea7, ea8⟩ := qx1
  refine li_if_ne 11 dX6_readSum_6 (by decide) (fun c4 => ?_) (fun c4 => ?_)
  · have tc4 : ¬ x1.toInt = 0 := tl_ne c4
    refine li_iconst 0 dX6_readSum_11 (by decide) ?_
    refine li_istore_n [(3, .int 0), (0, .ref (Z.2.2 151)), (1, .ref (Z.2.2 1)), (2, .int p1)] dX6_readSum_12 (by decide) rfl ?_
    have L13 : ∀ (n : Nat) (x5 : Int32) (M6 : li_M), (80 - (x5 : Int32).toInt).toNat < n → li_fr (fun i => i = 1 ∨ i = 151 ∨ i = 152) M0 M6 → 0 ≤ (x5 : Int32).toInt ∧ (x5 : Int32).toInt ≤ (M6.1 1 2).toInt - P0 ∧ (M6.1 1 1).toInt = LN ∧ (M6.1 1 2).toInt ≤ LN ∧ 0 ≤ (M6.1 151 3).toInt ∧ (M6.1 151 3).toInt - R0 ≤ (M6.1 1 2).toInt - P0 ∧ li_rk g LN 1 (p1.toInt) P0 2 (p1.toInt) ((M6.1 1 2).toInt) → li_sg (M6.1 2)  → li_T l Z YX6_readSum d 13 [(3, .int x5), (0, .ref (Z.2.2 151)), (1, .ref (Z.2.2 1)), (2, .int p1)] [] M6 (fun r M' => (∃ x : Int32, r = some (.int x) ∧ (x = 0 ∨ x = 1) ∧ (∃ ok q : Int, rpr g LN 1 (p1.toInt) P0 ok q ∧ x.toInt = ok ∧ (M'.1 1 2).toInt = q ∧ (M'.1 1 1).toInt = LN ∧ P0 ≤ q ∧ q ≤ LN ∧ (ok = 0 ∨ ok = 1) ∧ 0 ≤ (M'.1 151 3).toInt ∧ (M'.1 151 3).toInt - R0 ≤ q - P0)) ∧ li_fr (fun i => i = 1 ∨ i = 151 ∨ i = 152) M0 M') := by
      try clear tc4
      try clear okA
      try clear qA
      try clear ra
      try clear ea1
      try clear ea2
      try clear ea3
      try clear ea4
      try clear ea5
      try clear ea6
      try clear ea7
      try clear ea8
      try clear ux1
      try clear bx1
      try clear qx1
      try clear h3
      intro n
      induction n with
      | zero => intro x5 M6 hn; exact absurd hn (Nat.not_lt_zero _)
      | succ n ih13 =>
        intro x5 M6 hn hf hi Psg_M6
        have gx5 := tl_rg x5
        obtain ⟨i0, i1, i2, i3, i4, i5, i6⟩ := hi
        refine li_iload_n 0 dX6_readSum_13 rfl ?_
        refine li_bipush 80 dX6_readSum_14 (by decide) ?_
        refine li_icmp_ge 62 dX6_readSum_16 (by decide) (fun c7 => ?_) (fun c7 => ?_)
        · have tc7 : 80 ≤ x5.toInt := tl_le c7
          refine li_iconst 1 dX6_readSum_62 (by decide) ?_
          have z1 : (1 : Int32).toInt = 1 := rfl
          exact li_iret dX6_readSum_63 rfl (li_nz (Or.inr rfl)) ⟨⟨_, rfl, Or.inr rfl, (by first | (exact ⟨0, qB, rk_2f i9 f22.2.1 (rp_to rb rfl (Int.le_antisymm (by omega) (by omega)) (Int.le_antisymm (by omega) (by omega)) rfl), (by first | rfl | omega), Int.le_antisymm (by omega) (by omega), Int.le_antisymm (by omega) (by omega), by omega, by omega, Or.inl rfl, by omega, by omega⟩) | (exact ⟨1, P1, rk_2e i9 e22.1, (by first | rfl | omega), Int.le_antisymm (by omega) (by omega), Int.le_antisymm (by omega) (by omega), by omega, by omega, Or.inr rfl, by omega, by omega⟩) | (exact ⟨1, _, rk_2e i6 (rk_na (by omega)), (by first | rfl | omega), Int.le_antisymm (by omega) (by omega), Int.le_antisymm (by omega) (by omega), by omega, by omega, Or.inr rfl, by omega, by omega⟩) | (exact ⟨0, qA, rk_1f (rp_to ra rfl (Int.le_antisymm (by omega) (by omega)) (Int.le_antisymm (by omega) (by omega)) rfl), (by first | rfl | omega), Int.le_antisymm (by omega) (by omega), Int.le_antisymm (by omega) (by omega), by omega, by omega, Or.inl rfl, by omega, by omega⟩))⟩, hf⟩
        · have tc7 : x5.toInt < 80 := tl_nle c7
          refine li_aload_n 2 dX6_readSum_19 rfl ?_
          refine li_ldcS 1 dX6_readSum_20 (by decide) ⟨rfl, rfl⟩ ?_
          obtain ⟨P1, hP1⟩ : ∃ z : Int, z = (M6.1 1 2).toInt := ⟨_, rfl⟩
          have i9 := rk_to i6 hP1
          refine li_callV (n := 1) (As := [.ref (Z.2.2 (2100 + 1))]) dX6_readSum_22 (k14_X7_takeAnyOf (d - 1) (by omega) (by decide) M6 g ((hf.1 2 (by first | exact id | decide | omega)).trans hg) LN (P1) (Int.le_antisymm (by omega) (by omega)) (Int.le_antisymm (by omega) (by omega)) ⟨by omega, by omega, by omega⟩ Psg_M6) (by omega) (Nat.le_of_ble_eq_true rfl) w_576 w_577 w_578 w_102 w_579 (by decide +kernel) rfl (by decide) sh_1 rfl rfl (Nat.le_of_ble_eq_true rfl) (fun r M9 h10 => ?_)
          obtain ⟨⟨x8, rfl, qx8⟩, h10⟩ := h10
          have gx8 := tl_rg x8
          have hf := li_fr_trans hf h10 (fun i (h : i = 1) => (show i = 1 ∨ i = 151 ∨ i = 152 by omega))
          have mM9_151_3 : (M9.1 151 3).toInt = (M6.1 151 3).toInt := by rw [h10.1 151 (show ¬ (151 = 1) by first | (simp; done) | omega)]
          have Psg_M9 : li_sg (M9.1 2)  := li_sg_tr (h10.1 2 (fun h => by first | exact (h : False).elim | omega))  Psg_M6
          have ln22 : (M9.1 1 1).toInt = LN := qx8.2
          have ty22 : li_hd (0 ≤ x8.toInt → x8.toInt < (li_len.getD 1 0 : Nat) ∧ tk_C 1 (rd_ch g LN (P1)) ∧ (M9.1 1 2).toInt = P1 + 1 ∧ P1 < LN) := li_hdI fun h9 => by rcases qx8.1 with c | c; exact ⟨c.2.1, tk_yes (by decide) c.1 c.2.1 c.2.2.1, c.2.2.2.1, c.2.2.2.2⟩; exact absurd h9 (by omega)
          have tn22 : li_hd (x8.toInt < 0 → ¬ tk_C 1 (rd_ch g LN (P1)) ∧ (M9.1 1 2).toInt = P1) := li_hdI fun h9 => by rcases qx8.1 with c | c; exact absurd h9 (by omega); exact ⟨tk_no (by decide) c.2.1 rfl, c.2.2⟩
          have rx22 : -1 ≤ x8.toInt := by rcases qx8.1 with c | c <;> omega
          clear qx8
          refine li_istore [(4, .int x8), (3, .int x5), (0, .ref (Z.2.2 151)), (1, .ref (Z.2.2 1)), (2, .int p1)] dX6_readSum_25 (by decide) rfl ?_
          refine li_iload 0 dX6_readSum_27 rfl ?_
          refine li_if_ge 34 dX6_readSum_29 (by decide) (fun c11 => ?_) (fun c11 => ?_)
          · have tc11 : 0 ≤ x8.toInt := tl_le c11
            have f22 := ty22 (by omega)
            clear ty22 tn22
            refine li_aload_n 2 dX6_readSum_34 rfl ?_
            refine li_aload_n 3 dX6_readSum_35 rfl ?_
            refine li_iload_n 4 dX6_readSum_36 rfl ?_
            refine li_callV (n := 2) (As := [.ref (Z.2.2 1), .int p1]) dX6_readSum_37 (k14_X6_readProduct (d - 1) (by omega) p1 dE IH (by omega) M9 g ((hf.1 2 (by first | exact id | decide | omega)).trans hg) LN _ (Int.le_antisymm (by omega) (by omega)) rfl ⟨by omega, by omega, by omega⟩ Psg_M9 _ rfl ⟨by omega, by omega⟩ (by omega)) (by omega) (Nat.le_of_ble_eq_true rfl) w_556 w_558 w_3 w_107 w_559 (by decide +kernel) rfl (by decide) sh_151 rfl rfl (Nat.le_of_ble_eq_true rfl) (fun r M13 h14 => ?_)
            obtain ⟨⟨x12, rfl, bx12, qx12⟩, h14⟩ := h14
            have ux12 := tl_b bx12
            have hf := li_fr_trans hf h14 (fun i (h : i = 1 ∨ i = 151 ∨ i = 152) => (show i = 1 ∨ i = 151 ∨ i = 152 by omega))
            have Psg_M13 : li_sg (M13.1 2)  := li_sg_tr (h14.1 2 (fun h => by first | exact (h : False).elim | omega))  Psg_M9
            obtain ⟨okB, qB, rb, eb1, eb2, eb3, eb4, eb5, eb6, eb7, eb8⟩ := qx12
            refine li_if_eq 54 dX6_readSum_40 (by decide) (fun c15 => ?_) (fun c15 => ?_)
            · have tc15 : x12.toInt = 0 := tl_eq c15
              refine li_iconst 0 dX6_readSum_54 (by decide) ?_
              have z0 : (0 : Int32).toInt = 0 := rfl
              exact li_iret dX6_readSum_55 rfl (li_nz (Or.inl rfl)) ⟨⟨_, rfl, Or.inl rfl, (by first | (exact ⟨0, qB, rk_2f i9 f22.2.1 (rp_to rb rfl (Int.le_antisymm (by omega) (by omega)) (Int.le_antisymm (by omega) (by omega)) rfl), (by first | rfl | omega), Int.le_antisymm (by omega) (by omega), Int.le_antisymm (by omega) (by omega), by omega, by omega, Or.inl rfl, by omega, by omega⟩) | (exact ⟨1, P1, rk_2e i9 e22.1, (by first | rfl | omega), Int.le_antisymm (by omega) (by omega), Int.le_antisymm (by omega) (by omega), by omega, by omega, Or.inr rfl, by omega, by omega⟩) | (exact ⟨1, _, rk_2e i6 (rk_na (by omega)), (by first | rfl | omega), Int.le_antisymm (by omega) (by omega), Int.le_antisymm (by omega) (by omega), by omega, by omega, Or.inr rfl, by omega, by omega⟩) | (exact ⟨0, qA, rk_1f (rp_to ra rfl (Int.le_antisymm (by omega) (by omega)) (Int.le_antisymm (by omega) (by omega)) rfl), (by first | rfl | omega), Int.le_antisymm (by omega) (by omega), Int.le_antisymm (by omega) (by omega), by omega, by omega, Or.inl rfl, by omega, by omega⟩))⟩, hf⟩
            · have tc15 : ¬ x12.toInt = 0 := tl_ne c15
              refine li_aload_n 2 dX6_readSum_43 rfl ?_
              refine li_ldcS 1 dX6_readSum_44 (by decide) ⟨rfl, rfl⟩ ?_
              refine li_iload 0 dX6_readSum_46 rfl ?_
              refine li_callV (n := 2) (As := [.ref (Z.2.2 (2100 + 1)), .int x8]) dX6_readSum_48 (k14_X6_addSign (d - 1) (by omega) (by decide) x8 M13 ⟨by omega, by omega⟩ ⟨by omega, by omega⟩) (by omega) (Nat.le_of_ble_eq_true rfl) w_645 w_647 w_7 w_107 w_648 (by decide +kernel) rfl (by decide) sh_151 rfl rfl (Nat.le_of_ble_eq_true rfl) (fun r M17 h18 => ?_)
              obtain ⟨⟨x16, rfl, bx16, qx16⟩, h18⟩ := h18
              have ux16 := tl_b bx16
              have hf := li_fr_trans hf h18 (fun i (h : i = 151 ∨ i = 152) => (show i = 1 ∨ i = 151 ∨ i = 152 by omega))
              have mM17_1_1 : (M17.1 1 1).toInt = (M13.1 1 1).toInt := by rw [h18.1 1 (show ¬ (1 = 151 ∨ 1 = 152) by first | (simp; done) | omega)]
              have mM17_1_2 : (M17.1 1 2).toInt = (M13.1 1 2).toInt := by rw [h18.1 1 (show ¬ (1 = 151 ∨ 1 = 152) by first | (simp; done) | omega)]
              have Psg_M17 : li_sg (M17.1 2)  := li_sg_tr (h18.1 2 (fun h => by first | exact (h : False).elim | omega))  Psg_M13
              refine li_if_ne 56 dX6_readSum_51 (by decide) (fun c19 => ?_) (fun c19 => ?_)
              · have tc19 : ¬ x16.toInt = 0 := tl_ne c19
                obtain ⟨x20, ex20⟩ : ∃ y : Int32, y = x5 + 1 := ⟨_, rfl⟩
                have tx20 : (-2147483648 ≤ x5.toInt + 1 ∧ x5.toInt + 1 ≤ 2147483647) → x20.toInt = x5.toInt + 1 := tl_add ex20
                refine li_iinc 1 [(3, .int x20), (4, .int x8), (0, .ref (Z.2.2 151)), (1, .ref (Z.2.2 1)), (2, .int p1)] x20 dX6_readSum_56 rfl (by rw [ex20]; rfl) (by decide) rfl ?_
                refine li_goto 13 dX6_readSum_59 (by decide) ?_
                refine li_pick [0, 2, 3, 4] [(3, .int x20), (0, .ref (Z.2.2 151)), (1, .ref (Z.2.2 1)), (2, .int p1)] rfl ?_
                exact ih13 x20 M17 (by omega) hf ⟨(by omega), (by omega), (Int.le_antisymm (by omega) (by omega)), (by omega), (by omega), (by omega), (by first | (exact rk_to (rk_2s i9 f22.2.1 (rp_to rb rfl (Int.le_antisymm (by omega) (by omega)) (Int.le_antisymm (by omega) (by omega)) rfl)) (Int.le_antisymm (by omega) (by omega))) | (exact rk_to (rk_2 (rp_to ra rfl (Int.le_antisymm (by omega) (by omega)) (Int.le_antisymm (by omega) (by omega)) rfl)) (Int.le_antisymm (by omega) (by omega))))⟩ (by first | exact li_sg_tr rfl  Psg_M17)
              · have tc19 : x16.toInt = 0 := tl_eq c19
                refine li_iconst 0 dX6_readSum_54 (by decide) ?_
                have z0 : (0 : Int32).toInt = 0 := rfl
                exact li_iret dX6_readSum_55 rfl (li_nz (Or.inl rfl)) ⟨⟨_, rfl, Or.inl rfl, (by first | (exact ⟨0, qB, rk_2f i9 f22.2.1 (rp_to rb rfl (Int.le_antisymm (by omega) (by omega)) (Int.le_antisymm (by omega) (by omega)) rfl), (by first | rfl | omega), Int.le_antisymm (by omega) (by omega), Int.le_antisymm (by omega) (by omega), by omega, by omega, Or.inl rfl, by omega, by omega⟩) | (exact ⟨1, P1, rk_2e i9 e22.1, (by first | rfl | omega), Int.le_antisymm (by omega) (by omega), Int.le_antisymm (by omega) (by omega), by omega, by omega, Or.inr rfl, by omega, by omega⟩) | (exact ⟨1, _, rk_2e i6 (rk_na (by omega)), (by first | rfl | omega), Int.le_antisymm (by omega) (by omega), Int.le_antisymm (by omega) (by omega), by omega, by omega, Or.inr rfl, by omega, by omega⟩) | (exact ⟨0, qA, rk_1f (rp_to ra rfl (Int.le_antisymm (by omega) (by omega)) (Int.le_antisymm (by omega) (by omega)) rfl), (by first | rfl | omega), Int.le_antisymm (by omega) (by omega), Int.le_antisymm (by omega) (by omega), by omega, by omega, Or.inl rfl, by omega, by omega⟩))⟩, hf⟩
          · have tc11 : x8.toInt < 0 := tl_nle c11
            have e22 := tn22 (by omega)
            clear ty22 tn22
            refine li_iconst 1 dX6_readSum_32 (by decide) ?_
            have z1 : (1 : Int32).toInt = 1 := rfl
            exact li_iret dX6_readSum_33 rfl (li_nz (Or.inr rfl)) ⟨⟨_, rfl, Or.inr rfl, (by first | (exact ⟨0, qB, rk_2f i9 f22.2.1 (rp_to rb rfl (Int.le_antisymm (by omega) (by omega)) (Int.le_antisymm (by omega) (by omega)) rfl), (by first | rfl | omega), Int.le_antisymm (by omega) (by omega), Int.le_antisymm (by omega) (by omega), by omega, by omega, Or.inl rfl, by omega, by omega⟩) | (exact ⟨1, P1, rk_2e i9 e22.1, (by first | rfl | omega), Int.le_antisymm (by omega) (by omega), Int.le_antisymm (by omega) (by omega), by omega, by omega, Or.inr rfl, by omega, by omega⟩) | (exact ⟨1, _, rk_2e i6 (rk_na (by omega)), (by first | rfl | omega), Int.le_antisymm (by omega) (by omega), Int.le_antisymm (by omega) (by omega), by omega, by omega, Or.inr rfl, by omega, by omega⟩) | (exact ⟨0, qA, rk_1f (rp_to ra rfl (Int.le_antisymm (by omega) (by omega)) (Int.le_antisymm (by omega) (by omega)) rfl), (by first | rfl | omega), Int.le_antisymm (by omega) (by omega), Int.le_antisymm (by omega) (by omega), by omega, by omega, Or.inl rfl, by omega, by omega⟩))⟩, hf⟩
    have z0 : (0 : Int32).toInt = 0 := rfl
    exact L13 _ 0 M2 (Nat.lt_succ_self _) hf ⟨(by omega), (by omega), (Int.le_antisymm (by omega) (by omega)), (by omega), (by omega), (by omega), (by first | (exact rk_to (rk_2s i9 f22.2.1 (rp_to rb rfl (Int.le_antisymm (by omega) (by omega)) (Int.le_antisymm (by omega) (by omega)) rfl)) (Int.le_antisymm (by omega) (by omega))) | (exact rk_to (rk_2 (rp_to ra rfl (Int.le_antisymm (by omega) (by omega)) (Int.le_antisymm (by omega) (by omega)) rfl)) (Int.le_antisymm (by omega) (by omega))))⟩ (by first | exact li_sg_tr rfl  Psg_M2)
  · have tc4 : x1.toInt = 0 := tl_eq c4
    refine li_iconst 0 dX6_readSum_9 (by decide) ?_
    have z0 : (0 : Int32).toInt = 0 := rfl
    exact li_iret dX6_readSum_10 rfl (li_nz (Or.inl rfl)) ⟨⟨_, rfl, Or.inl rfl, (by first | (exact ⟨0, qB, rk_2f i9 f22.2.1 (rp_to rb rfl (Int.le_antisymm (by omega) (by omega)) (Int.le_antisymm (by omega) (by omega)) rfl), (by first | rfl | omega), Int.le_antisymm (by omega) (by omega), Int.le_antisymm (by omega) (by omega), by omega, by omega, Or.inl rfl, by omega, by omega⟩) | (exact ⟨1, P1, rk_2e i9 e22.1, (by first | rfl | omega), Int.le_antisymm (by omega) (by omega), Int.le_antisymm (by omega) (by omega), by omega, by omega, Or.inr rfl, by omega, by omega⟩) | (exact ⟨1, _, rk_2e i6 (rk_na (by omega)), (by first | rfl | omega), Int.le_antisymm (by omega) (by omega), Int.le_antisymm (by omega) (by omega), by omega, by omega, Or.inr rfl, by omega, by omega⟩) | (exact ⟨0, qA, rk_1f (rp_to ra rfl (Int.le_antisymm (by omega) (by omega)) (Int.le_antisymm (by omega) (by omega)) rfl), (by first | rfl | omega), Int.le_antisymm (by omega) (by omega), Int.le_antisymm (by omega) (by omega), by omega, by omega, Or.inl rfl, by omega, by omega⟩))⟩, hf⟩
set_option maxRecDepth 100000 in
set_option maxHeartbeats 4000000 in
theorem k14_X6_readExpression {l : Launch} {Z : li_Z} (d : Nat) (hd : 11 ≤ d) (p1 : Int32) (dE : Nat) (IH : p1.toInt < 4 → ∀ (q9 : Int32), q9.toInt = p1.toInt + 1 → ∀ (M0 : li_M) (g : Nat → Int32) (hg : M0.1 2 = g) (LN P0 : Int) (hLN : (M0.1 1 1).toInt = LN) (hP0 : (M0.1 1 2).toInt = P0) (h1 : 0 ≤ P0 ∧ P0 ≤ LN ∧ LN ≤ 80) (Psg_M0 : li_sg (M0.1 2)) (R0 : Int) (hR0 : (M0.1 151 3).toInt = R0) (hr : 0 ≤ R0 ∧ R0 ≤ P0), li_Met l Z YX6_readExpression dE [.ref (Z.2.2 151), .ref (Z.2.2 1), .int q9] M0 (fun r M' => (∃ x : Int32, r = some (.int x) ∧ (x = 0 ∨ x = 1) ∧ (∃ ok q : Int, rpr g LN 0 (q9.toInt) P0 ok q ∧ x.toInt = ok ∧ (M'.1 1 2).toInt = q ∧ (M'.1 1 1).toInt = LN ∧ P0 ≤ q ∧ q ≤ LN ∧ (ok = 0 ∨ ok = 1) ∧ 0 ≤ (M'.1 151 3).toInt ∧ (M'.1 151 3).toInt - R0 ≤ q - P0)) ∧ li_fr (fun i => i = 1 ∨ i = 151 ∨ i = 152) M0 M')) (hE : dE + 5 ≤ d) (M0 : li_M) (g : Nat → Int32) (hg : M0.1 2 = g) (LN P0 : Int) (hLN : (M0.1 1 1).toInt = LN) (hP0 : (M0.1 1 2).toInt = P0) (h1 : 0 ≤ P0 ∧ P0 ≤ LN ∧ LN ≤ 80) (Psg_M0 : li_sg (M0.1 2)) (R0 : Int) (hR0 : (M0.1 151 3).toInt = R0) (hr : 0 ≤ R0 ∧ R0 ≤ P0) (h4 : p1.toInt ≤ 4) : li_Met l Z YX6_readExpression d [.ref (Z.2.2 151), .ref (Z.2.2 1), .int p1] M0 (fun r M' => (∃ x : Int32, r = some (.int x) ∧ (x = 0 ∨ x = 1) ∧ (∃ ok q : Int, rpr g LN 0 (p1.toInt) P0 ok q ∧ x.toInt = ok ∧ (M'.1 1 2).toInt = q ∧ (M'.1 1 1).toInt = LN ∧ P0 ≤ q ∧ q ≤ LN ∧ (ok = 0 ∨ ok = 1) ∧ 0 ≤ (M'.1 151 3).toInt ∧ (M'.1 151 3).toInt - R0 ≤ q - P0)) ∧ li_fr (fun i => i = 1 ∨ i = 151 ∨ i = 152) M0 M') := by
  refine li_enter (by decide +kernel) (Nat.le_of_ble_eq_true rfl) ?_
  show li_T l Z YX6_readExpression d 0 [(0, .ref (Z.2.2 151)), (1, .ref (Z.2.2 1)), (2, .int p1)] [] M0 _
  have hf : li_fr (fun i => i = 1 ∨ i = 151 ∨ i = 152) M0 M0 := li_fr_refl
  have gp1 := tl_rg p1
  refine li_iload_n 2 dX6_readExpression_0 rfl ?_
  refine li_iconst 4 dX6_readExpression_1 (by decide) ?_
  refine li_icmp_gt 14 dX6_readExpression_2 (by decide) (fun c1 => ?_) (fun c1 => ?_)
  · have tc1 : 4 < p1.toInt := tl_lt c1
    refine li_iconst 0 dX6_readExpression_14 (by decide) ?_
    have z0 : (0 : Int32).toInt = 0 := rfl
    exact li_iret dX6_readExpression_15 rfl (li_nz (Or.inl rfl)) ⟨⟨_, rfl, Or.inl rfl, (by first | (exact ⟨0, qB, rp_in0 (Or.inr (Or.inr ⟨qA, rp_to ra rfl (Int.le_antisymm (by omega) (by omega)) (Int.le_antisymm (by omega) (by omega)) rfl, f19.2.1, rp_to rb rfl (Int.le_antisymm (by omega) (by omega)) (Int.le_antisymm (by omega) (by omega)) rfl⟩)), (by first | rfl | omega), Int.le_antisymm (by omega) (by omega), Int.le_antisymm (by omega) (by omega), by omega, by omega, Or.inl rfl, by omega, by omega⟩) | (exact ⟨1, qB, rp_in0 (Or.inr (Or.inr ⟨qA, rp_to ra rfl (Int.le_antisymm (by omega) (by omega)) (Int.le_antisymm (by omega) (by omega)) rfl, f19.2.1, rp_to rb rfl (Int.le_antisymm (by omega) (by omega)) (Int.le_antisymm (by omega) (by omega)) rfl⟩)), (by first | rfl | omega), Int.le_antisymm (by omega) (by omega), Int.le_antisymm (by omega) (by omega), by omega, by omega, Or.inr rfl, by omega, by omega⟩) | (exact ⟨1, qA, rp_in0 (Or.inr (Or.inl ⟨rp_to ra rfl (Int.le_antisymm (by omega) (by omega)) (Int.le_antisymm (by omega) (by omega)) rfl, e19.1, rfl⟩)), (by first | rfl | omega), Int.le_antisymm (by omega) (by omega), Int.le_antisymm (by omega) (by omega), by omega, by omega, Or.inr rfl, by omega, by omega⟩) | (exact ⟨0, qA, rp_in0 (Or.inl ⟨rp_to ra rfl (Int.le_antisymm (by omega) (by omega)) (Int.le_antisymm (by omega) (by omega)) rfl, rfl⟩), (by first | rfl | omega), Int.le_antisymm (by omega) (by omega), Int.le_antisymm (by omega) (by omega), by omega, by omega, Or.inl rfl, by omega, by omega⟩) | (exact absurd h4 (by omega)))⟩, hf⟩
  · have tc1 : p1.toInt ≤ 4 := tl_nlt c1
    refine li_aload_n 0 dX6_readExpression_5 rfl ?_
    refine li_aload_n 1 dX6_readExpression_6 rfl ?_
    refine li_iload_n 2 dX6_readExpression_7 rfl ?_
    refine li_callV (n := 2) (As := [.ref (Z.2.2 1), .int p1]) dX6_readExpression_8 (k14_X6_readSum (d - 1) (by omega) p1 dE IH (by omega) M0 g ((hf.1 2 (by first | exact id | decide | omega)).trans hg) LN _ (Int.le_antisymm (by omega) (by omega)) rfl ⟨by omega, by omega, by omega⟩ Psg_M0 _ rfl ⟨by omega, by omega⟩ (by omega)) (by omega) (Nat.le_of_ble_eq_true rfl) w_552 w_554 w_2 w_107 w_555 (by decide +kernel) rfl (by decide) sh_151 rfl rfl (Nat.le_of_ble_eq_true rfl) (fun r M3 h4 => ?_)
    obtain ⟨⟨x2, rfl, bx2, qx2⟩, h4⟩ := h4
    have ux2 := tl_b bx2
    have hf := li_fr_trans hf h4 (fun i (h : i = 1 ∨ i = 151 ∨ i = 152) => (show i = 1 ∨ i = 151 ∨ i = 152 by omega))
    have Psg_M3 : li_sg (M3.1 2)  := li_sg_tr (h4.1 2 (fun h => by first | exact (h : False).elim | omega))  Psg_M0
    obtain ⟨okA, qA, ra, ea1, ea2, ea3, ea4, ea5, ea6, ea7, ea8⟩ := qx2
    refine li_if_ne 16 dX6_readExpression_11 (by decide) (fun c5 => ?_) (fun c5 => ?_)
    · have tc5 : ¬ x2.toInt = 0 := tl_ne c5
      refine li_aload_n 1 dX6_readExpression_16 rfl ?_
      refine li_ldcS 0 dX6_readExpression_17 (by decide) ⟨rfl, rfl⟩ ?_
      refine li_callV (n := 1) (As := [.ref (Z.2.2 (2100 + 0))]) dX6_readExpression_19 (k14_X7_takeAnyOf (d - 1) (by omega) (by decide) M3 g ((hf.1 2 (by first | exact id | decide | omega)).trans hg) LN (qA) (Int.le_antisymm (by omega) (by omega)) (Int.le_antisymm (by omega) (by omega)) ⟨by omega, by omega, by omega⟩ Psg_M3) (by omega) (Nat.le_of_ble_eq_true rfl) w_576 w_577 w_578 w_102 w_579 (by decide +kernel) rfl (by decide) sh_1 rfl rfl (Nat.le_of_ble_eq_true rfl) (fun r M7 h8 => ?_)
      obtain ⟨⟨x6, rfl, qx6⟩, h8⟩ := h8
      have gx6 := tl_rg x6
      have hf := li_fr_trans hf h8 (fun i (h : i = 1) => (show i = 1 ∨ i = 151 ∨ i = 152 by omega))
      have mM7_151_3 : (M7.1 151 3).toInt = (M3.1 151 3).toInt := by rw [h8.1 151 (show ¬ (151 = 1) by first | (simp; done) | omega)]
      have Psg_M7 : li_sg (M7.1 2)  := li_sg_tr (h8.1 2 (fun h => by first | exact (h : False).elim | omega))  Psg_M3
      have ln19 : (M7.1 1 1).toInt = LN := qx6.2
      have ty19 : li_hd (0 ≤ x6.toInt → x6.toInt < (li_len.getD 0 0 : Nat) ∧ tk_C 0 (rd_ch g LN (qA)) ∧ (M7.1 1 2).toInt = qA + 1 ∧ qA < LN) := li_hdI fun h9 => by rcases qx6.1 with c | c; exact ⟨c.2.1, tk_yes (by decide) c.1 c.2.1 c.2.2.1, c.2.2.2.1, c.2.2.2.2⟩; exact absurd h9 (by omega)
      have tn19 : li_hd (x6.toInt < 0 → ¬ tk_C 0 (rd_ch g LN (qA)) ∧ (M7.1 1 2).toInt = qA) := li_hdI fun h9 => by rcases qx6.1 with c | c; exact absurd h9 (by omega); exact ⟨tk_no (by decide) c.2.1 rfl, c.2.2⟩
      have rx19 : -1 ≤ x6.toInt := by rcases qx6.1 with c | c <;> omega
      clear qx6
      refine li_istore_n [(3, .int x6), (0, .ref (Z.2.2 151)), (1, .ref (Z.2.2 1)), (2, .int p1)] dX6_readExpression_22 (by decide) rfl ?_
      refine li_iload_n 0 dX6_readExpression_23 rfl ?_
      refine li_if_lt 46 dX6_readExpression_24 (by decide) (fun c9 => ?_) (fun c9 => ?_)
      · have tc9 : x6.toInt < 0 := tl_lt c9
        first | (have e19 := tn19 (by omega); clear ty19 tn19) | skip
        refine li_iconst 1 dX6_readExpression_46 (by decide) ?_
        refine li_goto 51 dX6_readExpression_47 (by decide) ?_
        have z1 : (1 : Int32).toInt = 1 := rfl
        exact li_iret dX6_readExpression_51 rfl (li_nz (Or.inr rfl)) ⟨⟨_, rfl, Or.inr rfl, (by first | (exact ⟨0, qB, rp_in0 (Or.inr (Or.inr ⟨qA, rp_to ra rfl (Int.le_antisymm (by omega) (by omega)) (Int.le_antisymm (by omega) (by omega)) rfl, f19.2.1, rp_to rb rfl (Int.le_antisymm (by omega) (by omega)) (Int.le_antisymm (by omega) (by omega)) rfl⟩)), (by first | rfl | omega), Int.le_antisymm (by omega) (by omega), Int.le_antisymm (by omega) (by omega), by omega, by omega, Or.inl rfl, by omega, by omega⟩) | (exact ⟨1, qB, rp_in0 (Or.inr (Or.inr ⟨qA, rp_to ra rfl (Int.le_antisymm (by omega) (by omega)) (Int.le_antisymm (by omega) (by omega)) rfl, f19.2.1, rp_to rb rfl (Int.le_antisymm (by omega) (by omega)) (Int.le_antisymm (by omega) (by omega)) rfl⟩)), (by first | rfl | omega), Int.le_antisymm (by omega) (by omega), Int.le_antisymm (by omega) (by omega), by omega, by omega, Or.inr rfl, by omega, by omega⟩) | (exact ⟨1, qA, rp_in0 (Or.inr (Or.inl ⟨rp_to ra rfl (Int.le_antisymm (by omega) (by omega)) (Int.le_antisymm (by omega) (by omega)) rfl, e19.1, rfl⟩)), (by first | rfl | omega), Int.le_antisymm (by omega) (by omega), Int.le_antisymm (by omega) (by omega), by omega, by omega, Or.inr rfl, by omega, by omega⟩) | (exact ⟨0, qA, rp_in0 (Or.inl ⟨rp_to ra rfl (Int.le_antisymm (by omega) (by omega)) (Int.le_antisymm (by omega) (by omega)) rfl, rfl⟩), (by first | rfl | omega), Int.le_antisymm (by omega) (by omega), Int.le_antisymm (by omega) (by omega), by omega, by omega, Or.inl rfl, by omega, by omega⟩) | (exact absurd h4 (by omega)))⟩, hf⟩
      · have tc9 : 0 ≤ x6.toInt := tl_nlt c9
        have f19 := ty19 (by omega)
        clear ty19 tn19
        refine li_aload_n 1 dX6_readExpression_27 rfl ?_
        refine li_aload_n 2 dX6_readExpression_28 rfl ?_
        refine li_iload_n 3 dX6_readExpression_29 rfl ?_
        refine li_callV (n := 2) (As := [.ref (Z.2.2 1), .int p1]) dX6_readExpression_30 (k14_X6_readSum (d - 1) (by omega) p1 dE IH (by omega) M7 g ((hf.1 2 (by first | exact id | decide | omega)).trans hg) LN _ (Int.le_antisymm (by omega) (by omega)) rfl ⟨by omega, by omega, by omega⟩ Psg_M7 _ rfl ⟨by omega, by omega⟩ (by omega)) (by omega) (Nat.le_of_ble_eq_true rfl) w_552 w_554 w_2 w_107 w_555 (by decide +kernel) rfl (by decide) sh_151 rfl rfl (Nat.le_of_ble_eq_true rfl) (fun r M11 h12 => ?_)
        obtain ⟨⟨x10, rfl, bx10, qx10⟩, h12⟩ := h12
        have ux10 := tl_b bx10
        have hf := li_fr_trans hf h12 (fun i (h : i = 1 ∨ i = 151 ∨ i = 152) => (show i = 1 ∨ i = 151 ∨ i = 152 by omega))
        have Psg_M11 : li_sg (M11.1 2)  := li_sg_tr (h12.1 2 (fun h => by first | exact (h : False).elim | omega))  Psg_M7
        obtain ⟨okB, qB, rb, eb1, eb2, eb3, eb4, eb5, eb6, eb7, eb8⟩ := qx10
        refine li_if_eq 50 dX6_readExpression_33 (by decide) (fun c13 => ?_) (fun c13 => ?_)
        · have tc13 : x10.toInt = 0 := tl_eq c13
          refine li_iconst 0 dX6_readExpression_50 (by decide) ?_
          have z0 : (0 : Int32).toInt = 0 := rfl
          exact li_iret dX6_readExpression_51 rfl (li_nz (Or.inl rfl)) ⟨⟨_, rfl, Or.inl rfl, (by first | (exact ⟨0, qB, rp_in0 (Or.inr (Or.inr ⟨qA, rp_to ra rfl (Int.le_antisymm (by omega) (by omega)) (Int.le_antisymm (by omega) (by omega)) rfl, f19.2.1, rp_to rb rfl (Int.le_antisymm (by omega) (by omega)) (Int.le_antisymm (by omega) (by omega)) rfl⟩)), (by first | rfl | omega), Int.le_antisymm (by omega) (by omega), Int.le_antisymm (by omega) (by omega), by omega, by omega, Or.inl rfl, by omega, by omega⟩) | (exact ⟨1, qB, rp_in0 (Or.inr (Or.inr ⟨qA, rp_to ra rfl (Int.le_antisymm (by omega) (by omega)) (Int.le_antisymm (by omega) (by omega)) rfl, f19.2.1, rp_to rb rfl (Int.le_antisymm (by omega) (by omega)) (Int.le_antisymm (by omega) (by omega)) rfl⟩)), (by first | rfl | omega), Int.le_antisymm (by omega) (by omega), Int.le_antisymm (by omega) (by omega), by omega, by omega, Or.inr rfl, by omega, by omega⟩) | (exact ⟨1, qA, rp_in0 (Or.inr (Or.inl ⟨rp_to ra rfl (Int.le_antisymm (by omega) (by omega)) (Int.le_antisymm (by omega) (by omega)) rfl, e19.1, rfl⟩)), (by first | rfl | omega), Int.le_antisymm (by omega) (by omega), Int.le_antisymm (by omega) (by omega), by omega, by omega, Or.inr rfl, by omega, by omega⟩) | (exact ⟨0, qA, rp_in0 (Or.inl ⟨rp_to ra rfl (Int.le_antisymm (by omega) (by omega)) (Int.le_antisymm (by omega) (by omega)) rfl, rfl⟩), (by first | rfl | omega), Int.le_antisymm (by omega) (by omega), Int.le_antisymm (by omega) (by omega), by omega, by omega, Or.inl rfl, by omega, by omega⟩) | (exact absurd h4 (by omega)))⟩, hf⟩
        · have tc13 : ¬ x10.toInt = 0 := tl_ne c13
          refine li_aload_n 1 dX6_readExpression_36 rfl ?_
          refine li_ldcS 0 dX6_readExpression_37 (by decide) ⟨rfl, rfl⟩ ?_
          refine li_iload_n 0 dX6_readExpression_39 rfl ?_
          refine li_callV (n := 2) (As := [.ref (Z.2.2 (2100 + 0)), .int x6]) dX6_readExpression_40 (k14_X6_addSign (d - 1) (by omega) (by decide) x6 M11 ⟨by omega, by omega⟩ ⟨by omega, by omega⟩) (by omega) (Nat.le_of_ble_eq_true rfl) w_645 w_647 w_7 w_107 w_648 (by decide +kernel) rfl (by decide) sh_151 rfl rfl (Nat.le_of_ble_eq_true rfl) (fun r M15 h16 => ?_)
          obtain ⟨⟨x14, rfl, bx14, qx14⟩, h16⟩ := h16
          have ux14 := tl_b bx14
          have hf := li_fr_trans hf h16 (fun i (h : i = 151 ∨ i = 152) => (show i = 1 ∨ i = 151 ∨ i = 152 by omega))
          have mM15_1_1 : (M15.1 1 1).toInt = (M11.1 1 1).toInt := by rw [h16.1 1 (show ¬ (1 = 151 ∨ 1 = 152) by first | (simp; done) | omega)]
          have mM15_1_2 : (M15.1 1 2).toInt = (M11.1 1 2).toInt := by rw [h16.1 1 (show ¬ (1 = 151 ∨ 1 = 152) by first | (simp; done) | omega)]
          have Psg_M15 : li_sg (M15.1 2)  := li_sg_tr (h16.1 2 (fun h => by first | exact (h : False).elim | omega))  Psg_M11
          refine li_if_eq 50 dX6_readExpression_43 (by decide) (fun c17 => ?_) (fun c17 => ?_)
          · have tc17 : x14.toInt = 0 := tl_eq c17
            refine li_iconst 0 dX6_readExpression_50 (by decide) ?_
            have z0 : (0 : Int32).toInt = 0 := rfl
            exact li_iret dX6_readExpression_51 rfl (li_nz (Or.inl rfl)) ⟨⟨_, rfl, Or.inl rfl, (by first | (exact ⟨0, qB, rp_in0 (Or.inr (Or.inr ⟨qA, rp_to ra rfl (Int.le_antisymm (by omega) (by omega)) (Int.le_antisymm (by omega) (by omega)) rfl, f19.2.1, rp_to rb rfl (Int.le_antisymm (by omega) (by omega)) (Int.le_antisymm (by omega) (by omega)) rfl⟩)), (by first | rfl | omega), Int.le_antisymm (by omega) (by omega), Int.le_antisymm (by omega) (by omega), by omega, by omega, Or.inl rfl, by omega, by omega⟩) | (exact ⟨1, qB, rp_in0 (Or.inr (Or.inr ⟨qA, rp_to ra rfl (Int.le_antisymm (by omega) (by omega)) (Int.le_antisymm (by omega) (by omega)) rfl, f19.2.1, rp_to rb rfl (Int.le_antisymm (by omega) (by omega)) (Int.le_antisymm (by omega) (by omega)) rfl⟩)), (by first | rfl | omega), Int.le_antisymm (by omega) (by omega), Int.le_antisymm (by omega) (by omega), by omega, by omega, Or.inr rfl, by omega, by omega⟩) | (exact ⟨1, qA, rp_in0 (Or.inr (Or.inl ⟨rp_to ra rfl (Int.le_antisymm (by omega) (by omega)) (Int.le_antisymm (by omega) (by omega)) rfl, e19.1, rfl⟩)), (by first | rfl | omega), Int.le_antisymm (by omega) (by omega), Int.le_antisymm (by omega) (by omega), by omega, by omega, Or.inr rfl, by omega, by omega⟩) | (exact ⟨0, qA, rp_in0 (Or.inl ⟨rp_to ra rfl (Int.le_antisymm (by omega) (by omega)) (Int.le_antisymm (by omega) (by omega)) rfl, rfl⟩), (by first | rfl | omega), Int.le_antisymm (by omega) (by omega), Int.le_antisymm (by omega) (by omega), by omega, by omega, Or.inl rfl, by omega, by omega⟩) | (exact absurd h4 (by omega)))⟩, hf⟩
          · have tc17 : ¬ x14.toInt = 0 := tl_ne c17
            first | (have e19 := tn19 (by omega); clear ty19 tn19) | skip
            refine li_iconst 1 dX6_readExpression_46 (by decide) ?_
            refine li_goto 51 dX6_readExpression_47 (by decide) ?_
            have z1 : (1 : Int32).toInt = 1 := rfl
            exact li_iret dX6_readExpression_51 rfl (li_nz (Or.inr rfl)) ⟨⟨_, rfl, Or.inr rfl, (by first | (exact ⟨0, qB, rp_in0 (Or.inr (Or.inr ⟨qA, rp_to ra rfl (Int.le_antisymm (by omega) (by omega)) (Int.le_antisymm (by omega) (by omega)) rfl, f19.2.1, rp_to rb rfl (Int.le_antisymm (by omega) (by omega)) (Int.le_antisymm (by omega) (by omega)) rfl⟩)), (by first | rfl | omega), Int.le_antisymm (by omega) (by omega), Int.le_antisymm (by omega) (by omega), by omega, by omega, Or.inl rfl, by omega, by omega⟩) | (exact ⟨1, qB, rp_in0 (Or.inr (Or.inr ⟨qA, rp_to ra rfl (Int.le_antisymm (by omega) (by omega)) (Int.le_antisymm (by omega) (by omega)) rfl, f19.2.1, rp_to rb rfl (Int.le_antisymm (by omega) (by omega)) (Int.le_antisymm (by omega) (by omega)) rfl⟩)), (by first | rfl | omega), Int.le_antisymm (by omega) (by omega), Int.le_antisymm (by omega) (by omega), by omega, by omega, Or.inr rfl, by omega, by omega⟩) | (exact ⟨1, qA, rp_in0 (Or.inr (Or.inl ⟨rp_to ra rfl (Int.le_antisymm (by omega) (by omega)) (Int.le_antisymm (by omega) (by omega)) rfl, e19.1, rfl⟩)), (by first | rfl | omega), Int.le_antisymm (by omega) (by omega), Int.le_antisymm (by omega) (by omega), by omega, by omega, Or.inr rfl, by omega, by omega⟩) | (exact ⟨0, qA, rp_in0 (Or.inl ⟨rp_to ra rfl (Int.le_antisymm (by omega) (by omega)) (Int.le_antisymm (by omega) (by omega)) rfl, rfl⟩), (by first | rfl | omega), Int.le_antisymm (by omega) (by omega), Int.le_antisymm (by omega) (by omega), by omega, by omega, Or.inl rfl, by omega, by omega⟩) | (exact absurd h4 (by omega)))⟩, hf⟩
    · have tc5 : x2.toInt = 0 := tl_eq c5
      refine li_iconst 0 dX6_readExpression_14 (by decide) ?_
      have z0 : (0 : Int32).toInt = 0 := rfl
      exact li_iret dX6_readExpression_15 rfl (li_nz (Or.inl rfl)) ⟨⟨_, rfl, Or.inl rfl, (by first | (exact ⟨0, qB, rp_in0 (Or.inr (Or.inr ⟨qA, rp_to ra rfl (Int.le_antisymm (by omega) (by omega)) (Int.le_antisymm (by omega) (by omega)) rfl, f19.2.1, rp_to rb rfl (Int.le_antisymm (by omega) (by omega)) (Int.le_antisymm (by omega) (by omega)) rfl⟩)), (by first | rfl | omega), Int.le_antisymm (by omega) (by omega), Int.le_antisymm (by omega) (by omega), by omega, by omega, Or.inl rfl, by omega, by omega⟩) | (exact ⟨1, qB, rp_in0 (Or.inr (Or.inr ⟨qA, rp_to ra rfl (Int.le_antisymm (by omega) (by omega)) (Int.le_antisymm (by omega) (by omega)) rfl, f19.2.1, rp_to rb rfl (Int.le_antisymm (by omega) (by omega)) (Int.le_antisymm (by omega) (by omega)) rfl⟩)), (by first | rfl | omega), Int.le_antisymm (by omega) (by omega), Int.le_antisymm (by omega) (by omega), by omega, by omega, Or.inr rfl, by omega, by omega⟩) | (exact ⟨1, qA, rp_in0 (Or.inr (Or.inl ⟨rp_to ra rfl (Int.le_antisymm (by omega) (by omega)) (Int.le_antisymm (by omega) (by omega)) rfl, e19.1, rfl⟩)), (by first | rfl | omega), Int.le_antisymm (by omega) (by omega), Int.le_antisymm (by omega) (by omega), by omega, by omega, Or.inr rfl, by omega, by omega⟩) | (exact ⟨0, qA, rp_in0 (Or.inl ⟨rp_to ra rfl (Int.le_antisymm (by omega) (by omega)) (Int.le_antisymm (by omega) (by omega)) rfl, rfl⟩), (by first | rfl | omega), Int.le_antisymm (by omega) (by omega), Int.le_antisymm (by omega) (by omega), by omega, by omega, Or.inl rfl, by omega, by omega⟩) | (exact absurd h4 (by omega)))⟩, hf⟩
theorem kk14_X6_readExpression {l : Launch} {Z : li_Z} : ∀ (n d : Nat) (p1 : Int32) (M0 : li_M) (g : Nat → Int32) (hg : M0.1 2 = g) (LN P0 : Int) (hLN : (M0.1 1 1).toInt = LN) (hP0 : (M0.1 1 2).toInt = P0) (h1 : 0 ≤ P0 ∧ P0 ≤ LN ∧ LN ≤ 80) (Psg_M0 : li_sg (M0.1 2)) (R0 : Int) (hR0 : (M0.1 151 3).toInt = R0) (hr : 0 ≤ R0 ∧ R0 ≤ P0) (h4 : p1.toInt ≤ 4), (4 - p1.toInt).toNat ≤ n → 5 * n + 20 ≤ d → li_Met l Z YX6_readExpression d [.ref (Z.2.2 151), .ref (Z.2.2 1), .int p1] M0 (fun r M' => (∃ x : Int32, r = some (.int x) ∧ (x = 0 ∨ x = 1) ∧ (∃ ok q : Int, rpr g LN 0 (p1.toInt) P0 ok q ∧ x.toInt = ok ∧ (M'.1 1 2).toInt = q ∧ (M'.1 1 1).toInt = LN ∧ P0 ≤ q ∧ q ≤ LN ∧ (ok = 0 ∨ ok = 1) ∧ 0 ≤ (M'.1 151 3).toInt ∧ (M'.1 151 3).toInt - R0 ≤ q - P0)) ∧ li_fr (fun i => i = 1 ∨ i = 151 ∨ i = 152) M0 M') := by
  intro n
  induction n with
  | zero =>
    intro d p1 M0 g hg LN P0 hLN hP0 h1 Psg_M0 R0 hR0 hr h4 h8 h9
    exact k14_X6_readExpression d (by omega) p1 0 (fun h => absurd h (by omega)) (by omega) M0 g hg LN P0 hLN hP0 h1 Psg_M0 R0 hR0 hr h4
  | succ n ih =>
    intro d p1 M0 g hg LN P0 hLN hP0 h1 Psg_M0 R0 hR0 hr h4 h8 h9
    exact k14_X6_readExpression d (by omega) p1 (5 * n + 20) (fun h q hq M g hg LN P0 hLN hP0 h1 Psg_M0 R0 hR0 hr => ih (5 * n + 20) q M g hg LN P0 hLN hP0 h1 Psg_M0 R0 hR0 hr (by omega) (by omega) (by omega)) (by omega) M0 g hg LN P0 hLN hP0 h1 Psg_M0 R0 hR0 hr h4
