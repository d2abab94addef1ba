set_option maxRecDepth 100000 in
set_option maxHeartbeats 4000000 in
theorem k14_X10_tryFirst {l : Launch} {Z : li_Z} (d : Nat) (hdZq : 3 ≤ d) (p1Zq : Int32) (p2Zq : Int32) (M0 : li_M) (h1 : 0 ≤ p1Zq.toInt ∧ p1Zq.toInt ≤ 14) (h2 : 0 ≤ p2Zq.toInt ∧ p2Zq.toInt ≤ 14) (g8 : Nat → Int32) (hg8 : M0.1 168 = g8) (hcap : 0 ≤ (g8 p2Zq.toInt.toNat).toInt ∧ (g8 p2Zq.toInt.toNat).toInt ≤ 15) : li_Met l Z YX10_tryFirst d [.ref (Z.2.2 163), .int p1Zq, .int p2Zq] M0 (fun r M' => r = none ∧ li_fr (fun i => i = 168 ∨ i = 169 ∨ i = 170) M0 M' ∧ fq_st (M'.1 168) (g8) p1Zq.toInt p2Zq.toInt) := by
  refine li_enter (by decide +kernel) (Nat.le_of_ble_eq_true rfl) ?_
  show li_T l Z YX10_tryFirst d 0 [(0, .ref (Z.2.2 163)), (1, .int p1Zq), (2, .int p2Zq)] [] M0 _
  have hf : li_fr (fun i => i = 168 ∨ i = 169 ∨ i = 170) M0 M0 := li_fr_refl
  have gp1 := tl_rg p1Zq
  have gp2 := tl_rg p2Zq
  have Pce_M0 : li_ce (M0.1 168) (g8) := hg8
  refine li_iconst 1 dX10_tryFirst_0 (by decide) ?_
  refine li_aload_n 0 dX10_tryFirst_1 rfl ?_
  refine li_getr (k := 4) (N := 8) (T := TX10) (C0 := RX10) dX10_tryFirst_2 (by decide) sh_163 rfl rfl (by decide) (by decide) li_in10 w_339 ?_
  refine li_iload_n 2 dX10_tryFirst_5 rfl ?_
  refine li_callN (n := 2) (As := [.ref (Z.2.2 168), .int p2Zq]) dX10_tryFirst_6 (a_X11_at (d - 1) (by omega) (by decide) sh_168 (by decide) p2Zq M0) (by omega) (Nat.le_of_ble_eq_true rfl) nw_30 w_569 w_101 w_570 (by decide +kernel) rfl rfl (Nat.le_of_ble_eq_true rfl) (fun r M2Zq h3 => ?_)
  obtain ⟨⟨x1Zq, rfl, qx1⟩, h3⟩ := h3
  have gx1 := tl_rg x1Zq
  have hf := li_fr_trans hf h3 (fun i hZq => False.elim hZq)
  have Pce_M2 : li_ce (M2Zq.1 168) (g8) := li_ce_tr (h3.1 168 (fun hZq => by first | exact (hZq : False).elim | omega)) rfl Pce_M0
  have f6Zq : x1Zq = g8 p2Zq.toInt.toNat := (at_is qx1 (by omega) (by omega) (by decide)).trans ((nat_at rfl (by omega)).trans (congrFun (show M0.1 168 = g8 from Pce_M0) _))
  have r6 : 0 ≤ x1Zq.toInt ∧ x1Zq.toInt ≤ 15 := by rw [f6Zq]; exact hcap
  refine li_iadd dX10_tryFirst_9 ?_
  refine li_top (fun x4Zq ex4 => ?_)
  have tx4 : (-2147483648 ≤ 1 + x1Zq.toInt ∧ 1 + x1Zq.toInt ≤ 2147483647) → x4Zq.toInt = 1 + x1Zq.toInt := tl_add ex4
  have v10 : x4Zq.toInt = 1 + (g8 p2Zq.toInt.toNat).toInt := by rw [← f6Zq]; exact Int.le_antisymm (by omega) (by omega)
  refine li_istore_n [(3, .int x4Zq), (0, .ref (Z.2.2 163)), (1, .int p1Zq), (2, .int p2Zq)] dX10_tryFirst_10 (by decide) rfl ?_
  refine li_iload_n 0 dX10_tryFirst_11 rfl ?_
  refine li_aload_n 1 dX10_tryFirst_12 rfl ?_
  refine li_getr (k := 4) (N := 8) (T := TX10) (C0 := RX10) dX10_tryFirst_13 (by decide) sh_163 rfl rfl (by decide) (by decide) li_in10 w_339 ?_
  refine li_iload_n 2 dX10_tryFirst_16 rfl ?_
  refine li_callN (n := 2) (As := [.ref (Z.2.2 168), .int p1Zq]) dX10_tryFirst_17 (a_X11_at (d - 1) (by omega) (by decide) sh_168 (by decide) p1Zq M2Zq) (by omega) (Nat.le_of_ble_eq_true rfl) nw_30 w_569 w_101 w_570 (by decide +kernel) rfl rfl (Nat.le_of_ble_eq_true rfl) (fun r M6Zq h7 => ?_)
  obtain ⟨⟨x5Zq, rfl, qx5⟩, h7⟩ := h7
  have gx5 := tl_rg x5Zq
  have hf := li_fr_trans hf h7 (fun i hZq => False.elim hZq)
  have Pce_M6 : li_ce (M6Zq.1 168) (g8) := li_ce_tr (h7.1 168 (fun hZq => by first | exact (hZq : False).elim | omega)) rfl Pce_M2
  have f17Zq : x5Zq = g8 p1Zq.toInt.toNat := (at_is qx5 (by omega) (by omega) (by decide)).trans ((nat_at rfl (by omega)).trans (congrFun (show M2Zq.1 168 = g8 from Pce_M2) _))
  refine li_icmp_le 24 dX10_tryFirst_20 (by decide) (fun c8Zq => ?_) (fun c8Zq => ?_)
  · have tc8 : x4Zq.toInt ≤ x5Zq.toInt := tl_le c8Zq
    refine li_aload_n 1 dX10_tryFirst_24 rfl ?_
    refine li_getr (k := 6) (N := 8) (T := TX10) (C0 := RX10) dX10_tryFirst_25 (by decide) sh_163 rfl rfl (by decide) (by decide) li_in10 w_342 ?_
    refine li_iconst 0 dX10_tryFirst_28 (by decide) ?_
    refine li_aload_n 1 dX10_tryFirst_29 rfl ?_
    refine li_iload_n 2 dX10_tryFirst_30 rfl ?_
    refine li_iload_n 3 dX10_tryFirst_31 rfl ?_
    refine li_callV (n := 2) (As := [.int p1Zq, .int p2Zq]) dX10_tryFirst_32 (k13_X10_mask (d - 1) (by omega) p1Zq p2Zq M6Zq ⟨by omega, by omega⟩ ⟨by omega, by omega⟩) (by omega) (Nat.le_of_ble_eq_true rfl) w_1134 w_1135 w_1136 w_108 w_1137 (by decide +kernel) rfl (by decide) sh_163 rfl rfl (Nat.le_of_ble_eq_true rfl) (fun r M10 h11 => ?_)
    obtain ⟨⟨x9, rfl, qx9⟩, h11⟩ := h11
    have gx9 := tl_rg x9
    have hf := li_fr_trans hf h11 (fun i hZq => False.elim hZq)
    have Pce_M10 : li_ce (M10.1 168) (g8) := li_ce_tr (h11.1 168 (fun hZq => by first | exact (hZq : False).elim | omega)) rfl Pce_M6
    refine li_callS (n := 1) (As := [.int x9]) dX10_tryFirst_35 (k_J6_numberOfTrailingZeros_0f7a4 (d - 1) (by omega) x9 M10) (by omega) (Nat.le_of_ble_eq_true rfl) w_1147 w_1148 w_123 w_1149 (by decide +kernel) rfl rfl (Nat.le_of_ble_eq_true rfl) (fun r M13 h14 => ?_)
    obtain ⟨⟨x12, rfl⟩, h14⟩ := h14
    have gx12 := tl_rg x12
    have hf := li_fr_trans hf h14 (fun i hZq => False.elim hZq)
    have Pce_M13 : li_ce (M13.1 168) (g8) := li_ce_tr (h14.1 168 (fun hZq => by first | exact (hZq : False).elim | omega)) rfl Pce_M10
    refine li_callN (n := 3) (As := [.ref (Z.2.2 170), .int 0, .int x12]) dX10_tryFirst_38 (a_X11_put (d - 1) (by omega) (by decide) sh_170 (by decide) 0 x12 M13) (by omega) (Nat.le_of_ble_eq_true rfl) nw_11 w_522 w_101 w_523 (by decide +kernel) rfl rfl (Nat.le_of_ble_eq_true rfl) (fun r M16 h17 => ?_)
    have z0 : (0 : Int32).toInt = 0 := rfl
    obtain ⟨rfl, h17, nM16⟩ := h17
    have hf := li_fr_trans hf h17 (fun i (hZq : i = 170) => (show i = 168 ∨ i = 169 ∨ i = 170 by omega))
    have Pce_M16 : li_ce (M16.1 168) (g8) := li_ce_tr (h17.1 168 (fun hZq => by first | exact (hZq : False).elim | omega)) rfl Pce_M13
    refine li_iconst 1 dX10_tryFirst_41 (by decide) ?_
    refine li_istore [(4, .int 1), (3, .int x4Zq), (0, .ref (Z.2.2 163)), (1, .int p1Zq), (2, .int p2Zq)] dX10_tryFirst_42 (by decide) rfl ?_
    have L44 : ∀ (n : Nat) (x18 : Int32) (M19 : li_M), (2147483647 - (x18 : Int32).toInt).toNat < n → li_fr (fun i => i = 168 ∨ i = 169 ∨ i = 170) M0 M19 → li_ce (M19.1 168) (g8) → li_T l Z YX10_tryFirst d 44 [(4, .int x18), (3, .int x4Zq), (0, .ref (Z.2.2 163)), (1, .int p1Zq), (2, .int p2Zq)] [] M19 (fun r M' => r = none ∧ li_fr (fun i => i = 168 ∨ i = 169 ∨ i = 170) M0 M' ∧ fq_st (M'.1 168) (g8) p1Zq.toInt p2Zq.toInt) := by
      intro n
      induction n with
      | zero => intro x18 M19 hn; exact absurd hn (Nat.not_lt_zero _)
      | succ n ih44 =>
        intro x18 M19 hn hf Pce_M19
        have gx18 := tl_rg x18
        refine li_iload 0 dX10_tryFirst_44 rfl ?_
        refine li_iload_n 1 dX10_tryFirst_46 rfl ?_
        refine li_icmp_ge 81 dX10_tryFirst_47 (by decide) (fun c20Zq => ?_) (fun c20Zq => ?_)
        · have tc20 : x4Zq.toInt ≤ x18.toInt := tl_le c20Zq
          refine li_iload_n 1 dX10_tryFirst_81 rfl ?_
          refine li_aload_n 2 dX10_tryFirst_82 rfl ?_
          refine li_getr (k := 4) (N := 8) (T := TX10) (C0 := RX10) dX10_tryFirst_83 (by decide) sh_163 rfl rfl (by decide) (by decide) li_in10 w_339 ?_
          refine li_iload_n 3 dX10_tryFirst_86 rfl ?_
          refine li_callN (n := 2) (As := [.ref (Z.2.2 168), .int p1Zq]) dX10_tryFirst_87 (a_X11_at (d - 1) (by omega) (by decide) sh_168 (by decide) p1Zq M19) (by omega) (Nat.le_of_ble_eq_true rfl) nw_30 w_569 w_101 w_570 (by decide +kernel) rfl rfl (Nat.le_of_ble_eq_true rfl) (fun r M22 h23 => ?_)
          obtain ⟨⟨x21, rfl, qx21⟩, h23⟩ := h23
          have gx21 := tl_rg x21
          have hf := li_fr_trans hf h23 (fun i hZq => False.elim hZq)
          have Pce_M22 : li_ce (M22.1 168) (g8) := li_ce_tr (h23.1 168 (fun hZq => by first | exact (hZq : False).elim | omega)) rfl Pce_M19
          have f87 : x21 = g8 p1Zq.toInt.toNat := (at_is qx21 (by omega) (by omega) (by decide)).trans ((nat_at rfl (by omega)).trans (congrFun (show M19.1 168 = g8 from Pce_M19) _))
          refine li_icmp_lt 102 dX10_tryFirst_90 (by decide) (fun c24Zq => ?_) (fun c24Zq => ?_)
          · have tc24 : x4Zq.toInt < x21.toInt := tl_lt c24Zq
            refine li_iconst 0 dX10_tryFirst_102 (by decide) ?_
            refine li_istore [(4, .int 0), (3, .int x4Zq), (0, .ref (Z.2.2 163)), (1, .int p1Zq), (2, .int p2Zq)] dX10_tryFirst_103 (by decide) rfl ?_
            have L105 : ∀ (n : Nat) (x25 : Int32) (M26 : li_M), (2147483647 - (x25 : Int32).toInt).toNat < n → li_fr (fun i => i = 168 ∨ i = 169 ∨ i = 170) M0 M26 → li_ce (M26.1 168) (g8) → li_T l Z YX10_tryFirst d 105 [(4, .int x25), (3, .int x4Zq), (0, .ref (Z.2.2 163)), (1, .int p1Zq), (2, .int p2Zq)] [] M26 (fun r M' => r = none ∧ li_fr (fun i => i = 168 ∨ i = 169 ∨ i = 170) M0 M' ∧ fq_st (M'.1 168) (g8) p1Zq.toInt p2Zq.toInt) := by
              intro n
              induction n with
              | zero => intro x25 M26 hn; exact absurd hn (Nat.not_lt_zero _)
              | succ n ih105 =>
                intro x25 M26 hn hf Pce_M26
                have gx25 := tl_rg x25
                refine li_iload 0 dX10_tryFirst_105 rfl ?_
                refine li_iload_n 1 dX10_tryFirst_107 rfl ?_
                refine li_icmp_ge 140 dX10_tryFirst_108 (by decide) (fun c27Zq => ?_) (fun c27Zq => ?_)
                · have tc27 : x4Zq.toInt ≤ x25.toInt := tl_le c27Zq
                  refine li_aload_n 2 dX10_tryFirst_140 rfl ?_
                  refine li_getr (k := 4) (N := 8) (T := TX10) (C0 := RX10) dX10_tryFirst_141 (by decide) sh_163 rfl rfl (by decide) (by decide) li_in10 w_339 ?_
                  refine li_iload_n 3 dX10_tryFirst_144 rfl ?_
                  refine li_iload_n 1 dX10_tryFirst_145 rfl ?_
                  refine li_callN (n := 3) (As := [.ref (Z.2.2 168), .int p1Zq, .int x4Zq]) dX10_tryFirst_146 (a_X11_put (d - 1) (by omega) (by decide) sh_168 (by decide) p1Zq x4Zq M26) (by omega) (Nat.le_of_ble_eq_true rfl) nw_11 w_522 w_101 w_523 (by decide +kernel) rfl rfl (Nat.le_of_ble_eq_true rfl) (fun r M29 h30 => ?_)
                  obtain ⟨rfl, h30, nM29⟩ := h30
                  have hf := li_fr_trans hf h30 (fun i (hZq : i = 168) => (show i = 168 ∨ i = 169 ∨ i = 170 by omega))
                  have fqv : fq_st (M29.1 168) (g8) p1Zq.toInt p2Zq.toInt := fq_st_yes Pce_M26 (put_is nM29 (by omega) (by omega)) (li_cl (by omega)) v10 (by rw [← f17Zq, ← v10]; omega)
                  exact li_vret dX10_tryFirst_149 rfl ⟨rfl, hf, (by first | exact fqv | exact fq_st_no Pce_M29 (by rw [← f87, ← v10]; omega) | exact fq_st_no Pce_M29 (by rw [← f17Zq, ← v10]; omega))⟩
                · have tc27 : x25.toInt < x4Zq.toInt := tl_nle c27Zq
                  refine li_aload_n 2 dX10_tryFirst_111 rfl ?_
                  refine li_getr (k := 5) (N := 8) (T := TX10) (C0 := RX10) dX10_tryFirst_112 (by decide) sh_163 rfl rfl (by decide) (by decide) li_in10 w_340 ?_
                  refine li_iload_n 3 dX10_tryFirst_115 rfl ?_
                  refine li_bipush 15 dX10_tryFirst_116 (by decide) ?_
                  refine li_imul dX10_tryFirst_118 ?_
                  refine li_top (fun x31 ex31 => ?_)
                  have tx31 : (-2147483648 ≤ p1Zq.toInt * 15 ∧ p1Zq.toInt * 15 ≤ 2147483647) → x31.toInt = p1Zq.toInt * 15 := tl_mul ex31
                  refine li_iload 0 dX10_tryFirst_119 rfl ?_
                  refine li_iadd dX10_tryFirst_121 ?_
                  refine li_top (fun x32 ex32 => ?_)
                  have tx32 : (-2147483648 ≤ x31.toInt + x25.toInt ∧ x31.toInt + x25.toInt ≤ 2147483647) → x32.toInt = x31.toInt + x25.toInt := tl_add ex32
                  refine li_aload_n 2 dX10_tryFirst_122 rfl ?_
                  refine li_getr (k := 6) (N := 8) (T := TX10) (C0 := RX10) dX10_tryFirst_123 (by decide) sh_163 rfl rfl (by decide) (by decide) li_in10 w_342 ?_
                  refine li_iload 0 dX10_tryFirst_126 rfl ?_
                  refine li_callN (n := 2) (As := [.ref (Z.2.2 170), .int x25]) dX10_tryFirst_128 (a_X11_at (d - 1) (by omega) (by decide) sh_170 (by decide) x25 M26) (by omega) (Nat.le_of_ble_eq_true rfl) nw_30 w_569 w_101 w_570 (by decide +kernel) rfl rfl (Nat.le_of_ble_eq_true rfl) (fun r M34 h35 => ?_)
                  obtain ⟨⟨x33, rfl, qx33⟩, h35⟩ := h35
                  have gx33 := tl_rg x33
                  have hf := li_fr_trans hf h35 (fun i hZq => False.elim hZq)
                  have Pce_M34 : li_ce (M34.1 168) (g8) := li_ce_tr (h35.1 168 (fun hZq => by first | exact (hZq : False).elim | omega)) rfl Pce_M26
                  refine li_callN (n := 3) (As := [.ref (Z.2.2 169), .int x32, .int x33]) dX10_tryFirst_131 (a_X11_put (d - 1) (by omega) (by decide) sh_169 (by decide) x32 x33 M34) (by omega) (Nat.le_of_ble_eq_true rfl) nw_11 w_522 w_101 w_523 (by decide +kernel) rfl rfl (Nat.le_of_ble_eq_true rfl) (fun r M37 h38 => ?_)
                  obtain ⟨rfl, h38, nM37⟩ := h38
                  have hf := li_fr_trans hf h38 (fun i (hZq : i = 169) => (show i = 168 ∨ i = 169 ∨ i = 170 by omega))
                  have Pce_M37 : li_ce (M37.1 168) (g8) := li_ce_tr (h38.1 168 (fun hZq => by first | exact (hZq : False).elim | omega)) rfl Pce_M34
                  obtain ⟨x39, ex39⟩ : ∃ y : Int32, y = x25 + 1 := ⟨_, rfl⟩
                  have tx39 : (-2147483648 ≤ x25.toInt + 1 ∧ x25.toInt + 1 ≤ 2147483647) → x39.toInt = x25.toInt + 1 := tl_add ex39
                  refine li_iinc 0 [(4, .int x39), (3, .int x4Zq), (0, .ref (Z.2.2 163)), (1, .int p1Zq), (2, .int p2Zq)] x39 dX10_tryFirst_134 rfl (by rw [ex39]; rfl) (by decide) rfl ?_
                  refine li_goto 105 dX10_tryFirst_137 (by decide) ?_
                  refine li_pick [0, 1, 2, 3, 4] [(4, .int x39), (3, .int x4Zq), (0, .ref (Z.2.2 163)), (1, .int p1Zq), (2, .int p2Zq)] rfl ?_
                  exact ih105 x39 M37 (by have h9 := li_up (li_gt c27Zq); rw [← ex39] at h9; omega) hf (by first | exact li_ce_tr rfl rfl Pce_M37)
            have z0 : (0 : Int32).toInt = 0 := rfl
            exact L105 _ 0 M22 (Nat.lt_succ_self _) hf (by first | exact li_ce_tr rfl rfl Pce_M22)
          · have tc24 : x21.toInt ≤ x4Zq.toInt := tl_nlt c24Zq
            refine li_aload_n 2 dX10_tryFirst_93 rfl ?_
            refine li_iload_n 3 dX10_tryFirst_94 rfl ?_
            refine li_iload_n 1 dX10_tryFirst_95 rfl ?_
            refine li_callV (n := 2) (As := [.int p1Zq, .int x4Zq]) dX10_tryFirst_96 (k_X10_isTrialLess (d - 1) (by omega) p1Zq x4Zq M22) (by omega) (Nat.le_of_ble_eq_true rfl) w_1151 w_1153 w_31 w_108 w_1154 (by decide +kernel) rfl (by decide) sh_163 rfl rfl (Nat.le_of_ble_eq_true rfl) (fun r M41 h42 => ?_)
            obtain ⟨⟨x40, rfl, bx40⟩, h42⟩ := h42
            have ux40 := tl_b bx40
            have hf := li_fr_trans hf h42 (fun i hZq => False.elim hZq)
            have Pce_M41 : li_ce (M41.1 168) (g8) := li_ce_tr (h42.1 168 (fun hZq => by first | exact (hZq : False).elim | omega)) rfl Pce_M22
            refine li_if_eq 149 dX10_tryFirst_99 (by decide) (fun c43Zq => ?_) (fun c43Zq => ?_)
            · have tc43 : x40.toInt = 0 := tl_eq c43Zq
              exact li_vret dX10_tryFirst_149 rfl ⟨rfl, hf, (by first | exact fqv | exact fq_st_no Pce_M41 (by rw [← f87, ← v10]; omega) | exact fq_st_no Pce_M41 (by rw [← f17Zq, ← v10]; omega))⟩
            · have tc43 : ¬ x40.toInt = 0 := tl_ne c43Zq
              refine li_iconst 0 dX10_tryFirst_102 (by decide) ?_
              refine li_istore [(4, .int 0), (3, .int x4Zq), (0, .ref (Z.2.2 163)), (1, .int p1Zq), (2, .int p2Zq)] dX10_tryFirst_103 (by decide) rfl ?_
              have L105 : ∀ (n : Nat) (x44 : Int32) (M45 : li_M), (2147483647 - (x44 : Int32).toInt).toNat < n → li_fr (fun i => i = 168 ∨ i = 169 ∨ i = 170) M0 M45 → li_ce (M45.1 168) (g8) → li_T l Z YX10_tryFirst d 105 [(4, .int x44), (3, .int x4Zq), (0, .ref (Z.2.2 163)), (1, .int p1Zq), (2, .int p2Zq)] [] M45 (fun r M' => r = none ∧ li_fr (fun i => i = 168 ∨ i = 169 ∨ i = 170) M0 M' ∧ fq_st (M'.1 168) (g8) p1Zq.toInt p2Zq.toInt) := by
                intro n
                induction n with
                | zero => intro x44 M45 hn; exact absurd hn (Nat.not_lt_zero _)
                | succ n ih105 =>
                  intro x44 M45 hn hf Pce_M45
                  have gx44 := tl_rg x44
                  refine li_iload 0 dX10_tryFirst_105 rfl ?_
                  refine li_iload_n 1 dX10_tryFirst_107 rfl ?_
                  refine li_icmp_ge 140 dX10_tryFirst_108 (by decide) (fun c46Zq => ?_) (fun c46Zq => ?_)
                  · have tc46 : x4Zq.toInt ≤ x44.toInt := tl_le c46Zq
                    refine li_aload_n 2 dX10_tryFirst_140 rfl ?_
                    refine li_getr (k := 4) (N := 8) (T := TX10) (C0 := RX10) dX10_tryFirst_141 (by decide) sh_163 rfl rfl (by decide) (by decide) li_in10 w_339 ?_
                    refine li_iload_n 3 dX10_tryFirst_144 rfl ?_
                    refine li_iload_n 1 dX10_tryFirst_145 rfl ?_
                    refine li_callN (n := 3) (As := [.ref (Z.2.2 168), .int p1Zq, .int x4Zq]) dX10_tryFirst_146 (a_X11_put (d - 1) (by omega) (by decide) sh_168 (by decide) p1Zq x4Zq M45) (by omega) (Nat.le_of_ble_eq_true rfl) nw_11 w_522 w_101 w_523 (by decide +kernel) rfl rfl (Nat.le_of_ble_eq_true rfl) (fun r M48 h49 => ?_)
                    obtain ⟨rfl, h49, nM48⟩ := h49
                    have hf := li_fr_trans hf h49 (fun i (hZq : i = 168) => (show i = 168 ∨ i = 169 ∨ i = 170 by omega))
                    have fqv : fq_st (M48.1 168) (g8) p1Zq.toInt p2Zq.toInt := fq_st_yes Pce_M45 (put_is nM48 (by omega) (by omega)) (li_cl (by omega)) v10 (by rw [← f17Zq, ← v10]; omega)
                    exact li_vret dX10_tryFirst_149 rfl ⟨rfl, hf, (by first | exact fqv | exact fq_st_no Pce_M48 (by rw [← f87, ← v10]; omega) | exact fq_st_no Pce_M48 (by rw [← f17Zq, ← v10]; omega))⟩
                  · have tc46 : x44.toInt < x4Zq.toInt := tl_nle c46Zq
                    refine li_aload_n 2 dX10_tryFirst_111 rfl ?_
                    refine li_getr (k := 5) (N := 8) (T := TX10) (C0 := RX10) dX10_tryFirst_112 (by decide) sh_163 rfl rfl (by decide) (by decide) li_in10 w_340 ?_
                    refine li_iload_n 3 dX10_tryFirst_115 rfl ?_
                    refine li_bipush 15 dX10_tryFirst_116 (by decide) ?_
                    refine li_imul dX10_tryFirst_118 ?_
                    refine li_top (fun x50 ex50 => ?_)
                    have tx50 : (-2147483648 ≤ p1Zq.toInt * 15 ∧ p1Zq.toInt * 15 ≤ 2147483647) → x50.toInt = p1Zq.toInt * 15 := tl_mul ex50
                    refine li_iload 0 dX10_tryFirst_119 rfl ?_
                    refine li_iadd dX10_tryFirst_121 ?_
                    refine li_top (fun x51 ex51 => ?_)
                    have tx51 : (-2147483648 ≤ x50.toInt + x44.toInt ∧ x50.toInt + x44.toInt ≤ 2147483647) → x51.toInt = x50.toInt + x44.toInt := tl_add ex51
                    refine li_aload_n 2 dX10_tryFirst_122 rfl ?_
                    refine li_getr (k := 6) (N := 8) (T := TX10) (C0 := RX10) dX10_tryFirst_123 (by decide) sh_163 rfl rfl (by decide) (by decide) li_in10 w_342 ?_
                    refine li_iload 0 dX10_tryFirst_126 rfl ?_
                    refine li_callN (n := 2) (As := [.ref (Z.2.2 170), .int x44]) dX10_tryFirst_128 (a_X11_at (d - 1) (by omega) (by decide) sh_170 (by decide) x44 M45) (by omega) (Nat.le_of_ble_eq_true rfl) nw_30 w_569 w_101 w_570 (by decide +kernel) rfl rfl (Nat.le_of_ble_eq_true rfl) (fun r M53 h54 => ?_)
                    obtain ⟨⟨x52, rfl, qx52⟩, h54⟩ := h54
                    have gx52 := tl_rg x52
                    have hf := li_fr_trans hf h54 (fun i hZq => False.elim hZq)
                    have Pce_M53 : li_ce (M53.1 168) (g8) := li_ce_tr (h54.1 168 (fun hZq => by first | exact (hZq : False).elim | omega)) rfl Pce_M45
                    refine li_callN (n := 3) (As := [.ref (Z.2.2 169), .int x51, .int x52]) dX10_tryFirst_131 (a_X11_put (d - 1) (by omega) (by decide) sh_169 (by decide) x51 x52 M53) (by omega) (Nat.le_of_ble_eq_true rfl) nw_11 w_522 w_101 w_523 (by decide +kernel) rfl rfl (Nat.le_of_ble_eq_true rfl) (fun r M56 h57 => ?_)
                    obtain ⟨rfl, h57, nM56⟩ := h57
                    have hf := li_fr_trans hf h57 (fun i (hZq : i = 169) => (show i = 168 ∨ i = 169 ∨ i = 170 by omega))
                    have Pce_M56 : li_ce (M56.1 168) (g8) := li_ce_tr (h57.1 168 (fun hZq => by first | exact (hZq : False).elim | omega)) rfl Pce_M53
                    obtain ⟨x58, ex58⟩ : ∃ y : Int32, y = x44 + 1 := ⟨_, rfl⟩
                    have tx58 : (-2147483648 ≤ x44.toInt + 1 ∧ x44.toInt + 1 ≤ 2147483647) → x58.toInt = x44.toInt + 1 := tl_add ex58
                    refine li_iinc 0 [(4, .int x58), (3, .int x4Zq), (0, .ref (Z.2.2 163)), (1, .int p1Zq), (2, .int p2Zq)] x58 dX10_tryFirst_134 rfl (by rw [ex58]; rfl) (by decide) rfl ?_
                    refine li_goto 105 dX10_tryFirst_137 (by decide) ?_
                    refine li_pick [0, 1, 2, 3, 4] [(4, .int x58), (3, .int x4Zq), (0, .ref (Z.2.2 163)), (1, .int p1Zq), (2, .int p2Zq)] rfl ?_
                    exact ih105 x58 M56 (by have h9 := li_up (li_gt c46Zq); rw [← ex58] at h9; omega) hf (by first | exact li_ce_tr rfl rfl Pce_M56)
              have z0 : (0 : Int32).toInt = 0 := rfl
              exact L105 _ 0 M41 (Nat.lt_succ_self _) hf (by first | exact li_ce_tr rfl rfl Pce_M41)
        · have tc20 : x18.toInt < x4Zq.toInt := tl_nle c20Zq
          refine li_aload_n 2 dX10_tryFirst_50 rfl ?_
          refine li_getr (k := 6) (N := 8) (T := TX10) (C0 := RX10) dX10_tryFirst_51 (by decide) sh_163 rfl rfl (by decide) (by decide) li_in10 w_342 ?_
          refine li_iload 0 dX10_tryFirst_54 rfl ?_
          refine li_aload_n 2 dX10_tryFirst_56 rfl ?_
          refine li_getr (k := 5) (N := 8) (T := TX10) (C0 := RX10) dX10_tryFirst_57 (by decide) sh_163 rfl rfl (by decide) (by decide) li_in10 w_340 ?_
          refine li_iload_n 4 dX10_tryFirst_60 rfl ?_
          refine li_bipush 15 dX10_tryFirst_61 (by decide) ?_
          refine li_imul dX10_tryFirst_63 ?_
          refine li_top (fun x59 ex59 => ?_)
          have tx59 : (-2147483648 ≤ p2Zq.toInt * 15 ∧ p2Zq.toInt * 15 ≤ 2147483647) → x59.toInt = p2Zq.toInt * 15 := tl_mul ex59
          refine li_iload 0 dX10_tryFirst_64 rfl ?_
          refine li_iadd dX10_tryFirst_66 ?_
          refine li_top (fun x60 ex60 => ?_)
          have tx60 : (-2147483648 ≤ x59.toInt + x18.toInt ∧ x59.toInt + x18.toInt ≤ 2147483647) → x60.toInt = x59.toInt + x18.toInt := tl_add ex60
          refine li_iconst 1 dX10_tryFirst_67 (by decide) ?_
          refine li_isub dX10_tryFirst_68 ?_
          refine li_top (fun x61 ex61 => ?_)
          have tx61 : (-2147483648 ≤ x60.toInt - 1 ∧ x60.toInt - 1 ≤ 2147483647) → x61.toInt = x60.toInt - 1 := tl_sub ex61
          refine li_callN (n := 2) (As := [.ref (Z.2.2 169), .int x61]) dX10_tryFirst_69 (a_X11_at (d - 1) (by omega) (by decide) sh_169 (by decide) x61 M19) (by omega) (Nat.le_of_ble_eq_true rfl) nw_30 w_569 w_101 w_570 (by decide +kernel) rfl rfl (Nat.le_of_ble_eq_true rfl) (fun r M63 h64 => ?_)
          obtain ⟨⟨x62, rfl, qx62⟩, h64⟩ := h64
          have gx62 := tl_rg x62
          have hf := li_fr_trans hf h64 (fun i hZq => False.elim hZq)
          have Pce_M63 : li_ce (M63.1 168) (g8) := li_ce_tr (h64.1 168 (fun hZq => by first | exact (hZq : False).elim | omega)) rfl Pce_M19
          refine li_callN (n := 3) (As := [.ref (Z.2.2 170), .int x18, .int x62]) dX10_tryFirst_72 (a_X11_put (d - 1) (by omega) (by decide) sh_170 (by decide) x18 x62 M63) (by omega) (Nat.le_of_ble_eq_true rfl) nw_11 w_522 w_101 w_523 (by decide +kernel) rfl rfl (Nat.le_of_ble_eq_true rfl) (fun r M66 h67 => ?_)
          obtain ⟨rfl, h67, nM66⟩ := h67
          have hf := li_fr_trans hf h67 (fun i (hZq : i = 170) => (show i = 168 ∨ i = 169 ∨ i = 170 by omega))
          have Pce_M66 : li_ce (M66.1 168) (g8) := li_ce_tr (h67.1 168 (fun hZq => by first | exact (hZq : False).elim | omega)) rfl Pce_M63
          obtain ⟨x68, ex68⟩ : ∃ y : Int32, y = x18 + 1 := ⟨_, rfl⟩
          have tx68 : (-2147483648 ≤ x18.toInt + 1 ∧ x18.toInt + 1 ≤ 2147483647) → x68.toInt = x18.toInt + 1 := tl_add ex68
          refine li_iinc 0 [(4, .int x68), (3, .int x4Zq), (0, .ref (Z.2.2 163)), (1, .int p1Zq), (2, .int p2Zq)] x68 dX10_tryFirst_75 rfl (by rw [ex68]; rfl) (by decide) rfl ?_
          refine li_goto 44 dX10_tryFirst_78 (by decide) ?_
          refine li_pick [0, 1, 2, 3, 4] [(4, .int x68), (3, .int x4Zq), (0, .ref (Z.2.2 163)), (1, .int p1Zq), (2, .int p2Zq)] rfl ?_
          exact ih44 x68 M66 (by have h9 := li_up (li_gt c20Zq); rw [← ex68] at h9; omega) hf (by first | exact li_ce_tr rfl rfl Pce_M66)
    have z1 : (1 : Int32).toInt = 1 := rfl
    exact L44 _ 1 M16 (Nat.lt_succ_self _) hf (by first | exact li_ce_tr rfl rfl Pce_M16)
  · have tc8 : x5Zq.toInt < x4Zq.toInt := tl_nle c8Zq
    exact li_vret dX10_tryFirst_23 rfl ⟨rfl, hf, (by first | exact fqv | exact fq_st_no Pce_M6 (by rw [← f87, ← v10]; omega) | exact fq_st_no Pce_M6 (by rw [← f17Zq, ← v10]; omega))⟩

set_option maxRecDepth 100000 in
set_option maxHeartbeats 4000000 in
theorem k14_X10_shorten {l : Launch} {Z : li_Z} (d : Nat) (hdZq : 4 ≤ d) (p1Zq : Int32) (M0 : li_M) (h1 : 1 ≤ p1Zq.toInt ∧ p1Zq.toInt ≤ 14) (T : Nat → Int32) (hTZq : M0.1 167 = T) : li_Met l Z YX10_shorten d [.ref (Z.2.2 163), .int p1Zq] M0 (fun r M' => (∃ x : Int32, r = some (.int x) ∧ (x = M'.1 168 0 ∧ li_fq (M'.1 168) T (p1Zq.toInt) 15 0)) ∧ li_fr (fun i => i = 168 ∨ i = 169 ∨ i = 170) M0 M') := by
  refine li_enter (by decide +kernel) (Nat.le_of_ble_eq_true rfl) ?_
  show li_T l Z YX10_shorten d 0 [(0, .ref (Z.2.2 163)), (1, .int p1Zq)] [] M0 _
  have hf : li_fr (fun i => i = 168 ∨ i = 169 ∨ i = 170) M0 M0 := li_fr_refl
  have gp1 := tl_rg p1Zq
  refine li_aload_n 0 dX10_shorten_0 rfl ?_
  refine li_getr (k := 4) (N := 8) (T := TX10) (C0 := RX10) dX10_shorten_1 (by decide) sh_163 rfl rfl (by decide) (by decide) li_in10 w_339 ?_
  refine li_iload_n 1 dX10_shorten_4 rfl ?_
  refine li_iconst 0 dX10_shorten_5 (by decide) ?_
  refine li_callN (n := 3) (As := [.ref (Z.2.2 168), .int p1Zq, .int 0]) dX10_shorten_6 (a_X11_put (d - 1) (by omega) (by decide) sh_168 (by decide) p1Zq 0 M0) (by omega) (Nat.le_of_ble_eq_true rfl) nw_11 w_522 w_101 w_523 (by decide +kernel) rfl rfl (Nat.le_of_ble_eq_true rfl) (fun r M2Zq h3 => ?_)
  have z0 : (0 : Int32).toInt = 0 := rfl
  obtain ⟨rfl, h3, nM2⟩ := h3
  have hf := li_fr_trans hf h3 (fun i (hZq : i = 168) => (show i = 168 ∨ i = 169 ∨ i = 170 by omega))
  have Pfq_M2 : li_fq (M2Zq.1 168) (T) (p1Zq.toInt) (15) (p1Zq.toInt) := li_fq_0 ((congrArg Int32.toInt (put_at (f := p1Zq.toInt) (put_is nM2 (by omega) (by omega)) (li_cl (by omega)))).trans rfl) (by omega) (by omega)
  refine li_iload_n 1 dX10_shorten_9 rfl ?_
  refine li_iconst 1 dX10_shorten_10 (by decide) ?_
  refine li_isub dX10_shorten_11 ?_
  refine li_top (fun x4Zq ex4 => ?_)
  have tx4 : (-2147483648 ≤ p1Zq.toInt - 1 ∧ p1Zq.toInt - 1 ≤ 2147483647) → x4Zq.toInt = p1Zq.toInt - 1 := tl_sub ex4
  refine li_istore_n [(2, .int x4Zq), (0, .ref (Z.2.2 163)), (1, .int p1Zq)] dX10_shorten_12 (by decide) rfl ?_
  have L13 : ∀ (n : Nat) (x5Zq : Int32) (M6Zq : li_M), ((x5Zq : Int32).toInt + 1).toNat < n → li_fr (fun i => i = 168 ∨ i = 169 ∨ i = 170) M0 M6Zq → -1 ≤ (x5Zq : Int32).toInt ∧ (x5Zq : Int32).toInt ≤ p1Zq.toInt - 1 → li_fq (M6Zq.1 168) (T) (p1Zq.toInt) (15) ((x5Zq : Int32).toInt + 1) → li_T l Z YX10_shorten d 13 [(2, .int x5Zq), (0, .ref (Z.2.2 163)), (1, .int p1Zq)] [] M6Zq (fun r M' => (∃ x : Int32, r = some (.int x) ∧ (x = M'.1 168 0 ∧ li_fq (M'.1 168) T (p1Zq.toInt) 15 0)) ∧ li_fr (fun i => i = 168 ∨ i = 169 ∨ i = 170) M0 M') := by
    intro n
    induction n with
    | zero => intro x5Zq M6Zq hn; exact absurd hn (Nat.not_lt_zero _)
    | succ n ih13 =>
      intro x5Zq M6Zq hn hf hiZq Pfq_M6
      have gx5 := tl_rg x5Zq
      refine li_iload_n 0 dX10_shorten_13 rfl ?_
      refine li_if_lt 63 dX10_shorten_14 (by decide) (fun c7Zq => ?_) (fun c7Zq => ?_)
      · have tc7 : x5Zq.toInt < 0 := tl_lt c7Zq
        refine li_aload_n 1 dX10_shorten_63 rfl ?_
        refine li_getr (k := 4) (N := 8) (T := TX10) (C0 := RX10) dX10_shorten_64 (by decide) sh_163 rfl rfl (by decide) (by decide) li_in10 w_339 ?_
        refine li_iconst 0 dX10_shorten_67 (by decide) ?_
        refine li_callN (n := 2) (As := [.ref (Z.2.2 168), .int 0]) dX10_shorten_68 (a_X11_at (d - 1) (by omega) (by decide) sh_168 (by decide) 0 M6Zq) (by omega) (Nat.le_of_ble_eq_true rfl) nw_30 w_569 w_101 w_570 (by decide +kernel) rfl rfl (Nat.le_of_ble_eq_true rfl) (fun r M9Zq h10 => ?_)
        have z0 : (0 : Int32).toInt = 0 := rfl
        obtain ⟨⟨x8, rfl, qx8⟩, h10⟩ := h10
        have gx8 := tl_rg x8
        have hf := li_fr_trans hf h10 (fun i hZq => False.elim hZq)
        have Pfq_M9 : li_fq (M9Zq.1 168) (T) (p1Zq.toInt) (15) ((x5Zq : Int32).toInt + 1) := li_fq_tr (h10.1 168 (fun hZq => by first | exact (hZq : False).elim | omega)) rfl rfl rfl (Int.le_antisymm (by omega) (by omega)) Pfq_M6
        have f68 : x8 = M9Zq.1 168 0 := (at_is qx8 (by decide) (by decide) (by decide)).trans (by rw [h10.1 168 (fun hZq => hZq)]; rfl)
        exact li_iret dX10_shorten_71 rfl rfl ⟨⟨_, rfl, (by exact ⟨f68, li_fq_tr rfl rfl rfl rfl (Int.le_antisymm (by omega) (by omega)) Pfq_M9⟩)⟩, hf⟩
      · have tc7 : 0 ≤ x5Zq.toInt := tl_nlt c7Zq
        refine li_aload_n 1 dX10_shorten_17 rfl ?_
        refine li_getr (k := 4) (N := 8) (T := TX10) (C0 := RX10) dX10_shorten_18 (by decide) sh_163 rfl rfl (by decide) (by decide) li_in10 w_339 ?_
        refine li_iload_n 0 dX10_shorten_21 rfl ?_
        refine li_bipush 15 dX10_shorten_22 (by decide) ?_
        refine li_callN (n := 3) (As := [.ref (Z.2.2 168), .int x5Zq, .int 15]) dX10_shorten_24 (a_X11_put (d - 1) (by omega) (by decide) sh_168 (by decide) x5Zq 15 M6Zq) (by omega) (Nat.le_of_ble_eq_true rfl) nw_11 w_522 w_101 w_523 (by decide +kernel) rfl rfl (Nat.le_of_ble_eq_true rfl) (fun r M12 h13 => ?_)
        have z15 : (15 : Int32).toInt = 15 := rfl
        obtain ⟨rfl, h13, nM12⟩ := h13
        have hf := li_fr_trans hf h13 (fun i (hZq : i = 168) => (show i = 168 ∨ i = 169 ∨ i = 170 by omega))
        have Pfq_M12 : li_fq (M12.1 168) (T) (p1Zq.toInt) (15) ((x5Zq : Int32).toInt + 1) := li_fq_up Pfq_M6 (f := (x5Zq : Int32).toInt) (by omega) (by omega) (put_ne (put_is nM12 (by omega) (by omega)) (li_cl (by omega)))
        have Pfn_M12 : li_fn (M12.1 168) (T) (15) ((x5Zq : Int32).toInt) (0) := li_fn_0 ((congrArg Int32.toInt (put_at (f := (x5Zq : Int32).toInt) (put_is nM12 (by omega) (by omega)) (li_cl (by omega)))).trans rfl) rfl (by omega)
        refine li_iload_n 0 dX10_shorten_27 rfl ?_
        refine li_iconst 1 dX10_shorten_28 (by decide) ?_
        refine li_iadd dX10_shorten_29 ?_
        refine li_top (fun x14 ex14 => ?_)
        have tx14 : (-2147483648 ≤ x5Zq.toInt + 1 ∧ x5Zq.toInt + 1 ≤ 2147483647) → x14.toInt = x5Zq.toInt + 1 := tl_add ex14
        refine li_istore_n [(3, .int x14), (2, .int x5Zq), (0, .ref (Z.2.2 163)), (1, .int p1Zq)] dX10_shorten_30 (by decide) rfl ?_
        have L31 : ∀ (n : Nat) (x15 : Int32) (M16 : li_M), (p1Zq.toInt + 1 - (x15 : Int32).toInt).toNat < n → li_fr (fun i => i = 168 ∨ i = 169 ∨ i = 170) M0 M16 → (x5Zq : Int32).toInt + 1 ≤ (x15 : Int32).toInt ∧ (x15 : Int32).toInt ≤ p1Zq.toInt + 1 → li_fq (M16.1 168) (T) (p1Zq.toInt) (15) ((x5Zq : Int32).toInt + 1) → li_fn (M16.1 168) (T) (15) ((x5Zq : Int32).toInt) ((x15 : Int32).toInt - (x5Zq : Int32).toInt - 1) → li_T l Z YX10_shorten d 31 [(3, .int x15), (2, .int x5Zq), (0, .ref (Z.2.2 163)), (1, .int p1Zq)] [] M16 (fun r M' => (∃ x : Int32, r = some (.int x) ∧ (x = M'.1 168 0 ∧ li_fq (M'.1 168) T (p1Zq.toInt) 15 0)) ∧ li_fr (fun i => i = 168 ∨ i = 169 ∨ i = 170) M0 M') := by
          intro n
          induction n with
          | zero => intro x15 M16 hn; exact absurd hn (Nat.not_lt_zero _)
          | succ n ih31 =>
            intro x15 M16 hn hf hiZq Pfq_M16 Pfn_M16
            have gx15 := tl_rg x15
            refine li_iload_n 0 dX10_shorten_31 rfl ?_
            refine li_iload_n 3 dX10_shorten_32 rfl ?_
            refine li_icmp_gt 57 dX10_shorten_33 (by decide) (fun c17 => ?_) (fun c17 => ?_)
            · have tc17 : p1Zq.toInt < x15.toInt := tl_lt c17
              obtain ⟨x18, ex18⟩ : ∃ y : Int32, y = x5Zq + (-1) := ⟨_, rfl⟩
              have tx18 : (-2147483648 ≤ x5Zq.toInt + (-1) ∧ x5Zq.toInt + (-1) ≤ 2147483647) → x18.toInt = x5Zq.toInt + (-1) := tl_add ex18
              refine li_iinc 1 [(2, .int x18), (3, .int x15), (0, .ref (Z.2.2 163)), (1, .int p1Zq)] x18 dX10_shorten_57 rfl (by rw [ex18]; rfl) (by decide) rfl ?_
              refine li_goto 13 dX10_shorten_60 (by decide) ?_
              refine li_pick [0, 2, 3] [(2, .int x18), (0, .ref (Z.2.2 163)), (1, .int p1Zq)] rfl ?_
              exact ih13 x18 M16 (by omega) hf (by omega) (by first | exact li_fq_tr rfl rfl rfl rfl (Int.le_antisymm (by omega) (by omega)) Pfq_M16 | exact li_fq_nx Pfq_M16 Pfn_M16 (by omega) (by omega) (Int.le_antisymm (by omega) (by omega)) (Int.le_antisymm (by omega) (by omega)))
            · have tc17 : x15.toInt ≤ p1Zq.toInt := tl_nlt c17
              refine li_aload_n 2 dX10_shorten_36 rfl ?_
              refine li_iload_n 1 dX10_shorten_37 rfl ?_
              refine li_iload_n 0 dX10_shorten_38 rfl ?_
              refine li_callV (n := 2) (As := [.int x5Zq, .int x15]) dX10_shorten_39 (k13_X10_mask (d - 1) (by omega) x5Zq x15 M16 ⟨by omega, by omega⟩ ⟨by omega, by omega⟩) (by omega) (Nat.le_of_ble_eq_true rfl) w_1134 w_1135 w_1136 w_108 w_1137 (by decide +kernel) rfl (by decide) sh_163 rfl rfl (Nat.le_of_ble_eq_true rfl) (fun r M20 h21 => ?_)
              obtain ⟨⟨x19, rfl, qx19⟩, h21⟩ := h21
              have gx19 := tl_rg x19
              have hf := li_fr_trans hf h21 (fun i hZq => False.elim hZq)
              have Pfq_M20 : li_fq (M20.1 168) (T) (p1Zq.toInt) (15) ((x5Zq : Int32).toInt + 1) := li_fq_tr (h21.1 168 (fun hZq => by first | exact (hZq : False).elim | omega)) rfl rfl rfl (Int.le_antisymm (by omega) (by omega)) Pfq_M16
              have Pfn_M20 : li_fn (M20.1 168) (T) (15) ((x5Zq : Int32).toInt) ((x15 : Int32).toInt - (x5Zq : Int32).toInt - 1) := li_fn_tr (h21.1 168 (fun hZq => by first | exact (hZq : False).elim | omega)) rfl rfl rfl (Int.le_antisymm (by omega) (by omega)) Pfn_M16
              have mk1 : x19 = T (16 * (x5Zq : Int32).toInt + ((x15 : Int32).toInt - (x5Zq : Int32).toInt - 1 + 1)).toNat := by rw [qx19, show M16.1 167 = T from (h21.1 167 (fun hZq => hZq)).symm.trans ((hf.1 167 (by first | exact id | decide | omega)).trans hTZq), show 15 * (x5Zq : Int32).toInt + (x15 : Int32).toInt = 16 * (x5Zq : Int32).toInt + ((x15 : Int32).toInt - (x5Zq : Int32).toInt - 1 + 1) by omega]
              have J51 : ∀  (M23 : li_M), li_fr (fun i => i = 168 ∨ i = 169 ∨ i = 170) M0 M23 → (x5Zq : Int32).toInt + 1 ≤ (x15 : Int32).toInt ∧ (x15 : Int32).toInt ≤ p1Zq.toInt → li_fq (M23.1 168) (T) (p1Zq.toInt) (15) ((x5Zq : Int32).toInt + 1) → li_fn (M23.1 168) (T) (15) ((x5Zq : Int32).toInt) ((x15 : Int32).toInt - (x5Zq : Int32).toInt - 1 + 1) → li_T l Z YX10_shorten d 51 [(3, .int x15), (2, .int x5Zq), (0, .ref (Z.2.2 163)), (1, .int p1Zq)] [] M23 (fun r M' => (∃ x : Int32, r = some (.int x) ∧ (x = M'.1 168 0 ∧ li_fq (M'.1 168) T (p1Zq.toInt) 15 0)) ∧ li_fr (fun i => i = 168 ∨ i = 169 ∨ i = 170) M0 M') := by
                intro  M23 hf hiZq Pfq_M23 Pfn_M23
                obtain ⟨x24, ex24⟩ : ∃ y : Int32, y = x15 + 1 := ⟨_, rfl⟩
                have tx24 : (-2147483648 ≤ x15.toInt + 1 ∧ x15.toInt + 1 ≤ 2147483647) → x24.toInt = x15.toInt + 1 := tl_add ex24
                refine li_iinc 0 [(3, .int x24), (2, .int x5Zq), (0, .ref (Z.2.2 163)), (1, .int p1Zq)] x24 dX10_shorten_51 rfl (by rw [ex24]; rfl) (by decide) rfl ?_
                refine li_goto 31 dX10_shorten_54 (by decide) ?_
                refine li_pick [0, 1, 2, 3] [(3, .int x24), (2, .int x5Zq), (0, .ref (Z.2.2 163)), (1, .int p1Zq)] rfl ?_
                exact ih31 x24 M23 (by omega) hf (by omega) (by first | exact li_fq_tr rfl rfl rfl rfl (Int.le_antisymm (by omega) (by omega)) Pfq_M23 | exact li_fq_nx Pfq_M23 Pfn_M23 (by omega) (by omega) (Int.le_antisymm (by omega) (by omega)) (Int.le_antisymm (by omega) (by omega))) (by first | exact li_fn_tr rfl rfl rfl rfl (Int.le_antisymm (by omega) (by omega)) Pfn_M23 | exact li_fn_no Pfn_M23 (by omega) (by omega) mk1 (by omega) (Int.le_antisymm (by omega) (by omega)))
              refine li_if_eq 51 dX10_shorten_42 (by decide) (fun c22 => ?_) (fun c22 => ?_)
              · have tc22 : x19.toInt = 0 := tl_eq c22
                refine li_pick [0, 1, 2, 3] [(3, .int x15), (2, .int x5Zq), (0, .ref (Z.2.2 163)), (1, .int p1Zq)] rfl ?_
                exact J51  M20 hf (by omega) (by first | exact li_fq_tr rfl rfl rfl rfl (Int.le_antisymm (by omega) (by omega)) Pfq_M20 | exact li_fq_nx Pfq_M20 Pfn_M20 (by omega) (by omega) (Int.le_antisymm (by omega) (by omega)) (Int.le_antisymm (by omega) (by omega))) (by first | exact li_fn_tr rfl rfl rfl rfl (Int.le_antisymm (by omega) (by omega)) Pfn_M20 | exact li_fn_no Pfn_M20 (by omega) (by omega) mk1 (by omega) (Int.le_antisymm (by omega) (by omega)))
              · have tc22 : ¬ x19.toInt = 0 := tl_ne c22
                refine li_aload_n 2 dX10_shorten_45 rfl ?_
                refine li_iload_n 1 dX10_shorten_46 rfl ?_
                refine li_iload_n 0 dX10_shorten_47 rfl ?_
                refine li_callV (n := 2) (As := [.int x5Zq, .int x15]) dX10_shorten_48 (k14_X10_tryFirst (d - 1) (by omega) x5Zq x15 M20 ⟨by omega, by omega⟩ ⟨by omega, by omega⟩ (M20.1 168) rfl (Pfq_M20 (x15 : Int32).toInt.toNat (by omega) (by omega)).2) (by omega) (Nat.le_of_ble_eq_true rfl) w_1143 w_1145 w_30 w_108 w_1146 (by decide +kernel) rfl (by decide) sh_163 rfl rfl (Nat.le_of_ble_eq_true rfl) (fun r M26 h27 => ?_)
                obtain ⟨rfl, h27, nM26⟩ := h27
                have hf := li_fr_trans hf h27 (fun i (hZq : i = 168 ∨ i = 169 ∨ i = 170) => (show i = 168 ∨ i = 169 ∨ i = 170 by omega))
                have Pfn_M26 : li_fn (M26.1 168) (T) (15) ((x5Zq : Int32).toInt) (((x15 : Int32).toInt - (x5Zq : Int32).toInt - 1) + 1) := li_fn_st Pfn_M20 Pfq_M20 (by omega) (by omega) (by omega) mk1 (by omega) nM26.1 (by rw [show (x5Zq : Int32).toInt + (((x15 : Int32).toInt - (x5Zq : Int32).toInt - 1) + 1) = (x15 : Int32).toInt from Int.le_antisymm (by omega) (by omega)]; exact nM26.2) rfl
                have Pfq_M26 : li_fq (M26.1 168) (T) (p1Zq.toInt) (15) ((x5Zq : Int32).toInt + 1) := li_fq_up Pfq_M20 (f := (x5Zq : Int32).toInt) (by omega) (by omega) nM26.1
                refine li_pick [0, 1, 2, 3] [(3, .int x15), (2, .int x5Zq), (0, .ref (Z.2.2 163)), (1, .int p1Zq)] rfl ?_
                exact J51  M26 hf (by omega) (by first | exact li_fq_tr rfl rfl rfl rfl (Int.le_antisymm (by omega) (by omega)) Pfq_M26 | exact li_fq_nx Pfq_M26 Pfn_M26 (by omega) (by omega) (Int.le_antisymm (by omega) (by omega)) (Int.le_antisymm (by omega) (by omega))) (by first | exact li_fn_tr rfl rfl rfl rfl (Int.le_antisymm (by omega) (by omega)) Pfn_M26 | exact li_fn_no Pfn_M26 (by omega) (by omega) mk1 (by omega) (Int.le_antisymm (by omega) (by omega)))
        exact L31 _ x14 M12 (Nat.lt_succ_self _) hf (by omega) (by first | exact li_fq_tr rfl rfl rfl rfl (Int.le_antisymm (by omega) (by omega)) Pfq_M12 | exact li_fq_nx Pfq_M12 Pfn_M12 (by omega) (by omega) (Int.le_antisymm (by omega) (by omega)) (Int.le_antisymm (by omega) (by omega))) (by first | exact li_fn_tr rfl rfl rfl rfl (Int.le_antisymm (by omega) (by omega)) Pfn_M12 | exact li_fn_no Pfn_M12 (by omega) (by omega) mk1 (by omega) (Int.le_antisymm (by omega) (by omega)))
  exact L13 _ x4Zq M2Zq (Nat.lt_succ_self _) hf (by omega) (by first | exact li_fq_tr rfl rfl rfl rfl (Int.le_antisymm (by omega) (by omega)) Pfq_M2 | exact li_fq_nx Pfq_M2 Pfn_M2 (by omega) (by omega) (Int.le_antisymm (by omega) (by omega)) (Int.le_antisymm (by omega) (by omega)))

set_option maxRecDepth 100000 in
set_option maxHeartbeats 4000000 in
theorem k14_X11_shorter {l : Launch} {Z : li_Z} (d : Nat) (hdZq : 6 ≤ d) (M0 : li_M) (h1 : 0 ≤ (M0.1 1 1).toInt ∧ (M0.1 1 1).toInt ≤ 80) (Psg_M0 : li_sg (M0.1 2)) (Q : Int) (Plq_M0 : li_lq (M0.1 2) ((M0.1 1 1).toInt) (80) (0) (Q)) (h2 : Nat → Int32) (hh2 : M0.1 2 = h2) (LNZq : Int) (hLN : (M0.1 1 1).toInt = LNZq) (GZq : Nat → Int32) (hG : M0.1 164 = GZq) (m : Int) (hmZq : m = (M0.1 163 7).toInt) (hmr : 0 ≤ m ∧ m ≤ 10) (hGr : ∀ i : Nat, (i : Int) < 3 * m → 0 ≤ (GZq i).toInt ∧ (GZq i).toInt ≤ 6) : li_Met l Z YX11_shorter d [.ref (Z.2.2 0)] M0 (fun r M' => (∃ x : Int32, r = some (.int x) ∧ (((((M0.1 1 1).toInt = 0 ∧ x.toInt = -1) ∨ (0 < (M0.1 1 1).toInt ∧ Q < (M0.1 1 1).toInt ∧ Q ≤ 14 ∧ x.toInt = -1 - Q) ∨ (0 < (M0.1 1 1).toInt ∧ Q < (M0.1 1 1).toInt ∧ 14 < Q ∧ x.toInt = -15) ∨ (0 < (M0.1 1 1).toInt ∧ Q = (M0.1 1 1).toInt ∧ 14 < (M0.1 1 1).toInt ∧ x.toInt = -15)) ∧ x.toInt < 0 ∧ (M'.1 1 1).toInt = 0) ∨ (0 < (M0.1 1 1).toInt ∧ Q = (M0.1 1 1).toInt ∧ (M0.1 1 1).toInt ≤ 14 ∧ (M'.1 1 1).toInt = 0 ∧ ∃ T X FZq : Nat → Int32, x = FZq 0 ∧ li_fq FZq T ((M0.1 1 1).toInt) 15 0 ∧ li_cy T GZq X m ((M0.1 1 1).toInt) ((M0.1 1 1).toInt + 1) 0 ∧ li_wx X h2 LNZq ((M0.1 1 1).toInt)))) ∧ li_fr (fun i => i = 1 ∨ i = 166 ∨ i = 167 ∨ i = 168 ∨ i = 169 ∨ i = 170 ∨ i = 3 ∨ i = 4) M0 M') := by
  refine li_enter (by decide +kernel) (Nat.le_of_ble_eq_true rfl) ?_
  show li_T l Z YX11_shorter d 0 [(0, .ref (Z.2.2 0))] [] M0 _
  have hf : li_fr (fun i => i = 1 ∨ i = 166 ∨ i = 167 ∨ i = 168 ∨ i = 169 ∨ i = 170 ∨ i = 3 ∨ i = 4) M0 M0 := li_fr_refl
  refine li_aload_n 0 dX11_shorter_0 rfl ?_
  refine li_iconst 5 dX11_shorter_1 (by decide) ?_
  refine li_bipush 14 dX11_shorter_2 (by decide) ?_
  refine li_bipush 14 dX11_shorter_4 (by decide) ?_
  refine li_callV (n := 3) (As := [.int 5, .int 14, .int 14]) dX11_shorter_6 (k13_X11_readText (d - 1) (by omega) 5 14 14 M0 (by omega) Psg_M0 ⟨rfl, rfl⟩ Q Plq_M0 h2 hh2 LNZq hLN) (by omega) (Nat.le_of_ble_eq_true rfl) w_536 w_538 w_0 w_101 w_539 (by decide +kernel) rfl (by decide) sh_0 rfl rfl (Nat.le_of_ble_eq_true rfl) (fun r M2Zq h3 => ?_)
  have z5 : (5 : Int32).toInt = 5 := rfl
  have z14Zq : (14 : Int32).toInt = 14 := rfl
  have z14Zq : (14 : Int32).toInt = 14 := rfl
  obtain ⟨⟨x1Zq, rfl, qx1⟩, h3⟩ := h3
  have gx1 := tl_rg x1Zq
  have hf := li_fr_trans hf h3 (fun i (hZq : i = 1 ∨ i = 166) => (show i = 1 ∨ i = 166 ∨ i = 167 ∨ i = 168 ∨ i = 169 ∨ i = 170 ∨ i = 3 ∨ i = 4 by omega))
  have mM2_163_7 : (M2Zq.1 163 7).toInt = (M0.1 163 7).toInt := by rw [h3.1 163 (show ¬ (163 = 1 ∨ 163 = 166) by omega)]
  have qw := qx1.2
  have qc := qx1.1.2
  have qa := qx1.1.1
  clear qx1
  have qge := li_lq_ge Plq_M0
  have qi : ∀ i : Nat, (i : Int) < x1Zq.toInt → 0 ≤ (M2Zq.1 166 i).toInt ∧ (M2Zq.1 166 i).toInt ≤ 6 := fun i hiZq => (qw i hiZq (by omega)).2
  refine li_istore_n [(1, .int x1Zq), (0, .ref (Z.2.2 0))] dX11_shorter_9 (by decide) rfl ?_
  refine li_iload_n 0 dX11_shorter_10 rfl ?_
  refine li_if_ge 16 dX11_shorter_11 (by decide) (fun c4 => ?_) (fun c4 => ?_)
  · have tc4 : 0 ≤ x1Zq.toInt := tl_le c4
    have z0 : (0 : Int32).toInt = 0 := rfl
    have qb := qa.resolve_left (fun h9 => by omega)
    clear qa
    refine li_aload_n 1 dX11_shorter_16 rfl ?_
    refine li_getr (k := 10) (N := 13) (T := TX11) (C0 := RX11) dX11_shorter_17 (by decide) sh_0 rfl rfl (by decide) (by decide) li_in11 w_483 ?_
    refine li_iload_n 0 dX11_shorter_20 rfl ?_
    refine li_callV (n := 1) (As := [.int x1Zq]) dX11_shorter_21 (k13_X10_fillMasks (d - 1) (by omega) x1Zq M2Zq ⟨by omega, by omega⟩ GZq (M2Zq.1 166) ((hf.1 164 (by first | decide | omega)).trans hG) rfl m (Int.le_antisymm (by omega) (by omega)) hmr hGr) (by omega) (Nat.le_of_ble_eq_true rfl) w_1125 w_1126 w_1127 w_108 w_1128 (by decide +kernel) rfl (by decide) sh_163 rfl rfl (Nat.le_of_ble_eq_true rfl) (fun r M6Zq h7 => ?_)
    obtain ⟨rfl, h7, nM6⟩ := h7
    have hf := li_fr_trans hf h7 (fun i (hZq : i = 167) => (show i = 1 ∨ i = 166 ∨ i = 167 ∨ i = 168 ∨ i = 169 ∨ i = 170 ∨ i = 3 ∨ i = 4 by omega))
    have mM6_1_1 : (M6Zq.1 1 1).toInt = (M2Zq.1 1 1).toInt := by rw [h7.1 1 (show ¬ (1 = 167) by omega)]
    have mM6_163_7 : (M6Zq.1 163 7).toInt = (M2Zq.1 163 7).toInt := by rw [h7.1 163 (show ¬ (163 = 167) by omega)]
    have cyT := nM6
    refine li_aload_n 1 dX11_shorter_24 rfl ?_
    refine li_getr (k := 10) (N := 13) (T := TX11) (C0 := RX11) dX11_shorter_25 (by decide) sh_0 rfl rfl (by decide) (by decide) li_in11 w_483 ?_
    refine li_iload_n 0 dX11_shorter_28 rfl ?_
    refine li_callV (n := 1) (As := [.int x1Zq]) dX11_shorter_29 (k14_X10_shorten (d - 1) (by omega) x1Zq M6Zq ⟨by omega, by omega⟩ (M6Zq.1 167) rfl) (by omega) (Nat.le_of_ble_eq_true rfl) w_1139 w_1140 w_1141 w_108 w_1142 (by decide +kernel) rfl (by decide) sh_163 rfl rfl (Nat.le_of_ble_eq_true rfl) (fun r M9Zq h10 => ?_)
    obtain ⟨⟨x8, rfl, qx8⟩, h10⟩ := h10
    have gx8 := tl_rg x8
    have hf := li_fr_trans hf h10 (fun i (hZq : i = 168 ∨ i = 169 ∨ i = 170) => (show i = 1 ∨ i = 166 ∨ i = 167 ∨ i = 168 ∨ i = 169 ∨ i = 170 ∨ i = 3 ∨ i = 4 by omega))
    have mM9_1_1 : (M9Zq.1 1 1).toInt = (M6Zq.1 1 1).toInt := by rw [h10.1 1 (show ¬ (1 = 168 ∨ 1 = 169 ∨ 1 = 170) by omega)]
    have mM9_163_7 : (M9Zq.1 163 7).toInt = (M6Zq.1 163 7).toInt := by rw [h10.1 163 (show ¬ (163 = 168 ∨ 163 = 169 ∨ 163 = 170) by omega)]
    have shq : ∃ T X FZq : Nat → Int32, x8 = FZq 0 ∧ li_fq FZq T ((M0.1 1 1).toInt) 15 0 ∧ li_cy T GZq X m ((M0.1 1 1).toInt) ((M0.1 1 1).toInt + 1) 0 ∧ li_wx X h2 LNZq ((M0.1 1 1).toInt) := ⟨M6Zq.1 167, M2Zq.1 166, M9Zq.1 168, qx8.1, li_fq_tr rfl rfl (Int.le_antisymm (by omega) (by omega)) rfl rfl qx8.2, li_cy_tr rfl rfl rfl rfl (Int.le_antisymm (by omega) (by omega)) (Int.le_antisymm (by omega) (by omega)) rfl cyT, li_wx_tr rfl rfl rfl (by omega) qw⟩
    clear qx8
    refine li_istore_n [(2, .int x8), (1, .int x1Zq), (0, .ref (Z.2.2 0))] dX11_shorter_32 (by decide) rfl ?_
    refine li_aload_n 2 dX11_shorter_33 rfl ?_
    refine li_getr (k := 1) (N := 13) (T := TX11) (C0 := RX11) dX11_shorter_34 (by decide) sh_0 rfl rfl (by decide) (by decide) li_in11 w_474 ?_
    refine li_aload_n 2 dX11_shorter_37 rfl ?_
    refine li_getr (k := 10) (N := 13) (T := TX11) (C0 := RX11) dX11_shorter_38 (by decide) sh_0 rfl rfl (by decide) (by decide) li_in11 w_483 ?_
    refine li_getr (k := 5) (N := 8) (T := TX10) (C0 := RX10) dX11_shorter_41 (by decide) sh_163 rfl rfl (by decide) (by decide) li_in10 w_341 ?_
    refine li_iconst 0 dX11_shorter_44 (by decide) ?_
    refine li_iload_n 0 dX11_shorter_45 rfl ?_
    refine li_callV (n := 3) (As := [.ref (Z.2.2 169), .int 0, .int x8]) dX11_shorter_46 (k_X5_tellAll (d - 1) (by omega) (by decide) sh_169 (by decide) 0 x8 M9Zq) (by omega) (Nat.le_of_ble_eq_true rfl) w_1080 w_1081 w_1082 w_103 w_1083 (by decide +kernel) rfl (by decide) sh_3 rfl rfl (Nat.le_of_ble_eq_true rfl) (fun r M12 h13 => ?_)
    obtain ⟨rfl, h13⟩ := h13
    have hf := li_fr_trans hf h13 (fun i (hZq : i = 3 ∨ i = 4) => (show i = 1 ∨ i = 166 ∨ i = 167 ∨ i = 168 ∨ i = 169 ∨ i = 170 ∨ i = 3 ∨ i = 4 by omega))
    have mM12_1_1 : (M12.1 1 1).toInt = (M9Zq.1 1 1).toInt := by rw [h13.1 1 (show ¬ (1 = 3 ∨ 1 = 4) by omega)]
    have mM12_163_7 : (M12.1 163 7).toInt = (M9Zq.1 163 7).toInt := by rw [h13.1 163 (show ¬ (163 = 3 ∨ 163 = 4) by omega)]
    refine li_iload_n 0 dX11_shorter_49 rfl ?_
    exact li_iret dX11_shorter_50 rfl rfl ⟨⟨_, rfl, (by first | exact Or.inr ⟨qb.1, qb.2.1, qb.2.2.1, by omega, shq⟩ | exact Or.inl ⟨qa.resolve_right (fun h9 => by omega), by omega, by omega⟩)⟩, hf⟩
  · have tc4 : x1Zq.toInt < 0 := tl_nle c4
    have z0 : (0 : Int32).toInt = 0 := rfl
    refine li_iload_n 0 dX11_shorter_14 rfl ?_
    exact li_iret dX11_shorter_15 rfl rfl ⟨⟨_, rfl, (by first | exact Or.inr ⟨qb.1, qb.2.1, qb.2.2.1, by omega, shq⟩ | exact Or.inl ⟨qa.resolve_right (fun h9 => by omega), by omega, by omega⟩)⟩, hf⟩
