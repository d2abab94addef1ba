/-- what is read of a row of bytes -/
abbrev li_by (h : Nat → Int32) : Nat → Int32 := fun i => h i &&& 255
theorem hr_rd {M : li_M} (hq : M.2.2 0 = some 180) (h0 : 0 ≤ (M.1 175 14).toInt) : (li_hr M).toInt = rd_ch (li_by (M.1 180)) (min (M.1 175 12).toInt (M.1 175 13).toInt) (M.1 175 14).toInt := by
  have h9 := li_cl (i := M.1 175 14) h0
  have hc : li_rc M = 180 := by unfold li_rc; rw [hq]; rfl
  have z : (-1 : Int32).toInt = -1 := rfl
  unfold li_hr rd_ch
  by_cases c : M.1 175 14 < M.1 175 12 ∧ M.1 175 14 < M.1 175 13
  · have c1 := Int32.lt_iff_toInt_lt.mp c.1
    have c2 := Int32.lt_iff_toInt_lt.mp c.2
    rw [if_pos c, if_pos (by omega), hc, show (M.1 175 14).toInt.toNat = (M.1 175 14).toNatClampNeg by omega]
  · rw [if_neg c, if_neg ?_, z]
    intro q
    exact c ⟨Int32.lt_iff_toInt_lt.mpr (by omega), Int32.lt_iff_toInt_lt.mpr (by omega)⟩
theorem hr_pt {N : li_M} {g : Nat → Int32} {e p : Int} (b : N.2.2 0 = some 180) (h0 : 0 ≤ (N.1 175 14).toInt) (hc : N.1 180 = g) (he : min (N.1 175 12).toInt (N.1 175 13).toInt = e) (hp : (N.1 175 14).toInt = p) : (li_hr N).toInt = rd_ch (li_by g) e p := by
  subst hc; subst he; subst hp; exact hr_rd b h0
theorem fs_180 {E : Nat → Nat → Prop} {M0 M N : li_M} (h1 : li_fs E M0 M) (h2 : li_fs E M0 N) (hE : ∀ i, ¬ E 180 i) : N.1 180 = M.1 180 := funext fun i => (h2.1 180 i (hE i)).trans (h1.1 180 i (hE i)).symm
abbrev li_mq (g : Nat → Int32) (e k v p r q : Int) : Prop := li_nq (li_by g) e k v p r q
theorem li_mq_tr {g g' : Nat → Int32} {e e' k k' v v' p p' r r' q q' : Int} (hg : g' = g) (h1 : e' = e) (h2 : k' = k) (h3 : v' = v) (h4 : p' = p) (h5 : r' = r) (h6 : q' = q) (h : li_mq g e k v p r q) : li_mq g' e' k' v' p' r' q' := li_nq_tr (congrArg li_by hg) h1 h2 h3 h4 h5 h6 h
theorem li_mq_no {g : Nat → Int32} {e k v p r q H : Int} (h : li_mq g e k v p r q) (hc : H = rd_ch (li_by g) e p) : ¬ (48 ≤ H ∧ H ≤ 57) → v = r ∧ p = q := fun hd => li_nq_no h (by rw [← hc]; exact hd)
def li_ng (g : Nat → Int32) (e k v p r q w : Int) : Prop := w = -1 → li_mq g e k v p r q
theorem li_ng_tr {g g' : Nat → Int32} {e e' k k' v v' p p' r r' q q' w w' : Int} (hg : g' = g) (h1 : e' = e) (h2 : k' = k) (h3 : v' = v) (h4 : p' = p) (h5 : r' = r) (h6 : q' = q) (h7 : w' = w) (h : li_ng g e k v p r q w) : li_ng g' e' k' v' p' r' q' w' := fun hw => li_mq_tr hg h1 h2 h3 h4 h5 h6 (h (h7.symm.trans hw))
theorem li_ng_st {g g' : Nat → Int32} {e e' k v p r q H k' v' p' w : Int} (hg : g' = g) (he : e' = e) (h : li_mq g e k v p r q) (hc : H = rd_ch (li_by g) e p) (hk : 0 < k) (hk' : k' = k - 1) (hw : w = -1 → 48 ≤ H ∧ H ≤ 57 ∧ v' = max v 0 * 10 + (H - 48) ∧ p' = p + 1) : li_ng g' e' k' v' p' r q w := by
  subst hg; subst he
  intro w1
  obtain ⟨a, b, c, d⟩ := hw w1
  exact li_nq_st h hk ⟨by rw [← hc]; exact a, by rw [← hc]; exact b⟩ hk' (by rw [← hc]; exact c) d
theorem li_ng_z {g : Nat → Int32} {e k v p r q w : Int} (h : li_ng g e k v p r q w) : k ≤ 0 → w = -1 → v = r ∧ p = q := fun hk hw => li_nq_z (h hw) hk
theorem li_ng_no {g : Nat → Int32} {e k v p r q w H : Int} (h : li_ng g e k v p r q w) (hc : H = rd_ch (li_by g) e p) : w = -1 → ¬ (48 ≤ H ∧ H ≤ 57) → v = r ∧ p = q := fun hw => li_mq_no (h hw) hc

set_option maxRecDepth 100000 in
set_option maxHeartbeats 4000000 in
theorem k5_X12_number {l : Launch} {Z : li_Z} (d : Nat) (hd : 4 ≤ d) (p1 : Int32) (M0 : li_M) (hJ : li_J M0) (h1 : 1 ≤ p1.toInt ∧ p1.toInt ≤ 3) (bM0 : M0.2.2 0 = some 180) (R Q : Int) (Pmq_M0 : li_mq (M0.1 180) (min (M0.1 175 12).toInt (M0.1 175 13).toInt) (p1.toInt) (-1) ((M0.1 175 14).toInt) (R) (Q)) : li_Met l Z YX12_number d [.ref (Z.2.2 175), .int p1] M0 (fun r M' => (∃ x : Int32, r = some (.int x) ∧ (((M0.1 175 15).toInt = -1 → (R < 0 → x.toInt = 0 ∧ (M'.1 175 14).toInt = (M0.1 175 14).toInt ∧ (M'.1 175 15).toInt = (M0.1 175 14).toInt ∧ Q = (M0.1 175 14).toInt ∧ R = -1) ∧ (0 ≤ R → x.toInt = R ∧ (M'.1 175 14).toInt = Q ∧ (M'.1 175 15).toInt = -1)) ∧ (¬ (M0.1 175 15).toInt = -1 → x.toInt = 0 ∧ (M'.1 175 14).toInt = (M0.1 175 14).toInt ∧ (M'.1 175 15).toInt = (M0.1 175 15).toInt) ∧ (M0.1 175 14).toInt ≤ (M'.1 175 14).toInt ∧ ((M0.1 175 14).toInt ≤ (min (M0.1 175 12).toInt (M0.1 175 13).toInt) → (M'.1 175 14).toInt ≤ (min (M0.1 175 12).toInt (M0.1 175 13).toInt)))) ∧ li_fs (fun i k => (i = 175 ∧ k = 14) ∨ (i = 175 ∧ k = 15)) M0 M' ∧ li_J M') := by
  refine li_enter (by decide +kernel) (Nat.le_of_ble_eq_true rfl) ?_
  show li_T l Z YX12_number d 0 [(0, .ref (Z.2.2 175)), (1, .int p1)] [] M0 _
  have hf : li_fs (fun i k => (i = 175 ∧ k = 14) ∨ (i = 175 ∧ k = 15)) M0 M0 := li_fs_refl
  have gp1 := tl_rg p1
  have rM0_12 := J_sl12 (M := M0) hJ
  have rM0_13 := J_sl13 (M := M0) hJ
  have rM0_14 := J_sl14 (M := M0) hJ
  have rM0_15 := J_sl15 (M := M0) hJ
  refine li_aload_n 0 dX12_number_0 rfl ?_
  refine li_bipush 48 dX12_number_1 (by decide) ?_
  refine li_bipush 10 dX12_number_3 (by decide) ?_
  refine li_iconst (-1) dX12_number_5 (by decide) ?_
  have z48 : (48 : Int32).toInt = 48 := rfl
  have z10 : (10 : Int32).toInt = 10 := rfl
  have zm1 : ((-1) : Int32).toInt = -1 := rfl
  refine li_callV (n := 3) (As := [.int 48, .int 10, .int (-1)]) dX12_number_6 (k_X12_oneOf (d - 1) (by omega) 48 10 (-1) M0 hJ (by omega) (by omega)) (by omega) (Nat.le_of_ble_eq_true rfl) w_1593 w_1595 w_46 w_112 w_1596 (by decide +kernel) rfl (by decide) sh_175 rfl rfl (Nat.le_of_ble_eq_true rfl) (fun r M2 h3 => ?_)
  obtain ⟨⟨x1, rfl, qx1⟩, h3, jM2⟩ := h3
  have gx1 := tl_rg x1
  have hf := li_fs_trans hf h3 (fun i k => fun h => Or.elim h (fun h => Or.inl h) (fun h => Or.inr h))
  have hJ := jM2
  have rM2_12 := J_sl12 (M := M2) hJ
  have rM2_13 := J_sl13 (M := M2) hJ
  have rM2_14 := J_sl14 (M := M2) hJ
  have rM2_15 := J_sl15 (M := M2) hJ
  have mM2_12 : (M2.1 175 12).toInt = (M0.1 175 12).toInt := tl_slot (h3.1 175 12 (show ¬ ((175 = 175 ∧ 12 = 14) ∨ (175 = 175 ∧ 12 = 15)) by decide))
  have mM2_13 : (M2.1 175 13).toInt = (M0.1 175 13).toInt := tl_slot (h3.1 175 13 (show ¬ ((175 = 175 ∧ 13 = 14) ∨ (175 = 175 ∧ 13 = 15)) by decide))
  have bM2 : M2.2.2 0 = some 180 := (h3.2.2 0 (fun h9 => by first | exact (h9 : False).elim | omega)).trans bM0
  have crd : (li_hr M0).toInt = rd_ch (li_by (M0.1 180)) (min (M0.1 175 12).toInt (M0.1 175 13).toInt) ((M0.1 175 14).toInt) := hr_rd bM0 (by omega)
  have zz0 := li_mq_no Pmq_M0 crd
  have Png_M2 : li_ng (M2.1 180) (min (M2.1 175 12).toInt (M2.1 175 13).toInt) (p1.toInt - 1) (x1.toInt) ((M2.1 175 14).toInt) (R) (Q) ((M2.1 175 15).toInt) := li_ng_st (funext fun i => h3.1 180 i (show ¬ ((180 = 175 ∧ i = 14) ∨ (180 = 175 ∧ i = 15)) by omega)) (by omega) Pmq_M0 crd (by omega) (by omega) (fun h9 => by refine ⟨?_, ?_, ?_, ?_⟩ <;> omega)
  refine li_istore_n [(2, .int x1), (0, .ref (Z.2.2 175)), (1, .int p1)] dX12_number_9 (by decide) rfl ?_
  refine li_iconst 1 dX12_number_10 (by decide) ?_
  refine li_istore_n [(3, .int 1), (2, .int x1), (0, .ref (Z.2.2 175)), (1, .int p1)] dX12_number_11 (by decide) rfl ?_
  have L12 : ∀ (n : Nat) (x4 : Int32) (x5 : Int32) (M6 : li_M), (p1.toInt - (x4 : Int32).toInt).toNat < n → li_fs (fun i k => (i = 175 ∧ k = 14) ∨ (i = 175 ∧ k = 15)) M0 M6 → li_J M6 → 1 ≤ (x4 : Int32).toInt ∧ (x4 : Int32).toInt ≤ p1.toInt ∧ 0 ≤ (x5 : Int32).toInt ∧ ((x4 : Int32).toInt ≤ 1 → (x5 : Int32).toInt ≤ 9) ∧ ((x4 : Int32).toInt ≤ 2 → (x5 : Int32).toInt ≤ 99) ∧ (x5 : Int32).toInt ≤ 999 ∧ ((M6.1 175 15).toInt = -1 → (M0.1 175 15).toInt = -1) ∧ (¬ (M6.1 175 15).toInt = -1 → (x5 : Int32).toInt = 0 ∧ (M6.1 175 14).toInt = (M0.1 175 14).toInt ∧ (((M0.1 175 15).toInt = -1 ∧ (M6.1 175 15).toInt = (M0.1 175 14).toInt ∧ R = -1 ∧ Q = (M0.1 175 14).toInt) ∨ (¬ (M0.1 175 15).toInt = -1 ∧ (M6.1 175 15).toInt = (M0.1 175 15).toInt))) ∧ (M0.1 175 14).toInt ≤ (M6.1 175 14).toInt ∧ ((M0.1 175 14).toInt ≤ (min (M0.1 175 12).toInt (M0.1 175 13).toInt) → (M6.1 175 14).toInt ≤ (min (M0.1 175 12).toInt (M0.1 175 13).toInt)) → li_ng (M6.1 180) (min (M6.1 175 12).toInt (M6.1 175 13).toInt) (p1.toInt - (x4 : Int32).toInt) ((x5 : Int32).toInt) ((M6.1 175 14).toInt) (R) (Q) ((M6.1 175 15).toInt) → M6.2.2 0 = some 180 → li_T l Z YX12_number d 12 [(3, .int x4), (2, .int x5), (0, .ref (Z.2.2 175)), (1, .int p1)] [] M6 (fun r M' => (∃ x : Int32, r = some (.int x) ∧ (((M0.1 175 15).toInt = -1 → (R < 0 → x.toInt = 0 ∧ (M'.1 175 14).toInt = (M0.1 175 14).toInt ∧ (M'.1 175 15).toInt = (M0.1 175 14).toInt ∧ Q = (M0.1 175 14).toInt ∧ R = -1) ∧ (0 ≤ R → x.toInt = R ∧ (M'.1 175 14).toInt = Q ∧ (M'.1 175 15).toInt = -1)) ∧ (¬ (M0.1 175 15).toInt = -1 → x.toInt = 0 ∧ (M'.1 175 14).toInt = (M0.1 175 14).toInt ∧ (M'.1 175 15).toInt = (M0.1 175 15).toInt) ∧ (M0.1 175 14).toInt ≤ (M'.1 175 14).toInt ∧ ((M0.1 175 14).toInt ≤ (min (M0.1 175 12).toInt (M0.1 175 13).toInt) → (M'.1 175 14).toInt ≤ (min (M0.1 175 12).toInt (M0.1 175 13).toInt)))) ∧ li_fs (fun i k => (i = 175 ∧ k = 14) ∨ (i = 175 ∧ k = 15)) M0 M' ∧ li_J M') := by
    intro n
    induction n with
    | zero => intro x4 x5 M6 hn; exact absurd hn (Nat.not_lt_zero _)
    | succ n ih12 =>
      intro x4 x5 M6 hn hf hJ hi Png_M6 bM6
      have gx4 := tl_rg x4
      have gx5 := tl_rg x5
      have rM6_12 := J_sl12 (M := M6) hJ
      have rM6_13 := J_sl13 (M := M6) hJ
      have rM6_14 := J_sl14 (M := M6) hJ
      have rM6_15 := J_sl15 (M := M6) hJ
      have mM6_12 : (M6.1 175 12).toInt = (M0.1 175 12).toInt := tl_slot (hf.1 175 12 (show ¬ ((175 = 175 ∧ 12 = 14) ∨ (175 = 175 ∧ 12 = 15)) by decide))
      have mM6_13 : (M6.1 175 13).toInt = (M0.1 175 13).toInt := tl_slot (hf.1 175 13 (show ¬ ((175 = 175 ∧ 13 = 14) ∨ (175 = 175 ∧ 13 = 15)) by decide))
      refine li_iload_n 0 dX12_number_12 rfl ?_
      refine li_iload_n 3 dX12_number_13 rfl ?_
      refine li_icmp_ge 59 dX12_number_14 (by decide) (fun c7 => ?_) (fun c7 => ?_)
      · have tc7 : p1.toInt ≤ x4.toInt := tl_le c7
        refine li_iload_n 1 dX12_number_59 rfl ?_
        exact li_iret dX12_number_60 rfl rfl ⟨⟨_, rfl, (by have z1 := li_ng_z Png_M6; have z2 := li_ng_no Png_M6 (hr_rd bM6 (by omega)); refine ⟨?_, ?_, ?_, ?_⟩ <;> (intros; omega))⟩, hf, hJ⟩
      · have tc7 : x4.toInt < p1.toInt := tl_nle c7
        refine li_aload_n 2 dX12_number_17 rfl ?_
        refine li_callV (n := 0) (As := []) dX12_number_18 (k_X12_fine (d - 1) (by omega)  M6 hJ ) (by omega) (Nat.le_of_ble_eq_true rfl) w_1581 w_1583 w_43 w_112 w_1584 (by decide +kernel) rfl (by decide) sh_175 rfl rfl (Nat.le_of_ble_eq_true rfl) (fun r M9 h10 => ?_)
        obtain ⟨qx8, h10, jM9⟩ := h10
        have hf := li_fs_trans hf h10 (fun i k h => False.elim h)
        have kM9 : (li_hr M9).toInt = (li_hr M6).toInt := li_hr_fs h10 id id id id (fun _ _ _ => id) (by assumption)
        have hJ := jM9
        have rM9_12 := J_sl12 (M := M9) hJ
        have rM9_13 := J_sl13 (M := M9) hJ
        have rM9_14 := J_sl14 (M := M9) hJ
        have rM9_15 := J_sl15 (M := M9) hJ
        have mM9_12 : (M9.1 175 12).toInt = (M6.1 175 12).toInt := tl_slot (h10.1 175 12 id)
        have mM9_13 : (M9.1 175 13).toInt = (M6.1 175 13).toInt := tl_slot (h10.1 175 13 id)
        have mM9_14 : (M9.1 175 14).toInt = (M6.1 175 14).toInt := tl_slot (h10.1 175 14 id)
        have mM9_15 : (M9.1 175 15).toInt = (M6.1 175 15).toInt := tl_slot (h10.1 175 15 id)
        have Png_M9 : li_ng (M9.1 180) (min (M9.1 175 12).toInt (M9.1 175 13).toInt) (p1.toInt - (x4 : Int32).toInt) ((x5 : Int32).toInt) ((M9.1 175 14).toInt) (R) (Q) ((M9.1 175 15).toInt) := li_ng_tr (funext fun i => h10.1 180 i id) (by omega) (by omega) (by omega) (by omega) (by omega) (by omega) (by omega) Png_M6
        have bM9 : M9.2.2 0 = some 180 := (h10.2.2 0 (fun h9 => by first | exact (h9 : False).elim | omega)).trans bM6
        rcases qx8 with ⟨rfl, qx8⟩ | ⟨rfl, qx8⟩
        · skip
          refine li_if_eq 59 dX12_number_21 (by decide) (fun c => absurd c (by decide)) (fun c => ?_)
          refine li_aload_n 2 dX12_number_24 rfl ?_
          refine li_callV (n := 0) (As := []) dX12_number_25 (k_X12_here (d - 1) (by omega)  M9 hJ ) (by omega) (Nat.le_of_ble_eq_true rfl) w_1597 w_1599 w_47 w_112 w_1600 (by decide +kernel) rfl (by decide) sh_175 rfl rfl (Nat.le_of_ble_eq_true rfl) (fun r M13 h14 => ?_)
          obtain ⟨⟨x12, rfl, qx12⟩, h14, jM13⟩ := h14
          have gx12 := tl_rg x12
          have hf := li_fs_trans hf h14 (fun i k h => False.elim h)
          have kM13 : (li_hr M13).toInt = (li_hr M9).toInt := li_hr_fs h14 id id id id (fun _ _ _ => id) (by assumption)
          have hJ := jM13
          have rM13_12 := J_sl12 (M := M13) hJ
          have rM13_13 := J_sl13 (M := M13) hJ
          have rM13_14 := J_sl14 (M := M13) hJ
          have rM13_15 := J_sl15 (M := M13) hJ
          have mM13_12 : (M13.1 175 12).toInt = (M9.1 175 12).toInt := tl_slot (h14.1 175 12 id)
          have mM13_13 : (M13.1 175 13).toInt = (M9.1 175 13).toInt := tl_slot (h14.1 175 13 id)
          have mM13_14 : (M13.1 175 14).toInt = (M9.1 175 14).toInt := tl_slot (h14.1 175 14 id)
          have mM13_15 : (M13.1 175 15).toInt = (M9.1 175 15).toInt := tl_slot (h14.1 175 15 id)
          have Png_M13 : li_ng (M13.1 180) (min (M13.1 175 12).toInt (M13.1 175 13).toInt) (p1.toInt - (x4 : Int32).toInt) ((x5 : Int32).toInt) ((M13.1 175 14).toInt) (R) (Q) ((M13.1 175 15).toInt) := li_ng_tr (funext fun i => h14.1 180 i id) (by omega) (by omega) (by omega) (by omega) (by omega) (by omega) (by omega) Png_M9
          have bM13 : M13.2.2 0 = some 180 := (h14.2.2 0 (fun h9 => by first | exact (h9 : False).elim | omega)).trans bM9
          refine li_bipush 48 dX12_number_28 (by decide) ?_
          refine li_bipush 57 dX12_number_30 (by decide) ?_
          have z48 : (48 : Int32).toInt = 48 := rfl
          have z57 : (57 : Int32).toInt = 57 := rfl
          refine li_callS (n := 3) (As := [.int x12, .int 48, .int 57]) dX12_number_32 (k_X12_in (d - 1) (by omega) x12 48 57 M13 hJ ) (by omega) (Nat.le_of_ble_eq_true rfl) w_1570 w_1571 w_112 w_1572 (by decide +kernel) rfl rfl (Nat.le_of_ble_eq_true rfl) (fun r M16 h17 => ?_)
          obtain ⟨qx15, h17, jM16⟩ := h17
          have hf := li_fs_trans hf h17 (fun i k h => False.elim h)
          have kM16 : (li_hr M16).toInt = (li_hr M13).toInt := li_hr_fs h17 id id id id (fun _ _ _ => id) (by assumption)
          have hJ := jM16
          have rM16_12 := J_sl12 (M := M16) hJ
          have rM16_13 := J_sl13 (M := M16) hJ
          have rM16_14 := J_sl14 (M := M16) hJ
          have rM16_15 := J_sl15 (M := M16) hJ
          have mM16_12 : (M16.1 175 12).toInt = (M13.1 175 12).toInt := tl_slot (h17.1 175 12 id)
          have mM16_13 : (M16.1 175 13).toInt = (M13.1 175 13).toInt := tl_slot (h17.1 175 13 id)
          have mM16_14 : (M16.1 175 14).toInt = (M13.1 175 14).toInt := tl_slot (h17.1 175 14 id)
          have mM16_15 : (M16.1 175 15).toInt = (M13.1 175 15).toInt := tl_slot (h17.1 175 15 id)
          have Png_M16 : li_ng (M16.1 180) (min (M16.1 175 12).toInt (M16.1 175 13).toInt) (p1.toInt - (x4 : Int32).toInt) ((x5 : Int32).toInt) ((M16.1 175 14).toInt) (R) (Q) ((M16.1 175 15).toInt) := li_ng_tr (funext fun i => h17.1 180 i id) (by omega) (by omega) (by omega) (by omega) (by omega) (by omega) (by omega) Png_M13
          have bM16 : M16.2.2 0 = some 180 := (h17.2.2 0 (fun h9 => by first | exact (h9 : False).elim | omega)).trans bM13
          rcases qx15 with ⟨rfl, qx15⟩ | ⟨rfl, qx15⟩
          · skip
            refine li_if_eq 59 dX12_number_35 (by decide) (fun c => absurd c (by decide)) (fun c => ?_)
            refine li_bipush 10 dX12_number_38 (by decide) ?_
            refine li_iload_n 1 dX12_number_40 rfl ?_
            refine li_imul dX12_number_41 ?_
            refine li_top (fun x19 ex19 => ?_)
            have z10 : (10 : Int32).toInt = 10 := rfl
            try (have tx19 : x19.toInt = 10 * (x5 : Int32).toInt := tl_mul ex19 (show -2147483648 ≤ 10 * (x5 : Int32).toInt ∧ 10 * (x5 : Int32).toInt ≤ 2147483647 by omega))
            refine li_aload_n 2 dX12_number_42 rfl ?_
            refine li_bipush 48 dX12_number_43 (by decide) ?_
            refine li_bipush 10 dX12_number_45 (by decide) ?_
            refine li_iconst (-1) dX12_number_47 (by decide) ?_
            have z48 : (48 : Int32).toInt = 48 := rfl
            have z10 : (10 : Int32).toInt = 10 := rfl
            have zm1 : ((-1) : Int32).toInt = -1 := rfl
            refine li_callV (n := 3) (As := [.int 48, .int 10, .int (-1)]) dX12_number_48 (k_X12_oneOf (d - 1) (by omega) 48 10 (-1) M16 hJ (by omega) (by omega)) (by omega) (Nat.le_of_ble_eq_true rfl) w_1593 w_1595 w_46 w_112 w_1596 (by decide +kernel) rfl (by decide) sh_175 rfl rfl (Nat.le_of_ble_eq_true rfl) (fun r M21 h22 => ?_)
            obtain ⟨⟨x20, rfl, qx20⟩, h22, jM21⟩ := h22
            have gx20 := tl_rg x20
            have hf := li_fs_trans hf h22 (fun i k => fun h => Or.elim h (fun h => Or.inl h) (fun h => Or.inr h))
            have hJ := jM21
            have rM21_12 := J_sl12 (M := M21) hJ
            have rM21_13 := J_sl13 (M := M21) hJ
            have rM21_14 := J_sl14 (M := M21) hJ
            have rM21_15 := J_sl15 (M := M21) hJ
            have mM21_12 : (M21.1 175 12).toInt = (M16.1 175 12).toInt := tl_slot (h22.1 175 12 (show ¬ ((175 = 175 ∧ 12 = 14) ∨ (175 = 175 ∧ 12 = 15)) by decide))
            have mM21_13 : (M21.1 175 13).toInt = (M16.1 175 13).toInt := tl_slot (h22.1 175 13 (show ¬ ((175 = 175 ∧ 13 = 14) ∨ (175 = 175 ∧ 13 = 15)) by decide))
            have bM21 : M21.2.2 0 = some 180 := (h22.2.2 0 (fun h9 => by first | exact (h9 : False).elim | omega)).trans bM16
            have crd : (li_hr M16).toInt = rd_ch (li_by (M16.1 180)) (min (M16.1 175 12).toInt (M16.1 175 13).toInt) ((M16.1 175 14).toInt) := hr_rd bM16 (by omega)
            have Png_M21 : li_ng (M21.1 180) (min (M21.1 175 12).toInt (M21.1 175 13).toInt) (p1.toInt - (x4 : Int32).toInt - 1) (10 * (x5 : Int32).toInt + x20.toInt) ((M21.1 175 14).toInt) (R) (Q) ((M21.1 175 15).toInt) := li_ng_st (funext fun i => h22.1 180 i (show ¬ ((180 = 175 ∧ i = 14) ∨ (180 = 175 ∧ i = 15)) by omega)) (by omega) (Png_M16 (by omega)) crd (by omega) (by omega) (fun h9 => by refine ⟨?_, ?_, ?_, ?_⟩ <;> omega)
            refine li_iadd dX12_number_51 ?_
            refine li_top (fun x23 ex23 => ?_)
            try (have tx23 : x23.toInt = (x19 : Int32).toInt + (x20 : Int32).toInt := tl_add ex23 (by omega))
            refine li_istore_n [(2, .int x23), (3, .int x4), (0, .ref (Z.2.2 175)), (1, .int p1)] dX12_number_52 (by decide) rfl ?_
            obtain ⟨x24, ex24⟩ : ∃ y : Int32, y = x4 + 1 := ⟨_, rfl⟩
            have z1 : (1 : Int32).toInt = 1 := rfl
            try (have tx24 : x24.toInt = (x4 : Int32).toInt + (1 : Int32).toInt := tl_add ex24 (by omega))
            refine li_iinc 1 [(3, .int x24), (2, .int x23), (0, .ref (Z.2.2 175)), (1, .int p1)] x24 dX12_number_53 rfl (by rw [ex24]; rfl) (by decide) rfl ?_
            refine li_goto 12 dX12_number_56 (by decide) ?_
            refine li_pick [0, 1, 2, 3] [(3, .int x24), (2, .int x23), (0, .ref (Z.2.2 175)), (1, .int p1)] rfl ?_
            exact ih12 x24 x23 M21 (by omega) hf hJ (by omega) (by first | exact li_ng_tr rfl (by omega) (by omega) (by omega) (by omega) (by omega) (by omega) (by omega) Png_M21) bM21
          · skip
            refine li_if_eq 59 dX12_number_35 (by decide) (fun c => ?_) (fun c => absurd rfl c)
            refine li_iload_n 1 dX12_number_59 rfl ?_
            exact li_iret dX12_number_60 rfl rfl ⟨⟨_, rfl, (by have z1 := li_ng_z Png_M16; have z2 := li_ng_no Png_M16 (hr_rd bM16 (by omega)); refine ⟨?_, ?_, ?_, ?_⟩ <;> (intros; omega))⟩, hf, hJ⟩
        · skip
          refine li_if_eq 59 dX12_number_21 (by decide) (fun c => ?_) (fun c => absurd rfl c)
          refine li_iload_n 1 dX12_number_59 rfl ?_
          exact li_iret dX12_number_60 rfl rfl ⟨⟨_, rfl, (by have z1 := li_ng_z Png_M9; have z2 := li_ng_no Png_M9 (hr_rd bM9 (by omega)); refine ⟨?_, ?_, ?_, ?_⟩ <;> (intros; omega))⟩, hf, hJ⟩
  have z1 : (1 : Int32).toInt = 1 := rfl
  exact L12 _ 1 x1 M2 (Nat.lt_succ_self _) hf hJ (by omega) (by first | exact li_ng_tr rfl (by omega) (by omega) (by omega) (by omega) (by omega) (by omega) (by omega) Png_M2) bM2
