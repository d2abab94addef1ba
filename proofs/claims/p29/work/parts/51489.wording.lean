def rd_lq (g : Nat → Int32) (len : Int) : Nat → Int → Int
  | 0, p => p
  | k + 1, p => if 97 ≤ rd_ch g len p ∧ rd_ch g len p ≤ 103 then rd_lq g len k (p + 1) else p
def li_lq (g : Nat → Int32) (len k p q : Int) : Prop := rd_lq g len k.toNat p = q
theorem li_lq_self {g : Nat → Int32} {len k p : Int} : ∃ q : Int, li_lq g len k p q := ⟨_, rfl⟩
theorem li_lq_tr {g g' : Nat → Int32} {len len' k k' p p' q q' : Int} (hg : g' = g) (h1 : len' = len) (h2 : k' = k) (h3 : p' = p) (h4 : q' = q) (hZq : li_lq g len k p q) : li_lq g' len' k' p' q' := by
  subst hg; subst h1; subst h2; subst h3; subst h4; exact hZq
theorem li_lq_go {g : Nat → Int32} {len k p q : Int} (hZq : li_lq g len k p q) (hk : 0 < k) (c : 97 ≤ rd_ch g len p ∧ rd_ch g len p ≤ 103) : li_lq g len (k - 1) (p + 1) q := by
  unfold li_lq at hZq ⊢
  rw [show k.toNat = (k - 1).toNat + 1 by omega] at hZq
  unfold rd_lq at hZq
  rw [if_pos c] at hZq
  exact hZq
theorem li_lq_no {g : Nat → Int32} {len k p q : Int} (hZq : li_lq g len k p q) (c : ¬ (97 ≤ rd_ch g len p ∧ rd_ch g len p ≤ 103)) : q = p := by
  unfold li_lq at hZq
  cases hk : k.toNat with
  | zero => rw [hk] at hZq; exact hZq.symm
  | succ n => rw [hk] at hZq; unfold rd_lq at hZq; rw [if_neg c] at hZq; exact hZq.symm
theorem rd_lq_ge {g : Nat → Int32} {len : Int} : ∀ (k : Nat) (p : Int), p ≤ rd_lq g len k p
  | 0, p => Int.le_refl p
  | k + 1, p => by
    unfold rd_lq
    split
    · have := rd_lq_ge (g := g) (len := len) k (p + 1)
      omega
    · exact Int.le_refl p
theorem li_lq_ge {g : Nat → Int32} {len k p q : Int} (hZq : li_lq g len k p q) : p ≤ q := by
  unfold li_lq at hZq
  rw [← hZq]
  exact rd_lq_ge _ _
theorem rd_lq_le {g : Nat → Int32} {len : Int} : ∀ (k : Nat) (p : Int), p ≤ len → rd_lq g len k p ≤ len
  | 0, p => fun hZq => hZq
  | k + 1, p => fun hZq => by
    unfold rd_lq
    split
    · rename_i c
      exact rd_lq_le k (p + 1) (by have := rd_lt (show 0 ≤ rd_ch g len p by omega); omega)
    · exact hZq
theorem li_lq_le {g : Nat → Int32} {len k p q : Int} (hZq : li_lq g len k p q) (hp : p ≤ len) : q ≤ len := by
  unfold li_lq at hZq
  rw [← hZq]
  exact rd_lq_le _ _ hp
/-- lettersZq ofZq a wording, so farZq (14 at most are laidZq) -/
def li_wx (f hZq : Nat → Int32) (len k : Int) : Prop := ∀ i : Nat, (i : Int) < k → i < 14 → (f i).toInt = rd_ch hZq len i - 97 ∧ 0 ≤ (f i).toInt ∧ (f i).toInt ≤ 6
theorem li_wx_tr {f f' hZq h' : Nat → Int32} {len len' k k' : Int} (hf : f' = f) (hh : h' = hZq) (h1 : len' = len) (h2 : k' ≤ k) (a : li_wx f hZq len k) : li_wx f' h' len' k' := by
  subst hf; subst hh; subst h1
  exact fun i hiZq => a i (by omega)
theorem li_wx_0 {f hZq : Nat → Int32} {len k : Int} (hk : k ≤ 0) : li_wx f hZq len k := fun i hiZq => absurd hiZq (by omega)
theorem li_wx_st {f f' hZq : Nat → Int32} {len k k' : Int} {x v : Int32} (a : li_wx f hZq len k) (hp : ∀ jZq : Nat, f' jZq = if 0 ≤ x.toInt ∧ x.toInt < ((14 : Nat) : Int) ∧ jZq = x.toNatClampNeg then v else f jZq) (hx : x.toInt = k) (h0 : 0 ≤ k) (hv : v.toInt = rd_ch hZq len k - 97 ∧ 0 ≤ v.toInt ∧ v.toInt ≤ 6) (ek : k' = k + 1) : li_wx f' hZq len k' := by
  have h9 := li_cl (i := x) (by omega)
  intro i hiZq h14
  rw [hp i]
  by_cases c : i = x.toNatClampNeg
  · rw [if_pos ⟨by omega, by omega, c⟩, show (i : Int) = k by omega]
    exact hv
  · rw [if_neg (fun zZq => c zZq.2.2)]
    exact a i (by omega) h14
theorem at_is {g : Nat → Int32} {n : Nat} {x i : Int32} (e : x = li_at g n i) (h0 : 0 ≤ i.toInt) (h1 : i.toInt < (n : Int)) (hn : n < 2147483648) : x = g i.toNatClampNeg := by
  have hz : (0 : Int32).toInt = 0 := rfl
  have hn' := nI_toInt32 hn
  rw [e]
  unfold li_at
  rw [if_pos ⟨Int32.le_iff_toInt_le.mpr (by omega), Int32.lt_iff_toInt_lt.mpr (by omega)⟩]
theorem put_is {g g' : Nat → Int32} {n : Nat} {x v : Int32} (hp : ∀ k : Nat, g' k = if 0 ≤ x.toInt ∧ x.toInt < (n : Int) ∧ k = x.toNatClampNeg then v else g k) (h0 : 0 ≤ x.toInt) (h1 : x.toInt < (n : Int)) : ∀ k : Nat, g' k = if k = x.toNatClampNeg then v else g k := fun k => by
  rw [hp k]
  by_cases c : k = x.toNatClampNeg
  · rw [if_pos c, if_pos ⟨h0, h1, c⟩]
  · rw [if_neg c, if_neg (fun zZq => c zZq.2.2)]
theorem nat_at {g : Nat → Int32} {i : Int32} {k : Int} (hZq : i.toInt = k) (h0 : 0 ≤ k) : g i.toNatClampNeg = g k.toNat := by
  have h9 := li_cl (i := i) (by omega)
  rw [show i.toNatClampNeg = k.toNat by omega]
def li_ck (g T GZq : Nat → Int32) (m f s c l : Int) (b : Int32) : Prop := li_cj T GZq m f s c l b
theorem li_ck_tr {g g' T T' GZq G' : Nat → Int32} {m m' f f' s s' c c' l l' : Int} {b b' : Int32} (hg : g' = g) (hTZq : T' = T) (h1 : G' = GZq) (h2 : m' = m) (h3 : f' = f) (h4 : s' = s) (h5 : c' = c) (h6 : l' = l) (h7 : b' = b) (hZq : li_ck g T GZq m f s c l b) : li_ck g' T' G' m' f' s' c' l' b' := li_cj_tr hTZq h1 h2 h3 h4 h5 h6 h7 hZq


set_option maxRecDepth 100000 in
set_option maxHeartbeats 4000000 in
theorem k13_X10_readWording {l : Launch} {Z : li_Z} (d : Nat) (hdZq : 3 ≤ d) (M0 : li_M) (h1 : 0 ≤ (M0.1 1 1).toInt ∧ (M0.1 1 1).toInt ≤ 80 ∧ (M0.1 1 2).toInt = 0) (Psg_M0 : li_sg (M0.1 2)) (Q : Int) (Plq_M0 : li_lq (M0.1 2) ((M0.1 1 1).toInt) (80) (0) (Q)) (h2 : Nat → Int32) (hh2 : M0.1 2 = h2) (LNZq : Int) (hLN : (M0.1 1 1).toInt = LNZq) : li_Met l Z YX10_readWording d [.ref (Z.2.2 163), .ref (Z.2.2 1)] M0 (fun r M' => (∃ x : Int32, r = some (.int x) ∧ ((((x.toInt = (M0.1 1 1).toInt ∧ Q = (M0.1 1 1).toInt ∧ 0 < (M0.1 1 1).toInt) ∨ (x.toInt = -1 ∧ ((M0.1 1 1).toInt = 0 ∨ Q < (M0.1 1 1).toInt))) ∧ (M'.1 1 2).toInt = Q ∧ (M'.1 1 1).toInt = (M0.1 1 1).toInt ∧ 0 ≤ Q ∧ Q ≤ (M0.1 1 1).toInt) ∧ li_wx (M'.1 166) h2 LNZq (x.toInt))) ∧ li_fr (fun i => i = 1 ∨ i = 166) M0 M') := by
  refine li_enter (by decide +kernel) (Nat.le_of_ble_eq_true rfl) ?_
  show li_T l Z YX10_readWording d 0 [(0, .ref (Z.2.2 163)), (1, .ref (Z.2.2 1))] [] M0 _
  have hf : li_fr (fun i => i = 1 ∨ i = 166) M0 M0 := li_fr_refl
  refine li_iconst 0 dX10_readWording_0 (by decide) ?_
  refine li_istore_n [(2, .int 0), (0, .ref (Z.2.2 163)), (1, .ref (Z.2.2 1))] dX10_readWording_1 (by decide) rfl ?_
  refine li_iconst 0 dX10_readWording_2 (by decide) ?_
  refine li_istore_n [(3, .int 0), (2, .int 0), (0, .ref (Z.2.2 163)), (1, .ref (Z.2.2 1))] dX10_readWording_3 (by decide) rfl ?_
  have L4Zq : ∀ (n : Nat) (x1Zq : Int32) (x2Zq : Int32) (M3Zq : li_M), (80 - (x1Zq : Int32).toInt).toNat < n → li_fr (fun i => i = 1 ∨ i = 166) M0 M3Zq → 0 ≤ (x1Zq : Int32).toInt ∧ (x1Zq : Int32).toInt ≤ 80 ∧ (x2Zq : Int32).toInt = (x1Zq : Int32).toInt ∧ (M3Zq.1 1 2).toInt = (x1Zq : Int32).toInt ∧ (M3Zq.1 1 1).toInt = (M0.1 1 1).toInt ∧ (x1Zq : Int32).toInt ≤ (M0.1 1 1).toInt → li_sg (M3Zq.1 2)  → li_lq (M3Zq.1 2) ((M3Zq.1 1 1).toInt) (80 - (x1Zq : Int32).toInt) ((M3Zq.1 1 2).toInt) (Q) → li_wx (M3Zq.1 166) (h2) (LNZq) ((x1Zq : Int32).toInt) → li_T l Z YX10_readWording d 4 [(3, .int x1Zq), (2, .int x2Zq), (0, .ref (Z.2.2 163)), (1, .ref (Z.2.2 1))] [] M3Zq (fun r M' => (∃ x : Int32, r = some (.int x) ∧ ((((x.toInt = (M0.1 1 1).toInt ∧ Q = (M0.1 1 1).toInt ∧ 0 < (M0.1 1 1).toInt) ∨ (x.toInt = -1 ∧ ((M0.1 1 1).toInt = 0 ∨ Q < (M0.1 1 1).toInt))) ∧ (M'.1 1 2).toInt = Q ∧ (M'.1 1 1).toInt = (M0.1 1 1).toInt ∧ 0 ≤ Q ∧ Q ≤ (M0.1 1 1).toInt) ∧ li_wx (M'.1 166) h2 LNZq (x.toInt))) ∧ li_fr (fun i => i = 1 ∨ i = 166) M0 M') := by
    intro n
    induction n with
    | zero => intro x1Zq x2Zq M3Zq hn; exact absurd hn (Nat.not_lt_zero _)
    | succ n ih4 =>
      intro x1Zq x2Zq M3Zq hn hf hiZq Psg_M3 Plq_M3 Pwx_M3
      have gx1 := tl_rg x1Zq
      have gx2 := tl_rg x2Zq
      refine li_iload_n 0 dX10_readWording_4 rfl ?_
      refine li_bipush 80 dX10_readWording_5 (by decide) ?_
      refine li_icmp_ge 53 dX10_readWording_7 (by decide) (fun c4 => ?_) (fun c4 => ?_)
      · have tc4 : 80 ≤ x1Zq.toInt := tl_le c4
        have le53 := li_lq_no Plq_M3 (fun h9 => by have h8 := rd_no (g := M3Zq.1 2) (len := (M3Zq.1 1 1).toInt) (p := (M3Zq.1 1 2).toInt) (by omega); omega)
        refine li_iload_n 1 dX10_readWording_53 rfl ?_
        refine li_if_le 61 dX10_readWording_54 (by decide) (fun c5Zq => ?_) (fun c5Zq => ?_)
        · have tc5 : x2Zq.toInt ≤ 0 := tl_le c5Zq
          refine li_iconst (-1) dX10_readWording_61 (by decide) ?_
          have zm1 : ((-1) : Int32).toInt = -1 := rfl
          exact li_iret dX10_readWording_62 rfl rfl ⟨⟨_, rfl, (by refine ⟨by first | omega | (have h8 := lqn (by omega); have h7 := li_lq_le lq0 (by omega); have h6 := li_lq_ge lq0; omega), ?_⟩; first | exact li_wx_tr rfl rfl rfl (by omega) Pwx_M3 | exact li_wx_0 (by omega))⟩, hf⟩
        · have tc5 : 0 < x2Zq.toInt := tl_nle c5Zq
          refine li_iload_n 1 dX10_readWording_57 rfl ?_
          refine li_goto 62 dX10_readWording_58 (by decide) ?_
          exact li_iret dX10_readWording_62 rfl rfl ⟨⟨_, rfl, (by refine ⟨by first | omega | (have h8 := lqn (by omega); have h7 := li_lq_le lq0 (by omega); have h6 := li_lq_ge lq0; omega), ?_⟩; first | exact li_wx_tr rfl rfl rfl (by omega) Pwx_M3 | exact li_wx_0 (by omega))⟩, hf⟩
      · have tc4 : x1Zq.toInt < 80 := tl_nle c4
        refine li_aload_n 3 dX10_readWording_10 rfl ?_
        refine li_callV (n := 0) (As := []) dX10_readWording_11 (k5_X7_atEnd (d - 1) (by omega) M3Zq) (by omega) (Nat.le_of_ble_eq_true rfl) w_657 w_545 w_546 w_102 w_547 (by decide +kernel) rfl (by decide) sh_1 rfl rfl (Nat.le_of_ble_eq_true rfl) (fun r M7Zq h8 => ?_)
        obtain ⟨⟨x6, rfl, bx6, qx6⟩, h8⟩ := h8
        have ux6 := tl_b bx6
        have hf := li_fr_trans hf h8 (fun i hZq => False.elim hZq)
        have mM7_1_1 : (M7Zq.1 1 1).toInt = (M3Zq.1 1 1).toInt := by rw [h8.1 1 id]
        have mM7_1_2 : (M7Zq.1 1 2).toInt = (M3Zq.1 1 2).toInt := by rw [h8.1 1 id]
        have Psg_M7 : li_sg (M7Zq.1 2)  := li_sg_tr (h8.1 2 (fun hZq => by first | exact (hZq : False).elim | omega))  Psg_M3
        have Plq_M7 : li_lq (M7Zq.1 2) ((M7Zq.1 1 1).toInt) (80 - (x1Zq : Int32).toInt) ((M7Zq.1 1 2).toInt) (Q) := li_lq_tr (h8.1 2 (fun hZq => by first | exact (hZq : False).elim | omega)) (Int.le_antisymm (by omega) (by omega)) (Int.le_antisymm (by omega) (by omega)) (Int.le_antisymm (by omega) (by omega)) (Int.le_antisymm (by omega) (by omega)) Plq_M3
        have Pwx_M7 : li_wx (M7Zq.1 166) (h2) (LNZq) ((x1Zq : Int32).toInt) := li_wx_tr (h8.1 166 (fun hZq => by first | exact (hZq : False).elim | omega)) rfl rfl (by omega) Pwx_M3
        refine li_if_ne 53 dX10_readWording_14 (by decide) (fun c9Zq => ?_) (fun c9Zq => ?_)
        · have tc9 : ¬ x6.toInt = 0 := tl_ne c9Zq
          have le53 := li_lq_no Plq_M7 (fun h9 => by have h8 := rd_no (g := M7Zq.1 2) (len := (M7Zq.1 1 1).toInt) (p := (M7Zq.1 1 2).toInt) (by omega); omega)
          refine li_iload_n 1 dX10_readWording_53 rfl ?_
          refine li_if_le 61 dX10_readWording_54 (by decide) (fun c10Zq => ?_) (fun c10Zq => ?_)
          · have tc10 : x2Zq.toInt ≤ 0 := tl_le c10Zq
            refine li_iconst (-1) dX10_readWording_61 (by decide) ?_
            have zm1 : ((-1) : Int32).toInt = -1 := rfl
            exact li_iret dX10_readWording_62 rfl rfl ⟨⟨_, rfl, (by refine ⟨by first | omega | (have h8 := lqn (by omega); have h7 := li_lq_le lq0 (by omega); have h6 := li_lq_ge lq0; omega), ?_⟩; first | exact li_wx_tr rfl rfl rfl (by omega) Pwx_M7 | exact li_wx_0 (by omega))⟩, hf⟩
          · have tc10 : 0 < x2Zq.toInt := tl_nle c10Zq
            refine li_iload_n 1 dX10_readWording_57 rfl ?_
            refine li_goto 62 dX10_readWording_58 (by decide) ?_
            exact li_iret dX10_readWording_62 rfl rfl ⟨⟨_, rfl, (by refine ⟨by first | omega | (have h8 := lqn (by omega); have h7 := li_lq_le lq0 (by omega); have h6 := li_lq_ge lq0; omega), ?_⟩; first | exact li_wx_tr rfl rfl rfl (by omega) Pwx_M7 | exact li_wx_0 (by omega))⟩, hf⟩
        · have tc9 : x6.toInt = 0 := tl_eq c9Zq
          have hf0 := hf
          have lq0 := Plq_M7
          have lqn := li_lq_no lq0
          have c17 : rd_ch (M7Zq.1 2) ((M7Zq.1 1 1).toInt) ((M7Zq.1 1 2).toInt) = rd_ch h2 LNZq ((x1Zq : Int32).toInt) := by rw [show M7Zq.1 2 = h2 from (hf.1 2 (by first | decide | omega)).trans hh2, show (M7Zq.1 1 1).toInt = LNZq from Int.le_antisymm (by omega) (by omega), show (M7Zq.1 1 2).toInt = (x1Zq : Int32).toInt from Int.le_antisymm (by omega) (by omega)]
          refine li_aload_n 3 dX10_readWording_17 rfl ?_
          refine li_bipush 97 dX10_readWording_18 (by decide) ?_
          refine li_bipush 7 dX10_readWording_20 (by decide) ?_
          refine li_callV (n := 2) (As := [.int 97, .int 7]) dX10_readWording_22 (k7_X7_takeOneOf (d - 1) (by omega) 97 7 M7Zq (by omega) Psg_M7 (by decide) (by decide)) (by omega) (Nat.le_of_ble_eq_true rfl) w_658 w_659 w_660 w_102 w_661 (by decide +kernel) rfl (by decide) sh_1 rfl rfl (Nat.le_of_ble_eq_true rfl) (fun r M12 h13 => ?_)
          have z97 : (97 : Int32).toInt = 97 := rfl
          have z7 : (7 : Int32).toInt = 7 := rfl
          obtain ⟨⟨x11, rfl, qx11⟩, h13⟩ := h13
          have gx11 := tl_rg x11
          have hf := li_fr_trans hf h13 (fun i (hZq : i = 1) => (show i = 1 ∨ i = 166 by omega))
          have Psg_M12 : li_sg (M12.1 2)  := li_sg_tr (h13.1 2 (fun hZq => by first | exact (hZq : False).elim | omega))  Psg_M7
          have Pwx_M12 : li_wx (M12.1 166) (h2) (LNZq) ((x1Zq : Int32).toInt) := li_wx_tr (h13.1 166 (fun hZq => by first | exact (hZq : False).elim | omega)) rfl rfl (by omega) Pwx_M7
          refine li_istore [(4, .int x11), (3, .int x1Zq), (2, .int x2Zq), (0, .ref (Z.2.2 163)), (1, .ref (Z.2.2 1))] dX10_readWording_25 (by decide) rfl ?_
          refine li_iload 0 dX10_readWording_27 rfl ?_
          refine li_if_ge 34 dX10_readWording_29 (by decide) (fun c14Zq => ?_) (fun c14Zq => ?_)
          · have tc14 : 0 ≤ x11.toInt := tl_le c14Zq
            refine li_aload_n 3 dX10_readWording_34 rfl ?_
            refine li_getr (k := 2) (N := 8) (T := TX10) (C0 := RX10) dX10_readWording_35 (by decide) sh_163 rfl rfl (by decide) (by decide) li_in10 w_337 ?_
            refine li_iload_n 2 dX10_readWording_38 rfl ?_
            refine li_iload 0 dX10_readWording_39 rfl ?_
            refine li_callN (n := 3) (As := [.ref (Z.2.2 166), .int x2Zq, .int x11]) dX10_readWording_41 (a_X11_put (d - 1) (by omega) (by decide) sh_166 (by decide) x2Zq x11 M12) (by omega) (Nat.le_of_ble_eq_true rfl) nw_11 w_522 w_101 w_523 (by decide +kernel) rfl rfl (Nat.le_of_ble_eq_true rfl) (fun r M16 h17 => ?_)
            obtain ⟨rfl, h17, nM16⟩ := h17
            have hf := li_fr_trans hf h17 (fun i (hZq : i = 166) => (show i = 1 ∨ i = 166 by omega))
            have mM16_1_1 : (M16.1 1 1).toInt = (M12.1 1 1).toInt := by rw [h17.1 1 (show ¬ (1 = 166) by omega)]
            have mM16_1_2 : (M16.1 1 2).toInt = (M12.1 1 2).toInt := by rw [h17.1 1 (show ¬ (1 = 166) by omega)]
            have Psg_M16 : li_sg (M16.1 2)  := li_sg_tr (h17.1 2 (fun hZq => by first | exact (hZq : False).elim | omega))  Psg_M12
            have Pwx_M16 : li_wx (M16.1 166) (h2) (LNZq) ((x1Zq : Int32).toInt + 1) := li_wx_st Pwx_M12 nM16 (Int.le_antisymm (by omega) (by omega)) (by omega) ⟨by rw [← c17]; omega, by omega, by omega⟩ rfl
            obtain ⟨x18, ex18⟩ : ∃ y : Int32, y = x2Zq + 1 := ⟨_, rfl⟩
            have tx18 : (-2147483648 ≤ x2Zq.toInt + 1 ∧ x2Zq.toInt + 1 ≤ 2147483647) → x18.toInt = x2Zq.toInt + 1 := tl_add ex18
            refine li_iinc 2 [(2, .int x18), (4, .int x11), (3, .int x1Zq), (0, .ref (Z.2.2 163)), (1, .ref (Z.2.2 1))] x18 dX10_readWording_44 rfl (by rw [ex18]; rfl) (by decide) rfl ?_
            obtain ⟨x19, ex19⟩ : ∃ y : Int32, y = x1Zq + 1 := ⟨_, rfl⟩
            have tx19 : (-2147483648 ≤ x1Zq.toInt + 1 ∧ x1Zq.toInt + 1 ≤ 2147483647) → x19.toInt = x1Zq.toInt + 1 := tl_add ex19
            refine li_iinc 2 [(3, .int x19), (2, .int x18), (4, .int x11), (0, .ref (Z.2.2 163)), (1, .ref (Z.2.2 1))] x19 dX10_readWording_47 rfl (by rw [ex19]; rfl) (by decide) rfl ?_
            refine li_goto 4 dX10_readWording_50 (by decide) ?_
            refine li_pick [0, 1, 3, 4] [(3, .int x19), (2, .int x18), (0, .ref (Z.2.2 163)), (1, .ref (Z.2.2 1))] rfl ?_
            exact ih4 x19 x18 M16 (by omega) hf (by omega) (by first | exact li_sg_tr rfl  Psg_M16) (by first | exact li_lq_tr ((hf.1 2 (by omega)).trans (hf0.1 2 (by omega)).symm) (Int.le_antisymm (by omega) (by omega)) (Int.le_antisymm (by omega) (by omega)) (Int.le_antisymm (by omega) (by omega)) rfl (li_lq_go lq0 (by omega) ⟨by omega, by omega⟩)) (by first | exact li_wx_tr rfl rfl rfl (by omega) Pwx_M16 | exact li_wx_0 (by omega))
          · have tc14 : x11.toInt < 0 := tl_nle c14Zq
            refine li_iconst (-1) dX10_readWording_32 (by decide) ?_
            have zm1 : ((-1) : Int32).toInt = -1 := rfl
            exact li_iret dX10_readWording_33 rfl rfl ⟨⟨_, rfl, (by refine ⟨by first | omega | (have h8 := lqn (by omega); have h7 := li_lq_le lq0 (by omega); have h6 := li_lq_ge lq0; omega), ?_⟩; first | exact li_wx_tr rfl rfl rfl (by omega) Pwx_M12 | exact li_wx_0 (by omega))⟩, hf⟩
  have z0 : (0 : Int32).toInt = 0 := rfl
  have z0 : (0 : Int32).toInt = 0 := rfl
  exact L4Zq _ 0 0 M0 (Nat.lt_succ_self _) hf (by omega) (by first | exact li_sg_tr rfl  Psg_M0) (by first | exact li_lq_tr rfl (Int.le_antisymm (by omega) (by omega)) (Int.le_antisymm (by omega) (by omega)) (Int.le_antisymm (by omega) (by omega)) (Int.le_antisymm (by omega) (by omega)) Plq_M0 | exact li_lq_tr ((hf.1 2 (by omega)).trans (hf0.1 2 (by omega)).symm) (Int.le_antisymm (by omega) (by omega)) (Int.le_antisymm (by omega) (by omega)) (Int.le_antisymm (by omega) (by omega)) rfl (li_lq_go lq0 (by omega) ⟨by omega, by omega⟩)) (by first | exact li_wx_0 (by omega))

set_option maxRecDepth 100000 in
set_option maxHeartbeats 4000000 in
theorem k13_X11_readText {l : Launch} {Z : li_Z} (d : Nat) (hdZq : 4 ≤ d) (p1Zq : Int32) (p2Zq : Int32) (p3Zq : Int32) (M0 : li_M) (h1 : 0 ≤ (M0.1 1 1).toInt ∧ (M0.1 1 1).toInt ≤ 80) (Psg_M0 : li_sg (M0.1 2)) (hk : p1Zq.toInt = 5 ∧ p3Zq.toInt = 14) (Q : Int) (Plq_M0 : li_lq (M0.1 2) ((M0.1 1 1).toInt) (80) (0) (Q)) (h2 : Nat → Int32) (hh2 : M0.1 2 = h2) (LNZq : Int) (hLN : (M0.1 1 1).toInt = LNZq) : li_Met l Z YX11_readText d [.ref (Z.2.2 0), .int p1Zq, .int p2Zq, .int p3Zq] M0 (fun r M' => (∃ x : Int32, r = some (.int x) ∧ ((((((M0.1 1 1).toInt = 0 ∧ x.toInt = -1) ∨ (0 < (M0.1 1 1).toInt ∧ Q < (M0.1 1 1).toInt ∧ Q ≤ 14 ∧ x.toInt = -1 - Q) ∨ (0 < (M0.1 1 1).toInt ∧ Q < (M0.1 1 1).toInt ∧ 14 < Q ∧ x.toInt = -15) ∨ (0 < (M0.1 1 1).toInt ∧ Q = (M0.1 1 1).toInt ∧ 14 < (M0.1 1 1).toInt ∧ x.toInt = -15)) ∨ (0 < (M0.1 1 1).toInt ∧ Q = (M0.1 1 1).toInt ∧ (M0.1 1 1).toInt ≤ 14 ∧ x.toInt = (M0.1 1 1).toInt)) ∧ (M'.1 1 1).toInt = 0) ∧ li_wx (M'.1 166) h2 LNZq (x.toInt))) ∧ li_fr (fun i => i = 1 ∨ i = 166) M0 M') := by
  refine li_enter (by decide +kernel) (Nat.le_of_ble_eq_true rfl) ?_
  show li_T l Z YX11_readText d 0 [(0, .ref (Z.2.2 0)), (1, .int p1Zq), (2, .int p2Zq), (3, .int p3Zq)] [] M0 _
  have hf : li_fr (fun i => i = 1 ∨ i = 166) M0 M0 := li_fr_refl
  have gp1 := tl_rg p1Zq
  have gp2 := tl_rg p2Zq
  have gp3 := tl_rg p3Zq
  have Pci_M0 : li_ci (M0.1 2) (h2) := hh2
  refine li_aload_n 0 dX11_readText_0 rfl ?_
  refine li_getr (k := 0) (N := 13) (T := TX11) (C0 := RX11) dX11_readText_1 (by decide) sh_0 rfl rfl (by decide) (by decide) li_in11 w_473 ?_
  refine li_iconst 0 dX11_readText_4 (by decide) ?_
  refine li_puti (k := 2) (N := 3) (T := TX7) (C0 := RX7) dX11_readText_5 (by decide) sh_1 rfl rfl (by decide) li_in7 tyX7_ok nmX7 rfl rfl rfl rfl w_144 ?_
  refine li_nm (fun M1Zq eM1 => ?_)
  have hf := li_fr_ui hf (show 1 = 1 ∨ 1 = 166 by omega) eM1
  have mM1_1_1 : (M1Zq.1 1 1).toInt = (M0.1 1 1).toInt := by rw [eM1, li_ui_at, if_pos rfl, if_neg (by decide)]
  have mM1_1_2 : (M1Zq.1 1 2).toInt = 0 := by rw [eM1, li_ui_at, if_pos rfl, if_pos rfl]; rfl
  have Psg_M1 : li_sg (M1Zq.1 2)  := li_sg_tr (li_cell_ui eM1 (by decide))  Psg_M0
  have Plq_M1 : li_lq (M1Zq.1 2) ((M1Zq.1 1 1).toInt) (80) (0) (Q) := li_lq_tr (li_cell_ui eM1 (by decide)) (Int.le_antisymm (by omega) (by omega)) (Int.le_antisymm (by omega) (by omega)) (Int.le_antisymm (by omega) (by omega)) (Int.le_antisymm (by omega) (by omega)) Plq_M0
  have Pci_M1 : li_ci (M1Zq.1 2) (h2) := li_ci_tr (li_cell_ui eM1 (by decide)) rfl Pci_M0
  have k2Zq : M1Zq.1 1 2 = 0 := by rw [eM1, li_ui_at, if_pos rfl, if_pos rfl]
  refine li_iload_n 1 dX11_readText_8 rfl ?_
  refine li_iconst 4 dX11_readText_9 (by decide) ?_
  have J80 : ∀ (x4Zq : Int32) (M5Zq : li_M), li_fr (fun i => i = 1 ∨ i = 166) M0 M5Zq → ((((x4Zq : Int32).toInt = (M0.1 1 1).toInt ∧ Q = (M0.1 1 1).toInt ∧ 0 < (M0.1 1 1).toInt) ∨ ((x4Zq : Int32).toInt = -1 ∧ ((M0.1 1 1).toInt = 0 ∨ Q < (M0.1 1 1).toInt))) ∧ (M5Zq.1 1 2).toInt = Q ∧ (M5Zq.1 1 1).toInt = (M0.1 1 1).toInt ∧ 0 ≤ Q ∧ Q ≤ (M0.1 1 1).toInt) → li_wx (M5Zq.1 166) (h2) (LNZq) ((x4Zq : Int32).toInt) → li_T l Z YX11_readText d 80 [(0, .ref (Z.2.2 0)), (1, .int p1Zq), (2, .int p2Zq), (3, .int p3Zq), (4, .int x4Zq)] [] M5Zq (fun r M' => (∃ x : Int32, r = some (.int x) ∧ ((((((M0.1 1 1).toInt = 0 ∧ x.toInt = -1) ∨ (0 < (M0.1 1 1).toInt ∧ Q < (M0.1 1 1).toInt ∧ Q ≤ 14 ∧ x.toInt = -1 - Q) ∨ (0 < (M0.1 1 1).toInt ∧ Q < (M0.1 1 1).toInt ∧ 14 < Q ∧ x.toInt = -15) ∨ (0 < (M0.1 1 1).toInt ∧ Q = (M0.1 1 1).toInt ∧ 14 < (M0.1 1 1).toInt ∧ x.toInt = -15)) ∨ (0 < (M0.1 1 1).toInt ∧ Q = (M0.1 1 1).toInt ∧ (M0.1 1 1).toInt ≤ 14 ∧ x.toInt = (M0.1 1 1).toInt)) ∧ (M'.1 1 1).toInt = 0) ∧ li_wx (M'.1 166) h2 LNZq (x.toInt))) ∧ li_fr (fun i => i = 1 ∨ i = 166) M0 M') := by
    intro x4Zq M5Zq hf hiZq Pwx_M5
    have gx4 := tl_rg x4Zq
    refine li_aload_n 0 dX11_readText_80 rfl ?_
    refine li_getr (k := 0) (N := 13) (T := TX11) (C0 := RX11) dX11_readText_81 (by decide) sh_0 rfl rfl (by decide) (by decide) li_in11 w_473 ?_
    refine li_iload 4 dX11_readText_84 rfl ?_
    refine li_iload_n 3 dX11_readText_86 rfl ?_
    refine li_callV (n := 2) (As := [.int x4Zq, .int p3Zq]) dX11_readText_87 (k5_X7_verdict (d - 1) (by omega) x4Zq p3Zq M5Zq (by omega) (by omega)) (by omega) (Nat.le_of_ble_eq_true rfl) w_721 w_722 w_723 w_102 w_724 (by decide +kernel) rfl (by decide) sh_1 rfl rfl (Nat.le_of_ble_eq_true rfl) (fun r M7Zq h8 => ?_)
    obtain ⟨⟨x6, rfl, qx6⟩, h8⟩ := h8
    have gx6 := tl_rg x6
    have hf := li_fr_trans hf h8 (fun i hZq => False.elim hZq)
    have mM7_1_1 : (M7Zq.1 1 1).toInt = (M5Zq.1 1 1).toInt := by rw [h8.1 1 id]
    have mM7_1_2 : (M7Zq.1 1 2).toInt = (M5Zq.1 1 2).toInt := by rw [h8.1 1 id]
    have Pwx_M7 : li_wx (M7Zq.1 166) (h2) (LNZq) ((x4Zq : Int32).toInt) := li_wx_tr (h8.1 166 (fun hZq => by first | exact (hZq : False).elim | omega)) rfl rfl (by omega) Pwx_M5
    refine li_istore [(5, .int x6), (0, .ref (Z.2.2 0)), (1, .int p1Zq), (2, .int p2Zq), (3, .int p3Zq), (4, .int x4Zq)] dX11_readText_90 (by decide) rfl ?_
    refine li_aload_n 1 dX11_readText_92 rfl ?_
    refine li_getr (k := 0) (N := 13) (T := TX11) (C0 := RX11) dX11_readText_93 (by decide) sh_0 rfl rfl (by decide) (by decide) li_in11 w_473 ?_
    refine li_iconst 0 dX11_readText_96 (by decide) ?_
    refine li_puti (k := 1) (N := 3) (T := TX7) (C0 := RX7) dX11_readText_97 (by decide) sh_1 rfl rfl (by decide) li_in7 tyX7_ok nmX7 rfl rfl rfl rfl w_140 ?_
    refine li_nm (fun M9Zq eM9 => ?_)
    have hf := li_fr_ui hf (show 1 = 1 ∨ 1 = 166 by omega) eM9
    have mM9_1_1 : (M9Zq.1 1 1).toInt = 0 := by rw [eM9, li_ui_at, if_pos rfl, if_pos rfl]; rfl
    have mM9_1_2 : (M9Zq.1 1 2).toInt = (M7Zq.1 1 2).toInt := by rw [eM9, li_ui_at, if_pos rfl, if_neg (by decide)]
    have Pwx_M9 : li_wx (M9Zq.1 166) (h2) (LNZq) ((x4Zq : Int32).toInt) := li_wx_tr (li_cell_ui eM9 (by decide)) rfl rfl (by omega) Pwx_M7
    have k10 : M9Zq.1 1 1 = 0 := by rw [eM9, li_ui_at, if_pos rfl, if_pos rfl]
    refine li_iload 0 dX11_readText_100 rfl ?_
    exact li_iret dX11_readText_102 rfl rfl ⟨⟨_, rfl, (by refine ⟨by omega, ?_⟩; first | exact li_wx_tr rfl rfl rfl (by omega) Pwx_M9 | exact li_wx_0 (by omega))⟩, hf⟩
  refine li_icmp_ne 37 dX11_readText_10 (by decide) (fun c3 => ?_) (fun c3 => ?_)
  · have tc3 : ¬ p1Zq.toInt = 4 := tl_ne c3
    refine li_iload_n 1 dX11_readText_37 rfl ?_
    refine li_iconst 5 dX11_readText_38 (by decide) ?_
    refine li_icmp_ne 58 dX11_readText_39 (by decide) (fun c11Zq => ?_) (fun c11Zq => ?_)
    · have tc11 : ¬ p1Zq.toInt = 5 := tl_ne c11Zq
      exfalso; omega
    · have tc11 : p1Zq.toInt = 5 := tl_eq c11Zq
      refine li_aload_n 0 dX11_readText_42 rfl ?_
      refine li_getr (k := 10) (N := 13) (T := TX11) (C0 := RX11) dX11_readText_43 (by decide) sh_0 rfl rfl (by decide) (by decide) li_in11 w_483 ?_
      refine li_aload_n 0 dX11_readText_46 rfl ?_
      refine li_getr (k := 0) (N := 13) (T := TX11) (C0 := RX11) dX11_readText_47 (by decide) sh_0 rfl rfl (by decide) (by decide) li_in11 w_473 ?_
      refine li_callV (n := 1) (As := [.ref (Z.2.2 1)]) dX11_readText_50 (k13_X10_readWording (d - 1) (by omega) M1Zq ⟨by omega, by omega, by omega⟩ Psg_M1 Q (li_lq_tr rfl (Int.le_antisymm (by omega) (by omega)) rfl rfl rfl Plq_M1) h2 Pci_M1 LNZq (by omega)) (by omega) (Nat.le_of_ble_eq_true rfl) w_653 w_654 w_655 w_108 w_656 (by decide +kernel) rfl (by decide) sh_163 rfl rfl (Nat.le_of_ble_eq_true rfl) (fun r M13 h14 => ?_)
      obtain ⟨⟨x12, rfl, qx12⟩, h14⟩ := h14
      have gx12 := tl_rg x12
      have hf := li_fr_trans hf h14 (fun i (hZq : i = 1 ∨ i = 166) => (show i = 1 ∨ i = 166 by omega))
      have Psg_M13 : li_sg (M13.1 2)  := li_sg_tr (h14.1 2 (fun hZq => by first | exact (hZq : False).elim | omega))  Psg_M1
      have Pci_M13 : li_ci (M13.1 2) (h2) := li_ci_tr (h14.1 2 (fun hZq => by first | exact (hZq : False).elim | omega)) rfl Pci_M1
      have Pwx_M13 : li_wx (M13.1 166) (h2) (LNZq) (x12.toInt) := li_wx_tr rfl rfl (Int.le_antisymm (by omega) (by omega)) (by omega) qx12.2
      refine li_istore [(4, .int x12), (0, .ref (Z.2.2 0)), (1, .int p1Zq), (2, .int p2Zq), (3, .int p3Zq)] dX11_readText_53 (by decide) rfl ?_
      refine li_goto 80 dX11_readText_55 (by decide) ?_
      refine li_pick [1, 2, 3, 4, 0] [(0, .ref (Z.2.2 0)), (1, .int p1Zq), (2, .int p2Zq), (3, .int p3Zq), (4, .int x12)] rfl ?_
      exact J80 x12 M13 hf (by omega) (by first | exact li_wx_tr rfl rfl rfl (by omega) Pwx_M13 | exact li_wx_0 (by omega))
  · have tc3 : p1Zq.toInt = 4 := tl_eq c3
    exfalso; omega

set_option maxRecDepth 100000 in
set_option maxHeartbeats 4000000 in
theorem k13_X10_mask {l : Launch} {Z : li_Z} (d : Nat) (hdZq : 2 ≤ d) (p1Zq : Int32) (p2Zq : Int32) (M0 : li_M) (h1 : 0 ≤ p1Zq.toInt ∧ p1Zq.toInt ≤ 14) (h2 : 0 ≤ p2Zq.toInt ∧ p2Zq.toInt ≤ 14) : li_Met l Z YX10_mask d [.ref (Z.2.2 163), .int p1Zq, .int p2Zq] M0 (fun r M' => (∃ x : Int32, r = some (.int x) ∧ (x = M0.1 167 (15 * p1Zq.toInt + p2Zq.toInt).toNat)) ∧ li_fr (fun i => False) M0 M') := by
  refine li_enter (by decide +kernel) (Nat.le_of_ble_eq_true rfl) ?_
  show li_T l Z YX10_mask d 0 [(0, .ref (Z.2.2 163)), (1, .int p1Zq), (2, .int p2Zq)] [] M0 _
  have hf : li_fr (fun i => False) M0 M0 := li_fr_refl
  have gp1 := tl_rg p1Zq
  have gp2 := tl_rg p2Zq
  refine li_aload_n 0 dX10_mask_0 rfl ?_
  refine li_getr (k := 3) (N := 8) (T := TX10) (C0 := RX10) dX10_mask_1 (by decide) sh_163 rfl rfl (by decide) (by decide) li_in10 w_338 ?_
  refine li_iload_n 1 dX10_mask_4 rfl ?_
  refine li_bipush 15 dX10_mask_5 (by decide) ?_
  refine li_imul dX10_mask_7 ?_
  refine li_top (fun x1Zq ex1 => ?_)
  have tx1 : (-2147483648 ≤ p1Zq.toInt * 15 ∧ p1Zq.toInt * 15 ≤ 2147483647) → x1Zq.toInt = p1Zq.toInt * 15 := tl_mul ex1
  refine li_iload_n 2 dX10_mask_8 rfl ?_
  refine li_iadd dX10_mask_9 ?_
  refine li_top (fun x2Zq ex2Zq => ?_)
  have tx2 : (-2147483648 ≤ x1Zq.toInt + p2Zq.toInt ∧ x1Zq.toInt + p2Zq.toInt ≤ 2147483647) → x2Zq.toInt = x1Zq.toInt + p2Zq.toInt := tl_add ex2Zq
  refine li_callN (n := 2) (As := [.ref (Z.2.2 167), .int x2Zq]) dX10_mask_10 (a_X11_at (d - 1) (by omega) (by decide) sh_167 (by decide) x2Zq M0) (by omega) (Nat.le_of_ble_eq_true rfl) nw_30 w_569 w_101 w_570 (by decide +kernel) rfl rfl (Nat.le_of_ble_eq_true rfl) (fun r M4Zq h5 => ?_)
  obtain ⟨⟨x3, rfl, qx3⟩, h5⟩ := h5
  have gx3 := tl_rg x3
  have hf := li_fr_trans hf h5 (fun i hZq => False.elim hZq)
  have mvZq : x3 = M0.1 167 (15 * p1Zq.toInt + p2Zq.toInt).toNat := (at_is qx3 (by omega) (by omega) (by decide)).trans (nat_at (Int.le_antisymm (by omega) (by omega)) (by omega))
  exact li_iret dX10_mask_13 rfl rfl ⟨⟨_, rfl, (by exact mvZq)⟩, hf⟩

set_option maxRecDepth 100000 in
set_option maxHeartbeats 4000000 in
theorem k13_X10_joined {l : Launch} {Z : li_Z} (d : Nat) (hdZq : 3 ≤ d) (p1Zq : Int32) (p2Zq : Int32) (M0 : li_M) (h1 : 0 ≤ p1Zq.toInt ∧ p1Zq.toInt + 2 ≤ p2Zq.toInt ∧ p2Zq.toInt ≤ 14) (T GZq : Nat → Int32) (hTZq : M0.1 167 = T) (hG : M0.1 164 = GZq) (m : Int) (hmZq : m = (M0.1 163 7).toInt) (hmr : 0 ≤ m ∧ m ≤ 10) (hGr : ∀ i : Nat, (i : Int) < 3 * m → 0 ≤ (GZq i).toInt ∧ (GZq i).toInt ≤ 6) : li_Met l Z YX10_joined d [.ref (Z.2.2 163), .int p1Zq, .int p2Zq] M0 (fun r M' => (∃ x : Int32, r = some (.int x) ∧ (x = cy_cf T GZq m.toNat p1Zq.toInt.toNat (p2Zq.toInt - p1Zq.toInt).toNat ((p2Zq.toInt - p1Zq.toInt).toNat - 1))) ∧ li_fr (fun i => False) M0 M') := by
  refine li_enter (by decide +kernel) (Nat.le_of_ble_eq_true rfl) ?_
  show li_T l Z YX10_joined d 0 [(0, .ref (Z.2.2 163)), (1, .int p1Zq), (2, .int p2Zq)] [] M0 _
  have hf : li_fr (fun i => False) M0 M0 := li_fr_refl
  have gp1 := tl_rg p1Zq
  have gp2 := tl_rg p2Zq
  refine li_iconst 0 dX10_joined_0 (by decide) ?_
  refine li_istore_n [(3, .int 0), (0, .ref (Z.2.2 163)), (1, .int p1Zq), (2, .int p2Zq)] dX10_joined_1 (by decide) rfl ?_
  refine li_iload_n 2 dX10_joined_2 rfl ?_
  refine li_iconst 1 dX10_joined_3 (by decide) ?_
  refine li_iadd dX10_joined_4 ?_
  refine li_top (fun x1Zq ex1 => ?_)
  have tx1 : (-2147483648 ≤ p1Zq.toInt + 1 ∧ p1Zq.toInt + 1 ≤ 2147483647) → x1Zq.toInt = p1Zq.toInt + 1 := tl_add ex1
  refine li_istore [(4, .int x1Zq), (3, .int 0), (0, .ref (Z.2.2 163)), (1, .int p1Zq), (2, .int p2Zq)] dX10_joined_5 (by decide) rfl ?_
  have L7 : ∀ (n : Nat) (x2Zq : Int32) (x3 : Int32) (M4Zq : li_M), (p2Zq.toInt - (x2Zq : Int32).toInt).toNat < n → li_fr (fun i => False) M0 M4Zq → p1Zq.toInt + 1 ≤ (x2Zq : Int32).toInt ∧ (x2Zq : Int32).toInt ≤ p2Zq.toInt ∧ (M4Zq.1 163 7).toInt = m → li_ck (M4Zq.1 167) (T) (GZq) (m) (p1Zq.toInt) (p2Zq.toInt - p1Zq.toInt) ((x2Zq : Int32).toInt - p1Zq.toInt) (0) ((x3 : Int32)) → li_T l Z YX10_joined d 7 [(4, .int x2Zq), (3, .int x3), (0, .ref (Z.2.2 163)), (1, .int p1Zq), (2, .int p2Zq)] [] M4Zq (fun r M' => (∃ x : Int32, r = some (.int x) ∧ (x = cy_cf T GZq m.toNat p1Zq.toInt.toNat (p2Zq.toInt - p1Zq.toInt).toNat ((p2Zq.toInt - p1Zq.toInt).toNat - 1))) ∧ li_fr (fun i => False) M0 M') := by
    intro n
    induction n with
    | zero => intro x2Zq x3 M4Zq hn; exact absurd hn (Nat.not_lt_zero _)
    | succ n ih7 =>
      intro x2Zq x3 M4Zq hn hf hiZq Pck_M4
      have gx2 := tl_rg x2Zq
      have gx3 := tl_rg x3
      refine li_iload 0 dX10_joined_7 rfl ?_
      refine li_iload_n 4 dX10_joined_9 rfl ?_
      refine li_icmp_ge 113 dX10_joined_10 (by decide) (fun c5Zq => ?_) (fun c5Zq => ?_)
      · have tc5 : p2Zq.toInt ≤ x2Zq.toInt := tl_le c5Zq
        have ck2 := li_cj_end Pck_M4 rfl (by omega) (by omega)
        refine li_iload_n 1 dX10_joined_113 rfl ?_
        exact li_iret dX10_joined_114 rfl rfl ⟨⟨_, rfl, (by exact ck2)⟩, hf⟩
      · have tc5 : x2Zq.toInt < p2Zq.toInt := tl_nle c5Zq
        refine li_aload_n 2 dX10_joined_13 rfl ?_
        refine li_iload_n 3 dX10_joined_14 rfl ?_
        refine li_iload 0 dX10_joined_15 rfl ?_
        refine li_callV (n := 2) (As := [.int p1Zq, .int x2Zq]) dX10_joined_17 (k13_X10_mask (d - 1) (by omega) p1Zq x2Zq M4Zq ⟨by omega, by omega⟩ ⟨by omega, by omega⟩) (by omega) (Nat.le_of_ble_eq_true rfl) w_1134 w_1135 w_1136 w_108 w_1137 (by decide +kernel) rfl (by decide) sh_163 rfl rfl (Nat.le_of_ble_eq_true rfl) (fun r M7Zq h8 => ?_)
        obtain ⟨⟨x6, rfl, qx6⟩, h8⟩ := h8
        have gx6 := tl_rg x6
        have hf := li_fr_trans hf h8 (fun i hZq => False.elim hZq)
        have mM7_163_7 : (M7Zq.1 163 7).toInt = (M4Zq.1 163 7).toInt := by rw [h8.1 163 id]
        have Pck_M7 : li_ck (M7Zq.1 167) (T) (GZq) (m) (p1Zq.toInt) (p2Zq.toInt - p1Zq.toInt) ((x2Zq : Int32).toInt - p1Zq.toInt) (0) ((x3 : Int32)) := li_ck_tr (h8.1 167 (fun hZq => by first | exact (hZq : False).elim | omega)) rfl rfl rfl rfl rfl (Int.le_antisymm (by omega) (by omega)) (Int.le_antisymm (by omega) (by omega)) rfl Pck_M4
        have mk1 : x6 = T (16 * p1Zq.toInt + ((x2Zq : Int32).toInt - p1Zq.toInt)).toNat := by rw [qx6, show M4Zq.1 167 = T from (h8.1 167 (fun hZq => hZq)).symm.trans ((hf.1 167 (by first | exact id | omega)).trans hTZq), show 15 * (p1Zq : Int32).toInt + (x2Zq : Int32).toInt = 16 * p1Zq.toInt + ((x2Zq : Int32).toInt - p1Zq.toInt) by omega]
        refine li_istore [(5, .int x6), (4, .int x2Zq), (3, .int x3), (0, .ref (Z.2.2 163)), (1, .int p1Zq), (2, .int p2Zq)] dX10_joined_20 (by decide) rfl ?_
        refine li_aload_n 3 dX10_joined_22 rfl ?_
        refine li_iload 1 dX10_joined_23 rfl ?_
        refine li_iload_n 5 dX10_joined_25 rfl ?_
        refine li_callV (n := 2) (As := [.int x2Zq, .int p2Zq]) dX10_joined_26 (k13_X10_mask (d - 1) (by omega) x2Zq p2Zq M7Zq ⟨by omega, by omega⟩ ⟨by omega, by omega⟩) (by omega) (Nat.le_of_ble_eq_true rfl) w_1134 w_1135 w_1136 w_108 w_1137 (by decide +kernel) rfl (by decide) sh_163 rfl rfl (Nat.le_of_ble_eq_true rfl) (fun r M10 h11 => ?_)
        obtain ⟨⟨x9, rfl, qx9⟩, h11⟩ := h11
        have gx9 := tl_rg x9
        have hf := li_fr_trans hf h11 (fun i hZq => False.elim hZq)
        have mM10_163_7 : (M10.1 163 7).toInt = (M7Zq.1 163 7).toInt := by rw [h11.1 163 id]
        have Pck_M10 : li_ck (M10.1 167) (T) (GZq) (m) (p1Zq.toInt) (p2Zq.toInt - p1Zq.toInt) ((x2Zq : Int32).toInt - p1Zq.toInt) (0) ((x3 : Int32)) := li_ck_tr (h11.1 167 (fun hZq => by first | exact (hZq : False).elim | omega)) rfl rfl rfl rfl rfl (Int.le_antisymm (by omega) (by omega)) (Int.le_antisymm (by omega) (by omega)) rfl Pck_M7
        have mk2 : x9 = T (16 * (p1Zq.toInt + ((x2Zq : Int32).toInt - p1Zq.toInt)) + (p2Zq.toInt - p1Zq.toInt - ((x2Zq : Int32).toInt - p1Zq.toInt))).toNat := by rw [qx9, show M7Zq.1 167 = T from (h11.1 167 (fun hZq => hZq)).symm.trans ((hf.1 167 (by first | exact id | omega)).trans hTZq), show 15 * (x2Zq : Int32).toInt + (p2Zq : Int32).toInt = 16 * (p1Zq.toInt + ((x2Zq : Int32).toInt - p1Zq.toInt)) + (p2Zq.toInt - p1Zq.toInt - ((x2Zq : Int32).toInt - p1Zq.toInt)) by omega]
        refine li_istore [(6, .int x9), (5, .int x6), (4, .int x2Zq), (3, .int x3), (0, .ref (Z.2.2 163)), (1, .int p1Zq), (2, .int p2Zq)] dX10_joined_29 (by decide) rfl ?_
        refine li_iconst 0 dX10_joined_31 (by decide) ?_
        refine li_istore [(7, .int 0), (6, .int x9), (5, .int x6), (4, .int x2Zq), (3, .int x3), (0, .ref (Z.2.2 163)), (1, .int p1Zq), (2, .int p2Zq)] dX10_joined_32 (by decide) rfl ?_
        have L34 : ∀ (n : Nat) (x12 : Int32) (x13 : Int32) (M14 : li_M), (m - (x12 : Int32).toInt).toNat < n → li_fr (fun i => False) M0 M14 → 0 ≤ (x12 : Int32).toInt ∧ (x12 : Int32).toInt ≤ m ∧ (M14.1 163 7).toInt = m → li_ck (M14.1 167) (T) (GZq) (m) (p1Zq.toInt) (p2Zq.toInt - p1Zq.toInt) ((x2Zq : Int32).toInt - p1Zq.toInt) ((x12 : Int32).toInt) ((x13 : Int32)) → li_T l Z YX10_joined d 34 [(7, .int x12), (6, .int x9), (5, .int x6), (4, .int x2Zq), (3, .int x13), (0, .ref (Z.2.2 163)), (1, .int p1Zq), (2, .int p2Zq)] [] M14 (fun r M' => (∃ x : Int32, r = some (.int x) ∧ (x = cy_cf T GZq m.toNat p1Zq.toInt.toNat (p2Zq.toInt - p1Zq.toInt).toNat ((p2Zq.toInt - p1Zq.toInt).toNat - 1))) ∧ li_fr (fun i => False) M0 M') := by
          intro n
          induction n with
          | zero => intro x12 x13 M14 hn; exact absurd hn (Nat.not_lt_zero _)
          | succ n ih34 =>
            intro x12 x13 M14 hn hf hiZq Pck_M14
            have gx12 := tl_rg x12
            have gx13 := tl_rg x13
            refine li_iload 0 dX10_joined_34 rfl ?_
            refine li_aload_n 5 dX10_joined_36 rfl ?_
            refine li_geti (k := 7) (N := 8) (T := TX10) (C0 := RX10) dX10_joined_37 (by decide) sh_163 rfl rfl (by decide) li_in10 w_343 ?_
            refine li_top (fun x15 ex15 => ?_)
            have gx15 := tl_rg x15
            have vx15 : x15.toInt = (M14.1 163 7).toInt := tl_eq ex15
            refine li_icmp_ge 107 dX10_joined_40 (by decide) (fun c16 => ?_) (fun c16 => ?_)
            · have tc16 : x15.toInt ≤ x12.toInt := tl_le c16
              have ck1 := Pck_M14
              obtain ⟨x17, ex17⟩ : ∃ y : Int32, y = x2Zq + 1 := ⟨_, rfl⟩
              have tx17 : (-2147483648 ≤ x2Zq.toInt + 1 ∧ x2Zq.toInt + 1 ≤ 2147483647) → x17.toInt = x2Zq.toInt + 1 := tl_add ex17
              refine li_iinc 3 [(4, .int x17), (7, .int x12), (6, .int x9), (5, .int x6), (3, .int x13), (0, .ref (Z.2.2 163)), (1, .int p1Zq), (2, .int p2Zq)] x17 dX10_joined_107 rfl (by rw [ex17]; rfl) (by decide) rfl ?_
              refine li_goto 7 dX10_joined_110 (by decide) ?_
              refine li_pick [0, 4, 5, 6, 7] [(4, .int x17), (3, .int x13), (0, .ref (Z.2.2 163)), (1, .int p1Zq), (2, .int p2Zq)] rfl ?_
              exact ih7 x17 x13 M14 (by omega) hf (by omega) (by first | exact li_cj_nx ck1 (by omega) (by omega) (by omega) (Int.le_antisymm (by omega) (by omega)) (Int.le_antisymm (by omega) (by omega)) rfl | exact li_cj_yes ck0 (by omega) (Int.le_antisymm (by omega) (by omega)) (by rw [← ga1]; exact hb1.mp (hy1 (by assumption))) (by rw [← ga2]; exact hb2.mp (hy2 (by assumption))) mk1 mk2 or1 ga3 | exact li_cj_no ck0 (by omega) (Int.le_antisymm (by omega) (by omega)) (fun zZq => absurd (hz2 (by assumption)) (hb2.mpr (by rw [ga2]; exact zZq.2))) mk1 mk2 rfl | exact li_cj_no ck0 (by omega) (Int.le_antisymm (by omega) (by omega)) (fun zZq => absurd (hz1 (by assumption)) (hb1.mpr (by rw [ga1]; exact zZq.1))) mk1 mk2 rfl | exact li_cj_0 rfl (Int.le_antisymm (by omega) (by omega)) (Int.le_antisymm (by omega) (by omega)) | exact li_ck_tr rfl rfl rfl rfl rfl rfl (Int.le_antisymm (by omega) (by omega)) (Int.le_antisymm (by omega) (by omega)) rfl Pck_M14)
            · have tc16 : x12.toInt < x15.toInt := tl_nle c16
              have ck0 := Pck_M14
              refine li_iload 0 dX10_joined_43 rfl ?_
              refine li_iconst 3 dX10_joined_45 (by decide) ?_
              refine li_imul dX10_joined_46 ?_
              refine li_top (fun x18 ex18 => ?_)
              have tx18 : (-2147483648 ≤ x12.toInt * 3 ∧ x12.toInt * 3 ≤ 2147483647) → x18.toInt = x12.toInt * 3 := tl_mul ex18
              refine li_istore [(8, .int x18), (7, .int x12), (6, .int x9), (5, .int x6), (4, .int x2Zq), (3, .int x13), (0, .ref (Z.2.2 163)), (1, .int p1Zq), (2, .int p2Zq)] dX10_joined_47 (by decide) rfl ?_
              refine li_iload 3 dX10_joined_49 rfl ?_
              refine li_aload_n 6 dX10_joined_51 rfl ?_
              refine li_getr (k := 0) (N := 8) (T := TX10) (C0 := RX10) dX10_joined_52 (by decide) sh_163 rfl rfl (by decide) (by decide) li_in10 w_335 ?_
              refine li_iload 0 dX10_joined_55 rfl ?_
              refine li_callN (n := 2) (As := [.ref (Z.2.2 164), .int x18]) dX10_joined_57 (a_X11_at (d - 1) (by omega) (by decide) sh_164 (by decide) x18 M14) (by omega) (Nat.le_of_ble_eq_true rfl) nw_30 w_569 w_101 w_570 (by decide +kernel) rfl rfl (Nat.le_of_ble_eq_true rfl) (fun r M20 h21 => ?_)
              obtain ⟨⟨x19, rfl, qx19⟩, h21⟩ := h21
              have gx19 := tl_rg x19
              have hf := li_fr_trans hf h21 (fun i hZq => False.elim hZq)
              have mM20_163_7 : (M20.1 163 7).toInt = (M14.1 163 7).toInt := by rw [h21.1 163 id]
              have ga1 : x19 = GZq (3 * (x12 : Int32).toInt).toNat := by rw [(at_is qx19 (by omega) (by omega) (by decide)).trans (nat_at (k := 3 * (x12 : Int32).toInt) (Int.le_antisymm (by omega) (by omega)) (by omega)), show M14.1 164 = GZq from (h21.1 164 (fun hZq => hZq)).symm.trans ((hf.1 164 (by first | exact id | omega)).trans hG)]
              have rga1 := hGr (3 * (x12 : Int32).toInt).toNat (by omega)
              rw [← ga1] at rga1
              refine li_callN (n := 2) (As := [.int x6, .int x19]) dX10_joined_60 (k11_X11_holds (d - 1) (by omega) x6 x19 M20) (by omega) (Nat.le_of_ble_eq_true rfl) nw_31 w_857 w_101 w_858 (by decide +kernel) rfl rfl (Nat.le_of_ble_eq_true rfl) (fun r M23 h24 => ?_)
              obtain ⟨⟨x22, rfl, bx22, qx22⟩, h24⟩ := h24
              have ux22 := tl_b bx22
              have hf := li_fr_trans hf h24 (fun i hZq => False.elim hZq)
              have mM23_163_7 : (M23.1 163 7).toInt = (M20.1 163 7).toInt := by rw [h24.1 163 id]
              have hb1 := hb_bit (b := x6) (i := x19) (by omega) (by omega)
              have hy1 : ¬ x22.toInt = 0 → ¬ li_hb x6 x19 = 0 := fun h9 => by rcases qx22 with c | c; exact c.2.2.2; exact absurd c.1 h9
              have hz1 : x22.toInt = 0 → li_hb x6 x19 = 0 := fun h9 => by rcases qx22 with c | c; exact absurd (c.1.symm.trans h9) (by decide); exact Decidable.not_not.mp (fun h8 => c.2 ⟨by omega, by omega, h8⟩)
              clear qx22
              have J101 : ∀ (x26 : Int32) (M27 : li_M), li_fr (fun i => False) M0 M27 → 0 ≤ (x12 : Int32).toInt ∧ (x12 : Int32).toInt < m ∧ (M27.1 163 7).toInt = m → li_ck (M27.1 167) (T) (GZq) (m) (p1Zq.toInt) (p2Zq.toInt - p1Zq.toInt) ((x2Zq : Int32).toInt - p1Zq.toInt) ((x12 : Int32).toInt + 1) ((x26 : Int32)) → li_T l Z YX10_joined d 101 [(8, .int x18), (7, .int x12), (6, .int x9), (5, .int x6), (4, .int x2Zq), (3, .int x26), (0, .ref (Z.2.2 163)), (1, .int p1Zq), (2, .int p2Zq)] [] M27 (fun r M' => (∃ x : Int32, r = some (.int x) ∧ (x = cy_cf T GZq m.toNat p1Zq.toInt.toNat (p2Zq.toInt - p1Zq.toInt).toNat ((p2Zq.toInt - p1Zq.toInt).toNat - 1))) ∧ li_fr (fun i => False) M0 M') := by
                intro x26 M27 hf hiZq Pck_M27
                have gx26 := tl_rg x26
                obtain ⟨x28, ex28⟩ : ∃ y : Int32, y = x12 + 1 := ⟨_, rfl⟩
                have tx28 : (-2147483648 ≤ x12.toInt + 1 ∧ x12.toInt + 1 ≤ 2147483647) → x28.toInt = x12.toInt + 1 := tl_add ex28
                refine li_iinc 1 [(7, .int x28), (8, .int x18), (6, .int x9), (5, .int x6), (4, .int x2Zq), (3, .int x26), (0, .ref (Z.2.2 163)), (1, .int p1Zq), (2, .int p2Zq)] x28 dX10_joined_101 rfl (by rw [ex28]; rfl) (by decide) rfl ?_
                refine li_goto 34 dX10_joined_104 (by decide) ?_
                refine li_pick [0, 2, 3, 4, 5, 6, 7, 8] [(7, .int x28), (6, .int x9), (5, .int x6), (4, .int x2Zq), (3, .int x26), (0, .ref (Z.2.2 163)), (1, .int p1Zq), (2, .int p2Zq)] rfl ?_
                exact ih34 x28 x26 M27 (by omega) hf (by omega) (by first | exact li_cj_nx ck1 (by omega) (by omega) (by omega) (Int.le_antisymm (by omega) (by omega)) (Int.le_antisymm (by omega) (by omega)) rfl | exact li_cj_yes ck0 (by omega) (Int.le_antisymm (by omega) (by omega)) (by rw [← ga1]; exact hb1.mp (hy1 (by assumption))) (by rw [← ga2]; exact hb2.mp (hy2 (by assumption))) mk1 mk2 or1 ga3 | exact li_cj_no ck0 (by omega) (Int.le_antisymm (by omega) (by omega)) (fun zZq => absurd (hz2 (by assumption)) (hb2.mpr (by rw [ga2]; exact zZq.2))) mk1 mk2 rfl | exact li_cj_no ck0 (by omega) (Int.le_antisymm (by omega) (by omega)) (fun zZq => absurd (hz1 (by assumption)) (hb1.mpr (by rw [ga1]; exact zZq.1))) mk1 mk2 rfl | exact li_cj_0 rfl (Int.le_antisymm (by omega) (by omega)) (Int.le_antisymm (by omega) (by omega)) | exact li_ck_tr rfl rfl rfl rfl rfl rfl (Int.le_antisymm (by omega) (by omega)) (Int.le_antisymm (by omega) (by omega)) rfl Pck_M27)
              refine li_if_eq 101 dX10_joined_63 (by decide) (fun c25Zq => ?_) (fun c25Zq => ?_)
              · have tc25 : x22.toInt = 0 := tl_eq c25Zq
                refine li_pick [0, 1, 2, 3, 4, 5, 6, 7, 8] [(8, .int x18), (7, .int x12), (6, .int x9), (5, .int x6), (4, .int x2Zq), (3, .int x13), (0, .ref (Z.2.2 163)), (1, .int p1Zq), (2, .int p2Zq)] rfl ?_
                exact J101 x13 M23 hf (by omega) (by first | exact li_cj_nx ck1 (by omega) (by omega) (by omega) (Int.le_antisymm (by omega) (by omega)) (Int.le_antisymm (by omega) (by omega)) rfl | exact li_cj_yes ck0 (by omega) (Int.le_antisymm (by omega) (by omega)) (by rw [← ga1]; exact hb1.mp (hy1 (by assumption))) (by rw [← ga2]; exact hb2.mp (hy2 (by assumption))) mk1 mk2 or1 ga3 | exact li_cj_no ck0 (by omega) (Int.le_antisymm (by omega) (by omega)) (fun zZq => absurd (hz2 (by assumption)) (hb2.mpr (by rw [ga2]; exact zZq.2))) mk1 mk2 rfl | exact li_cj_no ck0 (by omega) (Int.le_antisymm (by omega) (by omega)) (fun zZq => absurd (hz1 (by assumption)) (hb1.mpr (by rw [ga1]; exact zZq.1))) mk1 mk2 rfl | exact li_cj_0 rfl (Int.le_antisymm (by omega) (by omega)) (Int.le_antisymm (by omega) (by omega)))
              · have tc25 : ¬ x22.toInt = 0 := tl_ne c25Zq
                refine li_iload 2 dX10_joined_66 rfl ?_
                refine li_aload_n 6 dX10_joined_68 rfl ?_
                refine li_getr (k := 0) (N := 8) (T := TX10) (C0 := RX10) dX10_joined_69 (by decide) sh_163 rfl rfl (by decide) (by decide) li_in10 w_335 ?_
                refine li_iload 0 dX10_joined_72 rfl ?_
                refine li_iconst 1 dX10_joined_74 (by decide) ?_
                refine li_iadd dX10_joined_75 ?_
                refine li_top (fun x29 ex29 => ?_)
                have tx29 : (-2147483648 ≤ x18.toInt + 1 ∧ x18.toInt + 1 ≤ 2147483647) → x29.toInt = x18.toInt + 1 := tl_add ex29
                refine li_callN (n := 2) (As := [.ref (Z.2.2 164), .int x29]) dX10_joined_76 (a_X11_at (d - 1) (by omega) (by decide) sh_164 (by decide) x29 M23) (by omega) (Nat.le_of_ble_eq_true rfl) nw_30 w_569 w_101 w_570 (by decide +kernel) rfl rfl (Nat.le_of_ble_eq_true rfl) (fun r M31 h32 => ?_)
                obtain ⟨⟨x30, rfl, qx30⟩, h32⟩ := h32
                have gx30 := tl_rg x30
                have hf := li_fr_trans hf h32 (fun i hZq => False.elim hZq)
                have mM31_163_7 : (M31.1 163 7).toInt = (M23.1 163 7).toInt := by rw [h32.1 163 id]
                have ga2 : x30 = GZq (3 * (x12 : Int32).toInt + 1).toNat := by rw [(at_is qx30 (by omega) (by omega) (by decide)).trans (nat_at (k := 3 * (x12 : Int32).toInt + 1) (Int.le_antisymm (by omega) (by omega)) (by omega)), show M23.1 164 = GZq from (h32.1 164 (fun hZq => hZq)).symm.trans ((hf.1 164 (by first | exact id | omega)).trans hG)]
                have rga2 := hGr (3 * (x12 : Int32).toInt + 1).toNat (by omega)
                rw [← ga2] at rga2
                refine li_callN (n := 2) (As := [.int x9, .int x30]) dX10_joined_79 (k11_X11_holds (d - 1) (by omega) x9 x30 M31) (by omega) (Nat.le_of_ble_eq_true rfl) nw_31 w_857 w_101 w_858 (by decide +kernel) rfl rfl (Nat.le_of_ble_eq_true rfl) (fun r M34 h35 => ?_)
                obtain ⟨⟨x33, rfl, bx33, qx33⟩, h35⟩ := h35
                have ux33 := tl_b bx33
                have hf := li_fr_trans hf h35 (fun i hZq => False.elim hZq)
                have mM34_163_7 : (M34.1 163 7).toInt = (M31.1 163 7).toInt := by rw [h35.1 163 id]
                have hb2 := hb_bit (b := x9) (i := x30) (by omega) (by omega)
                have hy2 : ¬ x33.toInt = 0 → ¬ li_hb x9 x30 = 0 := fun h9 => by rcases qx33 with c | c; exact c.2.2.2; exact absurd c.1 h9
                have hz2 : x33.toInt = 0 → li_hb x9 x30 = 0 := fun h9 => by rcases qx33 with c | c; exact absurd (c.1.symm.trans h9) (by decide); exact Decidable.not_not.mp (fun h8 => c.2 ⟨by omega, by omega, h8⟩)
                clear qx33
                refine li_if_eq 101 dX10_joined_82 (by decide) (fun c36Zq => ?_) (fun c36Zq => ?_)
                · have tc36 : x33.toInt = 0 := tl_eq c36Zq
                  refine li_pick [0, 1, 2, 3, 4, 5, 6, 7, 8] [(8, .int x18), (7, .int x12), (6, .int x9), (5, .int x6), (4, .int x2Zq), (3, .int x13), (0, .ref (Z.2.2 163)), (1, .int p1Zq), (2, .int p2Zq)] rfl ?_
                  exact J101 x13 M34 hf (by omega) (by first | exact li_cj_nx ck1 (by omega) (by omega) (by omega) (Int.le_antisymm (by omega) (by omega)) (Int.le_antisymm (by omega) (by omega)) rfl | exact li_cj_yes ck0 (by omega) (Int.le_antisymm (by omega) (by omega)) (by rw [← ga1]; exact hb1.mp (hy1 (by assumption))) (by rw [← ga2]; exact hb2.mp (hy2 (by assumption))) mk1 mk2 or1 ga3 | exact li_cj_no ck0 (by omega) (Int.le_antisymm (by omega) (by omega)) (fun zZq => absurd (hz2 (by assumption)) (hb2.mpr (by rw [ga2]; exact zZq.2))) mk1 mk2 rfl | exact li_cj_no ck0 (by omega) (Int.le_antisymm (by omega) (by omega)) (fun zZq => absurd (hz1 (by assumption)) (hb1.mpr (by rw [ga1]; exact zZq.1))) mk1 mk2 rfl | exact li_cj_0 rfl (Int.le_antisymm (by omega) (by omega)) (Int.le_antisymm (by omega) (by omega)))
                · have tc36 : ¬ x33.toInt = 0 := tl_ne c36Zq
                  refine li_iload_n 5 dX10_joined_85 rfl ?_
                  refine li_iconst 1 dX10_joined_86 (by decide) ?_
                  refine li_aload_n 6 dX10_joined_87 rfl ?_
                  refine li_getr (k := 0) (N := 8) (T := TX10) (C0 := RX10) dX10_joined_88 (by decide) sh_163 rfl rfl (by decide) (by decide) li_in10 w_335 ?_
                  refine li_iload 0 dX10_joined_91 rfl ?_
                  refine li_iconst 2 dX10_joined_93 (by decide) ?_
                  refine li_iadd dX10_joined_94 ?_
                  refine li_top (fun x37 ex37 => ?_)
                  have tx37 : (-2147483648 ≤ x18.toInt + 2 ∧ x18.toInt + 2 ≤ 2147483647) → x37.toInt = x18.toInt + 2 := tl_add ex37
                  refine li_callN (n := 2) (As := [.ref (Z.2.2 164), .int x37]) dX10_joined_95 (a_X11_at (d - 1) (by omega) (by decide) sh_164 (by decide) x37 M34) (by omega) (Nat.le_of_ble_eq_true rfl) nw_30 w_569 w_101 w_570 (by decide +kernel) rfl rfl (Nat.le_of_ble_eq_true rfl) (fun r M39 h40 => ?_)
                  obtain ⟨⟨x38, rfl, qx38⟩, h40⟩ := h40
                  have gx38 := tl_rg x38
                  have hf := li_fr_trans hf h40 (fun i hZq => False.elim hZq)
                  have mM39_163_7 : (M39.1 163 7).toInt = (M34.1 163 7).toInt := by rw [h40.1 163 id]
                  have ga3 : x38 = GZq (3 * (x12 : Int32).toInt + 2).toNat := by rw [(at_is qx38 (by omega) (by omega) (by decide)).trans (nat_at (k := 3 * (x12 : Int32).toInt + 2) (Int.le_antisymm (by omega) (by omega)) (by omega)), show M34.1 164 = GZq from (h40.1 164 (fun hZq => hZq)).symm.trans ((hf.1 164 (by first | exact id | omega)).trans hG)]
                  have rga3 := hGr (3 * (x12 : Int32).toInt + 2).toNat (by omega)
                  rw [← ga3] at rga3
                  refine li_ishl dX10_joined_98 ?_
                  refine li_top (fun x41 ex41 => ?_)
                  refine li_ior dX10_joined_99 ?_
                  refine li_top (fun x42 ex42 => ?_)
                  have or1 : x42 = x13 ||| (1 <<< (x38 &&& 31)) := by rw [ex42, ex41]
                  refine li_istore_n [(3, .int x42), (8, .int x18), (7, .int x12), (6, .int x9), (5, .int x6), (4, .int x2Zq), (0, .ref (Z.2.2 163)), (1, .int p1Zq), (2, .int p2Zq)] dX10_joined_100 (by decide) rfl ?_
                  refine li_pick [1, 2, 3, 4, 5, 0, 6, 7, 8] [(8, .int x18), (7, .int x12), (6, .int x9), (5, .int x6), (4, .int x2Zq), (3, .int x42), (0, .ref (Z.2.2 163)), (1, .int p1Zq), (2, .int p2Zq)] rfl ?_
                  exact J101 x42 M39 hf (by omega) (by first | exact li_cj_nx ck1 (by omega) (by omega) (by omega) (Int.le_antisymm (by omega) (by omega)) (Int.le_antisymm (by omega) (by omega)) rfl | exact li_cj_yes ck0 (by omega) (Int.le_antisymm (by omega) (by omega)) (by rw [← ga1]; exact hb1.mp (hy1 (by assumption))) (by rw [← ga2]; exact hb2.mp (hy2 (by assumption))) mk1 mk2 or1 ga3 | exact li_cj_no ck0 (by omega) (Int.le_antisymm (by omega) (by omega)) (fun zZq => absurd (hz2 (by assumption)) (hb2.mpr (by rw [ga2]; exact zZq.2))) mk1 mk2 rfl | exact li_cj_no ck0 (by omega) (Int.le_antisymm (by omega) (by omega)) (fun zZq => absurd (hz1 (by assumption)) (hb1.mpr (by rw [ga1]; exact zZq.1))) mk1 mk2 rfl | exact li_cj_0 rfl (Int.le_antisymm (by omega) (by omega)) (Int.le_antisymm (by omega) (by omega)))
        have z0 : (0 : Int32).toInt = 0 := rfl
        exact L34 _ 0 x3 M10 (Nat.lt_succ_self _) hf (by omega) (by first | exact li_cj_nx ck1 (by omega) (by omega) (by omega) (Int.le_antisymm (by omega) (by omega)) (Int.le_antisymm (by omega) (by omega)) rfl | exact li_cj_yes ck0 (by omega) (Int.le_antisymm (by omega) (by omega)) (by rw [← ga1]; exact hb1.mp (hy1 (by assumption))) (by rw [← ga2]; exact hb2.mp (hy2 (by assumption))) mk1 mk2 or1 ga3 | exact li_cj_no ck0 (by omega) (Int.le_antisymm (by omega) (by omega)) (fun zZq => absurd (hz2 (by assumption)) (hb2.mpr (by rw [ga2]; exact zZq.2))) mk1 mk2 rfl | exact li_cj_no ck0 (by omega) (Int.le_antisymm (by omega) (by omega)) (fun zZq => absurd (hz1 (by assumption)) (hb1.mpr (by rw [ga1]; exact zZq.1))) mk1 mk2 rfl | exact li_cj_0 rfl (Int.le_antisymm (by omega) (by omega)) (Int.le_antisymm (by omega) (by omega)) | exact li_ck_tr rfl rfl rfl rfl rfl rfl (Int.le_antisymm (by omega) (by omega)) (Int.le_antisymm (by omega) (by omega)) rfl Pck_M10)
  have z0 : (0 : Int32).toInt = 0 := rfl
  exact L7 _ x1Zq 0 M0 (Nat.lt_succ_self _) hf (by omega) (by first | exact li_cj_nx ck1 (by omega) (by omega) (by omega) (Int.le_antisymm (by omega) (by omega)) (Int.le_antisymm (by omega) (by omega)) rfl | exact li_cj_yes ck0 (by omega) (Int.le_antisymm (by omega) (by omega)) (by rw [← ga1]; exact hb1.mp (hy1 (by assumption))) (by rw [← ga2]; exact hb2.mp (hy2 (by assumption))) mk1 mk2 or1 ga3 | exact li_cj_no ck0 (by omega) (Int.le_antisymm (by omega) (by omega)) (fun zZq => absurd (hz2 (by assumption)) (hb2.mpr (by rw [ga2]; exact zZq.2))) mk1 mk2 rfl | exact li_cj_no ck0 (by omega) (Int.le_antisymm (by omega) (by omega)) (fun zZq => absurd (hz1 (by assumption)) (hb1.mpr (by rw [ga1]; exact zZq.1))) mk1 mk2 rfl | exact li_cj_0 rfl (Int.le_antisymm (by omega) (by omega)) (Int.le_antisymm (by omega) (by omega)))

set_option maxRecDepth 100000 in
set_option maxHeartbeats 4000000 in
theorem k13_X10_fillMasks {l : Launch} {Z : li_Z} (d : Nat) (hdZq : 5 ≤ d) (p1Zq : Int32) (M0 : li_M) (h1 : 1 ≤ p1Zq.toInt ∧ p1Zq.toInt ≤ 14) (GZq X : Nat → Int32) (hG : M0.1 164 = GZq) (hX : M0.1 166 = X) (m : Int) (hmZq : m = (M0.1 163 7).toInt) (hmr : 0 ≤ m ∧ m ≤ 10) (hGr : ∀ i : Nat, (i : Int) < 3 * m → 0 ≤ (GZq i).toInt ∧ (GZq i).toInt ≤ 6) : li_Met l Z YX10_fillMasks d [.ref (Z.2.2 163), .int p1Zq] M0 (fun r M' => r = none ∧ li_fr (fun i => i = 167) M0 M' ∧ li_cy (M'.1 167) GZq X m (p1Zq.toInt) (p1Zq.toInt + 1) 0) := by
  refine li_enter (by decide +kernel) (Nat.le_of_ble_eq_true rfl) ?_
  show li_T l Z YX10_fillMasks d 0 [(0, .ref (Z.2.2 163)), (1, .int p1Zq)] [] M0 _
  have hf : li_fr (fun i => i = 167) M0 M0 := li_fr_refl
  have gp1 := tl_rg p1Zq
  refine li_iconst 0 dX10_fillMasks_0 (by decide) ?_
  refine li_istore_n [(2, .int 0), (0, .ref (Z.2.2 163)), (1, .int p1Zq)] dX10_fillMasks_1 (by decide) rfl ?_
  have L2Zq : ∀ (n : Nat) (x1Zq : Int32) (M2Zq : li_M), (p1Zq.toInt - (x1Zq : Int32).toInt).toNat < n → li_fr (fun i => i = 167) M0 M2Zq → 0 ≤ (x1Zq : Int32).toInt ∧ (x1Zq : Int32).toInt ≤ p1Zq.toInt ∧ (M2Zq.1 163 7).toInt = m → li_cy (M2Zq.1 167) (GZq) (X) (m) (p1Zq.toInt) (1) ((x1Zq : Int32).toInt) → li_T l Z YX10_fillMasks d 2 [(2, .int x1Zq), (0, .ref (Z.2.2 163)), (1, .int p1Zq)] [] M2Zq (fun r M' => r = none ∧ li_fr (fun i => i = 167) M0 M' ∧ li_cy (M'.1 167) GZq X m (p1Zq.toInt) (p1Zq.toInt + 1) 0) := by
    intro n
    induction n with
    | zero => intro x1Zq M2Zq hn; exact absurd hn (Nat.not_lt_zero _)
    | succ n ih2 =>
      intro x1Zq M2Zq hn hf hiZq Pcy_M2
      have gx1 := tl_rg x1Zq
      refine li_iload_n 0 dX10_fillMasks_2 rfl ?_
      refine li_iload_n 2 dX10_fillMasks_3 rfl ?_
      refine li_icmp_ge 38 dX10_fillMasks_4 (by decide) (fun c3 => ?_) (fun c3 => ?_)
      · have tc3 : p1Zq.toInt ≤ x1Zq.toInt := tl_le c3
        have cyn := cy_nx Pcy_M2 (by omega)
        refine li_iconst 2 dX10_fillMasks_38 (by decide) ?_
        refine li_istore_n [(2, .int 2), (0, .ref (Z.2.2 163)), (1, .int p1Zq)] dX10_fillMasks_39 (by decide) rfl ?_
        have L40 : ∀ (n : Nat) (x4Zq : Int32) (M5Zq : li_M), (p1Zq.toInt + 1 - (x4Zq : Int32).toInt).toNat < n → li_fr (fun i => i = 167) M0 M5Zq → 2 ≤ (x4Zq : Int32).toInt ∧ (x4Zq : Int32).toInt ≤ p1Zq.toInt + 1 ∧ (M5Zq.1 163 7).toInt = m → li_cy (M5Zq.1 167) (GZq) (X) (m) (p1Zq.toInt) ((x4Zq : Int32).toInt) (0) → li_T l Z YX10_fillMasks d 40 [(2, .int x4Zq), (0, .ref (Z.2.2 163)), (1, .int p1Zq)] [] M5Zq (fun r M' => r = none ∧ li_fr (fun i => i = 167) M0 M' ∧ li_cy (M'.1 167) GZq X m (p1Zq.toInt) (p1Zq.toInt + 1) 0) := by
          intro n
          induction n with
          | zero => intro x4Zq M5Zq hn; exact absurd hn (Nat.not_lt_zero _)
          | succ n ih40 =>
            intro x4Zq M5Zq hn hf hiZq Pcy_M5
            have gx4 := tl_rg x4Zq
            refine li_iload_n 0 dX10_fillMasks_40 rfl ?_
            refine li_iload_n 2 dX10_fillMasks_41 rfl ?_
            refine li_icmp_gt 89 dX10_fillMasks_42 (by decide) (fun c6Zq => ?_) (fun c6Zq => ?_)
            · have tc6 : p1Zq.toInt < x4Zq.toInt := tl_lt c6Zq
              exact li_vret dX10_fillMasks_89 rfl ⟨rfl, hf, (by exact li_cy_tr rfl rfl rfl rfl rfl (Int.le_antisymm (by omega) (by omega)) rfl Pcy_M5)⟩
            · have tc6 : x4Zq.toInt ≤ p1Zq.toInt := tl_nlt c6Zq
              refine li_iconst 0 dX10_fillMasks_45 (by decide) ?_
              refine li_istore_n [(3, .int 0), (2, .int x4Zq), (0, .ref (Z.2.2 163)), (1, .int p1Zq)] dX10_fillMasks_46 (by decide) rfl ?_
              have L47 : ∀ (n : Nat) (x7 : Int32) (M8Zq : li_M), (p1Zq.toInt + 1 - (x7 : Int32).toInt).toNat < n → li_fr (fun i => i = 167) M0 M8Zq → 0 ≤ (x7 : Int32).toInt ∧ (x7 : Int32).toInt + (x4Zq : Int32).toInt ≤ p1Zq.toInt + 1 ∧ (M8Zq.1 163 7).toInt = m → li_cy (M8Zq.1 167) (GZq) (X) (m) (p1Zq.toInt) ((x4Zq : Int32).toInt) ((x7 : Int32).toInt) → li_T l Z YX10_fillMasks d 47 [(3, .int x7), (2, .int x4Zq), (0, .ref (Z.2.2 163)), (1, .int p1Zq)] [] M8Zq (fun r M' => r = none ∧ li_fr (fun i => i = 167) M0 M' ∧ li_cy (M'.1 167) GZq X m (p1Zq.toInt) (p1Zq.toInt + 1) 0) := by
                intro n
                induction n with
                | zero => intro x7 M8Zq hn; exact absurd hn (Nat.not_lt_zero _)
                | succ n ih47 =>
                  intro x7 M8Zq hn hf hiZq Pcy_M8
                  have gx7 := tl_rg x7
                  refine li_iload_n 0 dX10_fillMasks_47 rfl ?_
                  refine li_iload_n 1 dX10_fillMasks_48 rfl ?_
                  refine li_iadd dX10_fillMasks_49 ?_
                  refine li_top (fun x9 ex9 => ?_)
                  have tx9 : (-2147483648 ≤ x7.toInt + x4Zq.toInt ∧ x7.toInt + x4Zq.toInt ≤ 2147483647) → x9.toInt = x7.toInt + x4Zq.toInt := tl_add ex9
                  refine li_iload_n 3 dX10_fillMasks_50 rfl ?_
                  refine li_icmp_gt 83 dX10_fillMasks_51 (by decide) (fun c10Zq => ?_) (fun c10Zq => ?_)
                  · have tc10 : p1Zq.toInt < x9.toInt := tl_lt c10Zq
                    have cyn := cy_nx Pcy_M8 (by omega)
                    obtain ⟨x11, ex11⟩ : ∃ y : Int32, y = x4Zq + 1 := ⟨_, rfl⟩
                    have tx11 : (-2147483648 ≤ x4Zq.toInt + 1 ∧ x4Zq.toInt + 1 ≤ 2147483647) → x11.toInt = x4Zq.toInt + 1 := tl_add ex11
                    refine li_iinc 1 [(2, .int x11), (3, .int x7), (0, .ref (Z.2.2 163)), (1, .int p1Zq)] x11 dX10_fillMasks_83 rfl (by rw [ex11]; rfl) (by decide) rfl ?_
                    refine li_goto 40 dX10_fillMasks_86 (by decide) ?_
                    refine li_pick [0, 2, 3] [(2, .int x11), (0, .ref (Z.2.2 163)), (1, .int p1Zq)] rfl ?_
                    exact ih40 x11 M8Zq (by omega) hf (by omega) (by first | exact li_cy_tr rfl rfl rfl rfl rfl (Int.le_antisymm (by omega) (by omega)) (Int.le_antisymm (by omega) (by omega)) Pcy_M8 | exact li_cy_tr rfl rfl rfl rfl rfl (Int.le_antisymm (by omega) (by omega)) (Int.le_antisymm (by omega) (by omega)) cyn | exact cy_0 (by omega) (by omega))
                  · have tc10 : x9.toInt ≤ p1Zq.toInt := tl_nlt c10Zq
                    refine li_aload_n 2 dX10_fillMasks_54 rfl ?_
                    refine li_getr (k := 3) (N := 8) (T := TX10) (C0 := RX10) dX10_fillMasks_55 (by decide) sh_163 rfl rfl (by decide) (by decide) li_in10 w_338 ?_
                    refine li_iload_n 0 dX10_fillMasks_58 rfl ?_
                    refine li_bipush 15 dX10_fillMasks_59 (by decide) ?_
                    refine li_imul dX10_fillMasks_61 ?_
                    refine li_top (fun x12 ex12 => ?_)
                    have tx12 : (-2147483648 ≤ x7.toInt * 15 ∧ x7.toInt * 15 ≤ 2147483647) → x12.toInt = x7.toInt * 15 := tl_mul ex12
                    refine li_iload_n 0 dX10_fillMasks_62 rfl ?_
                    refine li_iadd dX10_fillMasks_63 ?_
                    refine li_top (fun x13 ex13 => ?_)
                    have tx13 : (-2147483648 ≤ x12.toInt + x7.toInt ∧ x12.toInt + x7.toInt ≤ 2147483647) → x13.toInt = x12.toInt + x7.toInt := tl_add ex13
                    refine li_iload_n 1 dX10_fillMasks_64 rfl ?_
                    refine li_iadd dX10_fillMasks_65 ?_
                    refine li_top (fun x14 ex14 => ?_)
                    have tx14 : (-2147483648 ≤ x13.toInt + x4Zq.toInt ∧ x13.toInt + x4Zq.toInt ≤ 2147483647) → x14.toInt = x13.toInt + x4Zq.toInt := tl_add ex14
                    refine li_aload_n 2 dX10_fillMasks_66 rfl ?_
                    refine li_iload_n 0 dX10_fillMasks_67 rfl ?_
                    refine li_iload_n 0 dX10_fillMasks_68 rfl ?_
                    refine li_iload_n 1 dX10_fillMasks_69 rfl ?_
                    refine li_iadd dX10_fillMasks_70 ?_
                    refine li_top (fun x15 ex15 => ?_)
                    have tx15 : (-2147483648 ≤ x7.toInt + x4Zq.toInt ∧ x7.toInt + x4Zq.toInt ≤ 2147483647) → x15.toInt = x7.toInt + x4Zq.toInt := tl_add ex15
                    refine li_callV (n := 2) (As := [.int x7, .int x15]) dX10_fillMasks_71 (k13_X10_joined (d - 1) (by omega) x7 x15 M8Zq ⟨by omega, by omega, by omega⟩ (M8Zq.1 167) GZq rfl ((hf.1 164 (by first | decide | omega)).trans hG) m (Int.le_antisymm (by omega) (by omega)) hmr hGr) (by omega) (Nat.le_of_ble_eq_true rfl) w_1130 w_1132 w_29 w_108 w_1133 (by decide +kernel) rfl (by decide) sh_163 rfl rfl (Nat.le_of_ble_eq_true rfl) (fun r M17 h18 => ?_)
                    obtain ⟨⟨x16, rfl, qx16⟩, h18⟩ := h18
                    have gx16 := tl_rg x16
                    have hf := li_fr_trans hf h18 (fun i hZq => False.elim hZq)
                    have mM17_163_7 : (M17.1 163 7).toInt = (M8Zq.1 163 7).toInt := by rw [h18.1 163 id]
                    have Pcy_M17 : li_cy (M17.1 167) (GZq) (X) (m) (p1Zq.toInt) ((x4Zq : Int32).toInt) ((x7 : Int32).toInt) := li_cy_tr (h18.1 167 (fun hZq => by first | exact (hZq : False).elim | omega)) rfl rfl rfl rfl (Int.le_antisymm (by omega) (by omega)) (Int.le_antisymm (by omega) (by omega)) Pcy_M8
                    have jv : x16 = cy_v (M17.1 167) GZq X m.toNat ((x4Zq : Int32).toInt).toNat ((x7 : Int32).toInt).toNat := by unfold cy_v; rw [if_neg (by omega), qx16, show (x15 : Int32).toInt - (x7 : Int32).toInt = (x4Zq : Int32).toInt from Int.le_antisymm (by omega) (by omega), h18.1 167 (fun hZq => hZq)]
                    refine li_callN (n := 3) (As := [.ref (Z.2.2 167), .int x14, .int x16]) dX10_fillMasks_74 (a_X11_put (d - 1) (by omega) (by decide) sh_167 (by decide) x14 x16 M17) (by omega) (Nat.le_of_ble_eq_true rfl) nw_11 w_522 w_101 w_523 (by decide +kernel) rfl rfl (Nat.le_of_ble_eq_true rfl) (fun r M20 h21 => ?_)
                    obtain ⟨rfl, h21, nM20⟩ := h21
                    have hf := li_fr_trans hf h21 (fun i (hZq : i = 167) => (show i = 167 by omega))
                    have mM20_163_7 : (M20.1 163 7).toInt = (M17.1 163 7).toInt := by rw [h21.1 163 (show ¬ (163 = 167) by omega)]
                    have Pcy_M20 : li_cy (M20.1 167) (GZq) (X) (m) (p1Zq.toInt) ((x4Zq : Int32).toInt) ((x7 : Int32).toInt + 1) := cy_st Pcy_M17 (x14).toNatClampNeg (put_is nM20 (by omega) (by omega)) (by rw [li_cl (by omega)]; exact Int.le_antisymm (by omega) (by omega)) (by omega) (by omega) (by omega) (by omega) jv
                    obtain ⟨x22, ex22⟩ : ∃ y : Int32, y = x7 + 1 := ⟨_, rfl⟩
                    have tx22 : (-2147483648 ≤ x7.toInt + 1 ∧ x7.toInt + 1 ≤ 2147483647) → x22.toInt = x7.toInt + 1 := tl_add ex22
                    refine li_iinc 0 [(3, .int x22), (2, .int x4Zq), (0, .ref (Z.2.2 163)), (1, .int p1Zq)] x22 dX10_fillMasks_77 rfl (by rw [ex22]; rfl) (by decide) rfl ?_
                    refine li_goto 47 dX10_fillMasks_80 (by decide) ?_
                    refine li_pick [0, 1, 2, 3] [(3, .int x22), (2, .int x4Zq), (0, .ref (Z.2.2 163)), (1, .int p1Zq)] rfl ?_
                    exact ih47 x22 M20 (by omega) hf (by omega) (by first | exact li_cy_tr rfl rfl rfl rfl rfl (Int.le_antisymm (by omega) (by omega)) (Int.le_antisymm (by omega) (by omega)) Pcy_M20 | exact li_cy_tr rfl rfl rfl rfl rfl (Int.le_antisymm (by omega) (by omega)) (Int.le_antisymm (by omega) (by omega)) cyn | exact cy_0 (by omega) (by omega))
              have z0 : (0 : Int32).toInt = 0 := rfl
              exact L47 _ 0 M5Zq (Nat.lt_succ_self _) hf (by omega) (by first | exact li_cy_tr rfl rfl rfl rfl rfl (Int.le_antisymm (by omega) (by omega)) (Int.le_antisymm (by omega) (by omega)) Pcy_M5 | exact li_cy_tr rfl rfl rfl rfl rfl (Int.le_antisymm (by omega) (by omega)) (Int.le_antisymm (by omega) (by omega)) cyn | exact cy_0 (by omega) (by omega))
        have z2 : (2 : Int32).toInt = 2 := rfl
        exact L40 _ 2 M2Zq (Nat.lt_succ_self _) hf (by omega) (by first | exact li_cy_tr rfl rfl rfl rfl rfl (Int.le_antisymm (by omega) (by omega)) (Int.le_antisymm (by omega) (by omega)) Pcy_M2 | exact li_cy_tr rfl rfl rfl rfl rfl (Int.le_antisymm (by omega) (by omega)) (Int.le_antisymm (by omega) (by omega)) cyn | exact cy_0 (by omega) (by omega))
      · have tc3 : x1Zq.toInt < p1Zq.toInt := tl_nle c3
        refine li_aload_n 1 dX10_fillMasks_7 rfl ?_
        refine li_getr (k := 3) (N := 8) (T := TX10) (C0 := RX10) dX10_fillMasks_8 (by decide) sh_163 rfl rfl (by decide) (by decide) li_in10 w_338 ?_
        refine li_iload_n 0 dX10_fillMasks_11 rfl ?_
        refine li_bipush 15 dX10_fillMasks_12 (by decide) ?_
        refine li_imul dX10_fillMasks_14 ?_
        refine li_top (fun x23 ex23 => ?_)
        have tx23 : (-2147483648 ≤ x1Zq.toInt * 15 ∧ x1Zq.toInt * 15 ≤ 2147483647) → x23.toInt = x1Zq.toInt * 15 := tl_mul ex23
        refine li_iload_n 0 dX10_fillMasks_15 rfl ?_
        refine li_iadd dX10_fillMasks_16 ?_
        refine li_top (fun x24 ex24 => ?_)
        have tx24 : (-2147483648 ≤ x23.toInt + x1Zq.toInt ∧ x23.toInt + x1Zq.toInt ≤ 2147483647) → x24.toInt = x23.toInt + x1Zq.toInt := tl_add ex24
        refine li_iconst 1 dX10_fillMasks_17 (by decide) ?_
        refine li_iadd dX10_fillMasks_18 ?_
        refine li_top (fun x25 ex25 => ?_)
        have tx25 : (-2147483648 ≤ x24.toInt + 1 ∧ x24.toInt + 1 ≤ 2147483647) → x25.toInt = x24.toInt + 1 := tl_add ex25
        refine li_iconst 1 dX10_fillMasks_19 (by decide) ?_
        refine li_aload_n 1 dX10_fillMasks_20 rfl ?_
        refine li_getr (k := 2) (N := 8) (T := TX10) (C0 := RX10) dX10_fillMasks_21 (by decide) sh_163 rfl rfl (by decide) (by decide) li_in10 w_337 ?_
        refine li_iload_n 0 dX10_fillMasks_24 rfl ?_
        refine li_callN (n := 2) (As := [.ref (Z.2.2 166), .int x1Zq]) dX10_fillMasks_25 (a_X11_at (d - 1) (by omega) (by decide) sh_166 (by decide) x1Zq M2Zq) (by omega) (Nat.le_of_ble_eq_true rfl) nw_30 w_569 w_101 w_570 (by decide +kernel) rfl rfl (Nat.le_of_ble_eq_true rfl) (fun r M27 h28 => ?_)
        obtain ⟨⟨x26, rfl, qx26⟩, h28⟩ := h28
        have gx26 := tl_rg x26
        have hf := li_fr_trans hf h28 (fun i hZq => False.elim hZq)
        have mM27_163_7 : (M27.1 163 7).toInt = (M2Zq.1 163 7).toInt := by rw [h28.1 163 id]
        have Pcy_M27 : li_cy (M27.1 167) (GZq) (X) (m) (p1Zq.toInt) (1) ((x1Zq : Int32).toInt) := li_cy_tr (h28.1 167 (fun hZq => by first | exact (hZq : False).elim | omega)) rfl rfl rfl rfl (Int.le_antisymm (by omega) (by omega)) (Int.le_antisymm (by omega) (by omega)) Pcy_M2
        have ltZq : x26 = X ((x1Zq : Int32).toInt).toNat := by rw [(at_is qx26 (by omega) (by omega) (by decide)).trans (nat_at (k := (x1Zq : Int32).toInt) rfl (by omega)), show M2Zq.1 166 = X from (h28.1 166 (fun hZq => hZq)).symm.trans ((hf.1 166 (by first | decide | omega)).trans hX)]
        refine li_ishl dX10_fillMasks_28 ?_
        refine li_top (fun x29 ex29 => ?_)
        refine li_callN (n := 3) (As := [.ref (Z.2.2 167), .int x25, .int x29]) dX10_fillMasks_29 (a_X11_put (d - 1) (by omega) (by decide) sh_167 (by decide) x25 x29 M27) (by omega) (Nat.le_of_ble_eq_true rfl) nw_11 w_522 w_101 w_523 (by decide +kernel) rfl rfl (Nat.le_of_ble_eq_true rfl) (fun r M31 h32 => ?_)
        obtain ⟨rfl, h32, nM31⟩ := h32
        have hf := li_fr_trans hf h32 (fun i (hZq : i = 167) => (show i = 167 by omega))
        have mM31_163_7 : (M31.1 163 7).toInt = (M27.1 163 7).toInt := by rw [h32.1 163 (show ¬ (163 = 167) by omega)]
        have Pcy_M31 : li_cy (M31.1 167) (GZq) (X) (m) (p1Zq.toInt) (1) ((x1Zq : Int32).toInt + 1) := cy_st Pcy_M27 (x25).toNatClampNeg (put_is nM31 (by omega) (by omega)) (by rw [li_cl (by omega)]; exact Int.le_antisymm (by omega) (by omega)) (by omega) (by omega) (by omega) (by omega) (by rw [ex29, ltZq]; rfl)
        obtain ⟨x33, ex33⟩ : ∃ y : Int32, y = x1Zq + 1 := ⟨_, rfl⟩
        have tx33 : (-2147483648 ≤ x1Zq.toInt + 1 ∧ x1Zq.toInt + 1 ≤ 2147483647) → x33.toInt = x1Zq.toInt + 1 := tl_add ex33
        refine li_iinc 0 [(2, .int x33), (0, .ref (Z.2.2 163)), (1, .int p1Zq)] x33 dX10_fillMasks_32 rfl (by rw [ex33]; rfl) (by decide) rfl ?_
        refine li_goto 2 dX10_fillMasks_35 (by decide) ?_
        refine li_pick [0, 1, 2] [(2, .int x33), (0, .ref (Z.2.2 163)), (1, .int p1Zq)] rfl ?_
        exact ih2 x33 M31 (by omega) hf (by omega) (by first | exact li_cy_tr rfl rfl rfl rfl rfl (Int.le_antisymm (by omega) (by omega)) (Int.le_antisymm (by omega) (by omega)) Pcy_M31 | exact li_cy_tr rfl rfl rfl rfl rfl (Int.le_antisymm (by omega) (by omega)) (Int.le_antisymm (by omega) (by omega)) cyn | exact cy_0 (by omega) (by omega))
  have z0 : (0 : Int32).toInt = 0 := rfl
  exact L2Zq _ 0 M0 (Nat.lt_succ_self _) hf (by omega) (by first | exact li_cy_tr rfl rfl rfl rfl rfl (Int.le_antisymm (by omega) (by omega)) (Int.le_antisymm (by omega) (by omega)) cyn | exact cy_0 (by omega) (by omega))
