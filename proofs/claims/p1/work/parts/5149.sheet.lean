def sh_en (k : Int) (v : Int32) : Int := if k = 0 then v.toInt8.toInt32.toInt else if k = 1 then v.toInt16.toInt32.toInt else v.toInt
theorem sh_en_0 {k : Int} {v x : Int32} (h : k = 0) (e : x = v.toInt8.toInt32) : x.toInt = sh_en k v := by unfold sh_en; rw [if_pos h, e]
theorem sh_en_1 {k : Int} {v x : Int32} (h : k = 1) (e : x = v.toInt16.toInt32) : x.toInt = sh_en k v := by unfold sh_en; rw [if_neg (by omega), if_pos h, e]
theorem sh_en_2 {k : Int} {v : Int32} (h : ¬ k = 0) (h1 : ¬ k = 1) : v.toInt = sh_en k v := by unfold sh_en; rw [if_neg h, if_neg h1]
def sh_at (k : Int) (f st : Int32) (en : Int) (i : Int32) : Int := if i.toInt < en then max 0 (min (sh_en k (f + i * st)) 9999) else 0
theorem sh_at_0 {k : Int} {f st : Int32} {en : Int} {i : Int32} (h : en ≤ i.toInt) : sh_at k f st en i = 0 := if_neg (by omega)
theorem sh_at_1 {k : Int} {f st : Int32} {en : Int} {i v : Int32} (h : i.toInt < en) (e : v = f + i * st) : sh_at k f st en i = max 0 (min (sh_en k v) 9999) := by unfold sh_at; rw [if_pos h, e]
theorem sh_at_rg {k : Int} {f st : Int32} {en : Int} {i : Int32} : 0 ≤ sh_at k f st en i ∧ sh_at k f st en i ≤ 9999 := by
  unfold sh_at
  split <;> omega
def sh_sum (k : Int) (f st : Int32) (en : Int) : Nat → Int
  | 0 => 0
  | j + 1 => sh_sum k f st en j + sh_at k f st en (nI j)
theorem nI_at {i : Int32} {j : Int} (h : i.toInt = j) (h0 : 0 ≤ j) : nI j.toNat = i := Int32.toInt_inj.mp (by have := tl_rg i; rw [nI_toInt (by omega)]; omega)
def li_cv (g : Nat → Int32) (k : Int) (f st : Int32) (en j : Int) : Prop := ∀ i : Nat, (i : Int) < j → (g i).toInt = sh_at k f st en (nI i)
theorem li_cv_tr {g g' : Nat → Int32} {k k' : Int} {f f' st st' : Int32} {en en' j j' : Int} (hg : g' = g) (h1 : k' = k) (h2 : f' = f) (h3 : st' = st) (h4 : en' = en) (h5 : j' = j) (h : li_cv g k f st en j) : li_cv g' k' f' st' en' j' := by
  subst hg; subst h1; subst h2; subst h3; subst h4; subst h5; exact h
theorem li_cv_0 {g : Nat → Int32} {k : Int} {f st : Int32} {en j : Int} (h : j ≤ 0) : li_cv g k f st en j := fun i hi => absurd hi (by omega)
theorem li_cv_st {g g' : Nat → Int32} {k : Int} {f st : Int32} {en j j' : Int} {x v : Int32} (h : li_cv g k f st en j) (hp : ∀ i : Nat, g' i = if 0 ≤ x.toInt ∧ x.toInt < ((6 : Nat) : Int) ∧ i = x.toNatClampNeg then v else g i) (hx : x.toInt = j) (h0 : 0 ≤ j ∧ j < 6) (hv : v.toInt = sh_at k f st en x) (e : j' = j + 1) : li_cv g' k f st en j' := by
  have h9 := li_cl (i := x) (by omega)
  intro i hi
  rw [hp i]
  by_cases c : i = x.toNatClampNeg
  · rw [if_pos ⟨by omega, by omega, c⟩, hv]
    have z := nI_at (i := x) (j := (i : Int)) (by omega) (by omega)
    rw [show ((i : Int)).toNat = i by omega] at z
    rw [z]
  · rw [if_neg (fun z => c z.2.2)]
    exact h i (by omega)
theorem li_cv_ld {g : Nat → Int32} {k : Int} {f st : Int32} {en j : Int} {x i : Int32} (h : li_cv g k f st en j) (e : x = li_at g 6 i) (h0 : 0 ≤ i.toInt ∧ i.toInt < j) (hj : j ≤ 6) : x.toInt = sh_at k f st en i := by
  have h9 := li_cl (i := i) h0.1
  have hz : (0 : Int32).toInt = 0 := rfl
  have z6 : (nI 6).toInt = 6 := rfl
  rw [e]
  unfold li_at
  rw [if_pos ⟨Int32.le_iff_toInt_le.mpr (by omega), Int32.lt_iff_toInt_lt.mpr (by omega)⟩, h i.toNatClampNeg (by omega)]
  have z := nI_at (i := i) (j := (i.toNatClampNeg : Int)) (by omega) (by omega)
  rw [show ((i.toNatClampNeg : Int)).toNat = i.toNatClampNeg by omega] at z
  rw [z]
def li_sm (g : Nat → Int32) (s k : Int) (f st : Int32) (en j : Int) : Prop := s = sh_sum k f st en j.toNat
theorem li_sm_tr {g g' : Nat → Int32} {s s' k k' : Int} {f f' st st' : Int32} {en en' j j' : Int} (hg : g' = g) (h0 : s' = s) (h1 : k' = k) (h2 : f' = f) (h3 : st' = st) (h4 : en' = en) (h5 : j' = j) (h : li_sm g s k f st en j) : li_sm g' s' k' f' st' en' j' := by
  subst hg; subst h0; subst h1; subst h2; subst h3; subst h4; subst h5; exact h
theorem li_sm_0 {g : Nat → Int32} {s k : Int} {f st : Int32} {en j : Int} (hs : s = 0) (hj : j = 0) : li_sm g s k f st en j := by subst hs; subst hj; rfl
theorem li_sm_st {g g' : Nat → Int32} {s s' k : Int} {f st : Int32} {en j j' : Int} {x : Int32} (h : li_sm g s k f st en j) (hx : x.toInt = j) (h0 : 0 ≤ j) (hs : s' = s + sh_at k f st en x) (hj : j' = j + 1) : li_sm g' s' k f st en j' := by
  unfold li_sm at h ⊢
  subst hj
  rw [hs, h, show (j + 1).toNat = j.toNat + 1 by omega]
  show _ = sh_sum k f st en j.toNat + sh_at k f st en (nI j.toNat)
  rw [nI_at hx h0]
theorem li_sm_end {g : Nat → Int32} {r s k : Int} {f st : Int32} {en j j' : Int} (h : li_sm g s k f st en j) (e1 : r = s) (e2 : j' = j) : r = sh_sum k f st en j'.toNat := by
  subst e1; subst e2; exact h
/-- what goes from entry to entry -/
def li_vv (g : Nat → Int32) (v f st : Int32) (j : Int) : Prop := v = f + nI j.toNat * st
theorem li_vv_tr {g g' : Nat → Int32} {v v' f f' st st' : Int32} {j j' : Int} (hg : g' = g) (h1 : v' = v) (h2 : f' = f) (h3 : st' = st) (h4 : j' = j) (h : li_vv g v f st j) : li_vv g' v' f' st' j' := by
  subst hg; subst h1; subst h2; subst h3; subst h4; exact h
theorem li_vv_0 {g : Nat → Int32} {f st : Int32} {j : Int} (hj : j = 0) : li_vv g f f st j := by
  subst hj
  show f = f + nI 0 * st
  rw [show nI 0 = 0 from rfl]
  simp
theorem li_vv_st {g g' : Nat → Int32} {v v' f st : Int32} {j j' : Int} (h : li_vv g v f st j) (e : v' = v + st) (h0 : 0 ≤ j ∧ j ≤ 100) (hj : j' = j + 1) : li_vv g' v' f st j' := by
  unfold li_vv at h ⊢
  have e1 : nI j'.toNat = nI j.toNat + 1 := by
    apply Int32.toInt_inj.mp
    have a := nI_toInt (n := j.toNat) (by omega)
    have z1 : (1 : Int32).toInt = 1 := rfl
    have b : (nI j.toNat + 1).toInt = (nI j.toNat).toInt + (1 : Int32).toInt := tl_add rfl (by omega)
    rw [nI_toInt (by omega), b]
    omega
  rw [e, h, e1, Int32.add_mul, Int32.one_mul, Int32.add_assoc]
theorem li_vv_at {g : Nat → Int32} {v f st i : Int32} {j : Int} (h : li_vv g v f st j) (hi : i.toInt = j) (h0 : 0 ≤ j) : v = f + i * st := by
  unfold li_vv at h
  rw [nI_at hi h0] at h
  exact h

set_option maxRecDepth 100000 in
set_option maxHeartbeats 4000000 in
theorem k9_X11_clamp {l : Launch} {Z : li_Z} (d : Nat) (hd : 1 ≤ d) (p1 : Int32) (p2 : Int32) (M0 : li_M) : li_Met l Z YX11_clamp d [.int p1, .int p2] M0 (fun r M' => (∃ x : Int32, r = some (.int x) ∧ (x.toInt = max 0 (min p1.toInt p2.toInt))) ∧ li_fr (fun i => False) M0 M') := by
  refine li_enter (by decide +kernel) (Nat.le_of_ble_eq_true rfl) ?_
  show li_T l Z YX11_clamp d 0 [(0, .int p1), (1, .int p2)] [] M0 _
  have hf : li_fr (fun i => False) M0 M0 := li_fr_refl
  have gp1 := tl_rg p1
  have gp2 := tl_rg p2
  refine li_iconst 0 dX11_clamp_0 (by decide) ?_
  refine li_iload_n 0 dX11_clamp_1 rfl ?_
  refine li_iload_n 1 dX11_clamp_2 rfl ?_
  refine li_mmin dX11_clamp_3 (by omega) w_774 w_726 w_113 w_727 (Nat.le_of_ble_eq_true rfl) ?_
  refine li_top (fun x1 ex1 => ?_)
  have tx1 : (p2.toInt < p1.toInt → x1.toInt = p2.toInt) ∧ (p1.toInt ≤ p2.toInt → x1.toInt = p1.toInt) := tl_min ex1
  refine li_mmax dX11_clamp_6 (by omega) w_775 w_642 w_113 w_643 (Nat.le_of_ble_eq_true rfl) ?_
  refine li_top (fun x2 ex2 => ?_)
  have tx2 : (0 < x1.toInt → x2.toInt = x1.toInt) ∧ (x1.toInt ≤ 0 → x2.toInt = 0) := tl_max ex2
  exact li_iret dX11_clamp_9 rfl rfl ⟨⟨_, rfl, (by omega)⟩, hf⟩
set_option maxRecDepth 100000 in
set_option maxHeartbeats 4000000 in
theorem k9_X11_entryOf {l : Launch} {Z : li_Z} (d : Nat) (hd : 2 ≤ d) (p1 : Int32) (p2 : Int32) (M0 : li_M) : li_Met l Z YX11_entryOf d [.int p1, .int p2] M0 (fun r M' => (∃ x : Int32, r = some (.int x) ∧ (x.toInt = max 0 (min (sh_en (p1.toInt) p2) 9999))) ∧ li_fr (fun i => False) M0 M') := by
  refine li_enter (by decide +kernel) (Nat.le_of_ble_eq_true rfl) ?_
  show li_T l Z YX11_entryOf d 0 [(0, .int p1), (1, .int p2)] [] M0 _
  have hf : li_fr (fun i => False) M0 M0 := li_fr_refl
  have gp1 := tl_rg p1
  have gp2 := tl_rg p2
  refine li_iload_n 1 dX11_entryOf_0 rfl ?_
  refine li_istore_n [(2, .int p2), (0, .int p1), (1, .int p2)] dX11_entryOf_1 (by decide) rfl ?_
  refine li_iload_n 1 dX11_entryOf_2 rfl ?_
  refine li_if_ne 12 dX11_entryOf_3 (by decide) (fun c1 => ?_) (fun c1 => ?_)
  · have tc1 : ¬ p1.toInt = 0 := tl_ne c1
    have se2 : ¬ p1.toInt = 0 → ¬ p1.toInt = 1 → p2.toInt = sh_en (p1.toInt) p2 := fun a b => sh_en_2 a b
    refine li_iload_n 1 dX11_entryOf_12 rfl ?_
    refine li_iconst 1 dX11_entryOf_13 (by decide) ?_
    refine li_icmp_ne 20 dX11_entryOf_14 (by decide) (fun c2 => ?_) (fun c2 => ?_)
    · have tc2 : ¬ p1.toInt = 1 := tl_ne c2
      refine li_iload_n 0 dX11_entryOf_20 rfl ?_
      refine li_sipush 9999 dX11_entryOf_21 (by decide) ?_
      refine li_callS (n := 2) (As := [.int p2, .int 9999]) dX11_entryOf_24 (k9_X11_clamp (d - 1) (by omega) p2 9999 M0) (by omega) (Nat.le_of_ble_eq_true rfl) w_771 w_772 w_101 w_773 (by decide +kernel) rfl rfl (Nat.le_of_ble_eq_true rfl) (fun r M4 h5 => ?_)
      have z9999 : (9999 : Int32).toInt = 9999 := rfl
      obtain ⟨⟨x3, rfl, qx3⟩, h5⟩ := h5
      have gx3 := tl_rg x3
      have hf := li_fr_trans hf h5 (fun i h => False.elim h)
      exact li_iret dX11_entryOf_27 rfl rfl ⟨⟨_, rfl, (by omega)⟩, hf⟩
    · have tc2 : p1.toInt = 1 := tl_eq c2
      refine li_iload_n 2 dX11_entryOf_17 rfl ?_
      refine li_i2s dX11_entryOf_18 ?_
      refine li_top (fun x6 ex6 => ?_)
      have se : x6.toInt = sh_en (p1.toInt) p2 := sh_en_1 (by omega) ex6
      refine li_istore_n [(2, .int x6), (0, .int p1), (1, .int p2)] dX11_entryOf_19 (by decide) rfl ?_
      refine li_iload_n 0 dX11_entryOf_20 rfl ?_
      refine li_sipush 9999 dX11_entryOf_21 (by decide) ?_
      refine li_callS (n := 2) (As := [.int x6, .int 9999]) dX11_entryOf_24 (k9_X11_clamp (d - 1) (by omega) x6 9999 M0) (by omega) (Nat.le_of_ble_eq_true rfl) w_771 w_772 w_101 w_773 (by decide +kernel) rfl rfl (Nat.le_of_ble_eq_true rfl) (fun r M8 h9 => ?_)
      have z9999 : (9999 : Int32).toInt = 9999 := rfl
      obtain ⟨⟨x7, rfl, qx7⟩, h9⟩ := h9
      have gx7 := tl_rg x7
      have hf := li_fr_trans hf h9 (fun i h => False.elim h)
      exact li_iret dX11_entryOf_27 rfl rfl ⟨⟨_, rfl, (by omega)⟩, hf⟩
  · have tc1 : p1.toInt = 0 := tl_eq c1
    refine li_iload_n 2 dX11_entryOf_6 rfl ?_
    refine li_i2b dX11_entryOf_7 ?_
    refine li_top (fun x10 ex10 => ?_)
    have se : x10.toInt = sh_en (p1.toInt) p2 := sh_en_0 (by omega) ex10
    refine li_istore_n [(2, .int x10), (0, .int p1), (1, .int p2)] dX11_entryOf_8 (by decide) rfl ?_
    refine li_goto 20 dX11_entryOf_9 (by decide) ?_
    refine li_iload_n 0 dX11_entryOf_20 rfl ?_
    refine li_sipush 9999 dX11_entryOf_21 (by decide) ?_
    refine li_callS (n := 2) (As := [.int x10, .int 9999]) dX11_entryOf_24 (k9_X11_clamp (d - 1) (by omega) x10 9999 M0) (by omega) (Nat.le_of_ble_eq_true rfl) w_771 w_772 w_101 w_773 (by decide +kernel) rfl rfl (Nat.le_of_ble_eq_true rfl) (fun r M12 h13 => ?_)
    have z9999 : (9999 : Int32).toInt = 9999 := rfl
    obtain ⟨⟨x11, rfl, qx11⟩, h13⟩ := h13
    have gx11 := tl_rg x11
    have hf := li_fr_trans hf h13 (fun i h => False.elim h)
    exact li_iret dX11_entryOf_27 rfl rfl ⟨⟨_, rfl, (by omega)⟩, hf⟩
set_option maxRecDepth 100000 in
set_option maxHeartbeats 4000000 in
theorem k9_X4_allClocks {l : Launch} {Z : li_Z} (d : Nat) (hd : 2 ≤ d) (p1 : Int32) (M0 : li_M) (h1 : 0 ≤ p1.toInt ∧ p1.toInt ≤ 6) (KK : Int) (ff ss : Int32) (EN : Int) (Pcv_M0 : li_cv (M0.1 14) (KK) (ff) (ss) (EN) (p1.toInt)) : li_Met l Z YX4_allClocks d [.ref (Z.2.2 13), .int p1] M0 (fun r M' => (∃ x : Int32, r = some (.int x) ∧ (x.toInt = sh_sum KK ff ss EN (p1.toInt).toNat)) ∧ li_fr (fun i => False) M0 M') := by
  refine li_enter (by decide +kernel) (Nat.le_of_ble_eq_true rfl) ?_
  show li_T l Z YX4_allClocks d 0 [(0, .ref (Z.2.2 13)), (1, .int p1)] [] M0 _
  have hf : li_fr (fun i => False) M0 M0 := li_fr_refl
  have gp1 := tl_rg p1
  refine li_iconst 0 dX4_allClocks_0 (by decide) ?_
  refine li_istore_n [(2, .int 0), (0, .ref (Z.2.2 13)), (1, .int p1)] dX4_allClocks_1 (by decide) rfl ?_
  refine li_iconst 0 dX4_allClocks_2 (by decide) ?_
  refine li_istore_n [(3, .int 0), (2, .int 0), (0, .ref (Z.2.2 13)), (1, .int p1)] dX4_allClocks_3 (by decide) rfl ?_
  have L4 : ∀ (n : Nat) (x1 : Int32) (x2 : Int32) (M3 : li_M), (p1.toInt - (x1 : Int32).toInt).toNat < n → li_fr (fun i => False) M0 M3 → 0 ≤ (x1 : Int32).toInt ∧ (x1 : Int32).toInt ≤ p1.toInt ∧ 0 ≤ (x2 : Int32).toInt ∧ (x2 : Int32).toInt ≤ 9999 * (x1 : Int32).toInt → li_cv (M3.1 14) (KK) (ff) (ss) (EN) (p1.toInt) → li_sm (M3.1 14) ((x2 : Int32).toInt) (KK) (ff) (ss) (EN) ((x1 : Int32).toInt) → li_T l Z YX4_allClocks d 4 [(3, .int x1), (2, .int x2), (0, .ref (Z.2.2 13)), (1, .int p1)] [] M3 (fun r M' => (∃ x : Int32, r = some (.int x) ∧ (x.toInt = sh_sum KK ff ss EN (p1.toInt).toNat)) ∧ li_fr (fun i => False) M0 M') := by
    intro n
    induction n with
    | zero => intro x1 x2 M3 hn; exact absurd hn (Nat.not_lt_zero _)
    | succ n ih4 =>
      intro x1 x2 M3 hn hf hi Pcv_M3 Psm_M3
      have gx1 := tl_rg x1
      have gx2 := tl_rg x2
      refine li_iload_n 0 dX4_allClocks_4 rfl ?_
      refine li_iload_n 3 dX4_allClocks_5 rfl ?_
      refine li_icmp_ge 26 dX4_allClocks_6 (by decide) (fun c4 => ?_) (fun c4 => ?_)
      · have tc4 : p1.toInt ≤ x1.toInt := tl_le c4
        refine li_iload_n 1 dX4_allClocks_26 rfl ?_
        exact li_iret dX4_allClocks_27 rfl rfl ⟨⟨_, rfl, (by exact li_sm_end Psm_M3 (by omega) (by omega))⟩, hf⟩
      · have tc4 : x1.toInt < p1.toInt := tl_nle c4
        refine li_iload_n 1 dX4_allClocks_9 rfl ?_
        refine li_aload_n 2 dX4_allClocks_10 rfl ?_
        refine li_getr (k := 4) (N := 11) (T := TX4) (C0 := RX4) dX4_allClocks_11 (by decide) sh_13 rfl rfl (by decide) (by decide) li_in4 w_239 ?_
        refine li_iload_n 0 dX4_allClocks_14 rfl ?_
        refine li_callN (n := 2) (As := [.ref (Z.2.2 14), .int x1]) dX4_allClocks_15 (a_X11_at (d - 1) (by omega) (by decide) sh_14 (by decide) x1 M3) (by omega) (Nat.le_of_ble_eq_true rfl) nw_13 w_569 w_101 w_570 (by decide +kernel) rfl rfl (Nat.le_of_ble_eq_true rfl) (fun r M6 h7 => ?_)
        obtain ⟨⟨x5, rfl, qx5⟩, h7⟩ := h7
        have gx5 := tl_rg x5
        have hf := li_fr_trans hf h7 (fun i h => False.elim h)
        have Psm_M6 : li_sm (M6.1 14) ((x2 : Int32).toInt) (KK) (ff) (ss) (EN) ((x1 : Int32).toInt) := li_sm_tr (h7.1 14 (fun h => by first | exact (h : False).elim | omega)) (by omega) rfl rfl rfl rfl (by omega) Psm_M3
        have Pcv_M6 : li_cv (M6.1 14) (KK) (ff) (ss) (EN) (p1.toInt) := li_cv_tr (h7.1 14 (fun h => by first | exact (h : False).elim | omega)) rfl rfl rfl rfl (by omega) Pcv_M3
        have sa : x5.toInt = sh_at KK ff ss EN x1 := li_cv_ld Pcv_M3 qx5 (by omega) (by omega)
        have sr := sh_at_rg (k := KK) (f := ff) (st := ss) (en := EN) (i := x1)
        have Psm_M6 : li_sm (M6.1 14) ((x2 : Int32).toInt + x5.toInt) (KK) (ff) (ss) (EN) ((x1 : Int32).toInt + 1) := li_sm_st (x := x1) Psm_M3 (by omega) (by omega) (by omega) (by omega)
        refine li_iadd dX4_allClocks_18 ?_
        refine li_top (fun x8 ex8 => ?_)
        have tx8 : (-2147483648 ≤ x2.toInt + x5.toInt ∧ x2.toInt + x5.toInt ≤ 2147483647) → x8.toInt = x2.toInt + x5.toInt := tl_add ex8
        refine li_istore_n [(2, .int x8), (3, .int x1), (0, .ref (Z.2.2 13)), (1, .int p1)] dX4_allClocks_19 (by decide) rfl ?_
        obtain ⟨x9, ex9⟩ : ∃ y : Int32, y = x1 + 1 := ⟨_, rfl⟩
        have tx9 : (-2147483648 ≤ x1.toInt + 1 ∧ x1.toInt + 1 ≤ 2147483647) → x9.toInt = x1.toInt + 1 := tl_add ex9
        refine li_iinc 1 [(3, .int x9), (2, .int x8), (0, .ref (Z.2.2 13)), (1, .int p1)] x9 dX4_allClocks_20 rfl (by rw [ex9]; rfl) (by decide) rfl ?_
        refine li_goto 4 dX4_allClocks_23 (by decide) ?_
        refine li_pick [0, 1, 2, 3] [(3, .int x9), (2, .int x8), (0, .ref (Z.2.2 13)), (1, .int p1)] rfl ?_
        exact ih4 x9 x8 M6 (by omega) hf (by omega) (by first | exact li_cv_tr rfl rfl rfl rfl rfl (by omega) Pcv_M6 | exact li_cv_0 (by omega)) (by first | exact li_sm_tr rfl (by omega) rfl rfl rfl rfl (by omega) Psm_M6 | exact li_sm_0 (by omega) (by omega))
  have z0 : (0 : Int32).toInt = 0 := rfl
  have z0 : (0 : Int32).toInt = 0 := rfl
  exact L4 _ 0 0 M0 (Nat.lt_succ_self _) hf (by omega) (by first | exact li_cv_tr rfl rfl rfl rfl rfl (by omega) Pcv_M0 | exact li_cv_0 (by omega)) (by first | exact li_sm_0 (by omega) (by omega))

set_option maxRecDepth 100000 in
set_option maxHeartbeats 4000000 in
theorem k9_X11_sheet {l : Launch} {Z : li_Z} (d : Nat) (hd : 4 ≤ d) (p1 : Int32) (p2 : Int32) (p3 : Int32) (p4 : Int32) (M0 : li_M) (h1 : 0 ≤ (M0.1 5 0).toInt ∧ (M0.1 5 0).toInt ≤ 6) (EN : Int) (hEN : (p1.toInt = 3 → EN = 0) ∧ (¬ p1.toInt = 3 → EN = p2.toInt)) : li_Met l Z YX11_sheet d [.ref (Z.2.2 0), .int p1, .int p2, .int p3, .int p4] M0 (fun r M' => (∃ x : Int32, r = some (.int x) ∧ ((x.toInt = -1 ∧ ¬ (0 ≤ p1.toInt ∧ p1.toInt ≤ 3 ∧ p2.toInt ≤ 6)) ∨ (x.toInt = -2 ∧ 0 ≤ p1.toInt ∧ p1.toInt ≤ 2 ∧ p2.toInt < 0) ∨ (x.toInt = -3 ∧ p1.toInt = 3 ∧ p2.toInt ≤ 6) ∨ (0 ≤ p1.toInt ∧ p1.toInt ≤ 2 ∧ 0 ≤ p2.toInt ∧ p2.toInt ≤ 6 ∧ x.toInt = sh_sum (p1.toInt) p3 p4 EN ((M0.1 5 0).toInt).toNat))) ∧ li_fr (fun i => i = 14) M0 M') := by
  refine li_enter (by decide +kernel) (Nat.le_of_ble_eq_true rfl) ?_
  show li_T l Z YX11_sheet d 0 [(0, .ref (Z.2.2 0)), (1, .int p1), (2, .int p2), (3, .int p3), (4, .int p4)] [] M0 _
  have hf : li_fr (fun i => i = 14) M0 M0 := li_fr_refl
  have gp1 := tl_rg p1
  have gp2 := tl_rg p2
  have gp3 := tl_rg p3
  have gp4 := tl_rg p4
  refine li_iload_n 1 dX11_sheet_0 rfl ?_
  refine li_iconst 0 dX11_sheet_1 (by decide) ?_
  refine li_iconst 3 dX11_sheet_2 (by decide) ?_
  refine li_callS (n := 3) (As := [.int p1, .int 0, .int 3]) dX11_sheet_3 (k4_X11_within2 (d - 1) (by omega) p1 0 3 M0) (by omega) (Nat.le_of_ble_eq_true rfl) w_762 w_639 w_101 w_640 (by decide +kernel) rfl rfl (Nat.le_of_ble_eq_true rfl) (fun r M2 h3 => ?_)
  have z0 : (0 : Int32).toInt = 0 := rfl
  have z3 : (3 : Int32).toInt = 3 := rfl
  obtain ⟨⟨x1, rfl, bx1, qx1⟩, h3⟩ := h3
  have ux1 := tl_b bx1
  have hf := li_fr_trans hf h3 (fun i h => False.elim h)
  have mM2_5_0 : (M2.1 5 0).toInt = (M0.1 5 0).toInt := by rw [h3.1 5 id]
  refine li_if_eq 15 dX11_sheet_6 (by decide) (fun c4 => ?_) (fun c4 => ?_)
  · have tc4 : x1.toInt = 0 := tl_eq c4
    refine li_iconst (-1) dX11_sheet_15 (by decide) ?_
    have zm1 : ((-1) : Int32).toInt = -1 := rfl
    exact li_iret dX11_sheet_16 rfl rfl ⟨⟨_, rfl, (by omega)⟩, hf⟩
  · have tc4 : ¬ x1.toInt = 0 := tl_ne c4
    refine li_iload_n 2 dX11_sheet_9 rfl ?_
    refine li_bipush 6 dX11_sheet_10 (by decide) ?_
    refine li_icmp_le 17 dX11_sheet_12 (by decide) (fun c5 => ?_) (fun c5 => ?_)
    · have tc5 : p2.toInt ≤ 6 := tl_le c5
      refine li_iload_n 1 dX11_sheet_17 rfl ?_
      refine li_iconst 3 dX11_sheet_18 (by decide) ?_
      refine li_icmp_eq 29 dX11_sheet_19 (by decide) (fun c6 => ?_) (fun c6 => ?_)
      · have tc6 : p1.toInt = 3 := tl_eq c6
        refine li_iload_n 1 dX11_sheet_29 rfl ?_
        refine li_iconst 3 dX11_sheet_30 (by decide) ?_
        have J39 : ∀ (x8 : Int32) (M9 : li_M), li_fr (fun i => i = 14) M0 M9 → (x8 : Int32).toInt = EN ∧ (M9.1 5 0).toInt = (M0.1 5 0).toInt → li_T l Z YX11_sheet d 39 [(0, .ref (Z.2.2 0)), (1, .int p1), (2, .int p2), (3, .int p3), (4, .int p4)] [.int x8] M9 (fun r M' => (∃ x : Int32, r = some (.int x) ∧ ((x.toInt = -1 ∧ ¬ (0 ≤ p1.toInt ∧ p1.toInt ≤ 3 ∧ p2.toInt ≤ 6)) ∨ (x.toInt = -2 ∧ 0 ≤ p1.toInt ∧ p1.toInt ≤ 2 ∧ p2.toInt < 0) ∨ (x.toInt = -3 ∧ p1.toInt = 3 ∧ p2.toInt ≤ 6) ∨ (0 ≤ p1.toInt ∧ p1.toInt ≤ 2 ∧ 0 ≤ p2.toInt ∧ p2.toInt ≤ 6 ∧ x.toInt = sh_sum (p1.toInt) p3 p4 EN ((M0.1 5 0).toInt).toNat))) ∧ li_fr (fun i => i = 14) M0 M') := by
          intro x8 M9 hf hi
          have gx8 := tl_rg x8
          refine li_istore [(5, .int x8), (0, .ref (Z.2.2 0)), (1, .int p1), (2, .int p2), (3, .int p3), (4, .int p4)] dX11_sheet_39 (by decide) rfl ?_
          refine li_iconst 0 dX11_sheet_41 (by decide) ?_
          refine li_istore [(6, .int 0), (5, .int x8), (0, .ref (Z.2.2 0)), (1, .int p1), (2, .int p2), (3, .int p3), (4, .int p4)] dX11_sheet_42 (by decide) rfl ?_
          have L44 : ∀ (n : Nat) (x10 : Int32) (M11 : li_M), (7 - (x10 : Int32).toInt).toNat < n → li_fr (fun i => i = 14) M0 M11 → 0 ≤ (x10 : Int32).toInt ∧ (x10 : Int32).toInt ≤ (M0.1 5 0).toInt ∧ (x8 : Int32).toInt = EN ∧ (M11.1 5 0).toInt = (M0.1 5 0).toInt → li_cv (M11.1 14) (p1.toInt) (p3) (p4) (EN) ((x10 : Int32).toInt) → li_T l Z YX11_sheet d 44 [(6, .int x10), (5, .int x8), (0, .ref (Z.2.2 0)), (1, .int p1), (2, .int p2), (3, .int p3), (4, .int p4)] [] M11 (fun r M' => (∃ x : Int32, r = some (.int x) ∧ ((x.toInt = -1 ∧ ¬ (0 ≤ p1.toInt ∧ p1.toInt ≤ 3 ∧ p2.toInt ≤ 6)) ∨ (x.toInt = -2 ∧ 0 ≤ p1.toInt ∧ p1.toInt ≤ 2 ∧ p2.toInt < 0) ∨ (x.toInt = -3 ∧ p1.toInt = 3 ∧ p2.toInt ≤ 6) ∨ (0 ≤ p1.toInt ∧ p1.toInt ≤ 2 ∧ 0 ≤ p2.toInt ∧ p2.toInt ≤ 6 ∧ x.toInt = sh_sum (p1.toInt) p3 p4 EN ((M0.1 5 0).toInt).toNat))) ∧ li_fr (fun i => i = 14) M0 M') := by
            intro n
            induction n with
            | zero => intro x10 M11 hn; exact absurd hn (Nat.not_lt_zero _)
            | succ n ih44 =>
              intro x10 M11 hn hf hi Pcv_M11
              have gx10 := tl_rg x10
              refine li_iload 0 dX11_sheet_44 rfl ?_
              refine li_aload_n 2 dX11_sheet_46 rfl ?_
              refine li_getr (k := 2) (N := 13) (T := TX11) (C0 := RX11) dX11_sheet_47 (by decide) sh_0 rfl rfl (by decide) (by decide) li_in11 w_475 ?_
              refine li_geti (k := 0) (N := 9) (T := TX8) (C0 := RX8) dX11_sheet_50 (by decide) sh_5 rfl rfl (by decide) li_in8 w_178 ?_
              refine li_top (fun x12 ex12 => ?_)
              have gx12 := tl_rg x12
              have vx12 : x12.toInt = (M11.1 5 0).toInt := tl_eq ex12
              refine li_icmp_ge 96 dX11_sheet_53 (by decide) (fun c13 => ?_) (fun c13 => ?_)
              · have tc13 : x12.toInt ≤ x10.toInt := tl_le c13
                refine li_iload_n 3 dX11_sheet_96 rfl ?_
                refine li_iconst 3 dX11_sheet_97 (by decide) ?_
                refine li_icmp_ne 106 dX11_sheet_98 (by decide) (fun c14 => ?_) (fun c14 => ?_)
                · have tc14 : ¬ p1.toInt = 3 := tl_ne c14
                  refine li_aload_n 2 dX11_sheet_106 rfl ?_
                  refine li_getr (k := 3) (N := 13) (T := TX11) (C0 := RX11) dX11_sheet_107 (by decide) sh_0 rfl rfl (by decide) (by decide) li_in11 w_476 ?_
                  refine li_aload_n 2 dX11_sheet_110 rfl ?_
                  refine li_getr (k := 2) (N := 13) (T := TX11) (C0 := RX11) dX11_sheet_111 (by decide) sh_0 rfl rfl (by decide) (by decide) li_in11 w_475 ?_
                  refine li_geti (k := 0) (N := 9) (T := TX8) (C0 := RX8) dX11_sheet_114 (by decide) sh_5 rfl rfl (by decide) li_in8 w_178 ?_
                  refine li_top (fun x15 ex15 => ?_)
                  have gx15 := tl_rg x15
                  have vx15 : x15.toInt = (M11.1 5 0).toInt := tl_eq ex15
                  have tvx15 : x15.toInt = x12.toInt := tl_eq (ex15.trans ex12.symm)
                  refine li_callV (n := 1) (As := [.int x15]) dX11_sheet_117 (k9_X4_allClocks (d - 1) (by omega) x15 M11 (by omega) (p1.toInt) p3 p4 EN (li_cv_tr rfl rfl rfl rfl rfl (by omega) Pcv_M11)) (by omega) (Nat.le_of_ble_eq_true rfl) w_776 w_777 w_778 w_105 w_779 (by decide +kernel) rfl (by decide) sh_13 rfl rfl (Nat.le_of_ble_eq_true rfl) (fun r M17 h18 => ?_)
                  obtain ⟨⟨x16, rfl, qx16⟩, h18⟩ := h18
                  have gx16 := tl_rg x16
                  have hf := li_fr_trans hf h18 (fun i h => False.elim h)
                  have mM17_5_0 : (M17.1 5 0).toInt = (M11.1 5 0).toInt := by rw [h18.1 5 id]
                  have Pcv_M17 : li_cv (M17.1 14) (p1.toInt) (p3) (p4) (EN) ((x10 : Int32).toInt) := li_cv_tr (h18.1 14 (fun h => by first | exact (h : False).elim | omega)) rfl rfl rfl rfl (by omega) Pcv_M11
                  have sq : x16.toInt = sh_sum (p1.toInt) p3 p4 EN ((M0.1 5 0).toInt).toNat := by rw [← show (x15 : Int32).toInt = (M0.1 5 0).toInt by omega]; exact qx16
                  exact li_iret dX11_sheet_120 rfl rfl ⟨⟨_, rfl, (by omega)⟩, hf⟩
                · have tc14 : p1.toInt = 3 := tl_eq c14
                  refine li_bipush (-3) dX11_sheet_101 (by decide) ?_
                  refine li_goto 120 dX11_sheet_103 (by decide) ?_
                  have zm3 : ((-3) : Int32).toInt = -3 := rfl
                  exact li_iret dX11_sheet_120 rfl rfl ⟨⟨_, rfl, (by omega)⟩, hf⟩
              · have tc13 : x10.toInt < x12.toInt := tl_nle c13
                refine li_aload_n 2 dX11_sheet_56 rfl ?_
                refine li_getr (k := 3) (N := 13) (T := TX11) (C0 := RX11) dX11_sheet_57 (by decide) sh_0 rfl rfl (by decide) (by decide) li_in11 w_476 ?_
                refine li_getr (k := 4) (N := 11) (T := TX4) (C0 := RX4) dX11_sheet_60 (by decide) sh_13 rfl rfl (by decide) (by decide) li_in4 w_243 ?_
                refine li_iload 0 dX11_sheet_63 rfl ?_
                refine li_iload 0 dX11_sheet_65 rfl ?_
                refine li_iload 1 dX11_sheet_67 rfl ?_
                have J87 : ∀ (x20 : Int32) (M21 : li_M), li_fr (fun i => i = 14) M0 M21 → (x20 : Int32).toInt = sh_at (p1.toInt) p3 p4 EN (x10 : Int32) ∧ (x10 : Int32).toInt < (M0.1 5 0).toInt ∧ (M21.1 5 0).toInt = (M0.1 5 0).toInt → li_cv (M21.1 14) (p1.toInt) (p3) (p4) (EN) ((x10 : Int32).toInt) → li_T l Z YX11_sheet d 87 [(6, .int x10), (5, .int x8), (0, .ref (Z.2.2 0)), (1, .int p1), (2, .int p2), (3, .int p3), (4, .int p4)] [.int x20, .int x10, .ref (Z.2.2 14)] M21 (fun r M' => (∃ x : Int32, r = some (.int x) ∧ ((x.toInt = -1 ∧ ¬ (0 ≤ p1.toInt ∧ p1.toInt ≤ 3 ∧ p2.toInt ≤ 6)) ∨ (x.toInt = -2 ∧ 0 ≤ p1.toInt ∧ p1.toInt ≤ 2 ∧ p2.toInt < 0) ∨ (x.toInt = -3 ∧ p1.toInt = 3 ∧ p2.toInt ≤ 6) ∨ (0 ≤ p1.toInt ∧ p1.toInt ≤ 2 ∧ 0 ≤ p2.toInt ∧ p2.toInt ≤ 6 ∧ x.toInt = sh_sum (p1.toInt) p3 p4 EN ((M0.1 5 0).toInt).toNat))) ∧ li_fr (fun i => i = 14) M0 M') := by
                  intro x20 M21 hf hi Pcv_M21
                  have gx20 := tl_rg x20
                  refine li_callS (n := 3) (As := [.ref (Z.2.2 14), .int x10, .int x20]) dX11_sheet_87 (a_X11_put (d - 1) (by omega) (by decide) sh_14 (by decide) x10 x20 M21) (by omega) (Nat.le_of_ble_eq_true rfl) w_710 w_522 w_101 w_523 (by decide +kernel) rfl rfl (Nat.le_of_ble_eq_true rfl) (fun r M23 h24 => ?_)
                  obtain ⟨rfl, h24, nM23⟩ := h24
                  have hf := li_fr_trans hf h24 (fun i (h : i = 14) => (show i = 14 by omega))
                  have mM23_5_0 : (M23.1 5 0).toInt = (M21.1 5 0).toInt := by rw [h24.1 5 (show ¬ (5 = 14) by omega)]
                  have Pcv_M23 : li_cv (M23.1 14) (p1.toInt) (p3) (p4) (EN) ((x10 : Int32).toInt + 1) := li_cv_st Pcv_M21 nM23 (by omega) (by omega) (by omega) (by omega)
                  obtain ⟨x25, ex25⟩ : ∃ y : Int32, y = x10 + 1 := ⟨_, rfl⟩
                  have tx25 : (-2147483648 ≤ x10.toInt + 1 ∧ x10.toInt + 1 ≤ 2147483647) → x25.toInt = x10.toInt + 1 := tl_add ex25
                  refine li_iinc 0 [(6, .int x25), (5, .int x8), (0, .ref (Z.2.2 0)), (1, .int p1), (2, .int p2), (3, .int p3), (4, .int p4)] x25 dX11_sheet_90 rfl (by rw [ex25]; rfl) (by decide) rfl ?_
                  refine li_goto 44 dX11_sheet_93 (by decide) ?_
                  refine li_pick [0, 1, 2, 3, 4, 5, 6] [(6, .int x25), (5, .int x8), (0, .ref (Z.2.2 0)), (1, .int p1), (2, .int p2), (3, .int p3), (4, .int p4)] rfl ?_
                  exact ih44 x25 M23 (by omega) hf (by omega) (by first | exact li_cv_tr rfl rfl rfl rfl rfl (by omega) Pcv_M23 | exact li_cv_0 (by omega))
                refine li_icmp_ge 86 dX11_sheet_69 (by decide) (fun c19 => ?_) (fun c19 => ?_)
                · have tc19 : x8.toInt ≤ x10.toInt := tl_le c19
                  have sv0 := sh_at_0 (k := p1.toInt) (f := p3) (st := p4) (show EN ≤ (x10 : Int32).toInt by omega)
                  refine li_iconst 0 dX11_sheet_86 (by decide) ?_
                  refine li_pick [0, 1, 2, 3, 4, 5, 6] [(6, .int x10), (5, .int x8), (0, .ref (Z.2.2 0)), (1, .int p1), (2, .int p2), (3, .int p3), (4, .int p4)] rfl ?_
                  have z0 : (0 : Int32).toInt = 0 := rfl
                  exact J87 0 M11 hf (by omega) (by first | exact li_cv_tr rfl rfl rfl rfl rfl (by omega) Pcv_M11 | exact li_cv_0 (by omega))
                · have tc19 : x10.toInt < x8.toInt := tl_nle c19
                  refine li_iload_n 3 dX11_sheet_72 rfl ?_
                  refine li_iload_n 5 dX11_sheet_73 rfl ?_
                  refine li_iload 0 dX11_sheet_74 rfl ?_
                  refine li_iload 6 dX11_sheet_76 rfl ?_
                  refine li_imul dX11_sheet_78 ?_
                  refine li_top (fun x26 ex26 => ?_)
                  refine li_iadd dX11_sheet_79 ?_
                  refine li_top (fun x27 ex27 => ?_)
                  have tx27 : (-2147483648 ≤ p3.toInt + x26.toInt ∧ p3.toInt + x26.toInt ≤ 2147483647) → x27.toInt = p3.toInt + x26.toInt := tl_add ex27
                  refine li_callS (n := 2) (As := [.int p1, .int x27]) dX11_sheet_80 (k9_X11_entryOf (d - 1) (by omega) p1 x27 M11) (by omega) (Nat.le_of_ble_eq_true rfl) w_768 w_769 w_101 w_770 (by decide +kernel) rfl rfl (Nat.le_of_ble_eq_true rfl) (fun r M29 h30 => ?_)
                  obtain ⟨⟨x28, rfl, qx28⟩, h30⟩ := h30
                  have gx28 := tl_rg x28
                  have hf := li_fr_trans hf h30 (fun i h => False.elim h)
                  have mM29_5_0 : (M29.1 5 0).toInt = (M11.1 5 0).toInt := by rw [h30.1 5 id]
                  have Pcv_M29 : li_cv (M29.1 14) (p1.toInt) (p3) (p4) (EN) ((x10 : Int32).toInt) := li_cv_tr (h30.1 14 (fun h => by first | exact (h : False).elim | omega)) rfl rfl rfl rfl (by omega) Pcv_M11
                  have sv : x28.toInt = sh_at (p1.toInt) p3 p4 EN x10 := by rw [sh_at_1 (v := x27) (show (x10 : Int32).toInt < EN by omega) (by rw [ex27, ex26])]; exact qx28
                  refine li_goto 87 dX11_sheet_83 (by decide) ?_
                  refine li_pick [0, 1, 2, 3, 4, 5, 6] [(6, .int x10), (5, .int x8), (0, .ref (Z.2.2 0)), (1, .int p1), (2, .int p2), (3, .int p3), (4, .int p4)] rfl ?_
                  exact J87 x28 M29 hf (by omega) (by first | exact li_cv_tr rfl rfl rfl rfl rfl (by omega) Pcv_M29 | exact li_cv_0 (by omega))
          have z0 : (0 : Int32).toInt = 0 := rfl
          exact L44 _ 0 M9 (Nat.lt_succ_self _) hf (by omega) (by first | exact li_cv_0 (by omega))
        refine li_icmp_ne 38 dX11_sheet_31 (by decide) (fun c7 => ?_) (fun c7 => ?_)
        · have tc7 : ¬ p1.toInt = 3 := tl_ne c7
          refine li_iload_n 2 dX11_sheet_38 rfl ?_
          refine li_pick [0, 1, 2, 3, 4] [(0, .ref (Z.2.2 0)), (1, .int p1), (2, .int p2), (3, .int p3), (4, .int p4)] rfl ?_
          exact J39 p2 M2 hf (by omega)
        · have tc7 : p1.toInt = 3 := tl_eq c7
          refine li_iconst 0 dX11_sheet_34 (by decide) ?_
          refine li_goto 39 dX11_sheet_35 (by decide) ?_
          refine li_pick [0, 1, 2, 3, 4] [(0, .ref (Z.2.2 0)), (1, .int p1), (2, .int p2), (3, .int p3), (4, .int p4)] rfl ?_
          have z0 : (0 : Int32).toInt = 0 := rfl
          exact J39 0 M2 hf (by omega)
      · have tc6 : ¬ p1.toInt = 3 := tl_ne c6
        refine li_iload_n 2 dX11_sheet_22 rfl ?_
        refine li_if_ge 29 dX11_sheet_23 (by decide) (fun c31 => ?_) (fun c31 => ?_)
        · have tc31 : 0 ≤ p2.toInt := tl_le c31
          refine li_iload_n 1 dX11_sheet_29 rfl ?_
          refine li_iconst 3 dX11_sheet_30 (by decide) ?_
          have J39 : ∀ (x33 : Int32) (M34 : li_M), li_fr (fun i => i = 14) M0 M34 → (x33 : Int32).toInt = EN ∧ (M34.1 5 0).toInt = (M0.1 5 0).toInt → li_T l Z YX11_sheet d 39 [(0, .ref (Z.2.2 0)), (1, .int p1), (2, .int p2), (3, .int p3), (4, .int p4)] [.int x33] M34 (fun r M' => (∃ x : Int32, r = some (.int x) ∧ ((x.toInt = -1 ∧ ¬ (0 ≤ p1.toInt ∧ p1.toInt ≤ 3 ∧ p2.toInt ≤ 6)) ∨ (x.toInt = -2 ∧ 0 ≤ p1.toInt ∧ p1.toInt ≤ 2 ∧ p2.toInt < 0) ∨ (x.toInt = -3 ∧ p1.toInt = 3 ∧ p2.toInt ≤ 6) ∨ (0 ≤ p1.toInt ∧ p1.toInt ≤ 2 ∧ 0 ≤ p2.toInt ∧ p2.toInt ≤ 6 ∧ x.toInt = sh_sum (p1.toInt) p3 p4 EN ((M0.1 5 0).toInt).toNat))) ∧ li_fr (fun i => i = 14) M0 M') := by
            intro x33 M34 hf hi
            have gx33 := tl_rg x33
            refine li_istore [(5, .int x33), (0, .ref (Z.2.2 0)), (1, .int p1), (2, .int p2), (3, .int p3), (4, .int p4)] dX11_sheet_39 (by decide) rfl ?_
            refine li_iconst 0 dX11_sheet_41 (by decide) ?_
            refine li_istore [(6, .int 0), (5, .int x33), (0, .ref (Z.2.2 0)), (1, .int p1), (2, .int p2), (3, .int p3), (4, .int p4)] dX11_sheet_42 (by decide) rfl ?_
            have L44 : ∀ (n : Nat) (x35 : Int32) (M36 : li_M), (7 - (x35 : Int32).toInt).toNat < n → li_fr (fun i => i = 14) M0 M36 → 0 ≤ (x35 : Int32).toInt ∧ (x35 : Int32).toInt ≤ (M0.1 5 0).toInt ∧ (x33 : Int32).toInt = EN ∧ (M36.1 5 0).toInt = (M0.1 5 0).toInt → li_cv (M36.1 14) (p1.toInt) (p3) (p4) (EN) ((x35 : Int32).toInt) → li_T l Z YX11_sheet d 44 [(6, .int x35), (5, .int x33), (0, .ref (Z.2.2 0)), (1, .int p1), (2, .int p2), (3, .int p3), (4, .int p4)] [] M36 (fun r M' => (∃ x : Int32, r = some (.int x) ∧ ((x.toInt = -1 ∧ ¬ (0 ≤ p1.toInt ∧ p1.toInt ≤ 3 ∧ p2.toInt ≤ 6)) ∨ (x.toInt = -2 ∧ 0 ≤ p1.toInt ∧ p1.toInt ≤ 2 ∧ p2.toInt < 0) ∨ (x.toInt = -3 ∧ p1.toInt = 3 ∧ p2.toInt ≤ 6) ∨ (0 ≤ p1.toInt ∧ p1.toInt ≤ 2 ∧ 0 ≤ p2.toInt ∧ p2.toInt ≤ 6 ∧ x.toInt = sh_sum (p1.toInt) p3 p4 EN ((M0.1 5 0).toInt).toNat))) ∧ li_fr (fun i => i = 14) M0 M') := by
              intro n
              induction n with
              | zero => intro x35 M36 hn; exact absurd hn (Nat.not_lt_zero _)
              | succ n ih44 =>
                intro x35 M36 hn hf hi Pcv_M36
                have gx35 := tl_rg x35
                refine li_iload 0 dX11_sheet_44 rfl ?_
                refine li_aload_n 2 dX11_sheet_46 rfl ?_
                refine li_getr (k := 2) (N := 13) (T := TX11) (C0 := RX11) dX11_sheet_47 (by decide) sh_0 rfl rfl (by decide) (by decide) li_in11 w_475 ?_
                refine li_geti (k := 0) (N := 9) (T := TX8) (C0 := RX8) dX11_sheet_50 (by decide) sh_5 rfl rfl (by decide) li_in8 w_178 ?_
                refine li_top (fun x37 ex37 => ?_)
                have gx37 := tl_rg x37
                have vx37 : x37.toInt = (M36.1 5 0).toInt := tl_eq ex37
                refine li_icmp_ge 96 dX11_sheet_53 (by decide) (fun c38 => ?_) (fun c38 => ?_)
                · have tc38 : x37.toInt ≤ x35.toInt := tl_le c38
                  refine li_iload_n 3 dX11_sheet_96 rfl ?_
                  refine li_iconst 3 dX11_sheet_97 (by decide) ?_
                  refine li_icmp_ne 106 dX11_sheet_98 (by decide) (fun c39 => ?_) (fun c39 => ?_)
                  · have tc39 : ¬ p1.toInt = 3 := tl_ne c39
                    refine li_aload_n 2 dX11_sheet_106 rfl ?_
                    refine li_getr (k := 3) (N := 13) (T := TX11) (C0 := RX11) dX11_sheet_107 (by decide) sh_0 rfl rfl (by decide) (by decide) li_in11 w_476 ?_
                    refine li_aload_n 2 dX11_sheet_110 rfl ?_
                    refine li_getr (k := 2) (N := 13) (T := TX11) (C0 := RX11) dX11_sheet_111 (by decide) sh_0 rfl rfl (by decide) (by decide) li_in11 w_475 ?_
                    refine li_geti (k := 0) (N := 9) (T := TX8) (C0 := RX8) dX11_sheet_114 (by decide) sh_5 rfl rfl (by decide) li_in8 w_178 ?_
                    refine li_top (fun x40 ex40 => ?_)
                    have gx40 := tl_rg x40
                    have vx40 : x40.toInt = (M36.1 5 0).toInt := tl_eq ex40
                    have tvx40 : x40.toInt = x37.toInt := tl_eq (ex40.trans ex37.symm)
                    refine li_callV (n := 1) (As := [.int x40]) dX11_sheet_117 (k9_X4_allClocks (d - 1) (by omega) x40 M36 (by omega) (p1.toInt) p3 p4 EN (li_cv_tr rfl rfl rfl rfl rfl (by omega) Pcv_M36)) (by omega) (Nat.le_of_ble_eq_true rfl) w_776 w_777 w_778 w_105 w_779 (by decide +kernel) rfl (by decide) sh_13 rfl rfl (Nat.le_of_ble_eq_true rfl) (fun r M42 h43 => ?_)
                    obtain ⟨⟨x41, rfl, qx41⟩, h43⟩ := h43
                    have gx41 := tl_rg x41
                    have hf := li_fr_trans hf h43 (fun i h => False.elim h)
                    have mM42_5_0 : (M42.1 5 0).toInt = (M36.1 5 0).toInt := by rw [h43.1 5 id]
                    have Pcv_M42 : li_cv (M42.1 14) (p1.toInt) (p3) (p4) (EN) ((x35 : Int32).toInt) := li_cv_tr (h43.1 14 (fun h => by first | exact (h : False).elim | omega)) rfl rfl rfl rfl (by omega) Pcv_M36
                    have sq : x41.toInt = sh_sum (p1.toInt) p3 p4 EN ((M0.1 5 0).toInt).toNat := by rw [← show (x40 : Int32).toInt = (M0.1 5 0).toInt by omega]; exact qx41
                    exact li_iret dX11_sheet_120 rfl rfl ⟨⟨_, rfl, (by omega)⟩, hf⟩
                  · have tc39 : p1.toInt = 3 := tl_eq c39
                    refine li_bipush (-3) dX11_sheet_101 (by decide) ?_
                    refine li_goto 120 dX11_sheet_103 (by decide) ?_
                    have zm3 : ((-3) : Int32).toInt = -3 := rfl
                    exact li_iret dX11_sheet_120 rfl rfl ⟨⟨_, rfl, (by omega)⟩, hf⟩
                · have tc38 : x35.toInt < x37.toInt := tl_nle c38
                  refine li_aload_n 2 dX11_sheet_56 rfl ?_
                  refine li_getr (k := 3) (N := 13) (T := TX11) (C0 := RX11) dX11_sheet_57 (by decide) sh_0 rfl rfl (by decide) (by decide) li_in11 w_476 ?_
                  refine li_getr (k := 4) (N := 11) (T := TX4) (C0 := RX4) dX11_sheet_60 (by decide) sh_13 rfl rfl (by decide) (by decide) li_in4 w_243 ?_
                  refine li_iload 0 dX11_sheet_63 rfl ?_
                  refine li_iload 0 dX11_sheet_65 rfl ?_
                  refine li_iload 1 dX11_sheet_67 rfl ?_
                  have J87 : ∀ (x45 : Int32) (M46 : li_M), li_fr (fun i => i = 14) M0 M46 → (x45 : Int32).toInt = sh_at (p1.toInt) p3 p4 EN (x35 : Int32) ∧ (x35 : Int32).toInt < (M0.1 5 0).toInt ∧ (M46.1 5 0).toInt = (M0.1 5 0).toInt → li_cv (M46.1 14) (p1.toInt) (p3) (p4) (EN) ((x35 : Int32).toInt) → li_T l Z YX11_sheet d 87 [(6, .int x35), (5, .int x33), (0, .ref (Z.2.2 0)), (1, .int p1), (2, .int p2), (3, .int p3), (4, .int p4)] [.int x45, .int x35, .ref (Z.2.2 14)] M46 (fun r M' => (∃ x : Int32, r = some (.int x) ∧ ((x.toInt = -1 ∧ ¬ (0 ≤ p1.toInt ∧ p1.toInt ≤ 3 ∧ p2.toInt ≤ 6)) ∨ (x.toInt = -2 ∧ 0 ≤ p1.toInt ∧ p1.toInt ≤ 2 ∧ p2.toInt < 0) ∨ (x.toInt = -3 ∧ p1.toInt = 3 ∧ p2.toInt ≤ 6) ∨ (0 ≤ p1.toInt ∧ p1.toInt ≤ 2 ∧ 0 ≤ p2.toInt ∧ p2.toInt ≤ 6 ∧ x.toInt = sh_sum (p1.toInt) p3 p4 EN ((M0.1 5 0).toInt).toNat))) ∧ li_fr (fun i => i = 14) M0 M') := by
                    intro x45 M46 hf hi Pcv_M46
                    have gx45 := tl_rg x45
                    refine li_callS (n := 3) (As := [.ref (Z.2.2 14), .int x35, .int x45]) dX11_sheet_87 (a_X11_put (d - 1) (by omega) (by decide) sh_14 (by decide) x35 x45 M46) (by omega) (Nat.le_of_ble_eq_true rfl) w_710 w_522 w_101 w_523 (by decide +kernel) rfl rfl (Nat.le_of_ble_eq_true rfl) (fun r M48 h49 => ?_)
                    obtain ⟨rfl, h49, nM48⟩ := h49
                    have hf := li_fr_trans hf h49 (fun i (h : i = 14) => (show i = 14 by omega))
                    have mM48_5_0 : (M48.1 5 0).toInt = (M46.1 5 0).toInt := by rw [h49.1 5 (show ¬ (5 = 14) by omega)]
                    have Pcv_M48 : li_cv (M48.1 14) (p1.toInt) (p3) (p4) (EN) ((x35 : Int32).toInt + 1) := li_cv_st Pcv_M46 nM48 (by omega) (by omega) (by omega) (by omega)
                    obtain ⟨x50, ex50⟩ : ∃ y : Int32, y = x35 + 1 := ⟨_, rfl⟩
                    have tx50 : (-2147483648 ≤ x35.toInt + 1 ∧ x35.toInt + 1 ≤ 2147483647) → x50.toInt = x35.toInt + 1 := tl_add ex50
                    refine li_iinc 0 [(6, .int x50), (5, .int x33), (0, .ref (Z.2.2 0)), (1, .int p1), (2, .int p2), (3, .int p3), (4, .int p4)] x50 dX11_sheet_90 rfl (by rw [ex50]; rfl) (by decide) rfl ?_
                    refine li_goto 44 dX11_sheet_93 (by decide) ?_
                    refine li_pick [0, 1, 2, 3, 4, 5, 6] [(6, .int x50), (5, .int x33), (0, .ref (Z.2.2 0)), (1, .int p1), (2, .int p2), (3, .int p3), (4, .int p4)] rfl ?_
                    exact ih44 x50 M48 (by omega) hf (by omega) (by first | exact li_cv_tr rfl rfl rfl rfl rfl (by omega) Pcv_M48 | exact li_cv_0 (by omega))
                  refine li_icmp_ge 86 dX11_sheet_69 (by decide) (fun c44 => ?_) (fun c44 => ?_)
                  · have tc44 : x33.toInt ≤ x35.toInt := tl_le c44
                    have sv0 := sh_at_0 (k := p1.toInt) (f := p3) (st := p4) (show EN ≤ (x35 : Int32).toInt by omega)
                    refine li_iconst 0 dX11_sheet_86 (by decide) ?_
                    refine li_pick [0, 1, 2, 3, 4, 5, 6] [(6, .int x35), (5, .int x33), (0, .ref (Z.2.2 0)), (1, .int p1), (2, .int p2), (3, .int p3), (4, .int p4)] rfl ?_
                    have z0 : (0 : Int32).toInt = 0 := rfl
                    exact J87 0 M36 hf (by omega) (by first | exact li_cv_tr rfl rfl rfl rfl rfl (by omega) Pcv_M36 | exact li_cv_0 (by omega))
                  · have tc44 : x35.toInt < x33.toInt := tl_nle c44
                    refine li_iload_n 3 dX11_sheet_72 rfl ?_
                    refine li_iload_n 5 dX11_sheet_73 rfl ?_
                    refine li_iload 0 dX11_sheet_74 rfl ?_
                    refine li_iload 6 dX11_sheet_76 rfl ?_
                    refine li_imul dX11_sheet_78 ?_
                    refine li_top (fun x51 ex51 => ?_)
                    refine li_iadd dX11_sheet_79 ?_
                    refine li_top (fun x52 ex52 => ?_)
                    have tx52 : (-2147483648 ≤ p3.toInt + x51.toInt ∧ p3.toInt + x51.toInt ≤ 2147483647) → x52.toInt = p3.toInt + x51.toInt := tl_add ex52
                    refine li_callS (n := 2) (As := [.int p1, .int x52]) dX11_sheet_80 (k9_X11_entryOf (d - 1) (by omega) p1 x52 M36) (by omega) (Nat.le_of_ble_eq_true rfl) w_768 w_769 w_101 w_770 (by decide +kernel) rfl rfl (Nat.le_of_ble_eq_true rfl) (fun r M54 h55 => ?_)
                    obtain ⟨⟨x53, rfl, qx53⟩, h55⟩ := h55
                    have gx53 := tl_rg x53
                    have hf := li_fr_trans hf h55 (fun i h => False.elim h)
                    have mM54_5_0 : (M54.1 5 0).toInt = (M36.1 5 0).toInt := by rw [h55.1 5 id]
                    have Pcv_M54 : li_cv (M54.1 14) (p1.toInt) (p3) (p4) (EN) ((x35 : Int32).toInt) := li_cv_tr (h55.1 14 (fun h => by first | exact (h : False).elim | omega)) rfl rfl rfl rfl (by omega) Pcv_M36
                    have sv : x53.toInt = sh_at (p1.toInt) p3 p4 EN x35 := by rw [sh_at_1 (v := x52) (show (x35 : Int32).toInt < EN by omega) (by rw [ex52, ex51])]; exact qx53
                    refine li_goto 87 dX11_sheet_83 (by decide) ?_
                    refine li_pick [0, 1, 2, 3, 4, 5, 6] [(6, .int x35), (5, .int x33), (0, .ref (Z.2.2 0)), (1, .int p1), (2, .int p2), (3, .int p3), (4, .int p4)] rfl ?_
                    exact J87 x53 M54 hf (by omega) (by first | exact li_cv_tr rfl rfl rfl rfl rfl (by omega) Pcv_M54 | exact li_cv_0 (by omega))
            have z0 : (0 : Int32).toInt = 0 := rfl
            exact L44 _ 0 M34 (Nat.lt_succ_self _) hf (by omega) (by first | exact li_cv_0 (by omega))
          refine li_icmp_ne 38 dX11_sheet_31 (by decide) (fun c32 => ?_) (fun c32 => ?_)
          · have tc32 : ¬ p1.toInt = 3 := tl_ne c32
            refine li_iload_n 2 dX11_sheet_38 rfl ?_
            refine li_pick [0, 1, 2, 3, 4] [(0, .ref (Z.2.2 0)), (1, .int p1), (2, .int p2), (3, .int p3), (4, .int p4)] rfl ?_
            exact J39 p2 M2 hf (by omega)
          · have tc32 : p1.toInt = 3 := tl_eq c32
            refine li_iconst 0 dX11_sheet_34 (by decide) ?_
            refine li_goto 39 dX11_sheet_35 (by decide) ?_
            refine li_pick [0, 1, 2, 3, 4] [(0, .ref (Z.2.2 0)), (1, .int p1), (2, .int p2), (3, .int p3), (4, .int p4)] rfl ?_
            have z0 : (0 : Int32).toInt = 0 := rfl
            exact J39 0 M2 hf (by omega)
        · have tc31 : p2.toInt < 0 := tl_nle c31
          refine li_bipush (-2) dX11_sheet_26 (by decide) ?_
          have zm2 : ((-2) : Int32).toInt = -2 := rfl
          exact li_iret dX11_sheet_28 rfl rfl ⟨⟨_, rfl, (by omega)⟩, hf⟩
    · have tc5 : 6 < p2.toInt := tl_nle c5
      refine li_iconst (-1) dX11_sheet_15 (by decide) ?_
      have zm1 : ((-1) : Int32).toInt = -1 := rfl
      exact li_iret dX11_sheet_16 rfl rfl ⟨⟨_, rfl, (by omega)⟩, hf⟩
