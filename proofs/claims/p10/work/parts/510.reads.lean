theorem a_X11_at {l : Launch} {Z : li_Z} (d : Nat) (hd : 1 ≤ d) {j n : Nat} (hj : j < li_N) (hs : li_sh j = .inr (0, n)) (hn : n < 2147483648) (i : Int32) (M0 : li_M) : li_Met l Z YX11_at d [.ref (Z.2.2 j), .int i] M0 (fun r M' => (∃ x : Int32, r = some (.int x) ∧ x = li_at (M0.1 j) n i) ∧ li_fr (fun i => False) M0 M') := li_mono (fun r M' h => ⟨⟨_, h.1, rfl⟩, by rw [h.2]; exact li_fr_refl⟩) (x_X11_at d hd hj hs hn i M0)
/-- the sign at a place of so many; a number of so many digits, from a number and a place on -/
def rd_ch (g : Nat → Int32) (len p : Int) : Int := if p < len then (g p.toNat).toInt else -1
def rd_nm (g : Nat → Int32) (len : Int) : Nat → Int → Int → Int × Int
  | 0, v, p => (v, p)
  | k + 1, v, p => if 48 ≤ rd_ch g len p ∧ rd_ch g len p ≤ 57 then rd_nm g len k (max v 0 * 10 + (rd_ch g len p - 48)) (p + 1) else (v, p)
def li_nq (g : Nat → Int32) (len k v p r q : Int) : Prop := rd_nm g len k.toNat v p = (r, q)
theorem li_nq_tr {g g' : Nat → Int32} {len len' k k' v v' p p' r r' q q' : Int} (hg : g' = g) (h1 : len' = len) (h2 : k' = k) (h3 : v' = v) (h4 : p' = p) (h5 : r' = r) (h6 : q' = q) (h : li_nq g len k v p r q) : li_nq g' len' k' v' p' r' q' := by
  subst hg; subst h1; subst h2; subst h3; subst h4; subst h5; subst h6; exact h
theorem li_nq_st {g : Nat → Int32} {len k v p r q k' v' p' : Int} (h : li_nq g len k v p r q) (hk : 0 < k) (hd : 48 ≤ rd_ch g len p ∧ rd_ch g len p ≤ 57) (ek : k' = k - 1) (ev : v' = max v 0 * 10 + (rd_ch g len p - 48)) (ep : p' = p + 1) : li_nq g len k' v' p' r q := by
  unfold li_nq at h ⊢
  rw [show k.toNat = k'.toNat + 1 by omega] at h
  unfold rd_nm at h
  rw [if_pos hd] at h
  rw [ev, ep]; exact h
theorem li_nq_no {g : Nat → Int32} {len k v p r q : Int} (h : li_nq g len k v p r q) (hd : ¬ (48 ≤ rd_ch g len p ∧ rd_ch g len p ≤ 57)) : v = r ∧ p = q := by
  unfold li_nq at h
  cases hk : k.toNat with
  | zero => rw [hk] at h; exact Prod.mk.inj h
  | succ n => rw [hk] at h; unfold rd_nm at h; rw [if_neg hd] at h; exact Prod.mk.inj h
theorem li_nq_z {g : Nat → Int32} {len k v p r q : Int} (h : li_nq g len k v p r q) (hk : k ≤ 0) : v = r ∧ p = q := by
  unfold li_nq at h
  rw [show k.toNat = 0 by omega] at h
  exact Prod.mk.inj h
/-- a digit's number, where there is one -/
def li_cd (g : Nat → Int32) (len p d : Int) : Prop := (48 ≤ rd_ch g len p ∧ rd_ch g len p ≤ 57 ∧ d = rd_ch g len p - 48) ∨ (¬ (48 ≤ rd_ch g len p ∧ rd_ch g len p ≤ 57) ∧ ¬ (0 ≤ d ∧ d ≤ 9))
theorem li_cd_tr {g g' : Nat → Int32} {len len' p p' d d' : Int} (hg : g' = g) (h1 : len' = len) (h2 : p' = p) (h3 : d' = d) (h : li_cd g len p d) : li_cd g' len' p' d' := by
  subst hg; subst h1; subst h2; subst h3; exact h
theorem li_cd_no {g : Nat → Int32} {len p d : Int} (hp : len ≤ p) (hd : d = -1) : li_cd g len p d := by
  refine Or.inr ⟨?_, by omega⟩
  unfold rd_ch
  rw [if_neg (by omega)]; omega
theorem li_cd_of {g : Nat → Int32} {len p d x : Int} (h : rd_ch g len p = x) (hd : d = x - 48) : li_cd g len p d := by
  by_cases c : 48 ≤ rd_ch g len p ∧ rd_ch g len p ≤ 57
  · exact Or.inl ⟨c.1, c.2, by omega⟩
  · exact Or.inr ⟨c, by omega⟩
def li_sg (g : Nat → Int32) : Prop := ∀ i : Nat, 0 ≤ (g i).toInt ∧ (g i).toInt ≤ 255
theorem li_sg_tr {g g' : Nat → Int32} (hg : g' = g) (h : li_sg g) : li_sg g' := by subst hg; exact h
theorem li_sg_at {g : Nat → Int32} {x i : Int32} {n : Nat} (h : li_sg g) (q : x = li_at g n i) : 0 ≤ x.toInt ∧ x.toInt ≤ 255 := by
  have hz : (0 : Int32).toInt = 0 := rfl
  rw [q]; unfold li_at; split
  · exact h _
  · omega
theorem rd_lt {g : Nat → Int32} {len p : Int} (h : 0 ≤ rd_ch g len p) : p < len := by
  by_cases c : p < len
  · exact c
  · unfold rd_ch at h; rw [if_neg c] at h; omega
theorem rd_no {g : Nat → Int32} {len p : Int} (h : len ≤ p) : rd_ch g len p = -1 := by unfold rd_ch; rw [if_neg (by omega)]
abbrev li_n2 (g : Nat → Int32) (len k v p r q : Int) : Prop := li_nq g len k v p r q
theorem li_n2_tr {g g' : Nat → Int32} {len len' k k' v v' p p' r r' q q' : Int} (hg : g' = g) (h1 : len' = len) (h2 : k' = k) (h3 : v' = v) (h4 : p' = p) (h5 : r' = r) (h6 : q' = q) (h : li_n2 g len k v p r q) : li_n2 g' len' k' v' p' r' q' := li_nq_tr hg h1 h2 h3 h4 h5 h6 h
theorem li_nq_self {g : Nat → Int32} {len k v p : Int} : ∃ r q : Int, li_nq g len k v p r q := ⟨_, _, rfl⟩
/-- lines of people: whether they could be read, where it ended, how many -/
def rd_pl (g : Nat → Int32) (len : Int) : Nat → Int → Int → Int × Int × Int
  | 0, p, n => (0, p, n)
  | k + 1, p, n => if (rd_nm g len 2 (-1) p).1 < 0 ∨ ¬ rd_ch g len (rd_nm g len 2 (-1) p).2 = 58 then (0, (rd_nm g len 2 (-1) p).2, n) else
    if (rd_nm g len 3 (-1) ((rd_nm g len 2 (-1) p).2 + 1)).1 < 0 then (0, (rd_nm g len 3 (-1) ((rd_nm g len 2 (-1) p).2 + 1)).2, n) else
    if len ≤ (rd_nm g len 3 (-1) ((rd_nm g len 2 (-1) p).2 + 1)).2 then (1, (rd_nm g len 3 (-1) ((rd_nm g len 2 (-1) p).2 + 1)).2, n + 1) else
    if rd_ch g len (rd_nm g len 3 (-1) ((rd_nm g len 2 (-1) p).2 + 1)).2 = 59 then rd_pl g len k ((rd_nm g len 3 (-1) ((rd_nm g len 2 (-1) p).2 + 1)).2 + 1) (n + 1) else (0, (rd_nm g len 3 (-1) ((rd_nm g len 2 (-1) p).2 + 1)).2, n)
def li_pq (g : Nat → Int32) (len k p n ok q m : Int) : Prop := rd_pl g len k.toNat p n = (ok, q, m)
theorem li_pq_tr {g g' : Nat → Int32} {len len' k k' p p' n n' ok ok' q q' m m' : Int} (hg : g' = g) (h1 : len' = len) (h2 : k' = k) (h3 : p' = p) (h4 : n' = n) (h5 : ok' = ok) (h6 : q' = q) (h7 : m' = m) (h : li_pq g len k p n ok q m) : li_pq g' len' k' p' n' ok' q' m' := by
  subst hg; subst h1; subst h2; subst h3; subst h4; subst h5; subst h6; subst h7; exact h
theorem li_pq_z {g : Nat → Int32} {len k p n ok q m : Int} (h : li_pq g len k p n ok q m) (hk : k ≤ 0) : ok = 0 ∧ q = p ∧ m = n := by
  unfold li_pq at h
  rw [show k.toNat = 0 by omega] at h
  have h1 := Prod.mk.inj h
  have h2 := Prod.mk.inj h1.2
  exact ⟨h1.1.symm, h2.1.symm, h2.2.symm⟩
theorem li_pq_un {g : Nat → Int32} {len k p n ok q m R1 Q1 R2 Q2 : Int} (h : li_pq g len k p n ok q m) (hk : 0 < k) (h1 : li_nq g len 2 (-1) p R1 Q1) (h2 : li_nq g len 3 (-1) (Q1 + 1) R2 Q2) :
    (if R1 < 0 ∨ ¬ rd_ch g len Q1 = 58 then ((0 : Int), Q1, n) else if R2 < 0 then (0, Q2, n) else if len ≤ Q2 then (1, Q2, n + 1) else if rd_ch g len Q2 = 59 then rd_pl g len (k - 1).toNat (Q2 + 1) (n + 1) else (0, Q2, n)) = (ok, q, m) := by
  unfold li_pq at h
  rw [show k.toNat = (k - 1).toNat + 1 by omega] at h
  unfold rd_pl at h
  have e1 : rd_nm g len 2 (-1) p = (R1, Q1) := h1
  have e2 : rd_nm g len 3 (-1) (Q1 + 1) = (R2, Q2) := h2
  rw [e1] at h
  dsimp only at h
  rw [e2] at h
  exact h
theorem li_pq_r {g : Nat → Int32} {len k p n ok q m R1 Q1 R2 Q2 : Int} (h : li_pq g len k p n ok q m) (hk : 0 < k) (h1 : li_nq g len 2 (-1) p R1 Q1) (h2 : li_nq g len 3 (-1) (Q1 + 1) R2 Q2) :
    (R1 < 0 ∧ ok = 0 ∧ q = Q1 ∧ m = n) ∨ (0 ≤ R1 ∧ ¬ rd_ch g len Q1 = 58 ∧ ok = 0 ∧ q = Q1 ∧ m = n) ∨ (0 ≤ R1 ∧ rd_ch g len Q1 = 58 ∧ R2 < 0 ∧ ok = 0 ∧ q = Q2 ∧ m = n) ∨ (0 ≤ R1 ∧ rd_ch g len Q1 = 58 ∧ 0 ≤ R2 ∧ len ≤ Q2 ∧ ok = 1 ∧ q = Q2 ∧ m = n + 1) ∨
    (0 ≤ R1 ∧ rd_ch g len Q1 = 58 ∧ 0 ≤ R2 ∧ Q2 < len ∧ ¬ rd_ch g len Q2 = 59 ∧ ok = 0 ∧ q = Q2 ∧ m = n) ∨ (0 ≤ R1 ∧ rd_ch g len Q1 = 58 ∧ 0 ≤ R2 ∧ Q2 < len ∧ rd_ch g len Q2 = 59) := by
  have u := li_pq_un h hk h1 h2
  have inj : ∀ {a b c : Int}, (a, b, c) = (ok, q, m) → ok = a ∧ q = b ∧ m = c := fun e => by
    have h1 := Prod.mk.inj e
    have h2 := Prod.mk.inj h1.2
    exact ⟨h1.1.symm, h2.1.symm, h2.2.symm⟩
  by_cases c1 : R1 < 0 ∨ ¬ rd_ch g len Q1 = 58
  · rw [if_pos c1] at u
    have := inj u
    omega
  · rw [if_neg c1] at u
    by_cases c2 : R2 < 0
    · rw [if_pos c2] at u
      have := inj u
      omega
    · rw [if_neg c2] at u
      by_cases c3 : len ≤ Q2
      · rw [if_pos c3] at u
        have := inj u
        omega
      · rw [if_neg c3] at u
        by_cases c4 : rd_ch g len Q2 = 59
        · omega
        · rw [if_neg c4] at u
          have := inj u
          omega
theorem li_pq_go {g : Nat → Int32} {len k p n ok q m R1 Q1 R2 Q2 : Int} (h : li_pq g len k p n ok q m) (hk : 0 < k) (h1 : li_nq g len 2 (-1) p R1 Q1) (h2 : li_nq g len 3 (-1) (Q1 + 1) R2 Q2) (c : 0 ≤ R1 ∧ rd_ch g len Q1 = 58 ∧ 0 ≤ R2 ∧ Q2 < len ∧ rd_ch g len Q2 = 59) : li_pq g len (k - 1) (Q2 + 1) (n + 1) ok q m := by
  have u := li_pq_un h hk h1 h2
  rw [if_neg (by omega), if_neg (by omega), if_neg (by omega), if_pos c.2.2.2.2] at u
  exact u
theorem li_cd_nd {g : Nat → Int32} {len p d : Int} (h : li_cd g len p d) (hd : ¬ (0 ≤ d ∧ d ≤ 9)) : ¬ (48 ≤ rd_ch g len p ∧ rd_ch g len p ≤ 57) := by
  rcases h with h | h
  · omega
  · exact h.1
theorem li_cd_d {g : Nat → Int32} {len p d : Int} (h : li_cd g len p d) (hd : 0 ≤ d ∧ d ≤ 9) : 48 ≤ rd_ch g len p ∧ rd_ch g len p ≤ 57 ∧ d = rd_ch g len p - 48 := by
  rcases h with h | h
  · exact h
  · exact absurd hd h.2
theorem rd_ch_at {g : Nat → Int32} {len p : Int} {x i : Int32} (q : x = li_at g 80 i) (hi : i.toInt = p) (h0 : 0 ≤ p) (h1 : p < len) (h2 : len ≤ 80) : rd_ch g len p = x.toInt := by
  have h9 := li_cl (i := i) (by omega)
  unfold rd_ch
  rw [if_pos h1, q]
  unfold li_at
  have hz : (0 : Int32).toInt = 0 := rfl
  rw [show p.toNat = i.toNatClampNeg by omega]
  have z80 : (nI 80).toInt = 80 := rfl
  rw [if_pos ⟨Int32.le_iff_toInt_le.mpr (by omega), Int32.lt_iff_toInt_lt.mpr (by omega)⟩]

set_option maxRecDepth 100000 in
set_option maxHeartbeats 4000000 in
theorem k4_X11_within2 {l : Launch} {Z : li_Z} (d : Nat) (hd : 1 ≤ d) (p1 : Int32) (p2 : Int32) (p3 : Int32) (M0 : li_M) : li_Met l Z YX11_within d [.int p1, .int p2, .int p3] M0 (fun r M' => (∃ x : Int32, r = some (.int x) ∧ (x = 0 ∨ x = 1) ∧ ((x.toInt = 1 ∧ p2.toInt ≤ p1.toInt ∧ p1.toInt ≤ p3.toInt) ∨ (x.toInt = 0 ∧ (p1.toInt < p2.toInt ∨ p3.toInt < p1.toInt)))) ∧ li_fr (fun i => False) M0 M') := by
  refine li_enter (by decide +kernel) (Nat.le_of_ble_eq_true rfl) ?_
  show li_T l Z YX11_within d 0 [(0, .int p1), (1, .int p2), (2, .int p3)] [] M0 _
  have hf : li_fr (fun i => False) M0 M0 := li_fr_refl
  have gp1 := tl_rg p1
  have gp2 := tl_rg p2
  have gp3 := tl_rg p3
  refine li_iload_n 0 dX11_within_0 rfl ?_
  refine li_iload_n 1 dX11_within_1 rfl ?_
  refine li_icmp_lt 14 dX11_within_2 (by decide) (fun c1 => ?_) (fun c1 => ?_)
  · have tc1 : p1.toInt < p2.toInt := tl_lt c1
    refine li_iconst 0 dX11_within_14 (by decide) ?_
    have z0 : (0 : Int32).toInt = 0 := rfl
    exact li_iret dX11_within_15 rfl (li_nz (Or.inl rfl)) ⟨⟨_, rfl, Or.inl rfl, (by first | omega | (intro _; omega) | (intro h; exact absurd h (by decide)))⟩, hf⟩
  · have tc1 : p2.toInt ≤ p1.toInt := tl_nlt c1
    refine li_iload_n 0 dX11_within_5 rfl ?_
    refine li_iload_n 2 dX11_within_6 rfl ?_
    refine li_icmp_gt 14 dX11_within_7 (by decide) (fun c2 => ?_) (fun c2 => ?_)
    · have tc2 : p3.toInt < p1.toInt := tl_lt c2
      refine li_iconst 0 dX11_within_14 (by decide) ?_
      have z0 : (0 : Int32).toInt = 0 := rfl
      exact li_iret dX11_within_15 rfl (li_nz (Or.inl rfl)) ⟨⟨_, rfl, Or.inl rfl, (by first | omega | (intro _; omega) | (intro h; exact absurd h (by decide)))⟩, hf⟩
    · have tc2 : p1.toInt ≤ p3.toInt := tl_nlt c2
      refine li_iconst 1 dX11_within_10 (by decide) ?_
      refine li_goto 15 dX11_within_11 (by decide) ?_
      have z1 : (1 : Int32).toInt = 1 := rfl
      exact li_iret dX11_within_15 rfl (li_nz (Or.inr rfl)) ⟨⟨_, rfl, Or.inr rfl, (by first | omega | (intro _; omega) | (intro h; exact absurd h (by decide)))⟩, hf⟩
set_option maxRecDepth 100000 in
set_option maxHeartbeats 4000000 in
theorem k5_X7_takeNumber {l : Launch} {Z : li_Z} (d : Nat) (hd : 2 ≤ d) (p1 : Int32) (M0 : li_M) (h1 : 0 ≤ (M0.1 1 2).toInt ∧ (M0.1 1 2).toInt ≤ (M0.1 1 1).toInt ∧ (M0.1 1 1).toInt ≤ 80) (Psg_M0 : li_sg (M0.1 2)) (h2 : 1 ≤ p1.toInt ∧ p1.toInt ≤ 3) (R Q : Int) (Pnq_M0 : li_nq (M0.1 2) ((M0.1 1 1).toInt) (p1.toInt) (-1) ((M0.1 1 2).toInt) (R) (Q)) : li_Met l Z YX7_takeNumber d [.ref (Z.2.2 1), .int p1] M0 (fun r M' => (∃ x : Int32, r = some (.int x) ∧ (x.toInt = R ∧ (M'.1 1 2).toInt = Q ∧ (M'.1 1 1).toInt = (M0.1 1 1).toInt ∧ (M0.1 1 2).toInt ≤ (M'.1 1 2).toInt ∧ (M'.1 1 2).toInt ≤ (M0.1 1 1).toInt)) ∧ li_fr (fun i => i = 1) M0 M') := by
  refine li_enter (by decide +kernel) (Nat.le_of_ble_eq_true rfl) ?_
  show li_T l Z YX7_takeNumber d 0 [(0, .ref (Z.2.2 1)), (1, .int p1)] [] M0 _
  have hf : li_fr (fun i => i = 1) M0 M0 := li_fr_refl
  have gp1 := tl_rg p1
  refine li_iconst (-1) dX7_takeNumber_0 (by decide) ?_
  refine li_istore_n [(2, .int (-1)), (0, .ref (Z.2.2 1)), (1, .int p1)] dX7_takeNumber_1 (by decide) rfl ?_
  refine li_iconst 0 dX7_takeNumber_2 (by decide) ?_
  refine li_istore_n [(3, .int 0), (2, .int (-1)), (0, .ref (Z.2.2 1)), (1, .int p1)] dX7_takeNumber_3 (by decide) rfl ?_
  have L4 : ∀ (n : Nat) (x1 : Int32) (x2 : Int32) (M3 : li_M), (p1.toInt - (x1 : Int32).toInt).toNat < n → li_fr (fun i => i = 1) M0 M3 → 0 ≤ (x1 : Int32).toInt ∧ (x1 : Int32).toInt ≤ p1.toInt ∧ (M0.1 1 2).toInt ≤ (M3.1 1 2).toInt ∧ (M3.1 1 2).toInt ≤ (M3.1 1 1).toInt ∧ (M3.1 1 1).toInt = (M0.1 1 1).toInt ∧ -1 ≤ (x2 : Int32).toInt ∧ ((x1 : Int32).toInt = 0 → (x2 : Int32).toInt = -1) ∧ ((x1 : Int32).toInt ≤ 1 → (x2 : Int32).toInt ≤ 9) ∧ ((x1 : Int32).toInt ≤ 2 → (x2 : Int32).toInt ≤ 99) → li_sg (M3.1 2)  → li_nq (M3.1 2) ((M3.1 1 1).toInt) (p1.toInt - (x1 : Int32).toInt) ((x2 : Int32).toInt) ((M3.1 1 2).toInt) (R) (Q) → li_T l Z YX7_takeNumber d 4 [(3, .int x1), (2, .int x2), (0, .ref (Z.2.2 1)), (1, .int p1)] [] M3 (fun r M' => (∃ x : Int32, r = some (.int x) ∧ (x.toInt = R ∧ (M'.1 1 2).toInt = Q ∧ (M'.1 1 1).toInt = (M0.1 1 1).toInt ∧ (M0.1 1 2).toInt ≤ (M'.1 1 2).toInt ∧ (M'.1 1 2).toInt ≤ (M0.1 1 1).toInt)) ∧ li_fr (fun i => i = 1) M0 M') := by
    intro n
    induction n with
    | zero => intro x1 x2 M3 hn; exact absurd hn (Nat.not_lt_zero _)
    | succ n ih4 =>
      intro x1 x2 M3 hn hf hi Psg_M3 Pnq_M3
      have gx1 := tl_rg x1
      have gx2 := tl_rg x2
      refine li_iload_n 0 dX7_takeNumber_4 rfl ?_
      refine li_iload_n 3 dX7_takeNumber_5 rfl ?_
      refine li_icmp_ge 82 dX7_takeNumber_6 (by decide) (fun c4 => ?_) (fun c4 => ?_)
      · have tc4 : p1.toInt ≤ x1.toInt := tl_le c4
        refine li_iload_n 1 dX7_takeNumber_82 rfl ?_
        exact li_iret dX7_takeNumber_83 rfl rfl ⟨⟨_, rfl, (by first | (have zz9 := li_nq_z Pnq_M3 (by omega); refine ⟨?_, ?_, ?_, ?_, ?_⟩ <;> omega) | (have zz8 := li_cd_nd Pcd_M3 (by omega); have zz9 := li_nq_no Pnq_M3 zz8; refine ⟨?_, ?_, ?_, ?_, ?_⟩ <;> omega))⟩, hf⟩
      · have tc4 : x1.toInt < p1.toInt := tl_nle c4
        refine li_aload_n 2 dX7_takeNumber_9 rfl ?_
        refine li_geti (k := 2) (N := 3) (T := TX7) (C0 := RX7) dX7_takeNumber_10 (by decide) sh_1 rfl rfl (by decide) li_in7 w_142 ?_
        refine li_top (fun x5 ex5 => ?_)
        have gx5 := tl_rg x5
        have vx5 : x5.toInt = (M3.1 1 2).toInt := tl_eq ex5
        refine li_aload_n 2 dX7_takeNumber_13 rfl ?_
        refine li_geti (k := 1) (N := 3) (T := TX7) (C0 := RX7) dX7_takeNumber_14 (by decide) sh_1 rfl rfl (by decide) li_in7 w_139 ?_
        refine li_top (fun x6 ex6 => ?_)
        have gx6 := tl_rg x6
        have vx6 : x6.toInt = (M3.1 1 1).toInt := tl_eq ex6
        have J38 : ∀ (x8 : Int32) (M9 : li_M), li_fr (fun i => i = 1) M0 M9 → (M0.1 1 2).toInt ≤ (M9.1 1 2).toInt ∧ (M9.1 1 2).toInt ≤ (M9.1 1 1).toInt ∧ (M9.1 1 1).toInt = (M0.1 1 1).toInt → li_sg (M9.1 2)  → li_nq (M9.1 2) ((M9.1 1 1).toInt) (p1.toInt - (x1 : Int32).toInt) ((x2 : Int32).toInt) ((M9.1 1 2).toInt) (R) (Q) → li_cd (M9.1 2) ((M9.1 1 1).toInt) ((M9.1 1 2).toInt) ((x8 : Int32).toInt) → li_T l Z YX7_takeNumber d 38 [(3, .int x1), (2, .int x2), (0, .ref (Z.2.2 1)), (1, .int p1)] [.int x8] M9 (fun r M' => (∃ x : Int32, r = some (.int x) ∧ (x.toInt = R ∧ (M'.1 1 2).toInt = Q ∧ (M'.1 1 1).toInt = (M0.1 1 1).toInt ∧ (M0.1 1 2).toInt ≤ (M'.1 1 2).toInt ∧ (M'.1 1 2).toInt ≤ (M0.1 1 1).toInt)) ∧ li_fr (fun i => i = 1) M0 M') := by
          intro x8 M9 hf hi Psg_M9 Pnq_M9 Pcd_M9
          have gx8 := tl_rg x8
          refine li_istore [(4, .int x8), (3, .int x1), (2, .int x2), (0, .ref (Z.2.2 1)), (1, .int p1)] dX7_takeNumber_38 (by decide) rfl ?_
          refine li_iload 0 dX7_takeNumber_40 rfl ?_
          refine li_iconst 0 dX7_takeNumber_42 (by decide) ?_
          refine li_bipush 9 dX7_takeNumber_43 (by decide) ?_
          refine li_callN (n := 3) (As := [.int x8, .int 0, .int 9]) dX7_takeNumber_45 (k4_X11_within2 (d - 1) (by omega) x8 0 9 M9) (by omega) (Nat.le_of_ble_eq_true rfl) nw_10 w_639 w_101 w_640 (by decide +kernel) rfl rfl (Nat.le_of_ble_eq_true rfl) (fun r M11 h12 => ?_)
          have z0 : (0 : Int32).toInt = 0 := rfl
          have z9 : (9 : Int32).toInt = 9 := rfl
          obtain ⟨⟨x10, rfl, bx10, qx10⟩, h12⟩ := h12
          have ux10 := tl_b bx10
          have hf := li_fr_trans hf h12 (fun i h => False.elim h)
          have mM11_1_1 : (M11.1 1 1).toInt = (M9.1 1 1).toInt := by rw [h12.1 1 id]
          have mM11_1_2 : (M11.1 1 2).toInt = (M9.1 1 2).toInt := by rw [h12.1 1 id]
          have Psg_M11 : li_sg (M11.1 2)  := li_sg_tr (h12.1 2 (fun h => by first | exact (h : False).elim | omega))  Psg_M9
          have Pnq_M11 : li_nq (M11.1 2) ((M11.1 1 1).toInt) (p1.toInt - (x1 : Int32).toInt) ((x2 : Int32).toInt) ((M11.1 1 2).toInt) (R) (Q) := li_nq_tr (h12.1 2 (fun h => by first | exact (h : False).elim | omega)) (by omega) (by omega) (by omega) (by omega) (by omega) (by omega) Pnq_M9
          have Pcd_M11 : li_cd (M11.1 2) ((M11.1 1 1).toInt) ((M11.1 1 2).toInt) ((x8 : Int32).toInt) := li_cd_tr (h12.1 2 (fun h => by first | exact (h : False).elim | omega)) (by omega) (by omega) (by omega) Pcd_M9
          refine li_if_ne 54 dX7_takeNumber_48 (by decide) (fun c13 => ?_) (fun c13 => ?_)
          · have tc13 : ¬ x10.toInt = 0 := tl_ne c13
            refine li_aload_n 3 dX7_takeNumber_54 rfl ?_
            refine li_dup dX7_takeNumber_55 rfl ?_
            refine li_geti (k := 2) (N := 3) (T := TX7) (C0 := RX7) dX7_takeNumber_56 (by decide) sh_1 rfl rfl (by decide) li_in7 w_142 ?_
            refine li_top (fun x14 ex14 => ?_)
            have gx14 := tl_rg x14
            have vx14 : x14.toInt = (M11.1 1 2).toInt := tl_eq ex14
            refine li_iconst 1 dX7_takeNumber_59 (by decide) ?_
            refine li_iadd dX7_takeNumber_60 ?_
            refine li_top (fun x15 ex15 => ?_)
            have tx15 : (-2147483648 ≤ x14.toInt + 1 ∧ x14.toInt + 1 ≤ 2147483647) → x15.toInt = x14.toInt + 1 := tl_add ex15
            refine li_puti (k := 2) (N := 3) (T := TX7) (C0 := RX7) dX7_takeNumber_61 (by decide) sh_1 rfl rfl (by decide) li_in7 tyX7_ok nmX7 rfl rfl rfl rfl w_142 ?_
            refine li_nm (fun M16 eM16 => ?_)
            have hf := li_fr_ui hf (show 1 = 1 by omega) eM16
            have mM16_1_1 : (M16.1 1 1).toInt = (M11.1 1 1).toInt := by rw [eM16, li_ui_at, if_pos rfl, if_neg (by decide)]
            have mM16_1_2 : (M16.1 1 2).toInt = x15.toInt := by rw [eM16, li_ui_at, if_pos rfl, if_pos rfl]
            have Psg_M16 : li_sg (M16.1 2)  := li_sg_tr (li_cell_ui eM16 (by decide))  Psg_M11
            have cdd := li_cd_d Pcd_M11 (by omega)
            have cdl := rd_lt (show 0 ≤ rd_ch (M11.1 2) ((M11.1 1 1).toInt) ((M11.1 1 2).toInt) by omega)
            have Pnq_M16 : li_nq (M16.1 2) ((M16.1 1 1).toInt) (p1.toInt - (x1 : Int32).toInt - 1) (max (x2 : Int32).toInt 0 * 10 + (x8 : Int32).toInt) ((M16.1 1 2).toInt) (R) (Q) := li_nq_tr (li_cell_ui eM16 (by decide)) (by omega) rfl rfl rfl rfl rfl (li_nq_st Pnq_M11 (by omega) ⟨cdd.1, cdd.2.1⟩ (by omega) (by omega) (by omega))
            have k17 : M16.1 1 2 = x15 := by rw [eM16, li_ui_at, if_pos rfl, if_pos rfl]
            refine li_iload_n 2 dX7_takeNumber_64 rfl ?_
            refine li_iconst 0 dX7_takeNumber_65 (by decide) ?_
            refine li_mmax dX7_takeNumber_66 (by omega) w_641 w_642 w_113 w_643 (Nat.le_of_ble_eq_true rfl) ?_
            refine li_top (fun x18 ex18 => ?_)
            have tx18 : (x2.toInt < 0 → x18.toInt = 0) ∧ (0 ≤ x2.toInt → x18.toInt = x2.toInt) := tl_max ex18
            refine li_bipush 10 dX7_takeNumber_69 (by decide) ?_
            refine li_imul dX7_takeNumber_71 ?_
            refine li_top (fun x19 ex19 => ?_)
            have tx19 : (-2147483648 ≤ x18.toInt * 10 ∧ x18.toInt * 10 ≤ 2147483647) → x19.toInt = x18.toInt * 10 := tl_mul ex19
            refine li_iload 0 dX7_takeNumber_72 rfl ?_
            refine li_iadd dX7_takeNumber_74 ?_
            refine li_top (fun x20 ex20 => ?_)
            have tx20 : (-2147483648 ≤ x19.toInt + x8.toInt ∧ x19.toInt + x8.toInt ≤ 2147483647) → x20.toInt = x19.toInt + x8.toInt := tl_add ex20
            refine li_istore_n [(2, .int x20), (4, .int x8), (3, .int x1), (0, .ref (Z.2.2 1)), (1, .int p1)] dX7_takeNumber_75 (by decide) rfl ?_
            obtain ⟨x21, ex21⟩ : ∃ y : Int32, y = x1 + 1 := ⟨_, rfl⟩
            have tx21 : (-2147483648 ≤ x1.toInt + 1 ∧ x1.toInt + 1 ≤ 2147483647) → x21.toInt = x1.toInt + 1 := tl_add ex21
            refine li_iinc 2 [(3, .int x21), (2, .int x20), (4, .int x8), (0, .ref (Z.2.2 1)), (1, .int p1)] x21 dX7_takeNumber_76 rfl (by rw [ex21]; rfl) (by decide) rfl ?_
            refine li_goto 4 dX7_takeNumber_79 (by decide) ?_
            refine li_pick [0, 1, 3, 4] [(3, .int x21), (2, .int x20), (0, .ref (Z.2.2 1)), (1, .int p1)] rfl ?_
            exact ih4 x21 x20 M16 (by omega) hf (by omega) (by first | exact li_sg_tr rfl  Psg_M16) (by first | exact li_nq_tr rfl (by omega) (by omega) (by omega) (by omega) (by omega) (by omega) Pnq_M16 | exact li_nq_st Pnq_M16 (by omega) (by omega) (by omega) (by omega) (by omega))
          · have tc13 : x10.toInt = 0 := tl_eq c13
            refine li_goto 82 dX7_takeNumber_51 (by decide) ?_
            refine li_iload_n 2 dX7_takeNumber_82 rfl ?_
            exact li_iret dX7_takeNumber_83 rfl rfl ⟨⟨_, rfl, (by first | (have zz9 := li_nq_z Pnq_M11 (by omega); refine ⟨?_, ?_, ?_, ?_, ?_⟩ <;> omega) | (have zz8 := li_cd_nd Pcd_M11 (by omega); have zz9 := li_nq_no Pnq_M11 zz8; refine ⟨?_, ?_, ?_, ?_, ?_⟩ <;> omega))⟩, hf⟩
        refine li_icmp_ge 37 dX7_takeNumber_17 (by decide) (fun c7 => ?_) (fun c7 => ?_)
        · have tc7 : x6.toInt ≤ x5.toInt := tl_le c7
          refine li_iconst (-1) dX7_takeNumber_37 (by decide) ?_
          refine li_pick [0, 1, 2, 3] [(3, .int x1), (2, .int x2), (0, .ref (Z.2.2 1)), (1, .int p1)] rfl ?_
          have zm1 : ((-1) : Int32).toInt = -1 := rfl
          exact J38 (-1) M3 hf (by omega) (by first | exact li_sg_tr rfl  Psg_M3) (by first | exact li_nq_tr rfl (by omega) (by omega) (by omega) (by omega) (by omega) (by omega) Pnq_M3 | exact li_nq_st Pnq_M3 (by omega) (by omega) (by omega) (by omega) (by omega)) (by first | exact li_cd_no (by omega) (by omega) | exact li_cd_of chq (by omega))
        · have tc7 : x5.toInt < x6.toInt := tl_nle c7
          refine li_aload_n 2 dX7_takeNumber_20 rfl ?_
          refine li_getr (k := 0) (N := 3) (T := TX7) (C0 := RX7) dX7_takeNumber_21 (by decide) sh_1 rfl rfl (by decide) (by decide) li_in7 w_138 ?_
          refine li_aload_n 2 dX7_takeNumber_24 rfl ?_
          refine li_geti (k := 2) (N := 3) (T := TX7) (C0 := RX7) dX7_takeNumber_25 (by decide) sh_1 rfl rfl (by decide) li_in7 w_142 ?_
          refine li_top (fun x22 ex22 => ?_)
          have gx22 := tl_rg x22
          have vx22 : x22.toInt = (M3.1 1 2).toInt := tl_eq ex22
          have tvx22 : x22.toInt = x5.toInt := tl_eq (ex22.trans ex5.symm)
          refine li_callN (n := 2) (As := [.ref (Z.2.2 2), .int x22]) dX7_takeNumber_28 (a_X11_at (d - 1) (by omega) (by decide) sh_2 (by decide) x22 M3) (by omega) (Nat.le_of_ble_eq_true rfl) nw_8 w_569 w_101 w_570 (by decide +kernel) rfl rfl (Nat.le_of_ble_eq_true rfl) (fun r M24 h25 => ?_)
          obtain ⟨⟨x23, rfl, qx23⟩, h25⟩ := h25
          have gx23 := tl_rg x23
          have hf := li_fr_trans hf h25 (fun i h => False.elim h)
          have mM24_1_1 : (M24.1 1 1).toInt = (M3.1 1 1).toInt := by rw [h25.1 1 id]
          have mM24_1_2 : (M24.1 1 2).toInt = (M3.1 1 2).toInt := by rw [h25.1 1 id]
          have Psg_M24 : li_sg (M24.1 2)  := li_sg_tr (h25.1 2 (fun h => by first | exact (h : False).elim | omega))  Psg_M3
          have Pnq_M24 : li_nq (M24.1 2) ((M24.1 1 1).toInt) (p1.toInt - (x1 : Int32).toInt) ((x2 : Int32).toInt) ((M24.1 1 2).toInt) (R) (Q) := li_nq_tr (h25.1 2 (fun h => by first | exact (h : False).elim | omega)) (by omega) (by omega) (by omega) (by omega) (by omega) (by omega) Pnq_M3
          have sgq := li_sg_at Psg_M3 qx23
          have chq : rd_ch (M24.1 2) ((M24.1 1 1).toInt) ((M24.1 1 2).toInt) = x23.toInt := by rw [show M24.1 2 = M3.1 2 from h25.1 2 (fun h => h)]; exact rd_ch_at qx23 (by omega) (by omega) (by omega) (by omega)
          refine li_bipush 48 dX7_takeNumber_31 (by decide) ?_
          refine li_isub dX7_takeNumber_33 ?_
          refine li_top (fun x26 ex26 => ?_)
          have tx26 : (-2147483648 ≤ x23.toInt - 48 ∧ x23.toInt - 48 ≤ 2147483647) → x26.toInt = x23.toInt - 48 := tl_sub ex26
          refine li_goto 38 dX7_takeNumber_34 (by decide) ?_
          refine li_pick [0, 1, 2, 3] [(3, .int x1), (2, .int x2), (0, .ref (Z.2.2 1)), (1, .int p1)] rfl ?_
          exact J38 x26 M24 hf (by omega) (by first | exact li_sg_tr rfl  Psg_M24) (by first | exact li_nq_tr rfl (by omega) (by omega) (by omega) (by omega) (by omega) (by omega) Pnq_M24 | exact li_nq_st Pnq_M24 (by omega) (by omega) (by omega) (by omega) (by omega)) (by first | exact li_cd_no (by omega) (by omega) | exact li_cd_of chq (by omega))
  have z0 : (0 : Int32).toInt = 0 := rfl
  have zm1 : ((-1) : Int32).toInt = -1 := rfl
  exact L4 _ 0 (-1) M0 (Nat.lt_succ_self _) hf (by omega) (by first | exact li_sg_tr rfl  Psg_M0) (by first | exact li_nq_tr rfl (by omega) (by omega) (by omega) (by omega) (by omega) (by omega) Pnq_M0 | exact li_nq_st Pnq_M0 (by omega) (by omega) (by omega) (by omega) (by omega))
set_option maxRecDepth 100000 in
set_option maxHeartbeats 4000000 in
theorem k5_X7_skip {l : Launch} {Z : li_Z} (d : Nat) (hd : 2 ≤ d) (p1 : Int32) (M0 : li_M) (h1 : 0 ≤ (M0.1 1 2).toInt ∧ (M0.1 1 2).toInt ≤ (M0.1 1 1).toInt ∧ (M0.1 1 1).toInt ≤ 80) (Psg_M0 : li_sg (M0.1 2)) (h2 : 0 ≤ p1.toInt) : li_Met l Z YX7_skip d [.ref (Z.2.2 1), .int p1] M0 (fun r M' => (∃ x : Int32, r = some (.int x) ∧ (x = 0 ∨ x = 1) ∧ (((x.toInt = 1 ∧ rd_ch (M0.1 2) ((M0.1 1 1).toInt) ((M0.1 1 2).toInt) = p1.toInt ∧ (M0.1 1 2).toInt < (M0.1 1 1).toInt ∧ (M'.1 1 2).toInt = (M0.1 1 2).toInt + 1) ∨ (x.toInt = 0 ∧ ¬ rd_ch (M0.1 2) ((M0.1 1 1).toInt) ((M0.1 1 2).toInt) = p1.toInt ∧ (M'.1 1 2).toInt = (M0.1 1 2).toInt)) ∧ (M'.1 1 1).toInt = (M0.1 1 1).toInt)) ∧ li_fr (fun i => i = 1) M0 M') := by
  refine li_enter (by decide +kernel) (Nat.le_of_ble_eq_true rfl) ?_
  show li_T l Z YX7_skip d 0 [(0, .ref (Z.2.2 1)), (1, .int p1)] [] M0 _
  have hf : li_fr (fun i => i = 1) M0 M0 := li_fr_refl
  have gp1 := tl_rg p1
  refine li_aload_n 0 dX7_skip_0 rfl ?_
  refine li_geti (k := 2) (N := 3) (T := TX7) (C0 := RX7) dX7_skip_1 (by decide) sh_1 rfl rfl (by decide) li_in7 w_142 ?_
  refine li_top (fun x1 ex1 => ?_)
  have gx1 := tl_rg x1
  have vx1 : x1.toInt = (M0.1 1 2).toInt := tl_eq ex1
  refine li_aload_n 0 dX7_skip_4 rfl ?_
  refine li_geti (k := 1) (N := 3) (T := TX7) (C0 := RX7) dX7_skip_5 (by decide) sh_1 rfl rfl (by decide) li_in7 w_139 ?_
  refine li_top (fun x2 ex2 => ?_)
  have gx2 := tl_rg x2
  have vx2 : x2.toInt = (M0.1 1 1).toInt := tl_eq ex2
  refine li_icmp_ge 26 dX7_skip_8 (by decide) (fun c3 => ?_) (fun c3 => ?_)
  · have tc3 : x2.toInt ≤ x1.toInt := tl_le c3
    refine li_iconst 0 dX7_skip_26 (by decide) ?_
    have z0 : (0 : Int32).toInt = 0 := rfl
    exact li_iret dX7_skip_27 rfl (li_nz (Or.inl rfl)) ⟨⟨_, rfl, Or.inl rfl, (by first | omega | (have zz := rd_no (g := M0.1 2) (len := (M0.1 1 1).toInt) (p := (M0.1 1 2).toInt) (by omega); omega))⟩, hf⟩
  · have tc3 : x1.toInt < x2.toInt := tl_nle c3
    refine li_aload_n 0 dX7_skip_11 rfl ?_
    refine li_getr (k := 0) (N := 3) (T := TX7) (C0 := RX7) dX7_skip_12 (by decide) sh_1 rfl rfl (by decide) (by decide) li_in7 w_138 ?_
    refine li_aload_n 0 dX7_skip_15 rfl ?_
    refine li_geti (k := 2) (N := 3) (T := TX7) (C0 := RX7) dX7_skip_16 (by decide) sh_1 rfl rfl (by decide) li_in7 w_142 ?_
    refine li_top (fun x4 ex4 => ?_)
    have gx4 := tl_rg x4
    have vx4 : x4.toInt = (M0.1 1 2).toInt := tl_eq ex4
    have tvx4 : x4.toInt = x1.toInt := tl_eq (ex4.trans ex1.symm)
    refine li_callN (n := 2) (As := [.ref (Z.2.2 2), .int x4]) dX7_skip_19 (a_X11_at (d - 1) (by omega) (by decide) sh_2 (by decide) x4 M0) (by omega) (Nat.le_of_ble_eq_true rfl) nw_8 w_569 w_101 w_570 (by decide +kernel) rfl rfl (Nat.le_of_ble_eq_true rfl) (fun r M6 h7 => ?_)
    obtain ⟨⟨x5, rfl, qx5⟩, h7⟩ := h7
    have gx5 := tl_rg x5
    have hf := li_fr_trans hf h7 (fun i h => False.elim h)
    have mM6_1_1 : (M6.1 1 1).toInt = (M0.1 1 1).toInt := by rw [h7.1 1 id]
    have mM6_1_2 : (M6.1 1 2).toInt = (M0.1 1 2).toInt := by rw [h7.1 1 id]
    have Psg_M6 : li_sg (M6.1 2)  := li_sg_tr (h7.1 2 (fun h => by first | exact (h : False).elim | omega))  Psg_M0
    have chq : rd_ch (M0.1 2) ((M0.1 1 1).toInt) ((M0.1 1 2).toInt) = x5.toInt := rd_ch_at qx5 (by omega) (by omega) (by omega) (by omega)
    refine li_iload_n 1 dX7_skip_22 rfl ?_
    refine li_icmp_eq 28 dX7_skip_23 (by decide) (fun c8 => ?_) (fun c8 => ?_)
    · have tc8 : x5.toInt = p1.toInt := tl_eq c8
      refine li_aload_n 0 dX7_skip_28 rfl ?_
      refine li_dup dX7_skip_29 rfl ?_
      refine li_geti (k := 2) (N := 3) (T := TX7) (C0 := RX7) dX7_skip_30 (by decide) sh_1 rfl rfl (by decide) li_in7 w_142 ?_
      refine li_top (fun x9 ex9 => ?_)
      have gx9 := tl_rg x9
      have vx9 : x9.toInt = (M6.1 1 2).toInt := tl_eq ex9
      refine li_iconst 1 dX7_skip_33 (by decide) ?_
      refine li_iadd dX7_skip_34 ?_
      refine li_top (fun x10 ex10 => ?_)
      have tx10 : (-2147483648 ≤ x9.toInt + 1 ∧ x9.toInt + 1 ≤ 2147483647) → x10.toInt = x9.toInt + 1 := tl_add ex10
      refine li_puti (k := 2) (N := 3) (T := TX7) (C0 := RX7) dX7_skip_35 (by decide) sh_1 rfl rfl (by decide) li_in7 tyX7_ok nmX7 rfl rfl rfl rfl w_142 ?_
      refine li_nm (fun M11 eM11 => ?_)
      have hf := li_fr_ui hf (show 1 = 1 by omega) eM11
      have mM11_1_1 : (M11.1 1 1).toInt = (M6.1 1 1).toInt := by rw [eM11, li_ui_at, if_pos rfl, if_neg (by decide)]
      have mM11_1_2 : (M11.1 1 2).toInt = x10.toInt := by rw [eM11, li_ui_at, if_pos rfl, if_pos rfl]
      have Psg_M11 : li_sg (M11.1 2)  := li_sg_tr (li_cell_ui eM11 (by decide))  Psg_M6
      have k12 : M11.1 1 2 = x10 := by rw [eM11, li_ui_at, if_pos rfl, if_pos rfl]
      refine li_iconst 1 dX7_skip_38 (by decide) ?_
      have z1 : (1 : Int32).toInt = 1 := rfl
      exact li_iret dX7_skip_39 rfl (li_nz (Or.inr rfl)) ⟨⟨_, rfl, Or.inr rfl, (by first | omega | (have zz := rd_no (g := M0.1 2) (len := (M0.1 1 1).toInt) (p := (M0.1 1 2).toInt) (by omega); omega))⟩, hf⟩
    · have tc8 : ¬ x5.toInt = p1.toInt := tl_ne c8
      refine li_iconst 0 dX7_skip_26 (by decide) ?_
      have z0 : (0 : Int32).toInt = 0 := rfl
      exact li_iret dX7_skip_27 rfl (li_nz (Or.inl rfl)) ⟨⟨_, rfl, Or.inl rfl, (by first | omega | (have zz := rd_no (g := M0.1 2) (len := (M0.1 1 1).toInt) (p := (M0.1 1 2).toInt) (by omega); omega))⟩, hf⟩

set_option maxRecDepth 100000 in
set_option maxHeartbeats 4000000 in
theorem k5_X7_atEnd {l : Launch} {Z : li_Z} (d : Nat) (hd : 1 ≤ d) (M0 : li_M) : li_Met l Z YX7_atEnd d [.ref (Z.2.2 1)] M0 (fun r M' => (∃ x : Int32, r = some (.int x) ∧ (x = 0 ∨ x = 1) ∧ (((x.toInt = 1 ∧ (M0.1 1 1).toInt ≤ (M0.1 1 2).toInt) ∨ (x.toInt = 0 ∧ (M0.1 1 2).toInt < (M0.1 1 1).toInt)))) ∧ li_fr (fun i => False) M0 M') := by
  refine li_enter (by decide +kernel) (Nat.le_of_ble_eq_true rfl) ?_
  show li_T l Z YX7_atEnd d 0 [(0, .ref (Z.2.2 1))] [] M0 _
  have hf : li_fr (fun i => False) M0 M0 := li_fr_refl
  refine li_aload_n 0 dX7_atEnd_0 rfl ?_
  refine li_geti (k := 2) (N := 3) (T := TX7) (C0 := RX7) dX7_atEnd_1 (by decide) sh_1 rfl rfl (by decide) li_in7 w_142 ?_
  refine li_top (fun x1 ex1 => ?_)
  have gx1 := tl_rg x1
  have vx1 : x1.toInt = (M0.1 1 2).toInt := tl_eq ex1
  refine li_aload_n 0 dX7_atEnd_4 rfl ?_
  refine li_geti (k := 1) (N := 3) (T := TX7) (C0 := RX7) dX7_atEnd_5 (by decide) sh_1 rfl rfl (by decide) li_in7 w_139 ?_
  refine li_top (fun x2 ex2 => ?_)
  have gx2 := tl_rg x2
  have vx2 : x2.toInt = (M0.1 1 1).toInt := tl_eq ex2
  refine li_icmp_lt 15 dX7_atEnd_8 (by decide) (fun c3 => ?_) (fun c3 => ?_)
  · have tc3 : x1.toInt < x2.toInt := tl_lt c3
    refine li_iconst 0 dX7_atEnd_15 (by decide) ?_
    have z0 : (0 : Int32).toInt = 0 := rfl
    exact li_iret dX7_atEnd_16 rfl (li_nz (Or.inl rfl)) ⟨⟨_, rfl, Or.inl rfl, (by first | omega | (intro _; omega) | (intro h; exact absurd h (by decide)))⟩, hf⟩
  · have tc3 : x2.toInt ≤ x1.toInt := tl_nlt c3
    refine li_iconst 1 dX7_atEnd_11 (by decide) ?_
    refine li_goto 16 dX7_atEnd_12 (by decide) ?_
    have z1 : (1 : Int32).toInt = 1 := rfl
    exact li_iret dX7_atEnd_16 rfl (li_nz (Or.inr rfl)) ⟨⟨_, rfl, Or.inr rfl, (by first | omega | (intro _; omega) | (intro h; exact absurd h (by decide)))⟩, hf⟩
set_option maxRecDepth 100000 in
set_option maxHeartbeats 4000000 in
theorem k5_X7_verdict {l : Launch} {Z : li_Z} (d : Nat) (hd : 1 ≤ d) (p1 : Int32) (p2 : Int32) (M0 : li_M) (h1 : 0 ≤ (M0.1 1 2).toInt ∧ (M0.1 1 2).toInt ≤ 80) (h2 : 0 ≤ p2.toInt ∧ p2.toInt ≤ 100) : li_Met l Z YX7_verdict d [.ref (Z.2.2 1), .int p1, .int p2] M0 (fun r M' => (∃ x : Int32, r = some (.int x) ∧ ((p1.toInt < 0 ∧ (M0.1 1 2).toInt ≤ p2.toInt ∧ x.toInt = -1 - (M0.1 1 2).toInt) ∨ (p1.toInt < 0 ∧ p2.toInt < (M0.1 1 2).toInt ∧ x.toInt = -1 - p2.toInt) ∨ (0 ≤ p1.toInt ∧ p2.toInt < (M0.1 1 1).toInt ∧ x.toInt = -1 - p2.toInt) ∨ (0 ≤ p1.toInt ∧ (M0.1 1 1).toInt ≤ p2.toInt ∧ x.toInt = p1.toInt))) ∧ li_fr (fun i => False) M0 M') := by
  refine li_enter (by decide +kernel) (Nat.le_of_ble_eq_true rfl) ?_
  show li_T l Z YX7_verdict d 0 [(0, .ref (Z.2.2 1)), (1, .int p1), (2, .int p2)] [] M0 _
  have hf : li_fr (fun i => False) M0 M0 := li_fr_refl
  have gp1 := tl_rg p1
  have gp2 := tl_rg p2
  refine li_iload_n 1 dX7_verdict_0 rfl ?_
  refine li_if_ge 15 dX7_verdict_1 (by decide) (fun c1 => ?_) (fun c1 => ?_)
  · have tc1 : 0 ≤ p1.toInt := tl_le c1
    refine li_aload_n 0 dX7_verdict_15 rfl ?_
    refine li_geti (k := 1) (N := 3) (T := TX7) (C0 := RX7) dX7_verdict_16 (by decide) sh_1 rfl rfl (by decide) li_in7 w_139 ?_
    refine li_top (fun x2 ex2 => ?_)
    have gx2 := tl_rg x2
    have vx2 : x2.toInt = (M0.1 1 1).toInt := tl_eq ex2
    refine li_iload_n 2 dX7_verdict_19 rfl ?_
    refine li_icmp_le 29 dX7_verdict_20 (by decide) (fun c3 => ?_) (fun c3 => ?_)
    · have tc3 : x2.toInt ≤ p2.toInt := tl_le c3
      refine li_iload_n 1 dX7_verdict_29 rfl ?_
      exact li_iret dX7_verdict_30 rfl rfl ⟨⟨_, rfl, (by first | omega | (intro _; omega) | (intro h; exact absurd h (by decide)))⟩, hf⟩
    · have tc3 : p2.toInt < x2.toInt := tl_nle c3
      refine li_iconst (-1) dX7_verdict_23 (by decide) ?_
      refine li_iload_n 2 dX7_verdict_24 rfl ?_
      refine li_isub dX7_verdict_25 ?_
      refine li_top (fun x4 ex4 => ?_)
      have tx4 : (-2147483648 ≤ (-1) - p2.toInt ∧ (-1) - p2.toInt ≤ 2147483647) → x4.toInt = (-1) - p2.toInt := tl_sub ex4
      refine li_goto 30 dX7_verdict_26 (by decide) ?_
      exact li_iret dX7_verdict_30 rfl rfl ⟨⟨_, rfl, (by first | omega | (intro _; omega) | (intro h; exact absurd h (by decide)))⟩, hf⟩
  · have tc1 : p1.toInt < 0 := tl_nle c1
    refine li_iconst (-1) dX7_verdict_4 (by decide) ?_
    refine li_aload_n 0 dX7_verdict_5 rfl ?_
    refine li_geti (k := 2) (N := 3) (T := TX7) (C0 := RX7) dX7_verdict_6 (by decide) sh_1 rfl rfl (by decide) li_in7 w_142 ?_
    refine li_top (fun x5 ex5 => ?_)
    have gx5 := tl_rg x5
    have vx5 : x5.toInt = (M0.1 1 2).toInt := tl_eq ex5
    refine li_iload_n 2 dX7_verdict_9 rfl ?_
    refine li_mmin dX7_verdict_10 (by omega) w_725 w_726 w_113 w_727 (Nat.le_of_ble_eq_true rfl) ?_
    refine li_top (fun x6 ex6 => ?_)
    have tx6 : (p2.toInt < x5.toInt → x6.toInt = p2.toInt) ∧ (x5.toInt ≤ p2.toInt → x6.toInt = x5.toInt) := tl_min ex6
    refine li_isub dX7_verdict_13 ?_
    refine li_top (fun x7 ex7 => ?_)
    have tx7 : (-2147483648 ≤ (-1) - x6.toInt ∧ (-1) - x6.toInt ≤ 2147483647) → x7.toInt = (-1) - x6.toInt := tl_sub ex7
    exact li_iret dX7_verdict_14 rfl rfl ⟨⟨_, rfl, (by first | omega | (intro _; omega) | (intro h; exact absurd h (by decide)))⟩, hf⟩
