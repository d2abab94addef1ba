def rd_gl (g : Nat → Int32) (len : Int) : Nat → Int → Int → Int × Int × Int
  | 0, p, n => (0, p, n)
  | k + 1, p, n => if ¬ (97 ≤ rd_ch g len p ∧ rd_ch g len p ≤ 103) then (0, p, n) else
    if ¬ (97 ≤ rd_ch g len (p + 1) ∧ rd_ch g len (p + 1) ≤ 103) then (0, p + 1, n) else
    if ¬ rd_ch g len (p + 2) = 62 then (0, p + 2, n) else
    if ¬ (97 ≤ rd_ch g len (p + 3) ∧ rd_ch g len (p + 3) ≤ 103) then (0, p + 3, n) else
    if len ≤ p + 4 then (1, p + 4, n + 1) else
    if rd_ch g len (p + 4) = 59 then rd_gl g len k (p + 5) (n + 1) else (0, p + 4, n)
def li_gq (g : Nat → Int32) (len k p n ok q m : Int) : Prop := rd_gl g len k.toNat p n = (ok, q, m)
theorem li_gq_self {g : Nat → Int32} {len k p n : Int} : ∃ a b c : Int, li_gq g len k p n a b c := ⟨(rd_gl g len k.toNat p n).1, (rd_gl g len k.toNat p n).2.1, (rd_gl g len k.toNat p n).2.2, rfl⟩
theorem li_gq_tr {g g' : Nat → Int32} {len len' k k' p p' n n' ok ok' q q' m m' : Int} (hg : g' = g) (h1 : len' = len) (h2 : k' = k) (h3 : p' = p) (h4 : n' = n) (h5 : ok' = ok) (h6 : q' = q) (h7 : m' = m) (h : li_gq g len k p n ok q m) : li_gq g' len' k' p' n' ok' q' m' := by
  subst hg; subst h1; subst h2; subst h3; subst h4; subst h5; subst h6; subst h7; exact h
theorem li_gq_inj {a b c ok q m : Int} (e : (a, b, c) = (ok, q, m)) : ok = a ∧ q = b ∧ m = c := by
  have h1 := Prod.mk.inj e
  have h2 := Prod.mk.inj h1.2
  exact ⟨h1.1.symm, h2.1.symm, h2.2.symm⟩
theorem li_gq_z {g : Nat → Int32} {len k p n ok q m : Int} (h : li_gq g len k p n ok q m) (hk : k ≤ 0) : ok = 0 ∧ q = p ∧ m = n := by
  unfold li_gq at h
  rw [show k.toNat = 0 by omega] at h
  exact li_gq_inj h
theorem li_gq_un {g : Nat → Int32} {len k p n ok q m : Int} (h : li_gq g len k p n ok q m) (hk : 0 < k) :
    (if ¬ (97 ≤ rd_ch g len p ∧ rd_ch g len p ≤ 103) then ((0 : Int), p, n) else
    if ¬ (97 ≤ rd_ch g len (p + 1) ∧ rd_ch g len (p + 1) ≤ 103) then (0, p + 1, n) else
    if ¬ rd_ch g len (p + 2) = 62 then (0, p + 2, n) else
    if ¬ (97 ≤ rd_ch g len (p + 3) ∧ rd_ch g len (p + 3) ≤ 103) then (0, p + 3, n) else
    if len ≤ p + 4 then (1, p + 4, n + 1) else
    if rd_ch g len (p + 4) = 59 then rd_gl g len (k - 1).toNat (p + 5) (n + 1) else (0, p + 4, n)) = (ok, q, m) := by
  unfold li_gq at h
  rw [show k.toNat = (k - 1).toNat + 1 by omega] at h
  unfold rd_gl at h
  exact h
theorem li_gq_r {g : Nat → Int32} {len k p n ok q m : Int} (h : li_gq g len k p n ok q m) (hk : 0 < k) :
    (¬ (97 ≤ rd_ch g len p ∧ rd_ch g len p ≤ 103) ∧ ok = 0 ∧ q = p) ∨
    ((97 ≤ rd_ch g len p ∧ rd_ch g len p ≤ 103) ∧ ¬ (97 ≤ rd_ch g len (p + 1) ∧ rd_ch g len (p + 1) ≤ 103) ∧ ok = 0 ∧ q = p + 1) ∨
    ((97 ≤ rd_ch g len p ∧ rd_ch g len p ≤ 103) ∧ (97 ≤ rd_ch g len (p + 1) ∧ rd_ch g len (p + 1) ≤ 103) ∧ ¬ rd_ch g len (p + 2) = 62 ∧ ok = 0 ∧ q = p + 2) ∨
    ((97 ≤ rd_ch g len p ∧ rd_ch g len p ≤ 103) ∧ (97 ≤ rd_ch g len (p + 1) ∧ rd_ch g len (p + 1) ≤ 103) ∧ rd_ch g len (p + 2) = 62 ∧ ¬ (97 ≤ rd_ch g len (p + 3) ∧ rd_ch g len (p + 3) ≤ 103) ∧ ok = 0 ∧ q = p + 3) ∨
    ((97 ≤ rd_ch g len p ∧ rd_ch g len p ≤ 103) ∧ (97 ≤ rd_ch g len (p + 1) ∧ rd_ch g len (p + 1) ≤ 103) ∧ rd_ch g len (p + 2) = 62 ∧ (97 ≤ rd_ch g len (p + 3) ∧ rd_ch g len (p + 3) ≤ 103) ∧ len ≤ p + 4 ∧ rd_ch g len (p + 4) = -1 ∧ ok = 1 ∧ q = p + 4 ∧ m = n + 1) ∨
    ((97 ≤ rd_ch g len p ∧ rd_ch g len p ≤ 103) ∧ (97 ≤ rd_ch g len (p + 1) ∧ rd_ch g len (p + 1) ≤ 103) ∧ rd_ch g len (p + 2) = 62 ∧ (97 ≤ rd_ch g len (p + 3) ∧ rd_ch g len (p + 3) ≤ 103) ∧ p + 4 < len ∧ ¬ rd_ch g len (p + 4) = 59 ∧ ok = 0 ∧ q = p + 4) ∨
    ((97 ≤ rd_ch g len p ∧ rd_ch g len p ≤ 103) ∧ (97 ≤ rd_ch g len (p + 1) ∧ rd_ch g len (p + 1) ≤ 103) ∧ rd_ch g len (p + 2) = 62 ∧ (97 ≤ rd_ch g len (p + 3) ∧ rd_ch g len (p + 3) ≤ 103) ∧ p + 4 < len ∧ rd_ch g len (p + 4) = 59) := by
  have u := li_gq_un h hk
  by_cases c0 : ¬ (97 ≤ rd_ch g len p ∧ rd_ch g len p ≤ 103)
  · rw [if_pos c0] at u
    have z := li_gq_inj u
    exact Or.inl ⟨c0, z.1, z.2.1⟩
  · rw [if_neg c0] at u
    by_cases c1 : ¬ (97 ≤ rd_ch g len (p + 1) ∧ rd_ch g len (p + 1) ≤ 103)
    · rw [if_pos c1] at u
      have z := li_gq_inj u
      exact Or.inr (Or.inl ⟨Decidable.not_not.mp c0, c1, z.1, z.2.1⟩)
    · rw [if_neg c1] at u
      by_cases c2 : ¬ rd_ch g len (p + 2) = 62
      · rw [if_pos c2] at u
        have z := li_gq_inj u
        exact Or.inr (Or.inr (Or.inl ⟨Decidable.not_not.mp c0, Decidable.not_not.mp c1, c2, z.1, z.2.1⟩))
      · rw [if_neg c2] at u
        by_cases c3 : ¬ (97 ≤ rd_ch g len (p + 3) ∧ rd_ch g len (p + 3) ≤ 103)
        · rw [if_pos c3] at u
          have z := li_gq_inj u
          exact Or.inr (Or.inr (Or.inr (Or.inl ⟨Decidable.not_not.mp c0, Decidable.not_not.mp c1, Decidable.not_not.mp c2, c3, z.1, z.2.1⟩)))
        · rw [if_neg c3] at u
          by_cases c4 : len ≤ p + 4
          · rw [if_pos c4] at u
            have z := li_gq_inj u
            exact Or.inr (Or.inr (Or.inr (Or.inr (Or.inl ⟨Decidable.not_not.mp c0, Decidable.not_not.mp c1, Decidable.not_not.mp c2, Decidable.not_not.mp c3, c4, rd_no c4, z.1, z.2.1, z.2.2⟩))))
          · rw [if_neg c4] at u
            by_cases c5 : rd_ch g len (p + 4) = 59
            · exact Or.inr (Or.inr (Or.inr (Or.inr (Or.inr (Or.inr ⟨Decidable.not_not.mp c0, Decidable.not_not.mp c1, Decidable.not_not.mp c2, Decidable.not_not.mp c3, by omega, c5⟩)))))
            · rw [if_neg c5] at u
              have z := li_gq_inj u
              exact Or.inr (Or.inr (Or.inr (Or.inr (Or.inr (Or.inl ⟨Decidable.not_not.mp c0, Decidable.not_not.mp c1, Decidable.not_not.mp c2, Decidable.not_not.mp c3, by omega, c5, z.1, z.2.1⟩)))))
theorem li_gq_go {g : Nat → Int32} {len k p n ok q m : Int} (h : li_gq g len k p n ok q m) (hk : 0 < k) (c : 97 ≤ rd_ch g len p ∧ rd_ch g len p ≤ 103 ∧ 97 ≤ rd_ch g len (p + 1) ∧ rd_ch g len (p + 1) ≤ 103 ∧ rd_ch g len (p + 2) = 62 ∧ 97 ≤ rd_ch g len (p + 3) ∧ rd_ch g len (p + 3) ≤ 103 ∧ p + 4 < len ∧ rd_ch g len (p + 4) = 59) : li_gq g len (k - 1) (p + 5) (n + 1) ok q m := by
  have u := li_gq_un h hk
  rw [if_neg (by omega), if_neg (by omega), if_neg (by omega), if_neg (by omega), if_neg (by omega), if_pos c.2.2.2.2.2.2.2.2] at u
  exact u
def rd_ln (g : Nat → Int32) (len p : Int) : Int × Int :=
  if ¬ (97 ≤ rd_ch g len p ∧ rd_ch g len p ≤ 103) then (0, p) else
  if ¬ (97 ≤ rd_ch g len (p + 1) ∧ rd_ch g len (p + 1) ≤ 103) then (0, p + 1) else
  if ¬ rd_ch g len (p + 2) = 62 then (0, p + 2) else
  if ¬ (97 ≤ rd_ch g len (p + 3) ∧ rd_ch g len (p + 3) ≤ 103) then (0, p + 3) else (1, p + 4)
def li_ln (g : Nat → Int32) (len p k e : Int) : Prop := rd_ln g len p = (k, e)
theorem li_ln_1 {g : Nat → Int32} {len p k e : Int} (h : li_ln g len p k e) (c : ¬ (97 ≤ rd_ch g len p ∧ rd_ch g len p ≤ 103)) : k = 0 ∧ e = p := by
  unfold li_ln rd_ln at h
  rw [if_pos c] at h
  have z := Prod.mk.inj h
  exact ⟨z.1.symm, z.2.symm⟩
theorem li_ln_2 {g : Nat → Int32} {len p k e : Int} (h : li_ln g len p k e) (c0 : 97 ≤ rd_ch g len p ∧ rd_ch g len p ≤ 103) (c : ¬ (97 ≤ rd_ch g len (p + 1) ∧ rd_ch g len (p + 1) ≤ 103)) : k = 0 ∧ e = p + 1 := by
  unfold li_ln rd_ln at h
  rw [if_neg (fun z => z c0), if_pos c] at h
  have z := Prod.mk.inj h
  exact ⟨z.1.symm, z.2.symm⟩
theorem li_ln_3 {g : Nat → Int32} {len p k e : Int} (h : li_ln g len p k e) (c0 : 97 ≤ rd_ch g len p ∧ rd_ch g len p ≤ 103) (c1 : 97 ≤ rd_ch g len (p + 1) ∧ rd_ch g len (p + 1) ≤ 103) (c : ¬ rd_ch g len (p + 2) = 62) : k = 0 ∧ e = p + 2 := by
  unfold li_ln rd_ln at h
  rw [if_neg (fun z => z c0), if_neg (fun z => z c1), if_pos c] at h
  have z := Prod.mk.inj h
  exact ⟨z.1.symm, z.2.symm⟩
theorem li_ln_4 {g : Nat → Int32} {len p k e : Int} (h : li_ln g len p k e) (c0 : 97 ≤ rd_ch g len p ∧ rd_ch g len p ≤ 103) (c1 : 97 ≤ rd_ch g len (p + 1) ∧ rd_ch g len (p + 1) ≤ 103) (c2 : rd_ch g len (p + 2) = 62) (c : ¬ (97 ≤ rd_ch g len (p + 3) ∧ rd_ch g len (p + 3) ≤ 103)) : k = 0 ∧ e = p + 3 := by
  unfold li_ln rd_ln at h
  rw [if_neg (fun z => z c0), if_neg (fun z => z c1), if_neg (fun z => z c2), if_pos c] at h
  have z := Prod.mk.inj h
  exact ⟨z.1.symm, z.2.symm⟩
theorem li_ln_5 {g : Nat → Int32} {len p k e : Int} (h : li_ln g len p k e) (c0 : 97 ≤ rd_ch g len p ∧ rd_ch g len p ≤ 103) (c1 : 97 ≤ rd_ch g len (p + 1) ∧ rd_ch g len (p + 1) ≤ 103) (c2 : rd_ch g len (p + 2) = 62) (c3 : 97 ≤ rd_ch g len (p + 3) ∧ rd_ch g len (p + 3) ≤ 103) : k = 1 ∧ e = p + 4 := by
  unfold li_ln rd_ln at h
  rw [if_neg (fun z => z c0), if_neg (fun z => z c1), if_neg (fun z => z c2), if_neg (fun z => z c3)] at h
  have z := Prod.mk.inj h
  exact ⟨z.1.symm, z.2.symm⟩
theorem li_ln_self {g : Nat → Int32} {len p : Int} : ∃ k e : Int, li_ln g len p k e := ⟨_, _, rfl⟩
theorem li_ln_y {g : Nat → Int32} {len p k e : Int} (h : li_ln g len p k e) (hk : k = 1) : (97 ≤ rd_ch g len p ∧ rd_ch g len p ≤ 103) ∧ (97 ≤ rd_ch g len (p + 1) ∧ rd_ch g len (p + 1) ≤ 103) ∧ rd_ch g len (p + 2) = 62 ∧ (97 ≤ rd_ch g len (p + 3) ∧ rd_ch g len (p + 3) ≤ 103) ∧ e = p + 4 := by
  by_cases c0 : 97 ≤ rd_ch g len p ∧ rd_ch g len p ≤ 103
  · by_cases c1 : 97 ≤ rd_ch g len (p + 1) ∧ rd_ch g len (p + 1) ≤ 103
    · by_cases c2 : rd_ch g len (p + 2) = 62
      · by_cases c3 : 97 ≤ rd_ch g len (p + 3) ∧ rd_ch g len (p + 3) ≤ 103
        · exact ⟨c0, c1, c2, c3, (li_ln_5 h c0 c1 c2 c3).2⟩
        · have := (li_ln_4 h c0 c1 c2 c3).1
          omega
      · have := (li_ln_3 h c0 c1 c2).1
        omega
    · have := (li_ln_2 h c0 c1).1
      omega
  · have := (li_ln_1 h c0).1
    omega
theorem li_gq_r2 {g : Nat → Int32} {len k p n ok q m K E : Int} (h : li_gq g len k p n ok q m) (hk : 0 < k) (hl : li_ln g len p K E) : (K = 0 ∧ ok = 0 ∧ q = E) ∨ (K = 1 ∧ len ≤ E ∧ rd_ch g len E = -1 ∧ ok = 1 ∧ q = E ∧ m = n + 1) ∨ (K = 1 ∧ E < len ∧ ¬ rd_ch g len E = 59 ∧ ok = 0 ∧ q = E) ∨ (K = 1 ∧ E < len ∧ rd_ch g len E = 59) := by
  rcases li_gq_r h hk with t | t | t | t | t | t | t
  · have z := li_ln_1 hl t.1
    exact Or.inl ⟨z.1, t.2.1, by rw [z.2]; exact t.2.2⟩
  · have z := li_ln_2 hl t.1 t.2.1
    exact Or.inl ⟨z.1, t.2.2.1, by rw [z.2]; exact t.2.2.2⟩
  · have z := li_ln_3 hl t.1 t.2.1 t.2.2.1
    exact Or.inl ⟨z.1, t.2.2.2.1, by rw [z.2]; exact t.2.2.2.2⟩
  · have z := li_ln_4 hl t.1 t.2.1 t.2.2.1 t.2.2.2.1
    exact Or.inl ⟨z.1, t.2.2.2.2.1, by rw [z.2]; exact t.2.2.2.2.2⟩
  · have z := li_ln_5 hl t.1 t.2.1 t.2.2.1 t.2.2.2.1
    rw [z.2]
    exact Or.inr (Or.inl ⟨z.1, t.2.2.2.2⟩)
  · have z := li_ln_5 hl t.1 t.2.1 t.2.2.1 t.2.2.2.1
    rw [z.2]
    exact Or.inr (Or.inr (Or.inl ⟨z.1, t.2.2.2.2⟩))
  · have z := li_ln_5 hl t.1 t.2.1 t.2.2.1 t.2.2.2.1
    rw [z.2]
    exact Or.inr (Or.inr (Or.inr ⟨z.1, t.2.2.2.2⟩))
theorem li_gq_go2 {g : Nat → Int32} {len k p n ok q m K E : Int} (h : li_gq g len k p n ok q m) (hk : 0 < k) (hl : li_ln g len p K E) (c : K = 1 ∧ E < len ∧ rd_ch g len E = 59) : li_gq g len (k - 1) (E + 1) (n + 1) ok q m := by
  have y := li_ln_y hl c.1
  have e := y.2.2.2.2
  rw [e] at c ⊢
  rw [show p + 4 + 1 = p + 5 by omega]
  exact li_gq_go h hk ⟨y.1.1, y.1.2, y.2.1.1, y.2.1.2, y.2.2.1, y.2.2.2.1.1, y.2.2.2.1.2, c.2.1, c.2.2⟩

set_option maxRecDepth 100000 in
set_option maxHeartbeats 4000000 in
theorem k7_X7_takeOneOf {l : Launch} {Z : li_Z} (d : Nat) (hd : 2 ≤ d) (p1 : Int32) (p2 : Int32) (M0 : li_M) (h1 : 0 ≤ (M0.1 1 2).toInt ∧ (M0.1 1 2).toInt ≤ (M0.1 1 1).toInt ∧ (M0.1 1 1).toInt ≤ 80) (Psg_M0 : li_sg (M0.1 2)) (h2 : 0 ≤ p1.toInt ∧ p1.toInt ≤ 200) (h3 : 0 ≤ p2.toInt ∧ p2.toInt ≤ 30) : li_Met l Z YX7_takeOneOf d [.ref (Z.2.2 1), .int p1, .int p2] M0 (fun r M' => (∃ x : Int32, r = some (.int x) ∧ (((p1.toInt ≤ rd_ch (M0.1 2) ((M0.1 1 1).toInt) ((M0.1 1 2).toInt) ∧ rd_ch (M0.1 2) ((M0.1 1 1).toInt) ((M0.1 1 2).toInt) ≤ p1.toInt + p2.toInt - 1 ∧ x.toInt = rd_ch (M0.1 2) ((M0.1 1 1).toInt) ((M0.1 1 2).toInt) - p1.toInt ∧ (M'.1 1 2).toInt = (M0.1 1 2).toInt + 1 ∧ (M0.1 1 2).toInt < (M0.1 1 1).toInt) ∨ (¬ (p1.toInt ≤ rd_ch (M0.1 2) ((M0.1 1 1).toInt) ((M0.1 1 2).toInt) ∧ rd_ch (M0.1 2) ((M0.1 1 1).toInt) ((M0.1 1 2).toInt) ≤ p1.toInt + p2.toInt - 1) ∧ x.toInt = -1 ∧ (M'.1 1 2).toInt = (M0.1 1 2).toInt)) ∧ (M'.1 1 1).toInt = (M0.1 1 1).toInt)) ∧ li_fr (fun i => i = 1) M0 M') := by
  refine li_enter (by decide +kernel) (Nat.le_of_ble_eq_true rfl) ?_
  show li_T l Z YX7_takeOneOf d 0 [(0, .ref (Z.2.2 1)), (1, .int p1), (2, .int p2)] [] M0 _
  have hf : li_fr (fun i => i = 1) M0 M0 := li_fr_refl
  have gp1 := tl_rg p1
  have gp2 := tl_rg p2
  refine li_aload_n 0 dX7_takeOneOf_0 rfl ?_
  refine li_geti (k := 2) (N := 3) (T := TX7) (C0 := RX7) dX7_takeOneOf_1 (by decide) sh_1 rfl rfl (by decide) li_in7 w_142 ?_
  refine li_top (fun x1 ex1 => ?_)
  have gx1 := tl_rg x1
  have vx1 : x1.toInt = (M0.1 1 2).toInt := tl_eq ex1
  refine li_aload_n 0 dX7_takeOneOf_4 rfl ?_
  refine li_geti (k := 1) (N := 3) (T := TX7) (C0 := RX7) dX7_takeOneOf_5 (by decide) sh_1 rfl rfl (by decide) li_in7 w_139 ?_
  refine li_top (fun x2 ex2 => ?_)
  have gx2 := tl_rg x2
  have vx2 : x2.toInt = (M0.1 1 1).toInt := tl_eq ex2
  refine li_icmp_lt 13 dX7_takeOneOf_8 (by decide) (fun c3 => ?_) (fun c3 => ?_)
  · have tc3 : x1.toInt < x2.toInt := tl_lt c3
    refine li_aload_n 0 dX7_takeOneOf_13 rfl ?_
    refine li_getr (k := 0) (N := 3) (T := TX7) (C0 := RX7) dX7_takeOneOf_14 (by decide) sh_1 rfl rfl (by decide) (by decide) li_in7 w_138 ?_
    refine li_aload_n 0 dX7_takeOneOf_17 rfl ?_
    refine li_geti (k := 2) (N := 3) (T := TX7) (C0 := RX7) dX7_takeOneOf_18 (by decide) sh_1 rfl rfl (by decide) li_in7 w_142 ?_
    refine li_top (fun x4 ex4 => ?_)
    have gx4 := tl_rg x4
    have vx4 : x4.toInt = (M0.1 1 2).toInt := tl_eq ex4
    have tvx4 : x4.toInt = x1.toInt := tl_eq (ex4.trans ex1.symm)
    refine li_callN (n := 2) (As := [.ref (Z.2.2 2), .int x4]) dX7_takeOneOf_21 (a_X11_at (d - 1) (by omega) (by decide) sh_2 (by decide) x4 M0) (by omega) (Nat.le_of_ble_eq_true rfl) nw_8 w_569 w_101 w_570 (by decide +kernel) rfl rfl (Nat.le_of_ble_eq_true rfl) (fun r M6 h7 => ?_)
    obtain ⟨⟨x5, rfl, qx5⟩, h7⟩ := h7
    have gx5 := tl_rg x5
    have hf := li_fr_trans hf h7 (fun i h => False.elim h)
    have mM6_1_1 : (M6.1 1 1).toInt = (M0.1 1 1).toInt := by rw [h7.1 1 id]
    have mM6_1_2 : (M6.1 1 2).toInt = (M0.1 1 2).toInt := by rw [h7.1 1 id]
    have Psg_M6 : li_sg (M6.1 2)  := li_sg_tr (h7.1 2 (fun h => by first | exact (h : False).elim | omega))  Psg_M0
    have sgq := li_sg_at Psg_M0 qx5
    have chq : rd_ch (M0.1 2) ((M0.1 1 1).toInt) ((M0.1 1 2).toInt) = x5.toInt := rd_ch_at qx5 (by omega) (by omega) (by omega) (by omega)
    refine li_iload_n 1 dX7_takeOneOf_24 rfl ?_
    refine li_isub dX7_takeOneOf_25 ?_
    refine li_top (fun x8 ex8 => ?_)
    have tx8 : (-2147483648 ≤ x5.toInt - p1.toInt ∧ x5.toInt - p1.toInt ≤ 2147483647) → x8.toInt = x5.toInt - p1.toInt := tl_sub ex8
    refine li_istore_n [(3, .int x8), (0, .ref (Z.2.2 1)), (1, .int p1), (2, .int p2)] dX7_takeOneOf_26 (by decide) rfl ?_
    refine li_iload_n 0 dX7_takeOneOf_27 rfl ?_
    refine li_if_lt 36 dX7_takeOneOf_28 (by decide) (fun c9 => ?_) (fun c9 => ?_)
    · have tc9 : x8.toInt < 0 := tl_lt c9
      refine li_iconst (-1) dX7_takeOneOf_36 (by decide) ?_
      have zm1 : ((-1) : Int32).toInt = -1 := rfl
      exact li_iret dX7_takeOneOf_37 rfl rfl ⟨⟨_, rfl, (by first | omega | (have zz := rd_no (g := M0.1 2) (len := (M0.1 1 1).toInt) (p := (M0.1 1 2).toInt) (by omega); omega))⟩, hf⟩
    · have tc9 : 0 ≤ x8.toInt := tl_nlt c9
      refine li_iload_n 0 dX7_takeOneOf_31 rfl ?_
      refine li_iload_n 3 dX7_takeOneOf_32 rfl ?_
      refine li_icmp_lt 38 dX7_takeOneOf_33 (by decide) (fun c10 => ?_) (fun c10 => ?_)
      · have tc10 : x8.toInt < p2.toInt := tl_lt c10
        refine li_aload_n 1 dX7_takeOneOf_38 rfl ?_
        refine li_dup dX7_takeOneOf_39 rfl ?_
        refine li_geti (k := 2) (N := 3) (T := TX7) (C0 := RX7) dX7_takeOneOf_40 (by decide) sh_1 rfl rfl (by decide) li_in7 w_142 ?_
        refine li_top (fun x11 ex11 => ?_)
        have gx11 := tl_rg x11
        have vx11 : x11.toInt = (M6.1 1 2).toInt := tl_eq ex11
        refine li_iconst 1 dX7_takeOneOf_43 (by decide) ?_
        refine li_iadd dX7_takeOneOf_44 ?_
        refine li_top (fun x12 ex12 => ?_)
        have tx12 : (-2147483648 ≤ x11.toInt + 1 ∧ x11.toInt + 1 ≤ 2147483647) → x12.toInt = x11.toInt + 1 := tl_add ex12
        refine li_puti (k := 2) (N := 3) (T := TX7) (C0 := RX7) dX7_takeOneOf_45 (by decide) sh_1 rfl rfl (by decide) li_in7 tyX7_ok nmX7 rfl rfl rfl rfl w_142 ?_
        refine li_nm (fun M13 eM13 => ?_)
        have hf := li_fr_ui hf (show 1 = 1 by omega) eM13
        have mM13_1_1 : (M13.1 1 1).toInt = (M6.1 1 1).toInt := by rw [eM13, li_ui_at, if_pos rfl, if_neg (by decide)]
        have mM13_1_2 : (M13.1 1 2).toInt = x12.toInt := by rw [eM13, li_ui_at, if_pos rfl, if_pos rfl]
        have Psg_M13 : li_sg (M13.1 2)  := li_sg_tr (li_cell_ui eM13 (by decide))  Psg_M6
        have k14 : M13.1 1 2 = x12 := by rw [eM13, li_ui_at, if_pos rfl, if_pos rfl]
        refine li_iload_n 0 dX7_takeOneOf_48 rfl ?_
        exact li_iret dX7_takeOneOf_49 rfl rfl ⟨⟨_, rfl, (by first | omega | (have zz := rd_no (g := M0.1 2) (len := (M0.1 1 1).toInt) (p := (M0.1 1 2).toInt) (by omega); omega))⟩, hf⟩
      · have tc10 : p2.toInt ≤ x8.toInt := tl_nlt c10
        refine li_iconst (-1) dX7_takeOneOf_36 (by decide) ?_
        have zm1 : ((-1) : Int32).toInt = -1 := rfl
        exact li_iret dX7_takeOneOf_37 rfl rfl ⟨⟨_, rfl, (by first | omega | (have zz := rd_no (g := M0.1 2) (len := (M0.1 1 1).toInt) (p := (M0.1 1 2).toInt) (by omega); omega))⟩, hf⟩
  · have tc3 : x2.toInt ≤ x1.toInt := tl_nlt c3
    refine li_iconst (-1) dX7_takeOneOf_11 (by decide) ?_
    have zm1 : ((-1) : Int32).toInt = -1 := rfl
    exact li_iret dX7_takeOneOf_12 rfl rfl ⟨⟨_, rfl, (by first | omega | (have zz := rd_no (g := M0.1 2) (len := (M0.1 1 1).toInt) (p := (M0.1 1 2).toInt) (by omega); omega))⟩, hf⟩

set_option maxRecDepth 100000 in
set_option maxHeartbeats 4000000 in
theorem k7_X10_readLine {l : Launch} {Z : li_Z} (d : Nat) (hd : 3 ≤ d) (p1 : Int32) (M0 : li_M) (h1 : 0 ≤ (M0.1 1 2).toInt ∧ (M0.1 1 2).toInt ≤ (M0.1 1 1).toInt ∧ (M0.1 1 1).toInt ≤ 80) (Psg_M0 : li_sg (M0.1 2)) (K E : Int) (Pln_M0 : li_ln (M0.1 2) ((M0.1 1 1).toInt) ((M0.1 1 2).toInt) (K) (E)) : li_Met l Z YX10_readLine d [.ref (Z.2.2 163), .ref (Z.2.2 1), .int p1] M0 (fun r M' => (∃ x : Int32, r = some (.int x) ∧ (x = 0 ∨ x = 1) ∧ (x.toInt = K ∧ (M'.1 1 2).toInt = E ∧ (M'.1 1 1).toInt = (M0.1 1 1).toInt ∧ (M0.1 1 2).toInt ≤ (M'.1 1 2).toInt ∧ (M'.1 1 2).toInt ≤ (M0.1 1 1).toInt)) ∧ li_fr (fun i => i = 1 ∨ i = 165) M0 M') := by
  refine li_enter (by decide +kernel) (Nat.le_of_ble_eq_true rfl) ?_
  show li_T l Z YX10_readLine d 0 [(0, .ref (Z.2.2 163)), (1, .ref (Z.2.2 1)), (2, .int p1)] [] M0 _
  have hf : li_fr (fun i => i = 1 ∨ i = 165) M0 M0 := li_fr_refl
  have gp1 := tl_rg p1
  refine li_aload_n 1 dX10_readLine_0 rfl ?_
  refine li_bipush 97 dX10_readLine_1 (by decide) ?_
  refine li_bipush 7 dX10_readLine_3 (by decide) ?_
  have cp5 : rd_ch (M0.1 2) ((M0.1 1 1).toInt) ((M0.1 1 2).toInt) = rd_ch (M0.1 2) ((M0.1 1 1).toInt) ((M0.1 1 2).toInt) := by rw [show M0.1 2 = M0.1 2 from hf.1 2 (by first | exact id | decide | omega), show (M0.1 1 1).toInt = (M0.1 1 1).toInt from Int.le_antisymm (by omega) (by omega), show (M0.1 1 2).toInt = (M0.1 1 2).toInt from Int.le_antisymm (by omega) (by omega)]
  refine li_callV (n := 2) (As := [.int 97, .int 7]) dX10_readLine_5 (k7_X7_takeOneOf (d - 1) (by omega) 97 7 M0 (by omega) Psg_M0 (by decide) (by decide)) (by omega) (Nat.le_of_ble_eq_true rfl) w_658 w_659 w_660 w_102 w_661 (by decide +kernel) rfl (by decide) sh_1 rfl rfl (Nat.le_of_ble_eq_true rfl) (fun r M2 h3 => ?_)
  have z97 : (97 : Int32).toInt = 97 := rfl
  have z7 : (7 : Int32).toInt = 7 := rfl
  obtain ⟨⟨x1, rfl, qx1⟩, h3⟩ := h3
  have gx1 := tl_rg x1
  have hf := li_fr_trans hf h3 (fun i (h : i = 1) => (show i = 1 ∨ i = 165 by omega))
  have Psg_M2 : li_sg (M2.1 2)  := li_sg_tr (h3.1 2 (fun h => by first | exact (h : False).elim | omega))  Psg_M0
  have ln5 : (M2.1 1 1).toInt = (M0.1 1 1).toInt := qx1.2.trans (Int.le_antisymm (by omega) (by omega))
  have qy5 : 0 ≤ x1.toInt → (97 ≤ rd_ch (M0.1 2) ((M0.1 1 1).toInt) ((M0.1 1 2).toInt) ∧ rd_ch (M0.1 2) ((M0.1 1 1).toInt) ((M0.1 1 2).toInt) ≤ 103) ∧ (M2.1 1 2).toInt = (M0.1 1 2).toInt + 1 ∧ (M0.1 1 2).toInt < (M0.1 1 1).toInt ∧ x1.toInt = rd_ch (M0.1 2) ((M0.1 1 1).toInt) ((M0.1 1 2).toInt) - 97 := fun h9 => by rcases qx1.1 with c | c; exact ⟨⟨by omega, by omega⟩, c.2.2.2.1, by omega, by omega⟩; exact absurd h9 (by omega)
  have qn5 : x1.toInt < 0 → ¬ (97 ≤ rd_ch (M0.1 2) ((M0.1 1 1).toInt) ((M0.1 1 2).toInt) ∧ rd_ch (M0.1 2) ((M0.1 1 1).toInt) ((M0.1 1 2).toInt) ≤ 103) ∧ (M2.1 1 2).toInt = (M0.1 1 2).toInt := fun h9 => by rcases qx1.1 with c | c; exact absurd h9 (by omega); exact ⟨fun h8 => c.1 ⟨by omega, by omega⟩, c.2.2⟩
  have rx5 : -1 ≤ x1.toInt := by rcases qx1.1 with c | c <;> omega
  clear qx1
  refine li_istore_n [(3, .int x1), (0, .ref (Z.2.2 163)), (1, .ref (Z.2.2 1)), (2, .int p1)] dX10_readLine_8 (by decide) rfl ?_
  refine li_iload_n 0 dX10_readLine_9 rfl ?_
  refine li_if_ge 15 dX10_readLine_10 (by decide) (fun c4 => ?_) (fun c4 => ?_)
  · have tc4 : 0 ≤ x1.toInt := tl_le c4
    have f0 := qy5 (by omega)
    clear qy5 qn5
    refine li_aload_n 2 dX10_readLine_15 rfl ?_
    refine li_bipush 97 dX10_readLine_16 (by decide) ?_
    refine li_bipush 7 dX10_readLine_18 (by decide) ?_
    have cp20 : rd_ch (M2.1 2) ((M2.1 1 1).toInt) ((M2.1 1 2).toInt) = rd_ch (M0.1 2) ((M0.1 1 1).toInt) ((M0.1 1 2).toInt + 1) := by rw [show M2.1 2 = M0.1 2 from hf.1 2 (by first | exact id | decide | omega), show (M2.1 1 1).toInt = (M0.1 1 1).toInt from Int.le_antisymm (by omega) (by omega), show (M2.1 1 2).toInt = (M0.1 1 2).toInt + 1 from Int.le_antisymm (by omega) (by omega)]
    refine li_callV (n := 2) (As := [.int 97, .int 7]) dX10_readLine_20 (k7_X7_takeOneOf (d - 1) (by omega) 97 7 M2 (by omega) Psg_M2 (by decide) (by decide)) (by omega) (Nat.le_of_ble_eq_true rfl) w_658 w_659 w_660 w_102 w_661 (by decide +kernel) rfl (by decide) sh_1 rfl rfl (Nat.le_of_ble_eq_true rfl) (fun r M6 h7 => ?_)
    have z97 : (97 : Int32).toInt = 97 := rfl
    have z7 : (7 : Int32).toInt = 7 := rfl
    obtain ⟨⟨x5, rfl, qx5⟩, h7⟩ := h7
    have gx5 := tl_rg x5
    have hf := li_fr_trans hf h7 (fun i (h : i = 1) => (show i = 1 ∨ i = 165 by omega))
    have Psg_M6 : li_sg (M6.1 2)  := li_sg_tr (h7.1 2 (fun h => by first | exact (h : False).elim | omega))  Psg_M2
    have ln20 : (M6.1 1 1).toInt = (M0.1 1 1).toInt := qx5.2.trans (Int.le_antisymm (by omega) (by omega))
    have qy20 : 0 ≤ x5.toInt → (97 ≤ rd_ch (M0.1 2) ((M0.1 1 1).toInt) ((M0.1 1 2).toInt + 1) ∧ rd_ch (M0.1 2) ((M0.1 1 1).toInt) ((M0.1 1 2).toInt + 1) ≤ 103) ∧ (M6.1 1 2).toInt = (M2.1 1 2).toInt + 1 ∧ (M2.1 1 2).toInt < (M0.1 1 1).toInt ∧ x5.toInt = rd_ch (M0.1 2) ((M0.1 1 1).toInt) ((M0.1 1 2).toInt + 1) - 97 := fun h9 => by rcases qx5.1 with c | c; exact ⟨⟨by omega, by omega⟩, c.2.2.2.1, by omega, by omega⟩; exact absurd h9 (by omega)
    have qn20 : x5.toInt < 0 → ¬ (97 ≤ rd_ch (M0.1 2) ((M0.1 1 1).toInt) ((M0.1 1 2).toInt + 1) ∧ rd_ch (M0.1 2) ((M0.1 1 1).toInt) ((M0.1 1 2).toInt + 1) ≤ 103) ∧ (M6.1 1 2).toInt = (M2.1 1 2).toInt := fun h9 => by rcases qx5.1 with c | c; exact absurd h9 (by omega); exact ⟨fun h8 => c.1 ⟨by omega, by omega⟩, c.2.2⟩
    have rx20 : -1 ≤ x5.toInt := by rcases qx5.1 with c | c <;> omega
    clear qx5
    refine li_istore [(4, .int x5), (3, .int x1), (0, .ref (Z.2.2 163)), (1, .ref (Z.2.2 1)), (2, .int p1)] dX10_readLine_23 (by decide) rfl ?_
    refine li_iload 0 dX10_readLine_25 rfl ?_
    refine li_if_lt 39 dX10_readLine_27 (by decide) (fun c8 => ?_) (fun c8 => ?_)
    · have tc8 : x5.toInt < 0 := tl_lt c8
      first | (have e2 := qn33 (by assumption); have r0 := li_ln_3 Pln_M0 f0.1 f1.1 e2.1) | (have e1 := qn20 (by omega); have r0 := li_ln_2 Pln_M0 f0.1 e1.1)
      try clear qy33 qn33
      try clear qy20 qn20
      refine li_iconst 0 dX10_readLine_39 (by decide) ?_
      have z0 : (0 : Int32).toInt = 0 := rfl
      exact li_iret dX10_readLine_40 rfl (li_nz (Or.inl rfl)) ⟨⟨_, rfl, Or.inl rfl, (by exact ⟨Int.le_antisymm (by omega) (by omega), Int.le_antisymm (by omega) (by omega), Int.le_antisymm (by omega) (by omega), by omega, by omega⟩)⟩, hf⟩
    · have tc8 : 0 ≤ x5.toInt := tl_nlt c8
      have f1 := qy20 (by omega)
      clear qy20 qn20
      refine li_aload_n 3 dX10_readLine_30 rfl ?_
      refine li_bipush 62 dX10_readLine_31 (by decide) ?_
      have cp33 : rd_ch (M6.1 2) ((M6.1 1 1).toInt) ((M6.1 1 2).toInt) = rd_ch (M0.1 2) ((M0.1 1 1).toInt) ((M0.1 1 2).toInt + 2) := by rw [show M6.1 2 = M0.1 2 from hf.1 2 (by first | exact id | decide | omega), show (M6.1 1 1).toInt = (M0.1 1 1).toInt from Int.le_antisymm (by omega) (by omega), show (M6.1 1 2).toInt = (M0.1 1 2).toInt + 2 from Int.le_antisymm (by omega) (by omega)]
      refine li_callV (n := 1) (As := [.int 62]) dX10_readLine_33 (k5_X7_skip (d - 1) (by omega) 62 M6 (by omega) Psg_M6 (by decide)) (by omega) (Nat.le_of_ble_eq_true rfl) w_720 w_565 w_566 w_102 w_567 (by decide +kernel) rfl (by decide) sh_1 rfl rfl (Nat.le_of_ble_eq_true rfl) (fun r M10 h11 => ?_)
      have z62 : (62 : Int32).toInt = 62 := rfl
      obtain ⟨⟨x9, rfl, bx9, qx9⟩, h11⟩ := h11
      have ux9 := tl_b bx9
      have hf := li_fr_trans hf h11 (fun i (h : i = 1) => (show i = 1 ∨ i = 165 by omega))
      have Psg_M10 : li_sg (M10.1 2)  := li_sg_tr (h11.1 2 (fun h => by first | exact (h : False).elim | omega))  Psg_M6
      have ln33 : (M10.1 1 1).toInt = (M0.1 1 1).toInt := qx9.2.trans (Int.le_antisymm (by omega) (by omega))
      have qy33 : ¬ x9.toInt = 0 → rd_ch (M0.1 2) ((M0.1 1 1).toInt) ((M0.1 1 2).toInt + 2) = 62 ∧ (M10.1 1 2).toInt = (M6.1 1 2).toInt + 1 ∧ (M6.1 1 2).toInt < (M0.1 1 1).toInt := fun h9 => by rcases qx9.1 with c | c; exact ⟨by omega, c.2.2.2, by omega⟩; exact absurd c.1 h9
      have qn33 : x9.toInt = 0 → ¬ rd_ch (M0.1 2) ((M0.1 1 1).toInt) ((M0.1 1 2).toInt + 2) = 62 ∧ (M10.1 1 2).toInt = (M6.1 1 2).toInt := fun h9 => by rcases qx9.1 with c | c; exact absurd (c.1.symm.trans h9) (by decide); exact ⟨fun h8 => c.2.1 (by omega), c.2.2⟩
      clear qx9
      refine li_if_ne 41 dX10_readLine_36 (by decide) (fun c12 => ?_) (fun c12 => ?_)
      · have tc12 : ¬ x9.toInt = 0 := tl_ne c12
        have f2 := qy33 (by assumption)
        clear qy33 qn33
        refine li_aload_n 3 dX10_readLine_41 rfl ?_
        refine li_bipush 97 dX10_readLine_42 (by decide) ?_
        refine li_bipush 7 dX10_readLine_44 (by decide) ?_
        have cp46 : rd_ch (M10.1 2) ((M10.1 1 1).toInt) ((M10.1 1 2).toInt) = rd_ch (M0.1 2) ((M0.1 1 1).toInt) ((M0.1 1 2).toInt + 3) := by rw [show M10.1 2 = M0.1 2 from hf.1 2 (by first | exact id | decide | omega), show (M10.1 1 1).toInt = (M0.1 1 1).toInt from Int.le_antisymm (by omega) (by omega), show (M10.1 1 2).toInt = (M0.1 1 2).toInt + 3 from Int.le_antisymm (by omega) (by omega)]
        refine li_callV (n := 2) (As := [.int 97, .int 7]) dX10_readLine_46 (k7_X7_takeOneOf (d - 1) (by omega) 97 7 M10 (by omega) Psg_M10 (by decide) (by decide)) (by omega) (Nat.le_of_ble_eq_true rfl) w_658 w_659 w_660 w_102 w_661 (by decide +kernel) rfl (by decide) sh_1 rfl rfl (Nat.le_of_ble_eq_true rfl) (fun r M14 h15 => ?_)
        have z97 : (97 : Int32).toInt = 97 := rfl
        have z7 : (7 : Int32).toInt = 7 := rfl
        obtain ⟨⟨x13, rfl, qx13⟩, h15⟩ := h15
        have gx13 := tl_rg x13
        have hf := li_fr_trans hf h15 (fun i (h : i = 1) => (show i = 1 ∨ i = 165 by omega))
        have Psg_M14 : li_sg (M14.1 2)  := li_sg_tr (h15.1 2 (fun h => by first | exact (h : False).elim | omega))  Psg_M10
        have ln46 : (M14.1 1 1).toInt = (M0.1 1 1).toInt := qx13.2.trans (Int.le_antisymm (by omega) (by omega))
        have qy46 : 0 ≤ x13.toInt → (97 ≤ rd_ch (M0.1 2) ((M0.1 1 1).toInt) ((M0.1 1 2).toInt + 3) ∧ rd_ch (M0.1 2) ((M0.1 1 1).toInt) ((M0.1 1 2).toInt + 3) ≤ 103) ∧ (M14.1 1 2).toInt = (M10.1 1 2).toInt + 1 ∧ (M10.1 1 2).toInt < (M0.1 1 1).toInt ∧ x13.toInt = rd_ch (M0.1 2) ((M0.1 1 1).toInt) ((M0.1 1 2).toInt + 3) - 97 := fun h9 => by rcases qx13.1 with c | c; exact ⟨⟨by omega, by omega⟩, c.2.2.2.1, by omega, by omega⟩; exact absurd h9 (by omega)
        have qn46 : x13.toInt < 0 → ¬ (97 ≤ rd_ch (M0.1 2) ((M0.1 1 1).toInt) ((M0.1 1 2).toInt + 3) ∧ rd_ch (M0.1 2) ((M0.1 1 1).toInt) ((M0.1 1 2).toInt + 3) ≤ 103) ∧ (M14.1 1 2).toInt = (M10.1 1 2).toInt := fun h9 => by rcases qx13.1 with c | c; exact absurd h9 (by omega); exact ⟨fun h8 => c.1 ⟨by omega, by omega⟩, c.2.2⟩
        have rx46 : -1 ≤ x13.toInt := by rcases qx13.1 with c | c <;> omega
        clear qx13
        refine li_istore [(5, .int x13), (4, .int x5), (3, .int x1), (0, .ref (Z.2.2 163)), (1, .ref (Z.2.2 1)), (2, .int p1)] dX10_readLine_49 (by decide) rfl ?_
        refine li_aload_n 3 dX10_readLine_51 rfl ?_
        refine li_getr (k := 1) (N := 8) (T := TX10) (C0 := RX10) dX10_readLine_52 (by decide) sh_163 rfl rfl (by decide) (by decide) li_in10 w_336 ?_
        refine li_iload_n 5 dX10_readLine_55 rfl ?_
        refine li_iconst 3 dX10_readLine_56 (by decide) ?_
        refine li_imul dX10_readLine_57 ?_
        refine li_top (fun x16 ex16 => ?_)
        have tx16 : (-2147483648 ≤ p1.toInt * 3 ∧ p1.toInt * 3 ≤ 2147483647) → x16.toInt = p1.toInt * 3 := tl_mul ex16
        refine li_iload_n 2 dX10_readLine_58 rfl ?_
        refine li_callN (n := 3) (As := [.ref (Z.2.2 165), .int x16, .int x1]) dX10_readLine_59 (k_X11_put (d - 1) (by omega) (by decide) sh_165 (by decide) x16 x1 M14) (by omega) (Nat.le_of_ble_eq_true rfl) nw_11 w_522 w_101 w_523 (by decide +kernel) rfl rfl (Nat.le_of_ble_eq_true rfl) (fun r M18 h19 => ?_)
        obtain ⟨rfl, h19⟩ := h19
        have hf := li_fr_trans hf h19 (fun i (h : i = 165) => (show i = 1 ∨ i = 165 by omega))
        have mM18_1_1 : (M18.1 1 1).toInt = (M14.1 1 1).toInt := by rw [h19.1 1 (show ¬ (1 = 165) by omega)]
        have mM18_1_2 : (M18.1 1 2).toInt = (M14.1 1 2).toInt := by rw [h19.1 1 (show ¬ (1 = 165) by omega)]
        have Psg_M18 : li_sg (M18.1 2)  := li_sg_tr (h19.1 2 (fun h => by first | exact (h : False).elim | omega))  Psg_M14
        refine li_aload_n 3 dX10_readLine_62 rfl ?_
        refine li_getr (k := 1) (N := 8) (T := TX10) (C0 := RX10) dX10_readLine_63 (by decide) sh_163 rfl rfl (by decide) (by decide) li_in10 w_336 ?_
        refine li_iload_n 5 dX10_readLine_66 rfl ?_
        refine li_iconst 3 dX10_readLine_67 (by decide) ?_
        refine li_imul dX10_readLine_68 ?_
        refine li_top (fun x20 ex20 => ?_)
        have tx20 : (-2147483648 ≤ p1.toInt * 3 ∧ p1.toInt * 3 ≤ 2147483647) → x20.toInt = p1.toInt * 3 := tl_mul ex20
        refine li_iconst 1 dX10_readLine_69 (by decide) ?_
        refine li_iadd dX10_readLine_70 ?_
        refine li_top (fun x21 ex21 => ?_)
        have tx21 : (-2147483648 ≤ x20.toInt + 1 ∧ x20.toInt + 1 ≤ 2147483647) → x21.toInt = x20.toInt + 1 := tl_add ex21
        refine li_iload 1 dX10_readLine_71 rfl ?_
        refine li_callN (n := 3) (As := [.ref (Z.2.2 165), .int x21, .int x5]) dX10_readLine_73 (k_X11_put (d - 1) (by omega) (by decide) sh_165 (by decide) x21 x5 M18) (by omega) (Nat.le_of_ble_eq_true rfl) nw_11 w_522 w_101 w_523 (by decide +kernel) rfl rfl (Nat.le_of_ble_eq_true rfl) (fun r M23 h24 => ?_)
        obtain ⟨rfl, h24⟩ := h24
        have hf := li_fr_trans hf h24 (fun i (h : i = 165) => (show i = 1 ∨ i = 165 by omega))
        have mM23_1_1 : (M23.1 1 1).toInt = (M18.1 1 1).toInt := by rw [h24.1 1 (show ¬ (1 = 165) by omega)]
        have mM23_1_2 : (M23.1 1 2).toInt = (M18.1 1 2).toInt := by rw [h24.1 1 (show ¬ (1 = 165) by omega)]
        have Psg_M23 : li_sg (M23.1 2)  := li_sg_tr (h24.1 2 (fun h => by first | exact (h : False).elim | omega))  Psg_M18
        refine li_aload_n 3 dX10_readLine_76 rfl ?_
        refine li_getr (k := 1) (N := 8) (T := TX10) (C0 := RX10) dX10_readLine_77 (by decide) sh_163 rfl rfl (by decide) (by decide) li_in10 w_336 ?_
        refine li_iload_n 5 dX10_readLine_80 rfl ?_
        refine li_iconst 3 dX10_readLine_81 (by decide) ?_
        refine li_imul dX10_readLine_82 ?_
        refine li_top (fun x25 ex25 => ?_)
        have tx25 : (-2147483648 ≤ p1.toInt * 3 ∧ p1.toInt * 3 ≤ 2147483647) → x25.toInt = p1.toInt * 3 := tl_mul ex25
        refine li_iconst 2 dX10_readLine_83 (by decide) ?_
        refine li_iadd dX10_readLine_84 ?_
        refine li_top (fun x26 ex26 => ?_)
        have tx26 : (-2147483648 ≤ x25.toInt + 2 ∧ x25.toInt + 2 ≤ 2147483647) → x26.toInt = x25.toInt + 2 := tl_add ex26
        refine li_iload 0 dX10_readLine_85 rfl ?_
        refine li_callN (n := 3) (As := [.ref (Z.2.2 165), .int x26, .int x13]) dX10_readLine_87 (k_X11_put (d - 1) (by omega) (by decide) sh_165 (by decide) x26 x13 M23) (by omega) (Nat.le_of_ble_eq_true rfl) nw_11 w_522 w_101 w_523 (by decide +kernel) rfl rfl (Nat.le_of_ble_eq_true rfl) (fun r M28 h29 => ?_)
        obtain ⟨rfl, h29⟩ := h29
        have hf := li_fr_trans hf h29 (fun i (h : i = 165) => (show i = 1 ∨ i = 165 by omega))
        have mM28_1_1 : (M28.1 1 1).toInt = (M23.1 1 1).toInt := by rw [h29.1 1 (show ¬ (1 = 165) by omega)]
        have mM28_1_2 : (M28.1 1 2).toInt = (M23.1 1 2).toInt := by rw [h29.1 1 (show ¬ (1 = 165) by omega)]
        have Psg_M28 : li_sg (M28.1 2)  := li_sg_tr (h29.1 2 (fun h => by first | exact (h : False).elim | omega))  Psg_M23
        refine li_iload 0 dX10_readLine_90 rfl ?_
        refine li_if_lt 99 dX10_readLine_92 (by decide) (fun c30 => ?_) (fun c30 => ?_)
        · have tc30 : x13.toInt < 0 := tl_lt c30
          have e3 := qn46 (by omega)
          have r0 := li_ln_4 Pln_M0 f0.1 f1.1 f2.1 e3.1
          clear qy46 qn46
          refine li_iconst 0 dX10_readLine_99 (by decide) ?_
          have z0 : (0 : Int32).toInt = 0 := rfl
          exact li_iret dX10_readLine_100 rfl (li_nz (Or.inl rfl)) ⟨⟨_, rfl, Or.inl rfl, (by exact ⟨Int.le_antisymm (by omega) (by omega), Int.le_antisymm (by omega) (by omega), Int.le_antisymm (by omega) (by omega), by omega, by omega⟩)⟩, hf⟩
        · have tc30 : 0 ≤ x13.toInt := tl_nlt c30
          have f3 := qy46 (by omega)
          have r0 := li_ln_5 Pln_M0 f0.1 f1.1 f2.1 f3.1
          clear qy46 qn46
          refine li_iconst 1 dX10_readLine_95 (by decide) ?_
          refine li_goto 100 dX10_readLine_96 (by decide) ?_
          have z1 : (1 : Int32).toInt = 1 := rfl
          exact li_iret dX10_readLine_100 rfl (li_nz (Or.inr rfl)) ⟨⟨_, rfl, Or.inr rfl, (by exact ⟨Int.le_antisymm (by omega) (by omega), Int.le_antisymm (by omega) (by omega), Int.le_antisymm (by omega) (by omega), by omega, by omega⟩)⟩, hf⟩
      · have tc12 : x9.toInt = 0 := tl_eq c12
        first | (have e2 := qn33 (by assumption); have r0 := li_ln_3 Pln_M0 f0.1 f1.1 e2.1) | (have e1 := qn20 (by omega); have r0 := li_ln_2 Pln_M0 f0.1 e1.1)
        try clear qy33 qn33
        try clear qy20 qn20
        refine li_iconst 0 dX10_readLine_39 (by decide) ?_
        have z0 : (0 : Int32).toInt = 0 := rfl
        exact li_iret dX10_readLine_40 rfl (li_nz (Or.inl rfl)) ⟨⟨_, rfl, Or.inl rfl, (by exact ⟨Int.le_antisymm (by omega) (by omega), Int.le_antisymm (by omega) (by omega), Int.le_antisymm (by omega) (by omega), by omega, by omega⟩)⟩, hf⟩
  · have tc4 : x1.toInt < 0 := tl_nle c4
    have e0 := qn5 (by omega)
    have r0 := li_ln_1 Pln_M0 e0.1
    clear qy5 qn5
    refine li_iconst 0 dX10_readLine_13 (by decide) ?_
    have z0 : (0 : Int32).toInt = 0 := rfl
    exact li_iret dX10_readLine_14 rfl (li_nz (Or.inl rfl)) ⟨⟨_, rfl, Or.inl rfl, (by exact ⟨Int.le_antisymm (by omega) (by omega), Int.le_antisymm (by omega) (by omega), Int.le_antisymm (by omega) (by omega), by omega, by omega⟩)⟩, hf⟩

set_option maxRecDepth 100000 in
set_option maxHeartbeats 4000000 in
theorem k7_X11_readLine {l : Launch} {Z : li_Z} (d : Nat) (hd : 4 ≤ d) (p1 : Int32) (p2 : Int32) (M0 : li_M) (h1 : 0 ≤ (M0.1 1 2).toInt ∧ (M0.1 1 2).toInt ≤ (M0.1 1 1).toInt ∧ (M0.1 1 1).toInt ≤ 80) (Psg_M0 : li_sg (M0.1 2)) (h2 : p1.toInt = 3) (K E : Int) (Pln_M0 : li_ln (M0.1 2) ((M0.1 1 1).toInt) ((M0.1 1 2).toInt) (K) (E)) : li_Met l Z YX11_readLine d [.ref (Z.2.2 0), .int p1, .int p2] M0 (fun r M' => (∃ x : Int32, r = some (.int x) ∧ (x = 0 ∨ x = 1) ∧ (x.toInt = K ∧ (M'.1 1 2).toInt = E ∧ (M'.1 1 1).toInt = (M0.1 1 1).toInt ∧ (M0.1 1 2).toInt ≤ (M'.1 1 2).toInt ∧ (M'.1 1 2).toInt ≤ (M0.1 1 1).toInt)) ∧ li_fr (fun i => i = 1 ∨ i = 165) M0 M') := by
  refine li_enter (by decide +kernel) (Nat.le_of_ble_eq_true rfl) ?_
  show li_T l Z YX11_readLine d 0 [(0, .ref (Z.2.2 0)), (1, .int p1), (2, .int p2)] [] M0 _
  have hf : li_fr (fun i => i = 1 ∨ i = 165) M0 M0 := li_fr_refl
  have gp1 := tl_rg p1
  have gp2 := tl_rg p2
  refine li_iload_n 1 dX11_readLine_0 rfl ?_
  refine li_table dX11_readLine_1 69 (by decide) (fun c1 => ?_) (fun c1a c1b => ?_)
  · refine li_aload_n 0 dX11_readLine_69 rfl ?_
    refine li_getr (k := 10) (N := 13) (T := TX11) (C0 := RX11) dX11_readLine_70 (by decide) sh_0 rfl rfl (by decide) (by decide) li_in11 w_483 ?_
    refine li_aload_n 0 dX11_readLine_73 rfl ?_
    refine li_getr (k := 0) (N := 13) (T := TX11) (C0 := RX11) dX11_readLine_74 (by decide) sh_0 rfl rfl (by decide) (by decide) li_in11 w_473 ?_
    refine li_iload_n 2 dX11_readLine_77 rfl ?_
    refine li_callV (n := 2) (As := [.ref (Z.2.2 1), .int p2]) dX11_readLine_78 (k7_X10_readLine (d - 1) (by omega) p2 M0 (by omega) Psg_M0 K E Pln_M0) (by omega) (Nat.le_of_ble_eq_true rfl) w_716 w_717 w_718 w_108 w_719 (by decide +kernel) rfl (by decide) sh_163 rfl rfl (Nat.le_of_ble_eq_true rfl) (fun r M3 h4 => ?_)
    obtain ⟨⟨x2, rfl, bx2, qx2⟩, h4⟩ := h4
    have ux2 := tl_b bx2
    have hf := li_fr_trans hf h4 (fun i (h : i = 1 ∨ i = 165) => (show i = 1 ∨ i = 165 by omega))
    have Psg_M3 : li_sg (M3.1 2)  := li_sg_tr (h4.1 2 (fun h => by first | exact (h : False).elim | omega))  Psg_M0
    have qr := qx2
    exact li_iret dX11_readLine_81 rfl (li_nz (bx2)) ⟨⟨_, rfl, bx2, (by exact qr)⟩, hf⟩
  · rcases (show (p1 : Int32).toInt = 0 ∨ (p1 : Int32).toInt = 1 ∨ (p1 : Int32).toInt = 2 by omega) with c1 | c1 | c1
    · exfalso; omega
    · exfalso; omega
    · exfalso; omega

