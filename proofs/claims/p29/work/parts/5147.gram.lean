def rd_gl (g : Nat → Int32) (len : Int) : Nat → Int → Int → Int × Int × Int
  | 0, p, n => (0, p, n)
  | k + 1, p, n => if ¬ (97 ≤ rd_ch g len p ∧ rd_ch g len p ≤ 103) then (0, p, n) else
    if ¬ (97 ≤ rd_ch g len (p + 1) ∧ rd_ch g len (p + 1) ≤ 103) then (0, p + 1, n) else
    if ¬ rd_ch g len (p + 2) = 62 then (0, p + 2, n) else
    if ¬ (97 ≤ rd_ch g len (p + 3) ∧ rd_ch g len (p + 3) ≤ 103) then (0, p + 3, n) else
    if len ≤ p + 4 then (1, p + 4, n + 1) else
    if rd_ch g len (p + 4) = 59 then rd_gl g len k (p + 5) (n + 1) else (0, p + 4, n)
def li_gq (g : Nat → Int32) (len k p n ok q m : Int) : Prop := rd_gl g len k.toNat p n = (ok, q, m)
theorem li_gq_self {g : Nat → Int32} {len k p n : Int} : ∃ a b c : Int, li_gq g len k p n a b c := ⟨(rd_gl g len k.toNat p n).1, (rd_gl g len k.toNat p n).2.1, (rd_gl g len k.toNat p n).2.2, rfl⟩
theorem li_gq_tr {g g' : Nat → Int32} {len len' k k' p p' n n' ok ok' q q' m m' : Int} (hg : g' = g) (h1 : len' = len) (h2 : k' = k) (h3 : p' = p) (h4 : n' = n) (h5 : ok' = ok) (h6 : q' = q) (h7 : m' = m) (h : li_gq g len k p n ok q m) : li_gq g' len' k' p' n' ok' q' m' := by
  subst hg; subst h1; subst h2; subst h3; subst h4; subst h5; subst h6; subst h7; exact h
theorem li_gq_inj {a b c ok q m : Int} (e : (a, b, c) = (ok, q, m)) : ok = a ∧ q = b ∧ m = c := by
  have h1 := Prod.mk.inj e
  have h2 := Prod.mk.inj h1.2
  exact ⟨h1.1.symm, h2.1.symm, h2.2.symm⟩
theorem li_gq_z {g : Nat → Int32} {len k p n ok q m : Int} (h : li_gq g len k p n ok q m) (hk : k ≤ 0) : ok = 0 ∧ q = p ∧ m = n := by
  unfold li_gq at h
  rw [show k.toNat = 0 by omega] at h
  exact li_gq_inj h
theorem li_gq_un {g : Nat → Int32} {len k p n ok q m : Int} (h : li_gq g len k p n ok q m) (hk : 0 < k) :
    (if ¬ (97 ≤ rd_ch g len p ∧ rd_ch g len p ≤ 103) then ((0 : Int), p, n) else
    if ¬ (97 ≤ rd_ch g len (p + 1) ∧ rd_ch g len (p + 1) ≤ 103) then (0, p + 1, n) else
    if ¬ rd_ch g len (p + 2) = 62 then (0, p + 2, n) else
    if ¬ (97 ≤ rd_ch g len (p + 3) ∧ rd_ch g len (p + 3) ≤ 103) then (0, p + 3, n) else
    if len ≤ p + 4 then (1, p + 4, n + 1) else
    if rd_ch g len (p + 4) = 59 then rd_gl g len (k - 1).toNat (p + 5) (n + 1) else (0, p + 4, n)) = (ok, q, m) := by
  unfold li_gq at h
  rw [show k.toNat = (k - 1).toNat + 1 by omega] at h
  unfold rd_gl at h
  exact h
theorem li_gq_r {g : Nat → Int32} {len k p n ok q m : Int} (h : li_gq g len k p n ok q m) (hk : 0 < k) :
    (¬ (97 ≤ rd_ch g len p ∧ rd_ch g len p ≤ 103) ∧ ok = 0 ∧ q = p) ∨
    ((97 ≤ rd_ch g len p ∧ rd_ch g len p ≤ 103) ∧ ¬ (97 ≤ rd_ch g len (p + 1) ∧ rd_ch g len (p + 1) ≤ 103) ∧ ok = 0 ∧ q = p + 1) ∨
    ((97 ≤ rd_ch g len p ∧ rd_ch g len p ≤ 103) ∧ (97 ≤ rd_ch g len (p + 1) ∧ rd_ch g len (p + 1) ≤ 103) ∧ ¬ rd_ch g len (p + 2) = 62 ∧ ok = 0 ∧ q = p + 2) ∨
    ((97 ≤ rd_ch g len p ∧ rd_ch g len p ≤ 103) ∧ (97 ≤ rd_ch g len (p + 1) ∧ rd_ch g len (p + 1) ≤ 103) ∧ rd_ch g len (p + 2) = 62 ∧ ¬ (97 ≤ rd_ch g len (p + 3) ∧ rd_ch g len (p + 3) ≤ 103) ∧ ok = 0 ∧ q = p + 3) ∨
    ((97 ≤ rd_ch g len p ∧ rd_ch g len p ≤ 103) ∧ (97 ≤ rd_ch g len (p + 1) ∧ rd_ch g len (p + 1) ≤ 103) ∧ rd_ch g len (p + 2) = 62 ∧ (97 ≤ rd_ch g len (p + 3) ∧ rd_ch g len (p + 3) ≤ 103) ∧ len ≤ p + 4 ∧ rd_ch g len (p + 4) = -1 ∧ ok = 1 ∧ q = p + 4 ∧ m = n + 1) ∨
    ((97 ≤ rd_ch g len p ∧ rd_ch g len p ≤ 103) ∧ (97 ≤ rd_ch g len (p + 1) ∧ rd_ch g len (p + 1) ≤ 103) ∧ rd_ch g len (p + 2) = 62 ∧ (97 ≤ rd_ch g len (p + 3) ∧ rd_ch g len (p + 3) ≤ 103) ∧ p + 4 < len ∧ ¬ rd_ch g len (p + 4) = 59 ∧ ok = 0 ∧ q = p + 4) ∨
    ((97 ≤ rd_ch g len p ∧ rd_ch g len p ≤ 103) ∧ (97 ≤ rd_ch g len (p + 1) ∧ rd_ch g len (p + 1) ≤ 103) ∧ rd_ch g len (p + 2) = 62 ∧ (97 ≤ rd_ch g len (p + 3) ∧ rd_ch g len (p + 3) ≤ 103) ∧ p + 4 < len ∧ rd_ch g len (p + 4) = 59) := by
  have u := li_gq_un h hk
  by_cases c0 : ¬ (97 ≤ rd_ch g len p ∧ rd_ch g len p ≤ 103)
  · rw [if_pos c0] at u
    have z := li_gq_inj u
    exact Or.inl ⟨c0, z.1, z.2.1⟩
  · rw [if_neg c0] at u
    by_cases c1 : ¬ (97 ≤ rd_ch g len (p + 1) ∧ rd_ch g len (p + 1) ≤ 103)
    · rw [if_pos c1] at u
      have z := li_gq_inj u
      exact Or.inr (Or.inl ⟨Decidable.not_not.mp c0, c1, z.1, z.2.1⟩)
    · rw [if_neg c1] at u
      by_cases c2 : ¬ rd_ch g len (p + 2) = 62
      · rw [if_pos c2] at u
        have z := li_gq_inj u
        exact Or.inr (Or.inr (Or.inl ⟨Decidable.not_not.mp c0, Decidable.not_not.mp c1, c2, z.1, z.2.1⟩))
      · rw [if_neg c2] at u
        by_cases c3 : ¬ (97 ≤ rd_ch g len (p + 3) ∧ rd_ch g len (p + 3) ≤ 103)
        · rw [if_pos c3] at u
          have z := li_gq_inj u
          exact Or.inr (Or.inr (Or.inr (Or.inl ⟨Decidable.not_not.mp c0, Decidable.not_not.mp c1, Decidable.not_not.mp c2, c3, z.1, z.2.1⟩)))
        · rw [if_neg c3] at u
          by_cases c4 : len ≤ p + 4
          · rw [if_pos c4] at u
            have z := li_gq_inj u
            exact Or.inr (Or.inr (Or.inr (Or.inr (Or.inl ⟨Decidable.not_not.mp c0, Decidable.not_not.mp c1, Decidable.not_not.mp c2, Decidable.not_not.mp c3, c4, rd_no c4, z.1, z.2.1, z.2.2⟩))))
          · rw [if_neg c4] at u
            by_cases c5 : rd_ch g len (p + 4) = 59
            · exact Or.inr (Or.inr (Or.inr (Or.inr (Or.inr (Or.inr ⟨Decidable.not_not.mp c0, Decidable.not_not.mp c1, Decidable.not_not.mp c2, Decidable.not_not.mp c3, by omega, c5⟩)))))
            · rw [if_neg c5] at u
              have z := li_gq_inj u
              exact Or.inr (Or.inr (Or.inr (Or.inr (Or.inr (Or.inl ⟨Decidable.not_not.mp c0, Decidable.not_not.mp c1, Decidable.not_not.mp c2, Decidable.not_not.mp c3, by omega, c5, z.1, z.2.1⟩)))))
theorem li_gq_go {g : Nat → Int32} {len k p n ok q m : Int} (h : li_gq g len k p n ok q m) (hk : 0 < k) (c : 97 ≤ rd_ch g len p ∧ rd_ch g len p ≤ 103 ∧ 97 ≤ rd_ch g len (p + 1) ∧ rd_ch g len (p + 1) ≤ 103 ∧ rd_ch g len (p + 2) = 62 ∧ 97 ≤ rd_ch g len (p + 3) ∧ rd_ch g len (p + 3) ≤ 103 ∧ p + 4 < len ∧ rd_ch g len (p + 4) = 59) : li_gq g len (k - 1) (p + 5) (n + 1) ok q m := by
  have u := li_gq_un h hk
  rw [if_neg (by omega), if_neg (by omega), if_neg (by omega), if_neg (by omega), if_neg (by omega), if_pos c.2.2.2.2.2.2.2.2] at u
  exact u
def rd_ln (g : Nat → Int32) (len p : Int) : Int × Int :=
  if ¬ (97 ≤ rd_ch g len p ∧ rd_ch g len p ≤ 103) then (0, p) else
  if ¬ (97 ≤ rd_ch g len (p + 1) ∧ rd_ch g len (p + 1) ≤ 103) then (0, p + 1) else
  if ¬ rd_ch g len (p + 2) = 62 then (0, p + 2) else
  if ¬ (97 ≤ rd_ch g len (p + 3) ∧ rd_ch g len (p + 3) ≤ 103) then (0, p + 3) else (1, p + 4)
def li_ln (g : Nat → Int32) (len p k e : Int) : Prop := rd_ln g len p = (k, e)
theorem li_ln_1 {g : Nat → Int32} {len p k e : Int} (h : li_ln g len p k e) (c : ¬ (97 ≤ rd_ch g len p ∧ rd_ch g len p ≤ 103)) : k = 0 ∧ e = p := by
  unfold li_ln rd_ln at h
  rw [if_pos c] at h
  have z := Prod.mk.inj h
  exact ⟨z.1.symm, z.2.symm⟩
theorem li_ln_2 {g : Nat → Int32} {len p k e : Int} (h : li_ln g len p k e) (c0 : 97 ≤ rd_ch g len p ∧ rd_ch g len p ≤ 103) (c : ¬ (97 ≤ rd_ch g len (p + 1) ∧ rd_ch g len (p + 1) ≤ 103)) : k = 0 ∧ e = p + 1 := by
  unfold li_ln rd_ln at h
  rw [if_neg (fun z => z c0), if_pos c] at h
  have z := Prod.mk.inj h
  exact ⟨z.1.symm, z.2.symm⟩
theorem li_ln_3 {g : Nat → Int32} {len p k e : Int} (h : li_ln g len p k e) (c0 : 97 ≤ rd_ch g len p ∧ rd_ch g len p ≤ 103) (c1 : 97 ≤ rd_ch g len (p + 1) ∧ rd_ch g len (p + 1) ≤ 103) (c : ¬ rd_ch g len (p + 2) = 62) : k = 0 ∧ e = p + 2 := by
  unfold li_ln rd_ln at h
  rw [if_neg (fun z => z c0), if_neg (fun z => z c1), if_pos c] at h
  have z := Prod.mk.inj h
  exact ⟨z.1.symm, z.2.symm⟩
theorem li_ln_4 {g : Nat → Int32} {len p k e : Int} (h : li_ln g len p k e) (c0 : 97 ≤ rd_ch g len p ∧ rd_ch g len p ≤ 103) (c1 : 97 ≤ rd_ch g len (p + 1) ∧ rd_ch g len (p + 1) ≤ 103) (c2 : rd_ch g len (p + 2) = 62) (c : ¬ (97 ≤ rd_ch g len (p + 3) ∧ rd_ch g len (p + 3) ≤ 103)) : k = 0 ∧ e = p + 3 := by
  unfold li_ln rd_ln at h
  rw [if_neg (fun z => z c0), if_neg (fun z => z c1), if_neg (fun z => z c2), if_pos c] at h
  have z := Prod.mk.inj h
  exact ⟨z.1.symm, z.2.symm⟩
theorem li_ln_5 {g : Nat → Int32} {len p k e : Int} (h : li_ln g len p k e) (c0 : 97 ≤ rd_ch g len p ∧ rd_ch g len p ≤ 103) (c1 : 97 ≤ rd_ch g len (p + 1) ∧ rd_ch g len (p + 1) ≤ 103) (c2 : rd_ch g len (p + 2) = 62) (c3 : 97 ≤ rd_ch g len (p + 3) ∧ rd_ch g len (p + 3) ≤ 103) : k = 1 ∧ e = p + 4 := by
  unfold li_ln rd_ln at h
  rw [if_neg (fun z => z c0), if_neg (fun z => z c1), if_neg (fun z => z c2), if_neg (fun z => z c3)] at h
  have z := Prod.mk.inj h
  exact ⟨z.1.symm, z.2.symm⟩
theorem li_ln_self {g : Nat → Int32} {len p : Int} : ∃ k e : Int, li_ln g len p k e := ⟨_, _, rfl⟩
theorem li_ln_y {g : Nat → Int32} {len p k e : Int} (h : li_ln g len p k e) (hk : k = 1) : (97 ≤ rd_ch g len p ∧ rd_ch g len p ≤ 103) ∧ (97 ≤ rd_ch g len (p + 1) ∧ rd_ch g len (p + 1) ≤ 103) ∧ rd_ch g len (p + 2) = 62 ∧ (97 ≤ rd_ch g len (p + 3) ∧ rd_ch g len (p + 3) ≤ 103) ∧ e = p + 4 := by
  by_cases c0 : 97 ≤ rd_ch g len p ∧ rd_ch g len p ≤ 103
  · by_cases c1 : 97 ≤ rd_ch g len (p + 1) ∧ rd_ch g len (p + 1) ≤ 103
    · by_cases c2 : rd_ch g len (p + 2) = 62
      · by_cases c3 : 97 ≤ rd_ch g len (p + 3) ∧ rd_ch g len (p + 3) ≤ 103
        · exact ⟨c0, c1, c2, c3, (li_ln_5 h c0 c1 c2 c3).2⟩
        · have := (li_ln_4 h c0 c1 c2 c3).1
          omega
      · have := (li_ln_3 h c0 c1 c2).1
        omega
    · have := (li_ln_2 h c0 c1).1
      omega
  · have := (li_ln_1 h c0).1
    omega
theorem li_gq_r2 {g : Nat → Int32} {len k p n ok q m K E : Int} (h : li_gq g len k p n ok q m) (hk : 0 < k) (hl : li_ln g len p K E) : (K = 0 ∧ ok = 0 ∧ q = E) ∨ (K = 1 ∧ len ≤ E ∧ rd_ch g len E = -1 ∧ ok = 1 ∧ q = E ∧ m = n + 1) ∨ (K = 1 ∧ E < len ∧ ¬ rd_ch g len E = 59 ∧ ok = 0 ∧ q = E) ∨ (K = 1 ∧ E < len ∧ rd_ch g len E = 59) := by
  rcases li_gq_r h hk with t | t | t | t | t | t | t
  · have z := li_ln_1 hl t.1
    exact Or.inl ⟨z.1, t.2.1, by rw [z.2]; exact t.2.2⟩
  · have z := li_ln_2 hl t.1 t.2.1
    exact Or.inl ⟨z.1, t.2.2.1, by rw [z.2]; exact t.2.2.2⟩
  · have z := li_ln_3 hl t.1 t.2.1 t.2.2.1
    exact Or.inl ⟨z.1, t.2.2.2.1, by rw [z.2]; exact t.2.2.2.2⟩
  · have z := li_ln_4 hl t.1 t.2.1 t.2.2.1 t.2.2.2.1
    exact Or.inl ⟨z.1, t.2.2.2.2.1, by rw [z.2]; exact t.2.2.2.2.2⟩
  · have z := li_ln_5 hl t.1 t.2.1 t.2.2.1 t.2.2.2.1
    rw [z.2]
    exact Or.inr (Or.inl ⟨z.1, t.2.2.2.2⟩)
  · have z := li_ln_5 hl t.1 t.2.1 t.2.2.1 t.2.2.2.1
    rw [z.2]
    exact Or.inr (Or.inr (Or.inl ⟨z.1, t.2.2.2.2⟩))
  · have z := li_ln_5 hl t.1 t.2.1 t.2.2.1 t.2.2.2.1
    rw [z.2]
    exact Or.inr (Or.inr (Or.inr ⟨z.1, t.2.2.2.2⟩))
theorem li_gq_go2 {g : Nat → Int32} {len k p n ok q m K E : Int} (h : li_gq g len k p n ok q m) (hk : 0 < k) (hl : li_ln g len p K E) (c : K = 1 ∧ E < len ∧ rd_ch g len E = 59) : li_gq g len (k - 1) (E + 1) (n + 1) ok q m := by
  have y := li_ln_y hl c.1
  have e := y.2.2.2.2
  rw [e] at c ⊢
  rw [show p + 4 + 1 = p + 5 by omega]
  exact li_gq_go h hk ⟨y.1.1, y.1.2, y.2.1.1, y.2.1.2, y.2.2.1, y.2.2.2.1.1, y.2.2.2.1.2, c.2.1, c.2.2⟩

set_option maxRecDepth 100000 in
set_option maxHeartbeats 4000000 in
theorem k7_X7_takeOneOf {l : Launch} {Z : li_Z} (d : Nat) (hd : 2 ≤ d) (p1 : Int32) (p2 : Int32) (M0 : li_M) (h1 : 0 ≤ (M0.1 1 2).toInt ∧ (M0.1 1 2).toInt ≤ (M0.1 1 1).toInt ∧ (M0.1 1 1).toInt ≤ 80) (Psg_M0 : li_sg (M0.1 2)) (h2 : 0 ≤ p1.toInt ∧ p1.toInt ≤ 200) (h3 : 0 ≤ p2.toInt ∧ p2.toInt ≤ 30) : li_Met l Z YX7_takeOneOf d [.ref (Z.2.2 1), .int p1, .int p2] M0 (fun r M' => (∃ x : Int32, r = some (.int x) ∧ (((p1.toInt ≤ rd_ch (M0.1 2) ((M0.1 1 1).toInt) ((M0.1 1 2).toInt) ∧ rd_ch (M0.1 2) ((M0.1 1 1).toInt) ((M0.1 1 2).toInt) ≤ p1.toInt + p2.toInt - 1 ∧ x.toInt = rd_ch (M0.1 2) ((M0.1 1 1).toInt) ((M0.1 1 2).toInt) - p1.toInt ∧ (M'.1 1 2).toInt = (M0.1 1 2).toInt + 1 ∧ (M0.1 1 2).toInt < (M0.1 1 1).toInt) ∨ (¬ (p1.toInt ≤ rd_ch (M0.1 2) ((M0.1 1 1).toInt) ((M0.1 1 2).toInt) ∧ rd_ch (M0.1 2) ((M0.1 1 1).toInt) ((M0.1 1 2).toInt) ≤ p1.toInt + p2.toInt - 1) ∧ x.toInt = -1 ∧ (M'.1 1 2).toInt = (M0.1 1 2).toInt)) ∧ (M'.1 1 1).toInt = (M0.1 1 1).toInt)) ∧ li_fr (fun i => i = 1) M0 M') := by
  refine li_enter (by decide +kernel) (Nat.le_of_ble_eq_true rfl) ?_
  show li_T l Z YX7_takeOneOf d 0 [(0, .ref (Z.2.2 1)), (1, .int p1), (2, .int p2)] [] M0 _
  have hf : li_fr (fun i => i = 1) M0 M0 := li_fr_refl
  have gp1 := tl_rg p1
  have gp2 := tl_rg p2
  refine li_aload_n 0 dX7_takeOneOf_0 rfl ?_
  refine li_geti (k := 2) (N := 3) (T := TX7) (C0 := RX7) dX7_takeOneOf_1 (by decide) sh_1 rfl rfl (by decide) li_in7 w_142 ?_
  refine li_top (fun x1 ex1 => ?_)
  have gx1 := tl_rg x1
  have vx1 : x1.toInt = (M0.1 1 2).toInt := tl_eq ex1
  refine li_aload_n 0 dX7_takeOneOf_4 rfl ?_
  refine li_geti (k := 1) (N := 3) (T := TX7) (C0 := RX7) dX7_takeOneOf_5 (by decide) sh_1 rfl rfl (by decide) li_in7 w_139 ?_
  refine li_top (fun x2 ex2 => ?_)
  have gx2 := tl_rg x2
  have vx2 : x2.toInt = (M0.1 1 1).toInt := tl_eq ex2
  refine li_icmp_lt 13 dX7_takeOneOf_8 (by decide) (fun c3 => ?_) (fun c3 => ?_)
  · have tc3 : x1.toInt < x2.toInt := tl_lt c3
    refine li_aload_n 0 dX7_takeOneOf_13 rfl ?_
    refine li_getr (k := 0) (N := 3) (T := TX7) (C0 := RX7) dX7_takeOneOf_14 (by decide) sh_1 rfl rfl (by decide) (by decide) li_in7 w_138 ?_
    refine li_aload_n 0 dX7_takeOneOf_17 rfl ?_
    refine li_geti (k := 2) (N := 3) (T := TX7) (C0 := RX7) dX7_takeOneOf_18 (by decide) sh_1 rfl rfl (by decide) li_in7 w_142 ?_
    refine li_top (fun x4 ex4 => ?_)
    have gx4 := tl_rg x4
    have vx4 : x4.toInt = (M0.1 1 2).toInt := tl_eq ex4
    have tvx4 : x4.toInt = x1.toInt := tl_eq (ex4.trans ex1.symm)
    refine li_callN (n := 2) (As := [.ref (Z.2.2 2), .int x4]) dX7_takeOneOf_21 (a_X11_at (d - 1) (by omega) (by decide) sh_2 (by decide) x4 M0) (by omega) (Nat.le_of_ble_eq_true rfl) nw_8 w_569 w_101 w_570 (by decide +kernel) rfl rfl (Nat.le_of_ble_eq_true rfl) (fun r M6 h7 => ?_)
    obtain ⟨⟨x5, rfl, qx5⟩, h7⟩ := h7
    have gx5 := tl_rg x5
    have hf := li_fr_trans hf h7 (fun i h => False.elim h)
    have mM6_1_1 : (M6.1 1 1).toInt = (M0.1 1 1).toInt := by rw [h7.1 1 id]
    have mM6_1_2 : (M6.1 1 2).toInt = (M0.1 1 2).toInt := by rw [h7.1 1 id]
    have Psg_M6 : li_sg (M6.1 2)  := li_sg_tr (h7.1 2 (fun h => by first | exact (h : False).elim | omega))  Psg_M0
    have sgq := li_sg_at Psg_M0 qx5
    have chq : rd_ch (M0.1 2) ((M0.1 1 1).toInt) ((M0.1 1 2).toInt) = x5.toInt := rd_ch_at qx5 (by omega) (by omega) (by omega) (by omega)
    refine li_iload_n 1 dX7_takeOneOf_24 rfl ?_
    refine li_isub dX7_takeOneOf_25 ?_
    refine li_top (fun x8 ex8 => ?_)
    have tx8 : (-2147483648 ≤ x5.toInt - p1.toInt ∧ x5.toInt - p1.toInt ≤ 2147483647) → x8.toInt = x5.toInt - p1.toInt := tl_sub ex8
    refine li_istore_n [(3, .int x8), (0, .ref (Z.2.2 1)), (1, .int p1), (2, .int p2)] dX7_takeOneOf_26 (by decide) rfl ?_
    refine li_iload_n 0 dX7_takeOneOf_27 rfl ?_
    refine li_if_lt 36 dX7_takeOneOf_28 (by decide) (fun c9 => ?_) (fun c9 => ?_)
    · have tc9 : x8.toInt < 0 := tl_lt c9
      refine li_iconst (-1) dX7_takeOneOf_36 (by decide) ?_
      have zm1 : ((-1) : Int32).toInt = -1 := rfl
      exact li_iret dX7_takeOneOf_37 rfl rfl ⟨⟨_, rfl, (by first | omega | (have zz := rd_no (g := M0.1 2) (len := (M0.1 1 1).toInt) (p := (M0.1 1 2).toInt) (by omega); omega))⟩, hf⟩
    · have tc9 : 0 ≤ x8.toInt := tl_nlt c9
      refine li_iload_n 0 dX7_takeOneOf_31 rfl ?_
      refine li_iload_n 3 dX7_takeOneOf_32 rfl ?_
      refine li_icmp_lt 38 dX7_takeOneOf_33 (by decide) (fun c10 => ?_) (fun c10 => ?_)
      · have tc10 : x8.toInt < p2.toInt := tl_lt c10
        refine li_aload_n 1 dX7_takeOneOf_38 rfl ?_
        refine li_dup dX7_takeOneOf_39 rfl ?_
        refine li_geti (k := 2) (N := 3) (T := TX7) (C0 := RX7) dX7_takeOneOf_40 (by decide) sh_1 rfl rfl (by decide) li_in7 w_142 ?_
        refine li_top (fun x11 ex11 => ?_)
        have gx11 := tl_rg x11
        have vx11 : x11.toInt = (M6.1 1 2).toInt := tl_eq ex11
        refine li_iconst 1 dX7_takeOneOf_43 (by decide) ?_
        refine li_iadd dX7_takeOneOf_44 ?_
        refine li_top (fun x12 ex12 => ?_)
        have tx12 : (-2147483648 ≤ x11.toInt + 1 ∧ x11.toInt + 1 ≤ 2147483647) → x12.toInt = x11.toInt + 1 := tl_add ex12
        refine li_puti (k := 2) (N := 3) (T := TX7) (C0 := RX7) dX7_takeOneOf_45 (by decide) sh_1 rfl rfl (by decide) li_in7 tyX7_ok nmX7 rfl rfl rfl rfl w_142 ?_
        refine li_nm (fun M13 eM13 => ?_)
        have hf := li_fr_ui hf (show 1 = 1 by omega) eM13
        have mM13_1_1 : (M13.1 1 1).toInt = (M6.1 1 1).toInt := by rw [eM13, li_ui_at, if_pos rfl, if_neg (by decide)]
        have mM13_1_2 : (M13.1 1 2).toInt = x12.toInt := by rw [eM13, li_ui_at, if_pos rfl, if_pos rfl]
        have Psg_M13 : li_sg (M13.1 2)  := li_sg_tr (li_cell_ui eM13 (by decide))  Psg_M6
        have k14 : M13.1 1 2 = x12 := by rw [eM13, li_ui_at, if_pos rfl, if_pos rfl]
        refine li_iload_n 0 dX7_takeOneOf_48 rfl ?_
        exact li_iret dX7_takeOneOf_49 rfl rfl ⟨⟨_, rfl, (by first | omega | (have zz := rd_no (g := M0.1 2) (len := (M0.1 1 1).toInt) (p := (M0.1 1 2).toInt) (by omega); omega))⟩, hf⟩
      · have tc10 : p2.toInt ≤ x8.toInt := tl_nlt c10
        refine li_iconst (-1) dX7_takeOneOf_36 (by decide) ?_
        have zm1 : ((-1) : Int32).toInt = -1 := rfl
        exact li_iret dX7_takeOneOf_37 rfl rfl ⟨⟨_, rfl, (by first | omega | (have zz := rd_no (g := M0.1 2) (len := (M0.1 1 1).toInt) (p := (M0.1 1 2).toInt) (by omega); omega))⟩, hf⟩
  · have tc3 : x2.toInt ≤ x1.toInt := tl_nlt c3
    refine li_iconst (-1) dX7_takeOneOf_11 (by decide) ?_
    have zm1 : ((-1) : Int32).toInt = -1 := rfl
    exact li_iret dX7_takeOneOf_12 rfl rfl ⟨⟨_, rfl, (by first | omega | (have zz := rd_no (g := M0.1 2) (len := (M0.1 1 1).toInt) (p := (M0.1 1 2).toInt) (by omega); omega))⟩, hf⟩
