def rd_tl (g : Nat → Int32) (len P : Int) : Nat → Int → Int → Int
  | 0, _, _ => -1
  | k + 1, p, n => if ((97 ≤ rd_ch g len (p) ∧ rd_ch g len (p) ≤ 96 + P) ∧ (97 ≤ rd_ch g len (p + 1) ∧ rd_ch g len (p + 1) ≤ 96 + P) ∧ ¬ rd_ch g len (p + 1) = rd_ch g len (p) ∧ 0 < (rd_nm g len 2 (-1) (p + 2)).1 ∧ rd_ch g len ((rd_nm g len 2 (-1) (p + 2)).2) = 45 ∧ 0 ≤ (rd_nm g len 2 (-1) ((rd_nm g len 2 (-1) (p + 2)).2 + 1)).1 ∧ rd_ch g len ((rd_nm g len 2 (-1) ((rd_nm g len 2 (-1) (p + 2)).2 + 1)).2) = 61 ∧ 0 ≤ (rd_nm g len 2 (-1) ((rd_nm g len 2 (-1) ((rd_nm g len 2 (-1) (p + 2)).2 + 1)).2 + 1)).1) then (if len ≤ (rd_nm g len 2 (-1) ((rd_nm g len 2 (-1) ((rd_nm g len 2 (-1) (p + 2)).2 + 1)).2 + 1)).2 then n + 1 else if rd_ch g len (rd_nm g len 2 (-1) ((rd_nm g len 2 (-1) ((rd_nm g len 2 (-1) (p + 2)).2 + 1)).2 + 1)).2 = 59 then rd_tl g len P k ((rd_nm g len 2 (-1) ((rd_nm g len 2 (-1) ((rd_nm g len 2 (-1) (p + 2)).2 + 1)).2 + 1)).2 + 1) (n + 1) else -1) else -1
def li_tl (g : Nat → Int32) (len P k p n m : Int) : Prop := rd_tl g len P k.toNat p n = m
theorem li_tl_self {g : Nat → Int32} {len P k p n : Int} : ∃ m : Int, li_tl g len P k p n m := ⟨_, rfl⟩
theorem li_tl_tr {g g' : Nat → Int32} {len len' P P'Zq k k' p p' n n' m m' : Int} (hg : g' = g) (h1 : len' = len) (h2 : P'Zq = P) (h3 : k' = k) (h4 : p' = p) (h5 : n' = n) (h6 : m' = m) (hZq : li_tl g len P k p n m) : li_tl g' len' P'Zq k' p' n' m' := by
  subst hg; subst h1; subst h2; subst h3; subst h4; subst h5; subst h6; exact hZq
theorem li_tl_eq {g : Nat → Int32} {len P k p n m m' : Int} (hZq : li_tl g len P k p n m) (h' : li_tl g len P k p n m') : m' = m := h'.symm.trans hZq
theorem li_tl_z {g : Nat → Int32} {len P k p n m : Int} (hZq : li_tl g len P k p n m) (hk : k ≤ 0) : m = -1 := by
  unfold li_tl at hZq
  rw [show k.toNat = 0 by omega] at hZq
  exact hZq.symm
theorem li_tl_un {g : Nat → Int32} {len P k p n m R1 Q1Zq R2 Q2Zq R3 Q3 : Int} (hZq : li_tl g len P k p n m) (hk : 0 < k) (h1 : li_nq g len 2 (-1) (p + 2) R1 Q1Zq) (h2 : li_nq g len 2 (-1) (Q1Zq + 1) R2 Q2Zq) (h3 : li_nq g len 2 (-1) (Q2Zq + 1) R3 Q3) :
    (if ((97 ≤ rd_ch g len (p) ∧ rd_ch g len (p) ≤ 96 + P) ∧ (97 ≤ rd_ch g len (p + 1) ∧ rd_ch g len (p + 1) ≤ 96 + P) ∧ ¬ rd_ch g len (p + 1) = rd_ch g len (p) ∧ 0 < R1 ∧ rd_ch g len (Q1Zq) = 45 ∧ 0 ≤ R2 ∧ rd_ch g len (Q2Zq) = 61 ∧ 0 ≤ R3) then (if len ≤ Q3 then n + 1 else if rd_ch g len Q3 = 59 then rd_tl g len P (k - 1).toNat (Q3 + 1) (n + 1) else -1) else -1) = m := by
  unfold li_tl at hZq
  rw [show k.toNat = (k - 1).toNat + 1 by omega] at hZq
  unfold rd_tl at hZq
  have e1Zq : rd_nm g len 2 (-1) (p + 2) = (R1, Q1Zq) := h1
  have e2Zq : rd_nm g len 2 (-1) (Q1Zq + 1) = (R2, Q2Zq) := h2
  have e3Zq : rd_nm g len 2 (-1) (Q2Zq + 1) = (R3, Q3) := h3
  rw [e1Zq] at hZq
  dsimp only at hZq
  rw [e2Zq] at hZq
  dsimp only at hZq
  rw [e3Zq] at hZq
  exact hZq
theorem li_tl_r {g : Nat → Int32} {len P k p n m R1 Q1Zq R2 Q2Zq R3 Q3 : Int} (hZq : li_tl g len P k p n m) (hk : 0 < k) (h1 : li_nq g len 2 (-1) (p + 2) R1 Q1Zq) (h2 : li_nq g len 2 (-1) (Q1Zq + 1) R2 Q2Zq) (h3 : li_nq g len 2 (-1) (Q2Zq + 1) R3 Q3) :
    (¬ ((97 ≤ rd_ch g len (p) ∧ rd_ch g len (p) ≤ 96 + P) ∧ (97 ≤ rd_ch g len (p + 1) ∧ rd_ch g len (p + 1) ≤ 96 + P) ∧ ¬ rd_ch g len (p + 1) = rd_ch g len (p) ∧ 0 < R1 ∧ rd_ch g len (Q1Zq) = 45 ∧ 0 ≤ R2 ∧ rd_ch g len (Q2Zq) = 61 ∧ 0 ≤ R3) ∧ m = -1) ∨ (((97 ≤ rd_ch g len (p) ∧ rd_ch g len (p) ≤ 96 + P) ∧ (97 ≤ rd_ch g len (p + 1) ∧ rd_ch g len (p + 1) ≤ 96 + P) ∧ ¬ rd_ch g len (p + 1) = rd_ch g len (p) ∧ 0 < R1 ∧ rd_ch g len (Q1Zq) = 45 ∧ 0 ≤ R2 ∧ rd_ch g len (Q2Zq) = 61 ∧ 0 ≤ R3) ∧ len ≤ Q3 ∧ rd_ch g len Q3 = -1 ∧ m = n + 1) ∨ (((97 ≤ rd_ch g len (p) ∧ rd_ch g len (p) ≤ 96 + P) ∧ (97 ≤ rd_ch g len (p + 1) ∧ rd_ch g len (p + 1) ≤ 96 + P) ∧ ¬ rd_ch g len (p + 1) = rd_ch g len (p) ∧ 0 < R1 ∧ rd_ch g len (Q1Zq) = 45 ∧ 0 ≤ R2 ∧ rd_ch g len (Q2Zq) = 61 ∧ 0 ≤ R3) ∧ Q3 < len ∧ ¬ rd_ch g len Q3 = 59 ∧ m = -1) ∨ (((97 ≤ rd_ch g len (p) ∧ rd_ch g len (p) ≤ 96 + P) ∧ (97 ≤ rd_ch g len (p + 1) ∧ rd_ch g len (p + 1) ≤ 96 + P) ∧ ¬ rd_ch g len (p + 1) = rd_ch g len (p) ∧ 0 < R1 ∧ rd_ch g len (Q1Zq) = 45 ∧ 0 ≤ R2 ∧ rd_ch g len (Q2Zq) = 61 ∧ 0 ≤ R3) ∧ Q3 < len ∧ rd_ch g len Q3 = 59) := by
  have u := li_tl_un hZq hk h1 h2 h3
  by_cases c : ((97 ≤ rd_ch g len (p) ∧ rd_ch g len (p) ≤ 96 + P) ∧ (97 ≤ rd_ch g len (p + 1) ∧ rd_ch g len (p + 1) ≤ 96 + P) ∧ ¬ rd_ch g len (p + 1) = rd_ch g len (p) ∧ 0 < R1 ∧ rd_ch g len (Q1Zq) = 45 ∧ 0 ≤ R2 ∧ rd_ch g len (Q2Zq) = 61 ∧ 0 ≤ R3)
  · rw [if_pos c] at u
    by_cases c1 : len ≤ Q3
    · rw [if_pos c1] at u
      exact Or.inr (Or.inl ⟨c, c1, rd_no c1, u.symm⟩)
    · rw [if_neg c1] at u
      by_cases c2 : rd_ch g len Q3 = 59
      · exact Or.inr (Or.inr (Or.inr ⟨c, by omega, c2⟩))
      · rw [if_neg c2] at u
        exact Or.inr (Or.inr (Or.inl ⟨c, by omega, c2, u.symm⟩))
  · rw [if_neg c] at u
    exact Or.inl ⟨c, u.symm⟩
theorem li_tl_go {g : Nat → Int32} {len P k p n m R1 Q1Zq R2 Q2Zq R3 Q3 : Int} (hZq : li_tl g len P k p n m) (hk : 0 < k) (h1 : li_nq g len 2 (-1) (p + 2) R1 Q1Zq) (h2 : li_nq g len 2 (-1) (Q1Zq + 1) R2 Q2Zq) (h3 : li_nq g len 2 (-1) (Q2Zq + 1) R3 Q3) (c : ((97 ≤ rd_ch g len (p) ∧ rd_ch g len (p) ≤ 96 + P) ∧ (97 ≤ rd_ch g len (p + 1) ∧ rd_ch g len (p + 1) ≤ 96 + P) ∧ ¬ rd_ch g len (p + 1) = rd_ch g len (p) ∧ 0 < R1 ∧ rd_ch g len (Q1Zq) = 45 ∧ 0 ≤ R2 ∧ rd_ch g len (Q2Zq) = 61 ∧ 0 ≤ R3) ∧ Q3 < len ∧ rd_ch g len Q3 = 59) : li_tl g len P (k - 1) (Q3 + 1) (n + 1) m := by
  have u := li_tl_un hZq hk h1 h2 h3
  rw [if_pos c.1, if_neg (by omega), if_pos c.2.2] at u
  exact u
def li_tk (g : Nat → Int32) (len P p R1 Q1Zq R2 Q2Zq R3 KZq : Int) : Prop := (KZq = 1 ∧ ((97 ≤ rd_ch g len (p) ∧ rd_ch g len (p) ≤ 96 + P) ∧ (97 ≤ rd_ch g len (p + 1) ∧ rd_ch g len (p + 1) ≤ 96 + P) ∧ ¬ rd_ch g len (p + 1) = rd_ch g len (p) ∧ 0 < R1 ∧ rd_ch g len (Q1Zq) = 45 ∧ 0 ≤ R2 ∧ rd_ch g len (Q2Zq) = 61 ∧ 0 ≤ R3)) ∨ (KZq = 0 ∧ ¬ ((97 ≤ rd_ch g len (p) ∧ rd_ch g len (p) ≤ 96 + P) ∧ (97 ≤ rd_ch g len (p + 1) ∧ rd_ch g len (p + 1) ≤ 96 + P) ∧ ¬ rd_ch g len (p + 1) = rd_ch g len (p) ∧ 0 < R1 ∧ rd_ch g len (Q1Zq) = 45 ∧ 0 ≤ R2 ∧ rd_ch g len (Q2Zq) = 61 ∧ 0 ≤ R3))
theorem li_tk_self {g : Nat → Int32} {len P p R1 Q1Zq R2 Q2Zq R3 : Int} : ∃ KZq : Int, li_tk g len P p R1 Q1Zq R2 Q2Zq R3 KZq := by
  by_cases c : ((97 ≤ rd_ch g len (p) ∧ rd_ch g len (p) ≤ 96 + P) ∧ (97 ≤ rd_ch g len (p + 1) ∧ rd_ch g len (p + 1) ≤ 96 + P) ∧ ¬ rd_ch g len (p + 1) = rd_ch g len (p) ∧ 0 < R1 ∧ rd_ch g len (Q1Zq) = 45 ∧ 0 ≤ R2 ∧ rd_ch g len (Q2Zq) = 61 ∧ 0 ≤ R3)
  · exact ⟨1, Or.inl ⟨rfl, c⟩⟩
  · exact ⟨0, Or.inr ⟨rfl, c⟩⟩
theorem li_tk_eq {g : Nat → Int32} {len P p R1 Q1Zq R2 Q2Zq R3 KZq r : Int} {X : Prop} (hZq : li_tk g len P p R1 Q1Zq R2 Q2Zq R3 KZq) (q : (r = 1 ∧ ((97 ≤ rd_ch g len (p) ∧ rd_ch g len (p) ≤ 96 + P) ∧ (97 ≤ rd_ch g len (p + 1) ∧ rd_ch g len (p + 1) ≤ 96 + P) ∧ ¬ rd_ch g len (p + 1) = rd_ch g len (p) ∧ 0 < R1 ∧ rd_ch g len (Q1Zq) = 45 ∧ 0 ≤ R2 ∧ rd_ch g len (Q2Zq) = 61 ∧ 0 ≤ R3) ∧ X) ∨ (r = 0 ∧ ¬ ((97 ≤ rd_ch g len (p) ∧ rd_ch g len (p) ≤ 96 + P) ∧ (97 ≤ rd_ch g len (p + 1) ∧ rd_ch g len (p + 1) ≤ 96 + P) ∧ ¬ rd_ch g len (p + 1) = rd_ch g len (p) ∧ 0 < R1 ∧ rd_ch g len (Q1Zq) = 45 ∧ 0 ≤ R2 ∧ rd_ch g len (Q2Zq) = 61 ∧ 0 ≤ R3))) : r = KZq ∧ (¬ r = 0 → X) := by
  rcases hZq with hZq | hZq <;> rcases q with q | q
  · exact ⟨q.1.trans hZq.1.symm, fun _ => q.2.2⟩
  · exact absurd hZq.2 q.2
  · exact absurd q.2.1 hZq.2
  · exact ⟨q.1.trans hZq.1.symm, fun zZq => absurd q.1 zZq⟩
theorem li_tl_r2 {g : Nat → Int32} {len P k p n m R1 Q1Zq R2 Q2Zq R3 Q3 KZq : Int} (hZq : li_tl g len P k p n m) (hk : 0 < k) (h1 : li_nq g len 2 (-1) (p + 2) R1 Q1Zq) (h2 : li_nq g len 2 (-1) (Q1Zq + 1) R2 Q2Zq) (h3 : li_nq g len 2 (-1) (Q2Zq + 1) R3 Q3) (hKZq : li_tk g len P p R1 Q1Zq R2 Q2Zq R3 KZq) :
    (KZq = 0 ∧ m = -1) ∨ (KZq = 1 ∧ len ≤ Q3 ∧ rd_ch g len Q3 = -1 ∧ m = n + 1) ∨ (KZq = 1 ∧ Q3 < len ∧ ¬ rd_ch g len Q3 = 59 ∧ m = -1) ∨ (KZq = 1 ∧ Q3 < len ∧ rd_ch g len Q3 = 59) := by
  rcases li_tl_r hZq hk h1 h2 h3 with t | t | t | t <;> rcases hKZq with c | c
  · exact absurd c.2 t.1
  · exact Or.inl ⟨c.1, t.2⟩
  · exact Or.inr (Or.inl ⟨c.1, t.2⟩)
  · exact absurd t.1 c.2
  · exact Or.inr (Or.inr (Or.inl ⟨c.1, t.2⟩))
  · exact absurd t.1 c.2
  · exact Or.inr (Or.inr (Or.inr ⟨c.1, t.2⟩))
  · exact absurd t.1 c.2
theorem li_tk_y {g : Nat → Int32} {len P p R1 Q1Zq R2 Q2Zq R3 KZq : Int} (hZq : li_tk g len P p R1 Q1Zq R2 Q2Zq R3 KZq) (hKZq : KZq = 1) : ((97 ≤ rd_ch g len (p) ∧ rd_ch g len (p) ≤ 96 + P) ∧ (97 ≤ rd_ch g len (p + 1) ∧ rd_ch g len (p + 1) ≤ 96 + P) ∧ ¬ rd_ch g len (p + 1) = rd_ch g len (p) ∧ 0 < R1 ∧ rd_ch g len (Q1Zq) = 45 ∧ 0 ≤ R2 ∧ rd_ch g len (Q2Zq) = 61 ∧ 0 ≤ R3) := by
  rcases hZq with hZq | hZq
  · exact hZq.2
  · omega
theorem rd_tl_le {g : Nat → Int32} {len P : Int} : ∀ (k : Nat) (p n : Int), rd_tl g len P k p n = -1 ∨ rd_tl g len P k p n ≤ n + (k : Int)
  | 0, p, n => Or.inl rfl
  | k + 1, p, n => by
    unfold rd_tl
    split
    · split
      · right
        omega
      · split
        · rcases rd_tl_le (g := g) (len := len) (P := P) k ((rd_nm g len 2 (-1) ((rd_nm g len 2 (-1) ((rd_nm g len 2 (-1) (p + 2)).2 + 1)).2 + 1)).2 + 1) (n + 1) with hZq | hZq
          · exact Or.inl hZq
          · right
            omega
        · exact Or.inl rfl
    · exact Or.inl rfl
theorem li_tl_le {g : Nat → Int32} {len P k p n m : Int} (hZq : li_tl g len P k p n m) (hk : 0 ≤ k) : m = -1 ∨ m ≤ n + k := by
  have zZq := rd_tl_le (g := g) (len := len) (P := P) k.toNat p n
  unfold li_tl at hZq
  rw [hZq] at zZq
  omega
theorem rd_nm_gt {g : Nat → Int32} {len : Int} : ∀ (k : Nat) (v p : Int), (rd_nm g len k v p).2 ≤ p → (rd_nm g len k v p).1 = v
  | 0, v, p => fun _ => rfl
  | k + 1, v, p => by
    unfold rd_nm
    split
    · intro hZq
      have := rd_nm_ge (g := g) (len := len) k (max v 0 * 10 + (rd_ch g len p - 48)) (p + 1)
      omega
    · exact fun _ => rfl
theorem rd_nm_nn {g : Nat → Int32} {len : Int} : ∀ (k : Nat) (v p : Int), -1 ≤ v → (rd_nm g len k v p).1 = v ∨ 0 ≤ (rd_nm g len k v p).1
  | 0, v, p => fun _ => Or.inl rfl
  | k + 1, v, p => by
    intro hv
    unfold rd_nm
    split
    · rename_i c
      rcases rd_nm_nn (g := g) (len := len) k (max v 0 * 10 + (rd_ch g len p - 48)) (p + 1) (by omega) with hZq | hZq
      · right
        rw [hZq]
        omega
      · exact Or.inr hZq
    · exact Or.inl rfl
theorem li_nq_gt {g : Nat → Int32} {len k p r q : Int} (hZq : li_nq g len k (-1) p r q) : p ≤ q ∧ (0 ≤ r → p < q) ∧ (r < 0 → r = -1) := by
  unfold li_nq at hZq
  have a := rd_nm_ge (g := g) (len := len) k.toNat (-1) p
  have b := rd_nm_gt (g := g) (len := len) k.toNat (-1) p
  have c := rd_nm_nn (g := g) (len := len) k.toNat (-1) p (by omega)
  rw [hZq] at a b c
  dsimp only at a b c
  refine ⟨a, fun h9 => ?_, fun h9 => by omega⟩
  by_cases d : q ≤ p
  · have := b d
    omega
  · omega
abbrev li_n3 (g : Nat → Int32) (len k v p r q : Int) : Prop := li_nq g len k v p r q
theorem li_n3_tr {g g' : Nat → Int32} {len len' k k' v v' p p' r r' q q' : Int} (hg : g' = g) (h1 : len' = len) (h2 : k' = k) (h3 : v' = v) (h4 : p' = p) (h5 : r' = r) (h6 : q' = q) (hZq : li_n3 g len k v p r q) : li_n3 g' len' k' v' p' r' q' := li_nq_tr hg h1 h2 h3 h4 h5 h6 hZq
theorem li_nq_eq {g g' : Nat → Int32} {len len' k k' v p p' r q r' q' : Int} (hZq : li_nq g len k v p r q) (h' : li_nq g' len' k' v p' r' q') (hg : g' = g) (h1 : len' = len) (h2 : k' = k) (h3 : p' = p) : r' = r ∧ q' = q := by
  subst hg; subst h1; subst h2; subst h3
  unfold li_nq at hZq h'
  rw [hZq] at h'
  have zZq := Prod.mk.inj h'
  exact ⟨zZq.1.symm, zZq.2.symm⟩

