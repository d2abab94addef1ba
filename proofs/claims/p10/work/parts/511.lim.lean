theorem rd_nm_ge {g : Nat → Int32} {len : Int} : ∀ (k : Nat) (v p : Int), p ≤ (rd_nm g len k v p).2
  | 0, v, p => Int.le_refl p
  | k + 1, v, p => by
    unfold rd_nm
    split
    · have := rd_nm_ge (g := g) (len := len) k (max v 0 * 10 + (rd_ch g len p - 48)) (p + 1)
      omega
    · exact Int.le_refl p
theorem rd_nm_lim {g : Nat → Int32} {len e : Int} (he : e ≤ len) : ∀ (k : Nat) (v p : Int), p ≤ e → (rd_nm g e k v p).2 ≤ e ∧ ((rd_nm g e k v p).2 < e → rd_nm g len k v p = rd_nm g e k v p) ∧ ((rd_nm g e k v p).2 = e → e ≤ (rd_nm g len k v p).2)
  | 0, v, p, hp => ⟨hp, fun _ => rfl, fun h => Int.le_of_eq h.symm⟩
  | k + 1, v, p, hp => by
    by_cases c : p < e
    · have ec : rd_ch g len p = rd_ch g e p := by unfold rd_ch; rw [if_pos c, if_pos (by omega)]
      unfold rd_nm
      rw [ec]
      split
      · exact rd_nm_lim he k _ (p + 1) (by omega)
      · exact ⟨hp, fun _ => rfl, fun h => Int.le_of_eq h.symm⟩
    · have hpe : p = e := by omega
      have e1 : rd_nm g e (k + 1) v p = (v, p) := by
        unfold rd_nm
        rw [if_neg]
        unfold rd_ch
        rw [if_neg c]; omega
      rw [e1]
      exact ⟨hp, fun h => absurd h c, fun _ => by have := rd_nm_ge (g := g) (len := len) (k + 1) v p; omega⟩
theorem rd_pl_ge {g : Nat → Int32} {len : Int} : ∀ (k : Nat) (p n : Int), (rd_nm g len 2 (-1) p).2 ≤ (rd_pl g len (k + 1) p n).2.1 ∧ (¬ ((rd_nm g len 2 (-1) p).1 < 0 ∨ ¬ rd_ch g len (rd_nm g len 2 (-1) p).2 = 58) → (rd_nm g len 3 (-1) ((rd_nm g len 2 (-1) p).2 + 1)).2 ≤ (rd_pl g len (k + 1) p n).2.1) := by
  intro k
  induction k with
  | zero =>
    intro p n
    have h2 := rd_nm_ge (g := g) (len := len) 3 (-1) ((rd_nm g len 2 (-1) p).2 + 1)
    unfold rd_pl
    split
    · rename_i c; exact ⟨Int.le_refl _, fun h => absurd c h⟩
    · split
      · exact ⟨by dsimp only; omega, fun _ => Int.le_refl _⟩
      · split
        · exact ⟨by dsimp only; omega, fun _ => Int.le_refl _⟩
        · split
          · exact ⟨by unfold rd_pl; dsimp only; omega, fun _ => by unfold rd_pl; dsimp only; omega⟩
          · exact ⟨by dsimp only; omega, fun _ => Int.le_refl _⟩
  | succ k ih =>
    intro p n
    have h2 := rd_nm_ge (g := g) (len := len) 3 (-1) ((rd_nm g len 2 (-1) p).2 + 1)
    rw [rd_pl]
    split
    · rename_i c; exact ⟨Int.le_refl _, fun h => absurd c h⟩
    · split
      · exact ⟨by dsimp only; omega, fun _ => Int.le_refl _⟩
      · split
        · exact ⟨by dsimp only; omega, fun _ => Int.le_refl _⟩
        · split
          · have h3 := (ih ((rd_nm g len 3 (-1) ((rd_nm g len 2 (-1) p).2 + 1)).2 + 1) (n + 1)).1
            have h4 := rd_nm_ge (g := g) (len := len) 2 (-1) ((rd_nm g len 3 (-1) ((rd_nm g len 2 (-1) p).2 + 1)).2 + 1)
            exact ⟨by omega, fun _ => by omega⟩
          · exact ⟨by dsimp only; omega, fun _ => Int.le_refl _⟩
theorem rd_ch_lim {g : Nat → Int32} {len e p : Int} (he : e ≤ len) (hp : p < e) : rd_ch g len p = rd_ch g e p := by unfold rd_ch; rw [if_pos hp, if_pos (by omega)]
theorem rd_ch_no {g : Nat → Int32} {len p : Int} (h : len ≤ p) : rd_ch g len p = -1 := by unfold rd_ch; rw [if_neg (by omega)]
theorem rd_pl_lim {g : Nat → Int32} {len e : Int} (he : e ≤ len) : ∀ (k : Nat) (p n : Int), p ≤ e → (rd_pl g e k p n).2.1 ≤ e ∧ ((rd_pl g e k p n).2.1 < e → rd_pl g len k p n = rd_pl g e k p n) ∧ ((rd_pl g e k p n).2.1 = e → e ≤ (rd_pl g len k p n).2.1) := by
  intro k
  induction k with
  | zero => intro p n hp; exact ⟨hp, fun _ => rfl, fun h => Int.le_of_eq h.symm⟩
  | succ k ih =>
    intro p n hp
    have A := rd_nm_lim (g := g) he 2 (-1) p hp
    have G := rd_pl_ge (g := g) (len := len) k p n
    by_cases ca : (rd_nm g e 2 (-1) p).2 < e
    · have ea := A.2.1 ca
      have ec := rd_ch_lim (g := g) he ca
      have B := rd_nm_lim (g := g) he 3 (-1) ((rd_nm g e 2 (-1) p).2 + 1) (by omega)
      by_cases c1 : (rd_nm g e 2 (-1) p).1 < 0 ∨ ¬ rd_ch g e (rd_nm g e 2 (-1) p).2 = 58
      · have x1 : rd_pl g e (k + 1) p n = (0, (rd_nm g e 2 (-1) p).2, n) := by rw [rd_pl, if_pos c1]
        have x2 : rd_pl g len (k + 1) p n = (0, (rd_nm g e 2 (-1) p).2, n) := by rw [rd_pl, ea, ec, if_pos c1]
        rw [x1, x2]
        exact ⟨by dsimp only; omega, fun _ => rfl, fun h => Int.le_of_eq h.symm⟩
      · by_cases cb : (rd_nm g e 3 (-1) ((rd_nm g e 2 (-1) p).2 + 1)).2 < e
        · have eb := B.2.1 cb
          have ed := rd_ch_lim (g := g) he cb
          by_cases c2 : (rd_nm g e 3 (-1) ((rd_nm g e 2 (-1) p).2 + 1)).1 < 0
          · have x1 : rd_pl g e (k + 1) p n = (0, (rd_nm g e 3 (-1) ((rd_nm g e 2 (-1) p).2 + 1)).2, n) := by rw [rd_pl, if_neg c1, if_pos c2]
            have x2 : rd_pl g len (k + 1) p n = (0, (rd_nm g e 3 (-1) ((rd_nm g e 2 (-1) p).2 + 1)).2, n) := by rw [rd_pl, ea, ec, if_neg c1, eb, if_pos c2]
            rw [x1, x2]
            exact ⟨by dsimp only; omega, fun _ => rfl, fun h => Int.le_of_eq h.symm⟩
          · by_cases c4 : rd_ch g e (rd_nm g e 3 (-1) ((rd_nm g e 2 (-1) p).2 + 1)).2 = 59
            · have x1 : rd_pl g e (k + 1) p n = rd_pl g e k ((rd_nm g e 3 (-1) ((rd_nm g e 2 (-1) p).2 + 1)).2 + 1) (n + 1) := by rw [rd_pl, if_neg c1, if_neg c2, if_neg (by omega), if_pos c4]
              have x2 : rd_pl g len (k + 1) p n = rd_pl g len k ((rd_nm g e 3 (-1) ((rd_nm g e 2 (-1) p).2 + 1)).2 + 1) (n + 1) := by rw [rd_pl, ea, ec, if_neg c1, eb, if_neg c2, if_neg (by omega), ed, if_pos c4]
              rw [x1, x2]
              exact ih _ _ (by omega)
            · have x1 : rd_pl g e (k + 1) p n = (0, (rd_nm g e 3 (-1) ((rd_nm g e 2 (-1) p).2 + 1)).2, n) := by rw [rd_pl, if_neg c1, if_neg c2, if_neg (by omega), if_neg c4]
              have x2 : rd_pl g len (k + 1) p n = (0, (rd_nm g e 3 (-1) ((rd_nm g e 2 (-1) p).2 + 1)).2, n) := by rw [rd_pl, ea, ec, if_neg c1, eb, if_neg c2, if_neg (by omega), ed, if_neg c4]
              rw [x1, x2]
              exact ⟨by dsimp only; omega, fun _ => rfl, fun h => Int.le_of_eq h.symm⟩
        · have hb : (rd_nm g e 3 (-1) ((rd_nm g e 2 (-1) p).2 + 1)).2 = e := by omega
          have hq : (rd_pl g e (k + 1) p n).2.1 = e := by
            rw [rd_pl, if_neg c1]
            split
            · exact hb
            · rw [if_pos (by omega)]; exact hb
          have G2 := G.2 (by rw [ea, ec]; exact c1)
          rw [ea] at G2
          have B2 := B.2.2 hb
          exact ⟨by omega, fun h => absurd h (by omega), fun _ => by omega⟩
    · have ha : (rd_nm g e 2 (-1) p).2 = e := by omega
      have hq : (rd_pl g e (k + 1) p n).2.1 = e := by
        rw [rd_pl, if_pos (Or.inr (by rw [ha, rd_ch_no (Int.le_refl e)]; decide))]; exact ha
      have A2 := A.2.2 ha
      exact ⟨by omega, fun h => absurd h (by omega), fun _ => by omega⟩
theorem rd_pl_ok {g : Nat → Int32} {len : Int} : ∀ (k : Nat) (p n : Int), ((rd_pl g len k p n).1 = 0 ∨ (rd_pl g len k p n).1 = 1) ∧ ((rd_pl g len k p n).1 = 1 → len ≤ (rd_pl g len k p n).2.1) := by
  intro k
  induction k with
  | zero => intro p n; unfold rd_pl; exact ⟨Or.inl rfl, fun h => absurd (show (0 : Int) = 1 from h) (by decide)⟩
  | succ k ih =>
    intro p n
    rw [rd_pl]
    split
    · exact ⟨Or.inl rfl, fun h => absurd (show (0 : Int) = 1 from h) (by decide)⟩
    · split
      · exact ⟨Or.inl rfl, fun h => absurd (show (0 : Int) = 1 from h) (by decide)⟩
      · split
        · rename_i c
          exact ⟨Or.inr rfl, fun _ => c⟩
        · split
          · exact ih _ _
          · exact ⟨Or.inl rfl, fun h => absurd (show (0 : Int) = 1 from h) (by decide)⟩
theorem rd_two {g : Nat → Int32} {len e k p n OK QQ MM ok q m : Int} (he : e ≤ len) (hp : p ≤ e) (h1 : li_pq g len k p n OK QQ MM) (h2 : li_pq g e k p n ok q m) : q ≤ e ∧ (q < e → OK = ok ∧ QQ = q ∧ MM = m) ∧ (q = e → e ≤ QQ) ∧ (ok = 1 → q = e) ∧ (e = len → OK = ok ∧ QQ = q ∧ MM = m) ∧ (ok = 0 ∨ ok = 1) := by
  have inj : ∀ {a b c a' b' c' : Int}, (a, b, c) = (a', b', c') → a = a' ∧ b = b' ∧ c = c' := fun z => by
    have z1 := Prod.mk.inj z
    have z2 := Prod.mk.inj z1.2
    exact ⟨z1.1, z2.1, z2.2⟩
  have L := rd_pl_lim (g := g) he k.toNat p n hp
  have O := rd_pl_ok (g := g) (len := e) k.toNat p n
  unfold li_pq at h1 h2
  have hq : e = len → OK = ok ∧ QQ = q ∧ MM = m := fun c => by
    subst c
    rw [h1] at h2
    exact inj h2
  rw [h1, h2] at L
  rw [h2] at O
  dsimp only at L O
  refine ⟨L.1, fun c => inj (L.2.1 c), L.2.2, fun c => ?_, hq, O.1⟩
  have h3 := O.2 c
  have h4 := L.1
  omega

