theorem rp_k0 {R : rp_R} {g : Nat → Int32} {len d p ok q : Int} (h : rp_st R g len 0 d p ok q) : rp_ex R g len d p ok q := by
  rcases h with ⟨e, a⟩ | ⟨e, a⟩ | ⟨e, a⟩ | ⟨e, a⟩ | ⟨e, a⟩ | ⟨e, a⟩ | ⟨e, a⟩
  · exact a
  · exact absurd e (by decide)
  · exact absurd e (by decide)
  · exact absurd e (by decide)
  · exact absurd e (by decide)
  · exact absurd e (by decide)
  · exact absurd e (by decide)
theorem rp_k1 {R : rp_R} {g : Nat → Int32} {len d p ok q : Int} (h : rp_st R g len 1 d p ok q) : rp_hd R 3 2 d p ok q := by
  rcases h with ⟨e, a⟩ | ⟨e, a⟩ | ⟨e, a⟩ | ⟨e, a⟩ | ⟨e, a⟩ | ⟨e, a⟩ | ⟨e, a⟩
  · exact absurd e (by decide)
  · exact a
  · exact absurd e (by decide)
  · exact absurd e (by decide)
  · exact absurd e (by decide)
  · exact absurd e (by decide)
  · exact absurd e (by decide)
theorem rp_k2 {R : rp_R} {g : Nat → Int32} {len d p ok q : Int} (h : rp_st R g len 2 d p ok q) : rp_rs rp_add R g len 3 2 d p ok q := by
  rcases h with ⟨e, a⟩ | ⟨e, a⟩ | ⟨e, a⟩ | ⟨e, a⟩ | ⟨e, a⟩ | ⟨e, a⟩ | ⟨e, a⟩
  · exact absurd e (by decide)
  · exact absurd e (by decide)
  · exact a
  · exact absurd e (by decide)
  · exact absurd e (by decide)
  · exact absurd e (by decide)
  · exact absurd e (by decide)
theorem rp_k3 {R : rp_R} {g : Nat → Int32} {len d p ok q : Int} (h : rp_st R g len 3 d p ok q) : rp_hd R 5 4 d p ok q := by
  rcases h with ⟨e, a⟩ | ⟨e, a⟩ | ⟨e, a⟩ | ⟨e, a⟩ | ⟨e, a⟩ | ⟨e, a⟩ | ⟨e, a⟩
  · exact absurd e (by decide)
  · exact absurd e (by decide)
  · exact absurd e (by decide)
  · exact a
  · exact absurd e (by decide)
  · exact absurd e (by decide)
  · exact absurd e (by decide)
theorem rp_k4 {R : rp_R} {g : Nat → Int32} {len d p ok q : Int} (h : rp_st R g len 4 d p ok q) : rp_rs rp_mul R g len 5 4 d p ok q := by
  rcases h with ⟨e, a⟩ | ⟨e, a⟩ | ⟨e, a⟩ | ⟨e, a⟩ | ⟨e, a⟩ | ⟨e, a⟩ | ⟨e, a⟩
  · exact absurd e (by decide)
  · exact absurd e (by decide)
  · exact absurd e (by decide)
  · exact absurd e (by decide)
  · exact a
  · exact absurd e (by decide)
  · exact absurd e (by decide)
theorem rp_k5 {R : rp_R} {g : Nat → Int32} {len d p ok q : Int} (h : rp_st R g len 5 d p ok q) : rp_pt R g len d p ok q := by
  rcases h with ⟨e, a⟩ | ⟨e, a⟩ | ⟨e, a⟩ | ⟨e, a⟩ | ⟨e, a⟩ | ⟨e, a⟩ | ⟨e, a⟩
  · exact absurd e (by decide)
  · exact absurd e (by decide)
  · exact absurd e (by decide)
  · exact absurd e (by decide)
  · exact absurd e (by decide)
  · exact a
  · exact absurd e (by decide)
theorem rp_k6 {R : rp_R} {g : Nat → Int32} {len d p ok q : Int} (h : rp_st R g len 6 d p ok q) : rp_at R g len d p ok q := by
  rcases h with ⟨e, a⟩ | ⟨e, a⟩ | ⟨e, a⟩ | ⟨e, a⟩ | ⟨e, a⟩ | ⟨e, a⟩ | ⟨e, a⟩
  · exact absurd e (by decide)
  · exact absurd e (by decide)
  · exact absurd e (by decide)
  · exact absurd e (by decide)
  · exact absurd e (by decide)
  · exact absurd e (by decide)
  · exact a
theorem rp_fun {g : Nat → Int32} {len : Int} : ∀ n k d p ok q, rp_n g len n k d p ok q → ∀ ok' q', rpr g len k d p ok' q' → ok' = ok ∧ q' = q := by
  intro n
  induction n with
  | zero => intro k d p ok q h; exact absurd h id
  | succ n ih =>
    have hd : ∀ s r d p ok q, rp_hd (rp_n g len n) s r d p ok q → ∀ ok' q', rp_hd (rpr g len) s r d p ok' q' → ok' = ok ∧ q' = q := by
      intro s r d p ok q h ok' q' h'
      rcases h with ⟨a, b⟩ | ⟨q1, a, b⟩
      · rcases h' with ⟨a', b'⟩ | ⟨q1', a', b'⟩
        · exact ⟨by omega, (ih _ _ _ _ _ a _ _ a').2⟩
        · have z := (ih _ _ _ _ _ a _ _ a').1
          omega
      · rcases h' with ⟨a', b'⟩ | ⟨q1', a', b'⟩
        · have z := (ih _ _ _ _ _ a _ _ a').1
          omega
        · have z := (ih _ _ _ _ _ a _ _ a').2
          subst z
          exact ih _ _ _ _ _ b _ _ b'
    have rs : ∀ (C : Int → Prop) s r d p ok q, rp_rs C (rp_n g len n) g len s r d p ok q → ∀ ok' q', rp_rs C (rpr g len) g len s r d p ok' q' → ok' = ok ∧ q' = q := by
      intro C s r d p ok q h ok' q' h'
      rcases h with ⟨a, b, c⟩ | ⟨a, b⟩
      · rcases h' with ⟨_, b', c'⟩ | ⟨a', _⟩
        · exact ⟨by omega, by omega⟩
        · exact absurd a' a
      · rcases h' with ⟨a', _, _⟩ | ⟨_, b'⟩
        · exact absurd a a'
        · exact hd _ _ _ _ _ _ b _ _ b'
    intro k d p ok q h ok' q' h'
    have h' := rp_out h'
    rcases h with ⟨e, a⟩ | ⟨e, a⟩ | ⟨e, a⟩ | ⟨e, a⟩ | ⟨e, a⟩ | ⟨e, a⟩ | ⟨e, a⟩
    · subst e
      have y := rp_k0 h'
      rcases a with ⟨a, b⟩ | ⟨a, b, c⟩ | ⟨q1, a, b, c⟩
      · rcases y with ⟨a', b'⟩ | ⟨a', _⟩ | ⟨q1', a', _⟩
        · exact ⟨by omega, (ih _ _ _ _ _ a _ _ a').2⟩
        · have z := (ih _ _ _ _ _ a _ _ a').1
          omega
        · have z := (ih _ _ _ _ _ a _ _ a').1
          omega
      · rcases y with ⟨a', b'⟩ | ⟨a', b', c'⟩ | ⟨q1', a', b', c'⟩
        · have z := (ih _ _ _ _ _ a _ _ a').1
          omega
        · exact ⟨by omega, (ih _ _ _ _ _ a _ _ a').2⟩
        · have z := (ih _ _ _ _ _ a _ _ a').2
          subst z
          exact absurd b' b
      · rcases y with ⟨a', b'⟩ | ⟨a', b', c'⟩ | ⟨q1', a', b', c'⟩
        · have z := (ih _ _ _ _ _ a _ _ a').1
          omega
        · have z := (ih _ _ _ _ _ a _ _ a').2
          subst z
          exact absurd b b'
        · have z := (ih _ _ _ _ _ a _ _ a').2
          subst z
          exact ih _ _ _ _ _ c _ _ c'
    · subst e
      exact hd _ _ _ _ _ _ a _ _ (rp_k1 h')
    · subst e
      exact rs _ _ _ _ _ _ _ a _ _ (rp_k2 h')
    · subst e
      exact hd _ _ _ _ _ _ a _ _ (rp_k3 h')
    · subst e
      exact rs _ _ _ _ _ _ _ a _ _ (rp_k4 h')
    · subst e
      rcases a with ⟨a, b⟩ | ⟨a, b⟩
      · rcases rp_k5 h' with ⟨_, b'⟩ | ⟨a', _⟩
        · exact ih _ _ _ _ _ b _ _ b'
        · exact absurd a a'
      · rcases rp_k5 h' with ⟨a', _⟩ | ⟨_, b'⟩
        · exact absurd a' a
        · exact ih _ _ _ _ _ b _ _ b'
    · subst e
      have y := rp_k6 h'
      rcases a with ⟨c, a⟩ | ⟨c, a⟩
      · rcases y with ⟨_, y⟩ | ⟨c', _⟩
        · rcases a with ⟨a, b⟩ | ⟨q1, a, b⟩
          · rcases y with ⟨a', b'⟩ | ⟨q1', a', b'⟩
            · exact ⟨by omega, (ih _ _ _ _ _ a _ _ a').2⟩
            · have z := (ih _ _ _ _ _ a _ _ a').1
              omega
          · rcases y with ⟨a', b'⟩ | ⟨q1', a', b'⟩
            · have z := (ih _ _ _ _ _ a _ _ a').1
              omega
            · have z := (ih _ _ _ _ _ a _ _ a').2
              subst z
              rcases b with ⟨u, v, w⟩ | ⟨u, v, w⟩
              · rcases b' with ⟨u', v', w'⟩ | ⟨u', v', w'⟩
                · exact ⟨by omega, by omega⟩
                · exact absurd u u'
              · rcases b' with ⟨u', v', w'⟩ | ⟨u', v', w'⟩
                · exact absurd u' u
                · exact ⟨by omega, by omega⟩
        · exact absurd c c'
      · rcases y with ⟨c', _⟩ | ⟨_, y⟩
        · exact absurd c' c
        · rcases a with ⟨u, v, w⟩ | ⟨u, r, x, f⟩
          · rcases y with ⟨_, v', w'⟩ | ⟨u', _⟩
            · exact ⟨by omega, by omega⟩
            · exact absurd u u'
          · rcases y with ⟨u', _⟩ | ⟨_, r', x', f'⟩
            · exact absurd u' u
            · have z1 := Prod.mk.inj (x.symm.trans x')
              refine ⟨?_, z1.2.symm⟩
              have z2 := z1.1
              rcases f with f | f <;> rcases f' with f' | f' <;> omega
theorem rule_eq {g : Nat → Int32} {LN TY r1 r2 : Int} {P : Prop} (h1 : ∃ ok q : Int, ((LN = 0 ∧ ok = 1 ∧ q = 0) ∨ (0 < LN ∧ rpr g LN 0 0 0 ok q)) ∧ 0 ≤ q ∧ q ≤ LN ∧ ((ok = 1 ∧ LN ≤ q ∧ LN ≤ 40 ∧ r1 = 0) ∨ (ok = 1 ∧ LN ≤ q ∧ 40 < LN ∧ r1 = -1 - 40) ∨ (¬ (ok = 1 ∧ LN ≤ q) ∧ q ≤ 40 ∧ r1 = -1 - q) ∨ (¬ (ok = 1 ∧ LN ≤ q) ∧ 40 < q ∧ r1 = -1 - 40)) ∧ P) (h2 : ((TY = 0 ∧ r2 = 0) ∨ (0 < TY ∧ ∃ ok q : Int, rpr g (min TY 40) 0 0 0 ok q ∧ 0 ≤ q ∧ q ≤ min TY 40 ∧ ((ok = 1 ∧ TY ≤ q ∧ r2 = 0) ∨ (¬ (ok = 1 ∧ TY ≤ q) ∧ r2 = -1 - q))))) (e : TY = LN) : r1 = r2 := by
  subst e
  obtain ⟨ok, q, hA, a1, a2, h1, -⟩ := h1
  rcases h2 with ⟨t0, r0⟩ | ⟨t0, ok', q', hB, b1, b2, h2⟩
  · rcases hA with ⟨x, y, z⟩ | ⟨x, y⟩
    · rcases h1 with h1 | h1 | h1 | h1 <;> omega
    · omega
  · rcases hA with ⟨x, y, z⟩ | ⟨x, y⟩
    · omega
    · obtain ⟨n, hn⟩ := hB
      by_cases d : TY ≤ 40
      · have f := rp_fun n 0 0 0 ok' q' hn ok q (by rw [show min TY 40 = TY by omega]; exact y)
        obtain ⟨f1, f2⟩ := f
        subst f1; subst f2
        rcases h1 with h1 | h1 | h1 | h1 <;> rcases h2 with h2 | h2 <;> omega
      · have W := (rp_win (g := g) (len := TY) (e := min TY 40) (by omega) n 0 0 0 ok' q' hn (by omega)).2 ok q y
        obtain ⟨W1, W2⟩ := W
        by_cases c : q' < min TY 40
        · obtain ⟨u, v⟩ := W1 c
          rcases h1 with h1 | h1 | h1 | h1 <;> rcases h2 with h2 | h2 <;> omega
        · have w2 := W2 (by omega)
          rcases h1 with h1 | h1 | h1 | h1 <;> rcases h2 with h2 | h2 <;> omega

