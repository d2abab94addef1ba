abbrev rp_R := Nat → Int → Int → Int → Int → Prop
def rp_cmp (c : Int) : Prop := c = 60 ∨ c = 62 ∨ c = 61
def rp_add (c : Int) : Prop := c = 43 ∨ c = 45
def rp_mul (c : Int) : Prop := c = 42 ∨ c = 47
def rp_let (c : Int) : Prop := c = 108 ∨ c = 119 ∨ c = 115 ∨ c = 99 ∨ c = 100 ∨ c = 104
theorem rp_cmp_nn {c : Int} (h : rp_cmp c) : 0 ≤ c := by unfold rp_cmp at h; omega
theorem rp_add_nn {c : Int} (h : rp_add c) : 0 ≤ c := by unfold rp_add at h; omega
theorem rp_mul_nn {c : Int} (h : rp_mul c) : 0 ≤ c := by unfold rp_mul at h; omega
theorem rp_let_nn {c : Int} (h : rp_let c) : 0 ≤ c := by unfold rp_let at h; omega
def rp_ex (R : rp_R) (g : Nat → Int32) (len d p ok q : Int) : Prop := (R 1 d p 0 q ∧ ok = 0) ∨ (R 1 d p 1 q ∧ ¬ rp_cmp (rd_ch g len q) ∧ ok = 1) ∨ ∃ q1, R 1 d p 1 q1 ∧ rp_cmp (rd_ch g len q1) ∧ R 1 d (q1 + 1) ok q
def rp_hd (R : rp_R) (s r : Nat) (d p ok q : Int) : Prop := (R s d p 0 q ∧ ok = 0) ∨ ∃ q1, R s d p 1 q1 ∧ R r d q1 ok q
def rp_rs (C : Int → Prop) (R : rp_R) (g : Nat → Int32) (len : Int) (s r : Nat) (d p ok q : Int) : Prop := (¬ C (rd_ch g len p) ∧ ok = 1 ∧ q = p) ∨ (C (rd_ch g len p) ∧ rp_hd R s r d (p + 1) ok q)
def rp_pt (R : rp_R) (g : Nat → Int32) (len d p ok q : Int) : Prop := (rd_ch g len p = 45 ∧ R 5 d (p + 1) ok q) ∨ (¬ rd_ch g len p = 45 ∧ R 6 d p ok q)
def rp_br (R : rp_R) (g : Nat → Int32) (len d p ok q : Int) : Prop := (R 0 (d + 1) (p + 1) 0 q ∧ ok = 0) ∨ ∃ q1, R 0 (d + 1) (p + 1) 1 q1 ∧ ((rd_ch g len q1 = 41 ∧ ok = 1 ∧ q = q1 + 1) ∨ (¬ rd_ch g len q1 = 41 ∧ ok = 0 ∧ q = q1))
def rp_pl (g : Nat → Int32) (len p ok q : Int) : Prop := (rp_let (rd_ch g len p) ∧ ok = 1 ∧ q = p + 1) ∨ (¬ rp_let (rd_ch g len p) ∧ ∃ r, li_nq g len 3 (-1) p r q ∧ ((0 ≤ r ∧ ok = 1) ∨ (r < 0 ∧ ok = 0)))
def rp_at (R : rp_R) (g : Nat → Int32) (len d p ok q : Int) : Prop := ((rd_ch g len p = 40 ∧ d < 4) ∧ rp_br R g len d p ok q) ∨ (¬ (rd_ch g len p = 40 ∧ d < 4) ∧ rp_pl g len p ok q)
/-- kinds: 0 a comparison, 1 a sum, 2 its rest, 3 a product, 4 its rest, 5 a part, 6 what stands behind its signs -/
def rp_st (R : rp_R) (g : Nat → Int32) (len : Int) (k : Nat) (d p ok q : Int) : Prop :=
  (k = 0 ∧ rp_ex R g len d p ok q) ∨ (k = 1 ∧ rp_hd R 3 2 d p ok q) ∨ (k = 2 ∧ rp_rs rp_add R g len 3 2 d p ok q) ∨ (k = 3 ∧ rp_hd R 5 4 d p ok q) ∨ (k = 4 ∧ rp_rs rp_mul R g len 5 4 d p ok q) ∨ (k = 5 ∧ rp_pt R g len d p ok q) ∨ (k = 6 ∧ rp_at R g len d p ok q)
def rp_n (g : Nat → Int32) (len : Int) : Nat → rp_R
  | 0 => fun _ _ _ _ _ => False
  | n + 1 => rp_st (rp_n g len n) g len
def rpr (g : Nat → Int32) (len : Int) : rp_R := fun k d p ok q => ∃ n, rp_n g len n k d p ok q
theorem rp_hd_mo {R S : rp_R} (h : ∀ k d p ok q, R k d p ok q → S k d p ok q) {s r : Nat} {d p ok q : Int} (x : rp_hd R s r d p ok q) : rp_hd S s r d p ok q := by
  rcases x with ⟨a, b⟩ | ⟨q1, a, b⟩
  · exact Or.inl ⟨h _ _ _ _ _ a, b⟩
  · exact Or.inr ⟨q1, h _ _ _ _ _ a, h _ _ _ _ _ b⟩
theorem rp_ex_mo {R S : rp_R} (h : ∀ k d p ok q, R k d p ok q → S k d p ok q) {g : Nat → Int32} {len d p ok q : Int} (x : rp_ex R g len d p ok q) : rp_ex S g len d p ok q := by
  rcases x with ⟨a, b⟩ | ⟨a, b⟩ | ⟨q1, a, b, c⟩
  · exact Or.inl ⟨h _ _ _ _ _ a, b⟩
  · exact Or.inr (Or.inl ⟨h _ _ _ _ _ a, b⟩)
  · exact Or.inr (Or.inr ⟨q1, h _ _ _ _ _ a, b, h _ _ _ _ _ c⟩)
theorem rp_rs_mo {C : Int → Prop} {R S : rp_R} (h : ∀ k d p ok q, R k d p ok q → S k d p ok q) {g : Nat → Int32} {len : Int} {s r : Nat} {d p ok q : Int} (x : rp_rs C R g len s r d p ok q) : rp_rs C S g len s r d p ok q := by
  rcases x with a | ⟨a, b⟩
  · exact Or.inl a
  · exact Or.inr ⟨a, rp_hd_mo h b⟩
theorem rp_pt_mo {R S : rp_R} (h : ∀ k d p ok q, R k d p ok q → S k d p ok q) {g : Nat → Int32} {len d p ok q : Int} (x : rp_pt R g len d p ok q) : rp_pt S g len d p ok q := by
  rcases x with ⟨a, b⟩ | ⟨a, b⟩
  · exact Or.inl ⟨a, h _ _ _ _ _ b⟩
  · exact Or.inr ⟨a, h _ _ _ _ _ b⟩
theorem rp_at_mo {R S : rp_R} (h : ∀ k d p ok q, R k d p ok q → S k d p ok q) {g : Nat → Int32} {len d p ok q : Int} (x : rp_at R g len d p ok q) : rp_at S g len d p ok q := by
  rcases x with ⟨a, b⟩ | b
  · rcases b with ⟨u, v⟩ | ⟨q1, u, v⟩
    · exact Or.inl ⟨a, Or.inl ⟨h _ _ _ _ _ u, v⟩⟩
    · exact Or.inl ⟨a, Or.inr ⟨q1, h _ _ _ _ _ u, v⟩⟩
  · exact Or.inr b
theorem rp_st_mo {R S : rp_R} (h : ∀ k d p ok q, R k d p ok q → S k d p ok q) {g : Nat → Int32} {len : Int} {k : Nat} {d p ok q : Int} (x : rp_st R g len k d p ok q) : rp_st S g len k d p ok q := by
  rcases x with ⟨e, a⟩ | ⟨e, a⟩ | ⟨e, a⟩ | ⟨e, a⟩ | ⟨e, a⟩ | ⟨e, a⟩ | ⟨e, a⟩
  · exact Or.inl ⟨e, rp_ex_mo h a⟩
  · exact Or.inr (Or.inl ⟨e, rp_hd_mo h a⟩)
  · exact Or.inr (Or.inr (Or.inl ⟨e, rp_rs_mo h a⟩))
  · exact Or.inr (Or.inr (Or.inr (Or.inl ⟨e, rp_hd_mo h a⟩)))
  · exact Or.inr (Or.inr (Or.inr (Or.inr (Or.inl ⟨e, rp_rs_mo h a⟩))))
  · exact Or.inr (Or.inr (Or.inr (Or.inr (Or.inr (Or.inl ⟨e, rp_pt_mo h a⟩)))))
  · exact Or.inr (Or.inr (Or.inr (Or.inr (Or.inr (Or.inr ⟨e, rp_at_mo h a⟩)))))
theorem rp_n_up {g : Nat → Int32} {len : Int} : ∀ n k d p ok q, rp_n g len n k d p ok q → rp_n g len (n + 1) k d p ok q
  | 0, _, _, _, _, _, h => absurd h id
  | n + 1, k, d, p, ok, q, h => rp_st_mo (R := rp_n g len n) (S := rp_n g len (n + 1)) (rp_n_up n) (g := g) (len := len) h
theorem rp_n_le {g : Nat → Int32} {len : Int} {n k : Nat} {d p ok q : Int} (h : rp_n g len n k d p ok q) : ∀ m, rp_n g len (n + m) k d p ok q
  | 0 => h
  | m + 1 => rp_n_up _ _ _ _ _ _ (rp_n_le h m)
theorem rp_out {g : Nat → Int32} {len : Int} {k : Nat} {d p ok q : Int} (h : rpr g len k d p ok q) : rp_st (rpr g len) g len k d p ok q := by
  obtain ⟨n, h⟩ := h
  cases n with
  | zero => exact absurd h id
  | succ n => exact rp_st_mo (R := rp_n g len n) (fun k d p ok q a => ⟨n, a⟩) h
theorem rp_two {g : Nat → Int32} {len : Int} {k k' : Nat} {d p ok q d' p' ok' q' : Int} (h : rpr g len k d p ok q) (h' : rpr g len k' d' p' ok' q') : ∃ n, rp_n g len n k d p ok q ∧ rp_n g len n k' d' p' ok' q' := by
  obtain ⟨n, a⟩ := h
  obtain ⟨m, b⟩ := h'
  exact ⟨n + m, rp_n_le a m, by rw [Nat.add_comm]; exact rp_n_le b n⟩
theorem rp_up {g : Nat → Int32} {len : Int} {k n : Nat} {d p ok q : Int} (h : rp_st (rp_n g len n) g len k d p ok q) : rpr g len k d p ok q := ⟨n + 1, h⟩
theorem rp_hd_in {g : Nat → Int32} {len : Int} {s r : Nat} {d p ok q : Int} (x : rp_hd (rpr g len) s r d p ok q) : ∃ n, rp_hd (rp_n g len n) s r d p ok q := by
  rcases x with ⟨⟨n, a⟩, b⟩ | ⟨q1, a, b⟩
  · exact ⟨n, Or.inl ⟨a, b⟩⟩
  · obtain ⟨n, u, v⟩ := rp_two a b
    exact ⟨n, Or.inr ⟨q1, u, v⟩⟩
theorem rp_in0 {g : Nat → Int32} {len d p ok q : Int} (x : rp_ex (rpr g len) g len d p ok q) : rpr g len 0 d p ok q := by
  rcases x with ⟨⟨n, a⟩, b⟩ | ⟨⟨n, a⟩, b⟩ | ⟨q1, a, b, c⟩
  · exact rp_up (n := n) (Or.inl ⟨rfl, Or.inl ⟨a, b⟩⟩)
  · exact rp_up (n := n) (Or.inl ⟨rfl, Or.inr (Or.inl ⟨a, b⟩)⟩)
  · obtain ⟨n, u, v⟩ := rp_two a c
    exact rp_up (n := n) (Or.inl ⟨rfl, Or.inr (Or.inr ⟨q1, u, b, v⟩)⟩)
theorem rp_in1 {g : Nat → Int32} {len d p ok q : Int} (x : rp_hd (rpr g len) 3 2 d p ok q) : rpr g len 1 d p ok q := by
  obtain ⟨n, a⟩ := rp_hd_in x
  exact rp_up (n := n) (Or.inr (Or.inl ⟨rfl, a⟩))
theorem rp_in2 {g : Nat → Int32} {len d p ok q : Int} (x : rp_rs rp_add (rpr g len) g len 3 2 d p ok q) : rpr g len 2 d p ok q := by
  rcases x with a | ⟨a, b⟩
  · exact rp_up (n := 0) (Or.inr (Or.inr (Or.inl ⟨rfl, Or.inl a⟩)))
  · obtain ⟨n, u⟩ := rp_hd_in b
    exact rp_up (n := n) (Or.inr (Or.inr (Or.inl ⟨rfl, Or.inr ⟨a, u⟩⟩)))
theorem rp_in3 {g : Nat → Int32} {len d p ok q : Int} (x : rp_hd (rpr g len) 5 4 d p ok q) : rpr g len 3 d p ok q := by
  obtain ⟨n, a⟩ := rp_hd_in x
  exact rp_up (n := n) (Or.inr (Or.inr (Or.inr (Or.inl ⟨rfl, a⟩))))
theorem rp_in4 {g : Nat → Int32} {len d p ok q : Int} (x : rp_rs rp_mul (rpr g len) g len 5 4 d p ok q) : rpr g len 4 d p ok q := by
  rcases x with a | ⟨a, b⟩
  · exact rp_up (n := 0) (Or.inr (Or.inr (Or.inr (Or.inr (Or.inl ⟨rfl, Or.inl a⟩)))))
  · obtain ⟨n, u⟩ := rp_hd_in b
    exact rp_up (n := n) (Or.inr (Or.inr (Or.inr (Or.inr (Or.inl ⟨rfl, Or.inr ⟨a, u⟩⟩)))))
theorem rp_in5 {g : Nat → Int32} {len d p ok q : Int} (x : rp_pt (rpr g len) g len d p ok q) : rpr g len 5 d p ok q := by
  rcases x with ⟨a, n, b⟩ | ⟨a, n, b⟩
  · exact rp_up (n := n) (Or.inr (Or.inr (Or.inr (Or.inr (Or.inr (Or.inl ⟨rfl, Or.inl ⟨a, b⟩⟩))))))
  · exact rp_up (n := n) (Or.inr (Or.inr (Or.inr (Or.inr (Or.inr (Or.inl ⟨rfl, Or.inr ⟨a, b⟩⟩))))))
theorem rp_in6 {g : Nat → Int32} {len d p ok q : Int} (x : rp_at (rpr g len) g len d p ok q) : rpr g len 6 d p ok q := by
  rcases x with ⟨a, b⟩ | b
  · rcases b with ⟨⟨n, u⟩, v⟩ | ⟨q1, ⟨n, u⟩, v⟩
    · exact rp_up (n := n) (Or.inr (Or.inr (Or.inr (Or.inr (Or.inr (Or.inr ⟨rfl, Or.inl ⟨a, Or.inl ⟨u, v⟩⟩⟩))))))
    · exact rp_up (n := n) (Or.inr (Or.inr (Or.inr (Or.inr (Or.inr (Or.inr ⟨rfl, Or.inl ⟨a, Or.inr ⟨q1, u, v⟩⟩⟩))))))
  · exact rp_up (n := 0) (Or.inr (Or.inr (Or.inr (Or.inr (Or.inr (Or.inr ⟨rfl, Or.inr b⟩))))))
theorem rp_nq_ge {g : Nat → Int32} {len p r q : Int} (h : li_nq g len 3 (-1) p r q) : p ≤ q := by
  have z := rd_nm_ge (g := g) (len := len) (3 : Int).toNat (-1) p
  unfold li_nq at h
  rw [h] at z
  exact z
theorem rp_ge {g : Nat → Int32} {len : Int} : ∀ n k d p ok q, rp_n g len n k d p ok q → p ≤ q ∧ (ok = 0 ∨ ok = 1) := by
  intro n
  induction n with
  | zero => intro k d p ok q h; exact absurd h id
  | succ n ih =>
    have hd : ∀ s r d p ok q, rp_hd (rp_n g len n) s r d p ok q → p ≤ q ∧ (ok = 0 ∨ ok = 1) := by
      intro s r d p ok q x
      rcases x with ⟨a, b⟩ | ⟨q1, a, b⟩
      · exact ⟨(ih _ _ _ _ _ a).1, Or.inl b⟩
      · have u := (ih _ _ _ _ _ a).1
        have v := ih _ _ _ _ _ b
        exact ⟨by omega, v.2⟩
    have rs : ∀ C s r d p ok q, rp_rs C (rp_n g len n) g len s r d p ok q → p ≤ q ∧ (ok = 0 ∨ ok = 1) := by
      intro C s r d p ok q x
      rcases x with ⟨_, b, c⟩ | ⟨_, b⟩
      · exact ⟨by omega, Or.inr b⟩
      · have u := hd _ _ _ _ _ _ b
        exact ⟨by omega, u.2⟩
    intro k d p ok q h
    rcases (show rp_st (rp_n g len n) g len k d p ok q from h) with ⟨_, a⟩ | ⟨_, a⟩ | ⟨_, a⟩ | ⟨_, a⟩ | ⟨_, a⟩ | ⟨_, a⟩ | ⟨_, a⟩
    · rcases a with ⟨a, b⟩ | ⟨a, _, b⟩ | ⟨q1, a, _, c⟩
      · exact ⟨(ih _ _ _ _ _ a).1, Or.inl b⟩
      · exact ⟨(ih _ _ _ _ _ a).1, Or.inr b⟩
      · have u := (ih _ _ _ _ _ a).1
        have v := ih _ _ _ _ _ c
        exact ⟨by omega, v.2⟩
    · exact hd _ _ _ _ _ _ a
    · exact rs _ _ _ _ _ _ _ a
    · exact hd _ _ _ _ _ _ a
    · exact rs _ _ _ _ _ _ _ a
    · rcases a with ⟨_, b⟩ | ⟨_, b⟩
      · have v := ih _ _ _ _ _ b
        exact ⟨by omega, v.2⟩
      · exact ih _ _ _ _ _ b
    · rcases a with ⟨_, b⟩ | ⟨_, b⟩
      · rcases b with ⟨a, b⟩ | ⟨q1, a, b⟩
        · have u := (ih _ _ _ _ _ a).1
          exact ⟨by omega, Or.inl b⟩
        · have u := (ih _ _ _ _ _ a).1
          rcases b with ⟨_, c, e⟩ | ⟨_, c, e⟩
          · exact ⟨by omega, Or.inr c⟩
          · exact ⟨by omega, Or.inl c⟩
      · rcases b with ⟨_, c, e⟩ | ⟨_, r, c, e⟩
        · exact ⟨by omega, Or.inr c⟩
        · have u := rp_nq_ge c
          rcases e with ⟨_, e⟩ | ⟨_, e⟩
          · exact ⟨u, Or.inr e⟩
          · exact ⟨u, Or.inl e⟩
theorem rpr_ge {g : Nat → Int32} {len : Int} {k : Nat} {d p ok q : Int} (h : rpr g len k d p ok q) : p ≤ q ∧ (ok = 0 ∨ ok = 1) := by
  obtain ⟨n, h⟩ := h
  exact rp_ge n k d p ok q h
def rp_w (e ok q ok' q' : Int) : Prop := (q < e → ok' = ok ∧ q' = q) ∧ (e ≤ q → e ≤ q')
theorem rp_nq_lim {g : Nat → Int32} {len e p r q r' q' : Int} (he : e ≤ len) (hp : p ≤ e) (h : li_nq g e 3 (-1) p r q) (h' : li_nq g len 3 (-1) p r' q') : (q < e → r' = r ∧ q' = q) ∧ (e ≤ q → e ≤ q') := by
  have z := rd_nm_lim (g := g) he (3 : Int).toNat (-1) p hp
  unfold li_nq at h h'
  rw [h] at z
  constructor
  · intro c
    have y := z.2.1 c
    rw [h'] at y
    exact ⟨(Prod.mk.inj y).1, (Prod.mk.inj y).2⟩
  · intro c
    have y := z.2.2 (show (r, q).2 = e from Int.le_antisymm z.1 c)
    rw [h'] at y
    exact y
theorem rp_win {g : Nat → Int32} {len e : Int} (he : e ≤ len) : ∀ n k d p ok q, rp_n g e n k d p ok q → p ≤ e → q ≤ e ∧ ∀ ok' q', rpr g len k d p ok' q' → rp_w e ok q ok' q' := by
  have chl : ∀ x, x < e → rd_ch g len x = rd_ch g e x := fun x hx => rd_ch_lim he hx
  have chn : ∀ x, e ≤ x → rd_ch g e x = -1 := fun x hx => rd_ch_no hx
  intro n
  induction n with
  | zero => intro k d p ok q h; exact absurd h id
  | succ n ih =>
    have hd : ∀ s r d p ok q, rp_hd (rp_n g e n) s r d p ok q → p ≤ e → q ≤ e ∧ ∀ ok' q', rp_hd (rpr g len) s r d p ok' q' → rp_w e ok q ok' q' := by
      intro s r d p ok q x hp
      rcases x with ⟨a, b⟩ | ⟨q1, a, b⟩
      · have i := ih _ _ _ _ _ a hp
        refine ⟨i.1, fun ok' q' y => ?_⟩
        rcases y with ⟨a', b'⟩ | ⟨q1', a', b'⟩
        · have w := i.2 _ _ a'
          exact ⟨fun c => ⟨by omega, (w.1 c).2⟩, w.2⟩
        · have w := i.2 _ _ a'
          have v := (rpr_ge b').1
          exact ⟨fun c => absurd (w.1 c).1 (by omega), fun c => by have := w.2 c; omega⟩
      · have i := ih _ _ _ _ _ a hp
        have j := ih _ _ _ _ _ b i.1
        have gb := (rp_ge _ _ _ _ _ _ b).1
        refine ⟨j.1, fun ok' q' y => ?_⟩
        rcases y with ⟨a', b'⟩ | ⟨q1', a', b'⟩
        · have w := i.2 _ _ a'
          refine ⟨fun c => absurd (w.1 (by omega)).1 (by omega), fun c => ?_⟩
          by_cases c1 : q1 < e
          · exact absurd (w.1 c1).1 (by omega)
          · exact w.2 (by omega)
        · have w := i.2 _ _ a'
          by_cases c1 : q1 < e
          · have f := (w.1 c1).2
            subst f
            exact j.2 _ _ b'
          · have u := w.2 (by omega)
            have v := (rpr_ge b').1
            exact ⟨fun c => absurd c (by omega), fun _ => by omega⟩
    have rs : ∀ (C : Int → Prop), (∀ c, C c → 0 ≤ c) → ∀ s r d p ok q, rp_rs C (rp_n g e n) g e s r d p ok q → p ≤ e → q ≤ e ∧ ∀ ok' q', rp_rs C (rpr g len) g len s r d p ok' q' → rp_w e ok q ok' q' := by
      intro C hC s r d p ok q x hp
      rcases x with ⟨a, b, c⟩ | ⟨a, b⟩
      · refine ⟨by omega, fun ok' q' y => ?_⟩
        rcases y with ⟨_, b', c'⟩ | ⟨a', b'⟩
        · exact ⟨fun _ => ⟨by omega, by omega⟩, fun _ => by omega⟩
        · refine ⟨fun z => absurd a' (by rw [chl p (by omega)]; exact a), fun z => ?_⟩
          rcases b' with ⟨u, _⟩ | ⟨q1, u, v⟩
          · have := (rpr_ge u).1
            omega
          · have := (rpr_ge u).1
            have := (rpr_ge v).1
            omega
      · have hpe : p < e := by
          have := hC _ a
          by_cases z : p < e
          · exact z
          · rw [chn p (by omega)] at this
            omega
        have i := hd _ _ _ _ _ _ b (by omega)
        refine ⟨i.1, fun ok' q' y => ?_⟩
        rcases y with ⟨a', _, _⟩ | ⟨a', b'⟩
        · exact absurd a (by rw [← chl p hpe]; exact a')
        · exact i.2 _ _ b'
    intro k d p ok q h hp
    have out : ∀ {ok' q'}, rpr g len k d p ok' q' → rp_st (rpr g len) g len k d p ok' q' := fun y => rp_out y
    rcases (show rp_st (rp_n g e n) g e k d p ok q from h) with ⟨k0, a⟩ | ⟨k0, a⟩ | ⟨k0, a⟩ | ⟨k0, a⟩ | ⟨k0, a⟩ | ⟨k0, a⟩ | ⟨k0, a⟩
    · have out0 : ∀ {ok' q'}, rpr g len k d p ok' q' → rp_ex (rpr g len) g len d p ok' q' := fun y => by rcases out y with ⟨_, z⟩ | ⟨z, _⟩ | ⟨z, _⟩ | ⟨z, _⟩ | ⟨z, _⟩ | ⟨z, _⟩ | ⟨z, _⟩ <;> first | exact z | (exfalso; omega)
      rcases a with ⟨a, b⟩ | ⟨a, b, c⟩ | ⟨q1, a, b, c⟩
      · have i := ih _ _ _ _ _ a hp
        refine ⟨i.1, fun ok' q' y => ?_⟩
        rcases out0 y with ⟨a', b'⟩ | ⟨a', _, b'⟩ | ⟨q1', a', _, c'⟩
        · have w := i.2 _ _ a'
          exact ⟨fun z => ⟨by omega, (w.1 z).2⟩, w.2⟩
        · have w := i.2 _ _ a'
          exact ⟨fun z => absurd (w.1 z).1 (by omega), w.2⟩
        · have w := i.2 _ _ a'
          have v := (rpr_ge c').1
          exact ⟨fun z => absurd (w.1 z).1 (by omega), fun z => by have := w.2 z; omega⟩
      · have i := ih _ _ _ _ _ a hp
        refine ⟨i.1, fun ok' q' y => ?_⟩
        rcases out0 y with ⟨a', b'⟩ | ⟨a', _, b'⟩ | ⟨q1', a', u', c'⟩
        · have w := i.2 _ _ a'
          exact ⟨fun z => absurd (w.1 z).1 (by omega), w.2⟩
        · have w := i.2 _ _ a'
          exact ⟨fun z => ⟨by omega, (w.1 z).2⟩, w.2⟩
        · have w := i.2 _ _ a'
          have v := (rpr_ge c').1
          refine ⟨fun z => ?_, fun z => by have := w.2 z; omega⟩
          have f := (w.1 z).2
          subst f
          exact absurd u' (by rw [chl _ z]; exact b)
      · have i := ih _ _ _ _ _ a hp
        have h1 : q1 < e := by
          have := rp_cmp_nn b
          by_cases z : q1 < e
          · exact z
          · rw [chn q1 (by omega)] at this
            omega
        have j := ih _ _ _ _ _ c (by omega)
        refine ⟨j.1, fun ok' q' y => ?_⟩
        rcases out0 y with ⟨a', b'⟩ | ⟨a', u', b'⟩ | ⟨q1', a', u', c'⟩
        · exact absurd ((i.2 _ _ a').1 h1).1 (by omega)
        · have f := ((i.2 _ _ a').1 h1).2
          subst f
          exact absurd b (by rw [← chl _ h1]; exact u')
        · have f := ((i.2 _ _ a').1 h1).2
          subst f
          exact j.2 _ _ c'
    · have i := hd _ _ _ _ _ _ a hp
      exact ⟨i.1, fun ok' q' y => i.2 _ _ (by rcases out y with ⟨z, _⟩ | ⟨_, z⟩ | ⟨z, _⟩ | ⟨z, _⟩ | ⟨z, _⟩ | ⟨z, _⟩ | ⟨z, _⟩ <;> first | exact z | (exfalso; omega))⟩
    · have i := rs _ (fun _ => rp_add_nn) _ _ _ _ _ _ a hp
      exact ⟨i.1, fun ok' q' y => i.2 _ _ (by rcases out y with ⟨z, _⟩ | ⟨z, _⟩ | ⟨_, z⟩ | ⟨z, _⟩ | ⟨z, _⟩ | ⟨z, _⟩ | ⟨z, _⟩ <;> first | exact z | (exfalso; omega))⟩
    · have i := hd _ _ _ _ _ _ a hp
      exact ⟨i.1, fun ok' q' y => i.2 _ _ (by rcases out y with ⟨z, _⟩ | ⟨z, _⟩ | ⟨z, _⟩ | ⟨_, z⟩ | ⟨z, _⟩ | ⟨z, _⟩ | ⟨z, _⟩ <;> first | exact z | (exfalso; omega))⟩
    · have i := rs _ (fun _ => rp_mul_nn) _ _ _ _ _ _ a hp
      exact ⟨i.1, fun ok' q' y => i.2 _ _ (by rcases out y with ⟨z, _⟩ | ⟨z, _⟩ | ⟨z, _⟩ | ⟨z, _⟩ | ⟨_, z⟩ | ⟨z, _⟩ | ⟨z, _⟩ <;> first | exact z | (exfalso; omega))⟩
    · have out5 : ∀ {ok' q'}, rpr g len k d p ok' q' → rp_pt (rpr g len) g len d p ok' q' := fun y => by rcases out y with ⟨z, _⟩ | ⟨z, _⟩ | ⟨z, _⟩ | ⟨z, _⟩ | ⟨z, _⟩ | ⟨_, z⟩ | ⟨z, _⟩ <;> first | exact z | (exfalso; omega)
      rcases a with ⟨a, b⟩ | ⟨a, b⟩
      · have h1 : p < e := by
          by_cases z : p < e
          · exact z
          · rw [chn p (by omega)] at a
            omega
        have i := ih _ _ _ _ _ b (by omega)
        refine ⟨i.1, fun ok' q' y => ?_⟩
        rcases out5 y with ⟨a', b'⟩ | ⟨a', b'⟩
        · exact i.2 _ _ b'
        · exact absurd a (by rw [← chl _ h1]; exact a')
      · have i := ih _ _ _ _ _ b hp
        refine ⟨i.1, fun ok' q' y => ?_⟩
        rcases out5 y with ⟨a', b'⟩ | ⟨a', b'⟩
        · have gq := (rp_ge _ _ _ _ _ _ b).1
          have v := (rpr_ge b').1
          by_cases z : p < e
          · exact absurd a' (by rw [chl _ z]; exact a)
          · exact ⟨fun c => absurd c (by omega), fun _ => by omega⟩
        · exact i.2 _ _ b'
    · have out6 : ∀ {ok' q'}, rpr g len k d p ok' q' → rp_at (rpr g len) g len d p ok' q' := fun y => by rcases out y with ⟨z, _⟩ | ⟨z, _⟩ | ⟨z, _⟩ | ⟨z, _⟩ | ⟨z, _⟩ | ⟨z, _⟩ | ⟨_, z⟩ <;> first | exact z | (exfalso; omega)
      rcases a with ⟨a, b⟩ | ⟨a, b⟩
      · have h1 : p < e := by
          by_cases z : p < e
          · exact z
          · have := a.1
            rw [chn p (by omega)] at this
            omega
        have a2 : rd_ch g len p = 40 ∧ d < 4 := ⟨by rw [chl _ h1]; exact a.1, a.2⟩
        rcases b with ⟨b, c⟩ | ⟨q1, b, c⟩
        · have i := ih _ _ _ _ _ b (by omega)
          refine ⟨i.1, fun ok' q' y => ?_⟩
          rcases out6 y with ⟨_, y⟩ | ⟨y, _⟩
          · rcases y with ⟨b', c'⟩ | ⟨q1', b', c'⟩
            · have w := i.2 _ _ b'
              exact ⟨fun z => ⟨by omega, (w.1 z).2⟩, w.2⟩
            · have w := i.2 _ _ b'
              refine ⟨fun z => absurd (w.1 z).1 (by omega), fun z => ?_⟩
              have := w.2 z
              rcases c' with c' | c' <;> omega
          · exact absurd a2 y
        · have i := ih _ _ _ _ _ b (by omega)
          have hq : q ≤ e := by
            rcases c with ⟨c, _, c2⟩ | ⟨_, _, c2⟩
            · by_cases z : q1 < e
              · omega
              · rw [chn q1 (by omega)] at c
                omega
            · omega
          refine ⟨hq, fun ok' q' y => ?_⟩
          rcases out6 y with ⟨_, y⟩ | ⟨y, _⟩
          · rcases y with ⟨b', c'⟩ | ⟨q1', b', c'⟩
            · have w := i.2 _ _ b'
              by_cases z : q1 < e
              · exact absurd (w.1 z).1 (by omega)
              · have := w.2 (by omega)
                exact ⟨fun x => by rcases c with c | c <;> omega, fun _ => by omega⟩
            · have w := i.2 _ _ b'
              by_cases z : q1 < e
              · have f := (w.1 z).2
                subst f
                have cc := chl _ z
                rcases c with ⟨c, c1, c2⟩ | ⟨c, c1, c2⟩
                · rcases c' with ⟨d1, d2, d3⟩ | ⟨d1, d2, d3⟩
                  · exact ⟨fun _ => ⟨by omega, by omega⟩, fun _ => by omega⟩
                  · exact absurd c (by rw [← cc]; exact d1)
                · rcases c' with ⟨d1, d2, d3⟩ | ⟨d1, d2, d3⟩
                  · exact absurd d1 (by rw [cc]; exact c)
                  · exact ⟨fun _ => ⟨by omega, by omega⟩, fun _ => by omega⟩
              · have := w.2 (by omega)
                refine ⟨fun x => ?_, fun _ => by rcases c' with c' | c' <;> omega⟩
                rcases c with c | c <;> omega
          · exact absurd a2 y
      · by_cases h1 : p < e
        · have a2 : ¬ (rd_ch g len p = 40 ∧ d < 4) := by rw [chl _ h1]; exact a
          rcases b with ⟨b, c1, c2⟩ | ⟨b, r, c, f⟩
          · refine ⟨by omega, fun ok' q' y => ?_⟩
            rcases out6 y with ⟨y, _⟩ | ⟨_, y⟩
            · exact absurd y a2
            · rcases y with ⟨_, d1, d2⟩ | ⟨y, _⟩
              · exact ⟨fun _ => ⟨by omega, by omega⟩, fun _ => by omega⟩
              · exact absurd b (by rw [← chl _ h1]; exact y)
          · have hq := (rd_nm_lim (g := g) he (3 : Int).toNat (-1) p hp).1
            have hq : q ≤ e := by
              unfold li_nq at c
              rw [c] at hq
              exact hq
            refine ⟨hq, fun ok' q' y => ?_⟩
            rcases out6 y with ⟨y, _⟩ | ⟨_, y⟩
            · exact absurd y a2
            · rcases y with ⟨y, _⟩ | ⟨_, r', c', f'⟩
              · exact absurd y (by rw [chl _ h1]; exact b)
              · have w := rp_nq_lim he hp c c'
                refine ⟨fun z => ?_, w.2⟩
                have w1 := w.1 z
                refine ⟨?_, w1.2⟩
                rcases f with f | f <;> rcases f' with f' | f' <;> omega
        · have qp : q = p := by
            rcases b with ⟨b, _⟩ | ⟨_, r, c, _⟩
            · have := rp_let_nn b
              rw [chn p (by omega)] at this
              omega
            · exact (li_nq_no c (by rw [chn p (by omega)]; omega)).2.symm
          refine ⟨by omega, fun ok' q' y => ⟨fun z => absurd z (by omega), fun _ => ?_⟩⟩
          have := (rpr_ge y).1
          omega

