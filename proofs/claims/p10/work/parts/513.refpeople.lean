abbrev li_pl (g : Nat → Int32) (e k p n ok q m : Int) : Prop := li_pq (li_by g) e k p n ok q m
theorem li_pl_tr {g g' : Nat → Int32} {e e' k k' p p' n n' ok ok' q q' m m' : Int} (hg : g' = g) (h1 : e' = e) (h2 : k' = k) (h3 : p' = p) (h4 : n' = n) (h5 : ok' = ok) (h6 : q' = q) (h7 : m' = m) (h : li_pl g e k p n ok q m) : li_pl g' e' k' p' n' ok' q' m' := li_pq_tr (congrArg li_by hg) h1 h2 h3 h4 h5 h6 h7 h
def li_pw (g : Nat → Int32) (e k p n ok q m w mo : Int) : Prop := mo = 1 → w = -1 → li_pl g e k p n ok q m
theorem li_pw_tr {g g' : Nat → Int32} {e e' k k' p p' n n' ok ok' q q' m m' w w' mo mo' : Int} (hg : g' = g) (h1 : e' = e) (h2 : k' = k) (h3 : p' = p) (h4 : n' = n) (h5 : ok' = ok) (h6 : q' = q) (h7 : m' = m) (h8 : w' = w) (h9 : mo' = mo) (h : li_pw g e k p n ok q m w mo) : li_pw g' e' k' p' n' ok' q' m' w' mo' := fun a b => li_pl_tr hg h1 h2 h3 h4 h5 h6 h7 (h (h9.symm.trans a) (h8.symm.trans b))
theorem li_pw_0 {g g' : Nat → Int32} {e e' k k' p p' n n' ok q m w mo : Int} (h : li_pl g e k p n ok q m) (hg : g' = g) (h1 : e' = e) (h2 : k' = k) (h3 : p' = p) (h4 : n' = n) : li_pw g' e' k' p' n' ok q m w mo := fun _ _ => li_pl_tr hg h1 h2 h3 h4 rfl rfl rfl h
def li_px (g : Nat → Int32) (e k p n ok q m w h : Int) : Prop := w = -1 → h = 59 → li_pl g e k (p + 1) n ok q m
theorem li_px_tr {g g' : Nat → Int32} {e e' k k' p p' n n' ok ok' q q' m m' w w' h h' : Int} (hg : g' = g) (h1 : e' = e) (h2 : k' = k) (h3 : p' = p) (h4 : n' = n) (h5 : ok' = ok) (h6 : q' = q) (h7 : m' = m) (h8 : w' = w) (h9 : h' = h) (hx : li_px g e k p n ok q m w h) : li_px g' e' k' p' n' ok' q' m' w' h' := fun a b => li_pl_tr hg h1 h2 (by rw [h3]) h4 h5 h6 h7 (hx (h8.symm.trans a) (h9.symm.trans b))
theorem li_px_no {g : Nat → Int32} {e k p n ok q m w h : Int} (hw : ¬ w = -1) : li_px g e k p n ok q m w h := fun a => absurd a hw
theorem li_pw_px {g g' : Nat → Int32} {e e' k k' p p' n n' ok q m w w' h mo : Int} (hx : li_px g e k p n ok q m w h) (hg : g' = g) (h1 : e' = e) (h2 : k' = k) (h4 : n' = n) (hm : mo = 1 → w' = -1 → w = -1 ∧ h = 59 ∧ p' = p + 1) : li_pw g' e' k' p' n' ok q m w' mo := fun a b => by
  obtain ⟨c, d, f⟩ := hm a b
  exact li_pl_tr hg h1 h2 f h4 rfl rfl rfl (hx c d)
theorem li_pq_a {g : Nat → Int32} {e k p n ok q m R1 Q1 : Int} (h : li_pq g e k p n ok q m) (hk : 0 < k) (h1 : li_nq g e 2 (-1) p R1 Q1) : (R1 < 0 → ok = 0 ∧ q = Q1) ∧ (0 ≤ R1 → ¬ rd_ch g e Q1 = 58 → ok = 0 ∧ q = Q1) := by
  obtain ⟨R2, Q2, h2⟩ : ∃ r q, li_nq g e 3 (-1) (Q1 + 1) r q := li_nq_self
  have := li_pq_r h hk h1 h2
  exact ⟨fun a => by omega, fun a b => by omega⟩
theorem li_pq_b {g : Nat → Int32} {e k p n ok q m R1 Q1 P R2 Q2 : Int} (h : li_pq g e k p n ok q m) (hk : 0 < k) (h1 : li_nq g e 2 (-1) p R1 Q1) (h2 : li_nq g e 3 (-1) P R2 Q2) : P = Q1 + 1 → 0 ≤ R1 → rd_ch g e Q1 = 58 → (R2 < 0 ∧ ok = 0 ∧ q = Q2) ∨ (0 ≤ R2 ∧ e ≤ Q2 ∧ rd_ch g e Q2 = -1 ∧ ok = 1 ∧ q = Q2 ∧ m = n + 1) ∨ (0 ≤ R2 ∧ Q2 < e ∧ ¬ rd_ch g e Q2 = 59 ∧ ok = 0 ∧ q = Q2) ∨ (0 ≤ R2 ∧ Q2 < e ∧ rd_ch g e Q2 = 59) := by
  intro a b c
  subst a
  have z := li_pq_r h hk h1 h2
  have y : e ≤ Q2 → rd_ch g e Q2 = -1 := fun w => rd_no w
  by_cases w : e ≤ Q2
  · have := y w
    omega
  · omega
