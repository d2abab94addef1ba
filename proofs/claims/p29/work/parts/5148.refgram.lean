def li_hd (p : Prop) : Prop := p
theorem li_hdI {p : Prop} (h : p) : li_hd p := h
theorem li_45 {a b : Int} (h : a = b + 4) : a + 1 = b + 5 := by omega
abbrev li_gl (g : Nat → Int32) (e k p n ok q m : Int) : Prop := li_gq (li_by g) e k p n ok q m
theorem li_gl_tr {g g' : Nat → Int32} {e e' k k' p p' n n' ok ok' q q' m m' : Int} (hg : g' = g) (h1 : e' = e) (h2 : k' = k) (h3 : p' = p) (h4 : n' = n) (h5 : ok' = ok) (h6 : q' = q) (h7 : m' = m) (h : li_gl g e k p n ok q m) : li_gl g' e' k' p' n' ok' q' m' := li_gq_tr (congrArg li_by hg) h1 h2 h3 h4 h5 h6 h7 h
def li_gw (g : Nat → Int32) (e k p n ok q m w mo : Int) : Prop := mo = 1 → w = -1 → li_gl g e k p n ok q m
theorem li_gw_tr {g g' : Nat → Int32} {e e' k k' p p' n n' ok ok' q q' m m' w w' mo mo' : Int} (hg : g' = g) (h1 : e' = e) (h2 : k' = k) (h3 : p' = p) (h4 : n' = n) (h5 : ok' = ok) (h6 : q' = q) (h7 : m' = m) (h8 : w' = w) (h9 : mo' = mo) (h : li_gw g e k p n ok q m w mo) : li_gw g' e' k' p' n' ok' q' m' w' mo' := fun a b => li_gl_tr hg h1 h2 h3 h4 h5 h6 h7 (h (h9.symm.trans a) (h8.symm.trans b))
theorem li_gw_0 {g g' : Nat → Int32} {e e' k k' p p' n n' ok q m w mo : Int} (h : li_gl g e k p n ok q m) (hg : g' = g) (h1 : e' = e) (h2 : k' = k) (h3 : p' = p) (h4 : n' = n) : li_gw g' e' k' p' n' ok q m w mo := fun _ _ => li_gl_tr hg h1 h2 h3 h4 rfl rfl rfl h
def li_gx (g : Nat → Int32) (e k p n ok q m w h : Int) : Prop := w = -1 → h = 59 → li_gl g e k (p + 1) n ok q m
theorem li_gx_tr {g g' : Nat → Int32} {e e' k k' p p' n n' ok ok' q q' m m' w w' h h' : Int} (hg : g' = g) (h1 : e' = e) (h2 : k' = k) (h3 : p' = p) (h4 : n' = n) (h5 : ok' = ok) (h6 : q' = q) (h7 : m' = m) (h8 : w' = w) (h9 : h' = h) (hx : li_gx g e k p n ok q m w h) : li_gx g' e' k' p' n' ok' q' m' w' h' := fun a b => li_gl_tr hg h1 h2 (by rw [h3]) h4 h5 h6 h7 (hx (h8.symm.trans a) (h9.symm.trans b))
theorem li_gx_no {g : Nat → Int32} {e k p n ok q m w h : Int} (hw : ¬ w = -1) : li_gx g e k p n ok q m w h := fun a => absurd a hw
theorem li_gw_gx {g g' : Nat → Int32} {e e' k k' p p' n n' ok q m w w' h mo : Int} (hx : li_gx g e k p n ok q m w h) (hg : g' = g) (h1 : e' = e) (h2 : k' = k) (h4 : n' = n) (hm : mo = 1 → w' = -1 → w = -1 ∧ h = 59 ∧ p' = p + 1) : li_gw g' e' k' p' n' ok q m w' mo := fun a b => by
  obtain ⟨c, d, f⟩ := hm a b
  exact li_gl_tr hg h1 h2 f h4 rfl rfl rfl (hx c d)
