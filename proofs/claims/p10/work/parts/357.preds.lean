/-! what arrays hold, place by place -/
def li_cq (g : Nat → Int32) (w n : Int) : Prop := w = -1 → ∀ i : Nat, (i : Int) < 5 * n → i % 5 < 2 → 0 ≤ (g i).toInt ∧ (g i).toInt ≤ 5
theorem li_cq_tr {g g' : Nat → Int32} {w w' n n' : Int} (hg : g' = g) (hw : w' = -1 → w = -1) (hn : n' ≤ n) (h : li_cq g w n) : li_cq g' w' n' := by
  subst hg; intro e i hi hm; exact h (hw e) i (by omega) hm
theorem li_cq_bad {g : Nat → Int32} {w n : Int} (hw : ¬ w = -1) : li_cq g w n := fun e => absurd e hw
theorem li_cq_0 {g : Nat → Int32} {w n : Int} (hn : n ≤ 0) : li_cq g w n := fun _ i hi => absurd hi (by omega)
theorem li_cq_step {E : Nat → Nat → Prop} {M M' : li_M} {p : Int32} {w w' n : Int} (hfs : li_fs E M M') (hE : ∀ i : Nat, E 182 i → p.toInt ≤ (i : Int) ∧ (i : Int) < p.toInt + 5) (hp : p.toInt = 5 * n) (h0 : 0 ≤ n)
    (a : 0 ≤ (M'.1 182 (p.toNatClampNeg)).toInt ∧ (M'.1 182 (p.toNatClampNeg)).toInt ≤ 5 ∧ 0 ≤ (M'.1 182 (p.toNatClampNeg + 1)).toInt ∧ (M'.1 182 (p.toNatClampNeg + 1)).toInt ≤ 5) (hw : w' = -1 → w = -1) (h : li_cq (M.1 182) w n) : li_cq (M'.1 182) w' (n + 1) := by
  intro e i hi hm
  have h9 := li_cl (i := p) (by omega)
  by_cases c : (i : Int) < 5 * n
  · rw [hfs.1 182 i (fun q => by have := hE i q; omega)]
    exact h (hw e) i c hm
  · rcases (show i = p.toNatClampNeg ∨ i = p.toNatClampNeg + 1 by omega) with q | q
    · rw [q]; exact ⟨a.1, a.2.1⟩
    · rw [q]; exact a.2.2
theorem li_cq_ld {g : Nat → Int32} {w n : Int} {i x : Int32} (h : li_cq g w n) (hw : w = -1) (e : x = g i.toNatClampNeg) (h0 : 0 ≤ i.toInt) (h1 : i.toInt < 5 * n) : i.toInt % 5 < 2 → 0 ≤ x.toInt ∧ x.toInt ≤ 5 := by
  intro hm
  have h9 := li_cl h0
  rw [e]
  exact h hw _ (by omega) (by omega)
def li_tp (g : Nat → Int32) (t : Int) : Prop := ∀ i : Nat, (i : Int) < t → ¬ (g (16 * i + 1)).toInt = 0
theorem li_tp_tr {g g' : Nat → Int32} {t t' : Int} (hg : g' = g) (ht : t' ≤ t) (h : li_tp g t) : li_tp g' t' := by
  subst hg; intro i hi; exact h i (by omega)
theorem li_tp_ld {g : Nat → Int32} {t f : Int} {i x : Int32} (h : li_tp g t) (e : x = g i.toNatClampNeg) (h0 : 0 ≤ f) (h1 : f < t) (hi : i.toInt = 16 * f + 1) : ¬ x.toInt = 0 := by
  have h9 := li_cl (i := i) (by omega)
  rw [e, show i.toNatClampNeg = 16 * f.toNat + 1 by omega]
  exact h _ (by omega)
def li_tq (g : Nat → Int32) (s f n : Int) : Prop := (s = 1 → li_tp g f) ∧ (2 ≤ s → li_tp g n)
theorem li_tq_tr {g g' : Nat → Int32} {s s' f f' n n' : Int} (hg : g' = g) (hs : s' = s) (hf : f' = f) (hn : n' = n) (h : li_tq g s f n) : li_tq g' s' f' n' := by
  subst hg; subst hs; subst hf; subst hn; exact h
theorem li_tq_0 {g : Nat → Int32} {s f n : Int} (hs : s = 1) (hf : f ≤ 0) : li_tq g s f n := ⟨fun _ i hi => absurd hi (by omega), fun q => absurd q (by omega)⟩
theorem li_tq_next {g : Nat → Int32} {s f n s' f' n' : Int} (h : li_tq g s f n) (hs : 1 ≤ s) (hf : n < f + s) (es : s' = s + 1) (en : n' = n) : li_tq g s' f' n' := by
  subst es; subst en
  refine ⟨fun q => absurd q (by omega), fun _ i hi => ?_⟩
  by_cases c : s = 1
  · exact h.1 c i (by omega)
  · exact h.2 (by omega) i hi
theorem li_tq_st {M M' : li_M} {i b : Int32} {s f n : Int} (e : M' = li_ui M 195 i.toNatClampNeg b) (hi : i.toInt = 16 * f + s) (hs : 1 ≤ s ∧ s ≤ 14) (h0 : 0 ≤ f) (hb : s = 1 → ¬ b.toInt = 0) (h : li_tq (M.1 195) s f n) : li_tq (M'.1 195) s (f + 1) n := by
  have h9 := li_cl (i := i) (by omega)
  subst e
  refine ⟨fun q j hj => ?_, fun q j hj => ?_⟩
  · rw [li_ui_at, if_pos rfl]
    by_cases c : 16 * j + 1 = i.toNatClampNeg
    · rw [if_pos c]; exact hb q
    · rw [if_neg c]; exact h.1 q j (by omega)
  · rw [li_ui_at, if_pos rfl, if_neg (by omega)]
    exact h.2 q j hj
theorem li_tq_end {g : Nat → Int32} {s f n : Int} (h : li_tq g s f n) (hs : 2 ≤ s) : li_tp g n := h.2 hs
def li_fw (g : Nat → Int32) (lo n : Int) : Prop := ∀ i : Nat, lo ≤ (i : Int) → (i : Int) ≤ n → 0 ≤ (g i).toInt ∧ (g i).toInt ≤ n - i
theorem li_fw_tr {g g' : Nat → Int32} {lo lo' n n' : Int} (hg : g' = g) (hl : lo ≤ lo') (hn : n' = n) (h : li_fw g lo n) : li_fw g' lo' n' := by
  subst hg; subst hn; intro i h1 h2; exact h i (by omega) h2
theorem li_fw_0 {M M' : li_M} {i : Int32} {lo n : Int} (e : M' = li_ui M 196 i.toNatClampNeg 0) (h0 : 0 ≤ i.toInt) (hi : i.toInt = n) (hl : lo = n) : li_fw (M'.1 196) lo n := by
  have h9 := li_cl h0
  subst e
  intro j h1 h2
  rw [li_ui_at, if_pos rfl, if_pos (by omega)]
  have : (0 : Int32).toInt = 0 := rfl
  omega
theorem li_fw_st {M M' : li_M} {i b : Int32} {lo n : Int} (e : M' = li_ui M 196 i.toNatClampNeg b) (h0 : 0 ≤ i.toInt) (hi : i.toInt < lo) (h : li_fw (M.1 196) lo n) : li_fw (M'.1 196) lo n := by
  have h9 := li_cl h0
  subst e
  intro j h1 h2
  rw [li_ui_at, if_pos rfl, if_neg (by omega)]
  exact h j h1 h2
theorem li_fw_ld {g : Nat → Int32} {lo n : Int} {i x : Int32} (h : li_fw g lo n) (e : x = g i.toNatClampNeg) (h0 : 0 ≤ i.toInt) (h1 : lo ≤ i.toInt) (h2 : i.toInt ≤ n) : 0 ≤ x.toInt ∧ x.toInt ≤ n - i.toInt := by
  have h9 := li_cl h0
  have := h i.toNatClampNeg (by omega) (by omega)
  rw [e]
  omega
def li_fv (g : Nat → Int32) (f t n : Int) : Prop := (t = f + 1 → (g f.toNat).toInt = 1000000) ∧ (f + 1 < t → 0 ≤ (g f.toNat).toInt ∧ (g f.toNat).toInt ≤ n - f)
theorem li_fv_tr {g g' : Nat → Int32} {f f' t t' n n' : Int} (hg : g' = g) (hf : f' = f) (ht : t' = t) (hn : n' = n) (h : li_fv g f t n) : li_fv g' f' t' n' := by
  subst hg; subst hf; subst ht; subst hn; exact h
theorem li_fv_0 {M M' : li_M} {i b : Int32} {f t n : Int} (e : M' = li_ui M 196 i.toNatClampNeg b) (hb : b.toInt = 1000000) (h0 : 0 ≤ i.toInt) (hi : i.toInt = f) (ht : t = f + 1) : li_fv (M'.1 196) f t n := by
  have h9 := li_cl h0
  subst e
  refine ⟨fun _ => ?_, fun q => absurd q (by omega)⟩
  rw [li_ui_at, if_pos rfl, if_pos (by omega)]
  exact hb
theorem li_fv_ld {g : Nat → Int32} {f t n : Int} {i x : Int32} (h : li_fv g f t n) (e : x = g i.toNatClampNeg) (h0 : 0 ≤ i.toInt) (hi : i.toInt = f) (ht : f + 1 ≤ t) : x.toInt = 1000000 ∨ (0 ≤ x.toInt ∧ x.toInt ≤ n - f) := by
  have h9 := li_cl h0
  rw [e, show i.toNatClampNeg = f.toNat by omega]
  by_cases c : t = f + 1
  · exact Or.inl (h.1 c)
  · exact Or.inr (h.2 (by omega))
theorem li_fv_st {M M' : li_M} {i b : Int32} {f t n : Int} (e : M' = li_ui M 196 i.toNatClampNeg b) (h0 : 0 ≤ i.toInt) (hi : i.toInt = f) (ht : f + 1 < t) (hb : 0 ≤ b.toInt ∧ b.toInt ≤ n - f) : li_fv (M'.1 196) f t n := by
  have h9 := li_cl h0
  subst e
  refine ⟨fun q => absurd q (by omega), fun _ => ?_⟩
  rw [li_ui_at, if_pos rfl, if_pos (by omega)]
  exact hb
theorem li_fv_skip {g : Nat → Int32} {f t t' n : Int} (h : li_fv g f t n) (ht : f + 1 < t) (e : t' = t + 1) : li_fv g f t' n := ⟨fun q => absurd q (by omega), fun _ => h.2 ht⟩
theorem li_fw_more {g : Nat → Int32} {f t n lo : Int} (hw : li_fw g (f + 1) n) (hv : li_fv g f t n) (ht : f + 1 < t) (h0 : 0 ≤ f) (hl : lo = f) : li_fw g lo n := by
  subst hl
  intro i h1 h2
  by_cases c : (i : Int) = lo
  · have := hv.2 ht
    rw [show lo.toNat = i by omega] at this
    omega
  · exact hw i (by omega) h2
theorem tl_shlnz {y z : Int32} (h : z = 1 <<< (y &&& 31)) : ¬ z.toInt = 0 := by
  have e : ∀ k : Fin 32, ¬ ((1 : Int32) <<< (nI k.val &&& 31)).toInt = 0 := by decide +kernel
  have h1 : ∀ k : Nat, k < 32 → nI k &&& 31 = nI k := by decide +kernel
  obtain ⟨j, hj, q⟩ := pk_andE y (m := 31) 5 (by decide)
  have h2 := e ⟨j, by omega⟩
  rw [h1 j (by omega)] at h2
  rw [h, q]
  exact h2
theorem li_cell_ui {M M' : li_M} {i k j : Nat} {x : Int32} (e : M' = li_ui M i k x) (h : j ≠ i) : M'.1 j = M.1 j := by
  subst e
  funext b
  rw [li_ui_at, if_neg h]
def li_tpg (g : Nat → Int32) (t r : Int) : Prop := 0 ≤ r → li_tp g t
theorem li_tpg_tr {g g' : Nat → Int32} {t t' r r' : Int} (hg : g' = g) (ht : t' ≤ t) (hr : 0 ≤ r' → 0 ≤ r) (h : li_tpg g t r) : li_tpg g' t' r' := fun q => li_tp_tr hg ht (h (hr q))
