/-- the ranges of the reference's numbers, by their places -/
def li_rg (k : Nat) : Int × Int := if k = 1 then (0, 6) else if k = 4 then (0, 8) else if k = 7 then (0, 80) else if k = 9 then (0, 20) else if k = 12 then (0, 80) else if k = 13 then (0, 80) else if k = 14 then (0, 81) else if k = 15 then (-1, 81) else if k = 18 then (0, 40) else if k = 23 then (0, 12) else if k = 32 then (0, 6) else if k = 38 then (0, 10) else if k = 40 then (0, 14) else (-2147483648, 2147483647)
def li_Js (M : li_M) : Prop := ∀ k : Nat, (li_rg k).1 ≤ (M.1 175 k).toInt ∧ (M.1 175 k).toInt ≤ (li_rg k).2
/-- a number of a row of days, clocks and loans -/
def li_lv (i : Int) (x : Int32) : Prop := (i = 20 → 0 ≤ x.toInt ∧ x.toInt ≤ 6) ∧ (21 ≤ i → (i - 21) % 5 < 2 → 0 ≤ x.toInt ∧ x.toInt ≤ 5)
def li_led (j : Nat) : Prop := j = 176 ∨ j = 187 ∨ j = 200 ∨ j = 186 ∨ j = 201
/-- the rows of bytes that can be read -/
def li_rq (q : Nat) : Prop := q = 180 ∨ q = 183 ∨ q = 184
def li_el (j i : Nat) (x : Int32) : Prop := (li_led j → li_lv ((i % 51 : Nat) : Int) x) ∧ (j = 179 → (i % 5 < 2) → 0 ≤ x.toInt ∧ x.toInt ≤ 5) ∧ (j = 198 → -1 ≤ x.toInt ∧ x.toInt ≤ 999) ∧ (li_rq j → x.toInt8.toInt32 = x)
def li_Ja (M : li_M) : Prop := ∀ j i : Nat, 175 < j → li_el j i (M.1 j i)
def li_qn (q : Nat) : Nat := if q = 180 then 80 else 40
def li_rl (q : Nat) : Prop := q = 183 ∨ q = 184
def li_Jm (M : li_M) : Prop := (∃ q, M.2.2 1 = some q ∧ li_rl q) ∧ ((M.2.2 0 = none ∧ (M.1 175 12).toInt ≤ 0) ∨ ∃ q, M.2.2 0 = some q ∧ li_rq q ∧ (M.1 175 12).toInt ≤ (li_qn q : Int))
def li_J (M : li_M) : Prop := li_Js M ∧ li_Ja M ∧ li_Jm M
def li_la (a : Nat) : Prop := a = 176 ∨ a = 200
theorem shA {a : Nat} (h : li_la a) : li_sh a = .inr (0, 51) := by rcases h with rfl | rfl <;> decide +kernel
theorem snA {a : Nat} (h : li_la a) : a < li_N := by rcases h with rfl | rfl <;> decide +kernel
theorem li_la_led {a : Nat} (h : li_la a) : li_led a := by unfold li_la at h; unfold li_led; omega
theorem la_176 : li_la 176 := Or.inl rfl
theorem la_200 : li_la 200 := Or.inr rfl
theorem li_J.read {M : li_M} (h : li_J M) (hl : 0 < (M.1 175 12).toInt) : ∃ q, M.2.2 0 = some q ∧ li_rq q ∧ (M.1 175 12).toInt ≤ (li_qn q : Int) := by
  rcases h.2.2.2 with ⟨-, h0⟩ | h0
  · omega
  · exact h0
theorem li_J.put {M M' : li_M} {k : Nat} {x : Int32} (h : li_J M) (hk : k ≠ 12) (hx : (li_rg k).1 ≤ x.toInt ∧ x.toInt ≤ (li_rg k).2) (e : M' = li_ui M 175 k x) : li_J M' := by
  subst e
  refine ⟨fun k2 => ?_, fun j i hj => ?_, ?_⟩
  · rw [li_ui_at, if_pos rfl]
    by_cases q : k2 = k
    · rw [if_pos q, q]; exact hx
    · rw [if_neg q]; exact h.1 k2
  · rw [li_ui_at, if_neg (by omega)]; exact h.2.1 j i hj
  · have e : (li_ui M 175 k x).1 175 12 = M.1 175 12 := by rw [li_ui_at, if_pos rfl, if_neg (Ne.symm hk)]
    unfold li_Jm
    rw [e]
    exact h.2.2
theorem li_J.st {M M' : li_M} {j i : Nat} {x : Int32} (h : li_J M) (hj : 175 < j) (hx : li_el j i x) (e : M' = li_ui M j i x) : li_J M' := by
  subst e
  refine ⟨fun k2 => ?_, fun j2 i2 hj2 => ?_, ?_⟩
  · rw [li_ui_at, if_neg (by omega)]; exact h.1 k2
  · rw [li_ui_at]
    by_cases q : j2 = j
    · rw [if_pos q]
      by_cases q2 : i2 = i
      · rw [if_pos q2, q, q2]; exact hx
      · rw [if_neg q2]; exact h.2.1 j2 i2 hj2
    · rw [if_neg q]; exact h.2.1 j2 i2 hj2
  · have e : (li_ui M j i x).1 175 12 = M.1 175 12 := by rw [li_ui_at, if_neg (by omega)]
    unfold li_Jm
    rw [e]
    exact h.2.2
theorem li_el_free {j i : Nat} {x : Int32} (h1 : ¬ li_led j) (h2 : j ≠ 179) (h3 : j ≠ 198) (h4 : ¬ li_rq j) : li_el j i x := ⟨fun h => absurd h h1, fun h => absurd h h2, fun h => absurd h h3, fun h => absurd h h4⟩
theorem li_b8 (x : Int32) : x.toInt8.toInt32.toInt8.toInt32 = x.toInt8.toInt32 := by simp
theorem li_el_byte {j i : Nat} {x : Int32} (h : li_rq j) : li_el j i x.toInt8.toInt32 := ⟨fun q => by unfold li_rq at h; unfold li_led at q; omega, fun q => by unfold li_rq at h; omega, fun q => by unfold li_rq at h; omega, fun _ => li_b8 x⟩
theorem li_cl {i : Int32} (h : 0 ≤ i.toInt) : ((i.toNatClampNeg : Nat) : Int) = i.toInt := by
  show ((i.toInt.toNat : Nat) : Int) = i.toInt
  omega
theorem li_el_led {j : Nat} {i x : Int32} (hj : li_led j) (h0 : 0 ≤ i.toInt) (hx : (i.toInt % 51 = 20 → 0 ≤ x.toInt ∧ x.toInt ≤ 6) ∧ (21 ≤ i.toInt % 51 → (i.toInt % 51 - 21) % 5 < 2 → 0 ≤ x.toInt ∧ x.toInt ≤ 5)) : li_el j i.toNatClampNeg x := by
  refine ⟨fun _ => ?_, fun h => ?_, fun h => ?_, fun h => ?_⟩
  · have := li_cl h0
    rw [show ((i.toNatClampNeg % 51 : Nat) : Int) = i.toInt % 51 by omega]
    exact hx
  · unfold li_led at hj; omega
  · unfold li_led at hj; omega
  · unfold li_led at hj; unfold li_rq at h; omega
theorem li_J.ldLed0 {M : li_M} {j : Nat} {i x : Int32} (h : li_J M) (hj : li_led j) (e : x = M.1 j i.toNatClampNeg) (h0 : 0 ≤ i.toInt) : li_lv (i.toInt % 51) x := by
  have h1 := (h.2.1 j i.toNatClampNeg (by unfold li_led at hj; omega)).1 hj
  rw [← e] at h1
  have := li_cl h0
  rw [show ((i.toNatClampNeg % 51 : Nat) : Int) = i.toInt % 51 by omega] at h1
  exact h1
theorem li_J.ldLed {M : li_M} {j : Nat} {i x : Int32} (h : li_J M) (hj : li_led j) (e : x = M.1 j i.toNatClampNeg) (h0 : 0 ≤ i.toInt) : (i.toInt % 51 = 20 → 0 ≤ x.toInt ∧ x.toInt ≤ 6) ∧ (21 ≤ i.toInt % 51 → (i.toInt % 51 - 21) % 5 < 2 → 0 ≤ x.toInt ∧ x.toInt ≤ 5) := li_J.ldLed0 h hj e h0
theorem tl_min2 {x y z : Int32} (h : z = if y < x then y else x) : z.toInt ≤ x.toInt ∧ z.toInt ≤ y.toInt ∧ (z.toInt = x.toInt ∨ z.toInt = y.toInt) := by
  have := tl_min h
  omega
theorem tl_max2 {x y z : Int32} (h : z = if x < y then y else x) : x.toInt ≤ z.toInt ∧ y.toInt ≤ z.toInt ∧ (z.toInt = x.toInt ∨ z.toInt = y.toInt) := by
  have := tl_max h
  omega
/-- frames, place by place; a reference r that changes is told as 1000 + r -/
def li_fs (E : Nat → Nat → Prop) (M M' : li_M) : Prop := (∀ i k, ¬ E i k → M'.1 i k = M.1 i k) ∧ M'.2.1 = M.2.1 ∧ ∀ r, ¬ E (1000 + r) 0 → M'.2.2 r = M.2.2 r
theorem li_fs_refl {E : Nat → Nat → Prop} {M : li_M} : li_fs E M M := ⟨fun _ _ _ => rfl, rfl, fun _ _ => rfl⟩
theorem li_fs_ui {E : Nat → Nat → Prop} {M N N' : li_M} {j k : Nat} {x : Int32} (h : li_fs E M N) (hj : E j k) (e : N' = li_ui N j k x) : li_fs E M N' := by
  subst e
  refine ⟨fun i b hi => ?_, h.2.1, h.2.2⟩
  rw [← h.1 i b hi, li_ui_at]
  by_cases q : i = j
  · rw [if_pos q]
    by_cases q2 : b = k
    · subst q; subst q2; exact absurd hj hi
    · rw [if_neg q2]
  · rw [if_neg q]
theorem li_fs_ur {E : Nat → Nat → Prop} {M N N' : li_M} {r : Nat} {x : Option Nat} (h : li_fs E M N) (hj : E (1000 + r) 0) (e : N' = li_ur N r x) : li_fs E M N' := by
  subst e
  refine ⟨h.1, h.2.1, fun i hi => ?_⟩
  rw [← h.2.2 i hi]
  have : i ≠ r := fun q => hi (by rw [q]; exact hj)
  simp [li_ur, this]
theorem li_fs_trans {E E' : Nat → Nat → Prop} {M N N' : li_M} (h : li_fs E M N) (h' : li_fs E' N N') (hE : ∀ i k, E' i k → E i k) : li_fs E M N' :=
  ⟨fun i k hi => (h'.1 i k (fun q => hi (hE i k q))).trans (h.1 i k hi), h'.2.1.trans h.2.1, fun r hr => (h'.2.2 r (fun q => hr (hE _ _ q))).trans (h.2.2 r hr)⟩
theorem tl_and255 {x z : Int32} (h : z = x &&& 255) : 0 ≤ z.toInt ∧ z.toInt ≤ 255 := by
  obtain ⟨j, hj, e⟩ := pk_andE x (m := 255) 8 (by decide)
  rw [h, e, nI_toInt (by omega)]
  omega
theorem tl_and1 {x z : Int32} (h : z = x &&& 1) : 0 ≤ z.toInt ∧ z.toInt ≤ 1 := by
  obtain ⟨j, hj, e⟩ := pk_andE x (m := 1) 1 (by decide)
  rw [h, e, nI_toInt (by omega)]
  omega
/-- the cell that is read, and what here() answers -/
def li_rc (M : li_M) : Nat := (M.2.2 0).getD 0
def li_hr (M : li_M) : Int32 := if M.1 175 14 < M.1 175 12 ∧ M.1 175 14 < M.1 175 13 then M.1 (li_rc M) (M.1 175 14).toNatClampNeg &&& 255 else -1
theorem li_J.byte {M : li_M} (h : li_J M) {q : Nat} (hq : li_rq q) (i : Nat) : (M.1 q i).toInt8.toInt32 = M.1 q i := (h.2.1 q i (by unfold li_rq at hq; omega)).2.2.2 hq
theorem li_hr_fs {E : Nat → Nat → Prop} {M M' : li_M} (h : li_fs E M M') (h12 : ¬ E 175 12) (h13 : ¬ E 175 13) (h14 : ¬ E 175 14) (h0 : ¬ E 1000 0) (hc : ∀ q i, (li_rq q ∨ q = 0) → ¬ E q i) (hJ : li_J M) : (li_hr M').toInt = (li_hr M).toInt := by
  unfold li_hr
  rw [h.1 175 12 h12, h.1 175 13 h13, h.1 175 14 h14]
  have e0 : M'.2.2 0 = M.2.2 0 := h.2.2 0 h0
  have ec : li_rc M' = li_rc M := by unfold li_rc; rw [e0]
  have hq : li_rq (li_rc M) ∨ li_rc M = 0 := by
    unfold li_rc
    rcases hJ.2.2.2 with ⟨q, -⟩ | ⟨q, e, hq, -⟩
    · rw [q]; exact Or.inr rfl
    · rw [e]; exact Or.inl hq
  rw [ec, h.1 _ _ (hc _ _ hq)]
theorem rg_free {k : Nat} {x : Int32} (h : li_rg k = (-2147483648, 2147483647)) : (li_rg k).1 ≤ x.toInt ∧ x.toInt ≤ (li_rg k).2 := by rw [h]; exact tl_rg x
theorem tl_slot {x y : Int32} (h : x = y) : x.toInt = y.toInt := by rw [h]
theorem J_sl1 {M : li_M} (h : li_J M) : 0 ≤ (M.1 175 1).toInt ∧ (M.1 175 1).toInt ≤ 6 := h.1 1
theorem J_sl4 {M : li_M} (h : li_J M) : 0 ≤ (M.1 175 4).toInt ∧ (M.1 175 4).toInt ≤ 8 := h.1 4
theorem J_sl7 {M : li_M} (h : li_J M) : 0 ≤ (M.1 175 7).toInt ∧ (M.1 175 7).toInt ≤ 80 := h.1 7
theorem J_pt7 {M M' : li_M} {x : Int32} (h : li_J M) (hx : 0 ≤ x.toInt ∧ x.toInt ≤ 80) (e : M' = li_ui M 175 7 x) : li_J M' := h.put (k := 7) (by decide) hx e
theorem J_sl9 {M : li_M} (h : li_J M) : 0 ≤ (M.1 175 9).toInt ∧ (M.1 175 9).toInt ≤ 20 := h.1 9
theorem J_pt9 {M M' : li_M} {x : Int32} (h : li_J M) (hx : 0 ≤ x.toInt ∧ x.toInt ≤ 20) (e : M' = li_ui M 175 9 x) : li_J M' := h.put (k := 9) (by decide) hx e
theorem J_sl12 {M : li_M} (h : li_J M) : 0 ≤ (M.1 175 12).toInt ∧ (M.1 175 12).toInt ≤ 80 := h.1 12
theorem J_sl13 {M : li_M} (h : li_J M) : 0 ≤ (M.1 175 13).toInt ∧ (M.1 175 13).toInt ≤ 80 := h.1 13
theorem J_sl14 {M : li_M} (h : li_J M) : 0 ≤ (M.1 175 14).toInt ∧ (M.1 175 14).toInt ≤ 81 := h.1 14
theorem J_sl15 {M : li_M} (h : li_J M) : -1 ≤ (M.1 175 15).toInt ∧ (M.1 175 15).toInt ≤ 81 := h.1 15
theorem J_sl18 {M : li_M} (h : li_J M) : 0 ≤ (M.1 175 18).toInt ∧ (M.1 175 18).toInt ≤ 40 := h.1 18
theorem J_pt18 {M M' : li_M} {x : Int32} (h : li_J M) (hx : 0 ≤ x.toInt ∧ x.toInt ≤ 40) (e : M' = li_ui M 175 18 x) : li_J M' := h.put (k := 18) (by decide) hx e
theorem J_sl23 {M : li_M} (h : li_J M) : 0 ≤ (M.1 175 23).toInt ∧ (M.1 175 23).toInt ≤ 12 := h.1 23
theorem J_pt23 {M M' : li_M} {x : Int32} (h : li_J M) (hx : 0 ≤ x.toInt ∧ x.toInt ≤ 12) (e : M' = li_ui M 175 23 x) : li_J M' := h.put (k := 23) (by decide) hx e
theorem J_sl38 {M : li_M} (h : li_J M) : 0 ≤ (M.1 175 38).toInt ∧ (M.1 175 38).toInt ≤ 10 := h.1 38
theorem J_pt38 {M M' : li_M} {x : Int32} (h : li_J M) (hx : 0 ≤ x.toInt ∧ x.toInt ≤ 10) (e : M' = li_ui M 175 38 x) : li_J M' := h.put (k := 38) (by decide) hx e
/-! a reference field that changes is set -/
theorem li_ob_ur {Z : li_Z} {M : li_M} {i r : Nat} {x : Option Nat} : ∀ (sl : List (Option Nat)) (n : Nat), (∀ k : Nat, sl[k]? ≠ some (some (1000 + r))) → li_ob Z (li_ur M r x) i n sl = li_ob Z M i n sl := by
  intro sl
  induction sl with
  | nil => intro n _; rfl
  | cons o t ih =>
    intro n h
    have h1 := ih (n + 1) (fun k => by have := h (k + 1); simpa using this)
    cases o with
    | none => simp only [li_ob, h1]; rfl
    | some q =>
      have hq : q ≠ 1000 + r := fun e => h 0 (by simp [e])
      have hv : li_rv Z (li_ur M r x) q = li_rv Z M q := by
        unfold li_rv
        by_cases c : q < 1000
        · rw [if_pos c, if_pos c]
        · rw [if_neg c, if_neg c]
          have : q - 1000 ≠ r := by omega
          simp [li_ur, this]
      simp only [li_ob, h1, hv]
theorem li_ob_urS {Z : li_Z} {M : li_M} {i r q : Nat} : ∀ (sl : List (Option Nat)) (n k : Nat), sl[k]? = some (some (1000 + r)) → (∀ k2 : Nat, k2 ≠ k → sl[k2]? ≠ some (some (1000 + r))) → li_ob Z (li_ur M r (some q)) i n sl = (li_ob Z M i n sl).set k (.ref (Z.2.2 q)) := by
  intro sl
  induction sl with
  | nil => intro n k h; simp at h
  | cons o t ih =>
    intro n k h hu
    cases k with
    | zero =>
      simp only [List.getElem?_cons_zero, Option.some.injEq] at h
      subst h
      simp only [li_ob, List.set_cons_zero]
      rw [li_ob_ur t (n + 1) (fun k2 => by have := hu (k2 + 1) (by omega); simpa using this)]
      congr 1
      unfold li_rv
      rw [if_neg (by omega)]
      simp [li_ur, va_rf]
    | succ k =>
      have h1 := ih (n + 1) k (by simpa using h) (fun k2 hk2 => by have := hu (k2 + 1) (by omega); simpa using this)
      have h0 := hu 0 (by omega)
      simp only [List.getElem?_cons_zero, ne_eq, Option.some.injEq] at h0
      cases o with
      | none => simp only [li_ob, h1, List.set_cons_succ]; rfl
      | some z =>
        have hz : z ≠ 1000 + r := fun e => h0 (by rw [e])
        have hv : li_rv Z (li_ur M r (some q)) z = li_rv Z M z := by
          unfold li_rv
          by_cases c : z < 1000
          · rw [if_pos c, if_pos c]
          · rw [if_neg c, if_neg c]
            have : z - 1000 ≠ r := by omega
            simp [li_ur, this]
        simp only [li_ob, h1, List.set_cons_succ, hv]
def li_nomut (j : Nat) : Bool := match li_sh j with
  | .inl o => o.2.all (fun s => match s with
    | some q => decide (q < 1000)
    | none => true)
  | .inr _ => true
theorem li_nomut_ok : (List.range 205).all (fun j => decide (j = 175) || li_nomut j) = true := by decide +kernel
theorem li_cell_ur {Z : li_Z} {M : li_M} {r : Nat} {x : Option Nat} (j : Nat) (h : j ≠ 175) : li_cell Z (li_ur M r x) j = li_cell Z M j := by
  have hn : li_nomut j = true := by
    by_cases c : j < 205
    · have h1 := List.all_eq_true.mp li_nomut_ok j (List.mem_range.mpr c)
      simpa [h] using h1
    · have : li_sh j = .inr (0, 0) := by
        unfold li_sh
        rw [List.getElem?_eq_none]
        · rfl
        · have : li_tab.length = 205 := by decide +kernel
          omega
      unfold li_nomut
      rw [this]
  unfold li_cell
  unfold li_nomut at hn
  cases hs : li_sh j with
  | inl o =>
    rw [hs] at hn
    simp only
    rw [li_ob_ur]
    intro k hk
    have h2 := List.all_eq_true.mp hn (some (1000 + r)) (List.mem_of_getElem? hk)
    simp only [decide_eq_true_eq] at h2
    omega
  | inr a => rfl
section LIPR
variable {l : Launch} {Z : li_Z} {Y : li_Y} {d pc : Nat} {lo : List (Nat × Value)} {st : List Value} {M : li_M} {Q : Option Value → li_M → Prop}
theorem li_putr {ix k r q N : Nat} {T : u_T} {C0 : String} {sl : List (Option Nat)} {ci : Nat} {ty0 : Nat → FieldType} {ty : FieldType} (hd : decode Y.2.1 pc = .ok (.putfield ix, 3)) (hs : li_sh 175 = .inl (ci, sl)) (hc : vwCl[ci]? = some (C0, T, N)) (hk : sl[k]? = some (some (1000 + r))) (hu : ∀ k2 : Nat, k2 ≠ k → sl[k2]? ≠ some (some (1000 + r))) (hkN : k < N) (hin : ∀ w ∈ u_ws C0 T N, w ∈ li_ws) (hty : ∀ k, k < N → parseFieldDescriptor (T k).2.2.1 = some (ty0 k)) (hnm : ∀ a, a < N → ∀ b, b < N → a ≠ b → (T a).2.1 ≠ (T b).2.1) (hfin : (T k).2.2.2 = false) (hdesc : parseFieldDescriptor (T k).2.2.1 = some ty) (hn : narrow ty (.ref (Z.2.2 q)) = .ref (Z.2.2 q)) (hf : fits ty (.ref (Z.2.2 q)) = true) (hw : Cond.fieldLink Y.1.cls ix (T k).1 (T k).2.1 (T k).2.2.1 ∈ li_ws)
    (kk : li_T l Z Y d (pc + 3) lo st (li_ur M r (some q)) Q) : li_T l Z Y d pc lo (.ref (Z.2.2 q) :: .ref (Z.2.2 175) :: st) M Q := by
  intro p e s m args below meth c C K H locs ls hH hS hl
  refine va_put (D := Z.1) (ci := ci) (v := .ref (Z.2.2 q)) (ty := ty) (C := C0) (T := T) (N := N) (fs := li_ob Z M 175 0 sl) C.1 C.2.1 C.2.2.2.2.1 hin ty0 hty hnm C.2.2.2.1 K.1 hH (li_D K.2.1) hS 175 (by rw [li_get (by decide), li_cellO hs]) hc k hkN (C.2.2.2.2.1 _ hw) (fun _ h => h) hfin hdesc hn hf (by rw [li_ob_len]; exact (List.getElem?_eq_some_iff.mp hk).1) hd (fun H1 locs1 hP hD hS1 => ?_)
  have e0 : (li_wd Z M).set 175 (Z.2.2 175, .inr (ci, (li_ob Z M 175 0 sl).set k (.ref (Z.2.2 q)))) = li_wd Z (li_ur M r (some q)) := by
    rw [← li_ob_urS (Z := Z) (M := M) (i := 175) (r := r) (q := q) sl 0 k hk hu, ← li_cellO (Z := Z) (M := li_ur M r (some q)) hs]
    exact li_set (by decide) li_cell_ur
  rw [e0] at hP
  exact kk p e s m args below meth c C K H1 locs1 ls hP hS1 hl
end LIPR
