abbrev li_S : Type := (Nat × List (Option Nat)) ⊕ (Nat × Nat)
def li_tab : List li_S := [.inl (11, [some 1, some 3, some 5, some 13, some 21, some 144, some 151, some 148, some 155, some 158, some 163, some 171, some 174]), .inl (7, [some 2, none, none]), .inr (0, 80), .inl (5, [some 4, none]), .inr (0, 14), .inl (8, [none, none, some 6, some 7, some 8, some 9, some 10, some 11, some 12]), .inr (0, 6), .inr (0, 6), .inr (0, 8), .inr (0, 8), .inr (0, 8), .inr (0, 8), .inr (0, 8), .inl (4, [none, none, none, none, some 14, some 15, some 16, some 17, some 18, some 19, some 20]), .inr (0, 6), .inr (0, 6), .inr (1, 6), .inr (0, 6), .inr (0, 6), .inr (0, 6), .inr (1, 6), .inl (3, [some 22, some 23, some 24, none, none, none]), .inr (132, 12), .inr (228, 2), .inl (4, [none, none, none, none, some 25, some 26, some 27, some 28, some 29, some 30, some 31]), .inr (0, 6), .inr (0, 6), .inr (1, 6), .inr (0, 6), .inr (0, 6), .inr (0, 6), .inr (1, 6), .inl (4, [none, none, none, none, some 33, some 34, some 35, some 36, some 37, some 38, some 39]), .inr (0, 6), .inr (0, 6), .inr (1, 6), .inr (0, 6), .inr (0, 6), .inr (0, 6), .inr (1, 6), .inl (4, [none, none, none, none, some 41, some 42, some 43, some 44, some 45, some 46, some 47]), .inr (0, 6), .inr (0, 6), .inr (1, 6), .inr (0, 6), .inr (0, 6), .inr (0, 6), .inr (1, 6), .inl (4, [none, none, none, none, some 49, some 50, some 51, some 52, some 53, some 54, some 55]), .inr (0, 6), .inr (0, 6), .inr (1, 6), .inr (0, 6), .inr (0, 6), .inr (0, 6), .inr (1, 6), .inl (4, [none, none, none, none, some 57, some 58, some 59, some 60, some 61, some 62, some 63]), .inr (0, 6), .inr (0, 6), .inr (1, 6), .inr (0, 6), .inr (0, 6), .inr (0, 6), .inr (1, 6), .inl (4, [none, none, none, none, some 65, some 66, some 67, some 68, some 69, some 70, some 71]), .inr (0, 6), .inr (0, 6), .inr (1, 6), .inr (0, 6), .inr (0, 6), .inr (0, 6), .inr (1, 6), .inl (4, [none, none, none, none, some 73, some 74, some 75, some 76, some 77, some 78, some 79]), .inr (0, 6), .inr (0, 6), .inr (1, 6), .inr (0, 6), .inr (0, 6), .inr (0, 6), .inr (1, 6), .inl (4, [none, none, none, none, some 81, some 82, some 83, some 84, some 85, some 86, some 87]), .inr (0, 6), .inr (0, 6), .inr (1, 6), .inr (0, 6), .inr (0, 6), .inr (0, 6), .inr (1, 6), .inl (4, [none, none, none, none, some 89, some 90, some 91, some 92, some 93, some 94, some 95]), .inr (0, 6), .inr (0, 6), .inr (1, 6), .inr (0, 6), .inr (0, 6), .inr (0, 6), .inr (1, 6), .inl (4, [none, none, none, none, some 97, some 98, some 99, some 100, some 101, some 102, some 103]), .inr (0, 6), .inr (0, 6), .inr (1, 6), .inr (0, 6), .inr (0, 6), .inr (0, 6), .inr (1, 6), .inl (4, [none, none, none, none, some 105, some 106, some 107, some 108, some 109, some 110, some 111]), .inr (0, 6), .inr (0, 6), .inr (1, 6), .inr (0, 6), .inr (0, 6), .inr (0, 6), .inr (1, 6), .inl (4, [none, none, none, none, some 113, some 114, some 115, some 116, some 117, some 118, some 119]), .inr (0, 6), .inr (0, 6), .inr (1, 6), .inr (0, 6), .inr (0, 6), .inr (0, 6), .inr (1, 6), .inl (4, [none, none, none, none, some 121, some 122, some 123, some 124, some 125, some 126, some 127]), .inr (0, 6), .inr (0, 6), .inr (1, 6), .inr (0, 6), .inr (0, 6), .inr (0, 6), .inr (1, 6), .inl (4, [none, none, none, none, some 129, some 130, some 131, some 132, some 133, some 134, some 135]), .inr (0, 6), .inr (0, 6), .inr (1, 6), .inr (0, 6), .inr (0, 6), .inr (0, 6), .inr (1, 6), .inl (4, [none, none, none, none, some 137, some 138, some 139, some 140, some 141, some 142, some 143]), .inr (0, 6), .inr (0, 6), .inr (1, 6), .inr (0, 6), .inr (0, 6), .inr (0, 6), .inr (1, 6), .inl (6, [some 145, some 146, some 147, none]), .inr (0, 80), .inr (0, 80), .inr (0, 6), .inl (0, [some 5, some 13, some 144, some 149, some 150, none, none, none]), .inr (0, 32), .inr (0, 8), .inl (6, [some 152, some 153, some 154, none]), .inr (0, 80), .inr (0, 80), .inr (0, 6), .inl (0, [some 5, some 13, some 151, some 156, some 157, none, none, none]), .inr (0, 32), .inr (0, 8), .inl (9, [some 5, some 13, some 148, some 159, some 160, some 161, some 162, none, none]), .inr (0, 36), .inr (0, 6), .inr (0, 6), .inr (0, 6), .inl (10, [some 164, some 165, some 166, some 167, some 168, some 169, some 170, none]), .inr (0, 30), .inr (0, 30), .inr (0, 14), .inr (0, 225), .inr (0, 15), .inr (0, 225), .inr (0, 15), .inl (2, [some 5, some 13, some 148, some 172, some 173, none, none, none, none]), .inr (0, 6), .inr (1, 1125), .inr (0, 160), .inl (12, [some 176, none, some 177, some 178, none, some 179, some 180, none, some 181, none, none, some 1000, none, none, none, none, some 182, some 1001, none, some 184, none, some 185, some 186, none, some 187, none, none, some 188, none, some 189, some 190, some 191, none, none, some 192, none, some 193, some 194, none, some 195, none, some 196, some 197, none, some 198, some 199, none, some 200, none, some 201, some 202, some 203]), .inr (0, 51), .inr (0, 6), .inr (0, 6), .inr (0, 40), .inr (2, 80), .inr (0, 20), .inr (0, 40), .inr (2, 40), .inr (2, 40), .inr (0, 6), .inr (0, 612), .inr (0, 51), .inr (0, 320), .inr (0, 8), .inr (0, 6), .inr (0, 6), .inr (3, 37210), .inr (0, 30), .inr (0, 30), .inr (0, 225), .inr (0, 15), .inr (0, 6), .inr (0, 32), .inr (3, 10000), .inr (0, 51), .inr (0, 102), .inr (3, 2), .inr (0, 2), .inr (1, 1)]
def li_N : Nat := 205
def li_sh (i : Nat) : li_S := (li_tab[i]?).getD (.inr (0, 0))
/-! THE LITE MACHINE. A state: ints of objects and of int-like arrays (by cell and place), longs of arrays, references that change. -/
abbrev li_M : Type := (Nat → Nat → Int32) × (Nat → Nat → Int64) × (Nat → Option Nat)
/-- the classes' numbers and slots; the array classes; the cells' addresses -/
abbrev li_Z : Type := va_G × (Nat → ClassId) × (Nat → Nat)
def li_rv (Z : li_Z) (M : li_M) (j : Nat) : Value := if j < 1000 then .ref (Z.2.2 j) else va_rf ((M.2.2 (j - 1000)).map Z.2.2)
def li_ob (Z : li_Z) (M : li_M) (i : Nat) : Nat → List (Option Nat) → List Value
  | _, [] => []
  | k, o :: r => (match o with
    | none => Value.int (M.1 i k)
    | some j => li_rv Z M j) :: li_ob Z M i (k + 1) r
def li_ar (Z : li_Z) (M : li_M) (i t : Nat) : (Nat → Int32) ⊕ (Nat → Int64) ⊕ (Nat → UInt32) ⊕ (Nat → UInt64) ⊕ (Nat → Option Nat) :=
  if t < 100 then (if t = 1 then .inr (.inl (M.2.1 i)) else .inl (M.1 i)) else .inr (.inr (.inr (.inr (fun j => some (Z.2.2 (t - 100 + 8 * j))))))
def li_ct (t : Nat) : Nat := if t < 100 then t else 4
def li_cell (Z : li_Z) (M : li_M) (i : Nat) : va_E := match li_sh i with
  | .inl o => .inr (o.1, li_ob Z M i 0 o.2)
  | .inr a => .inl (Z.2.1 (li_ct a.1), a.2, li_ar Z M i a.1)
def li_wd (Z : li_Z) (M : li_M) : va_W := (List.range li_N).map fun i => (Z.2.2 i, li_cell Z M i)
def li_tys (Z : li_Z) : List (ClassId × FieldType) := [(Z.2.1 0, .int), (Z.2.1 1, .long), (Z.2.1 2, .byte), (Z.2.1 3, .boolean), (Z.2.1 4, .object "ClockForTalk$Ledger")]
def li_H (Z : li_Z) (M : li_M) (H : Heap) : Prop := va_P Z.1 vwCl (li_wd Z M) H
def li_dis (Z : li_Z) : Prop := ∀ i j, i < li_N → j < li_N → Z.2.2 i = Z.2.2 j → i = j
def li_A (Z : li_Z) : Nat → Prop := fun q => ∃ i, i < li_N ∧ q = Z.2.2 i
theorem li_get {Z : li_Z} {M : li_M} {i : Nat} (h : i < li_N) : (li_wd Z M)[i]? = some (Z.2.2 i, li_cell Z M i) := by
  simp [li_wd, h]
theorem li_get' {Z : li_Z} {M : li_M} {i : Nat} {q : Nat × va_E} (h : (li_wd Z M)[i]? = some q) : i < li_N ∧ q = (Z.2.2 i, li_cell Z M i) := by
  by_cases hi : i < li_N
  · rw [li_get hi] at h
    exact ⟨hi, (Option.some.inj h).symm⟩
  · simp [li_wd, hi] at h
theorem li_D {Z : li_Z} {M : li_M} (hd : li_dis Z) : va_D (li_A Z) (li_wd Z M) := by
  refine ⟨fun i j p q hi hj hpq => ?_, fun k q hk => ?_⟩
  · obtain ⟨a1, rfl⟩ := li_get' hi
    obtain ⟨a2, rfl⟩ := li_get' hj
    exact hd i j a1 a2 hpq
  · obtain ⟨a1, rfl⟩ := li_get' hk
    exact ⟨k, a1, rfl⟩
theorem li_set {Z : li_Z} {M M' : li_M} {i : Nat} (hi : i < li_N) (h : ∀ j, j ≠ i → li_cell Z M' j = li_cell Z M j) : (li_wd Z M).set i (Z.2.2 i, li_cell Z M' i) = li_wd Z M' := by
  apply List.ext_getElem?
  intro k
  by_cases hk : k = i
  · subst hk
    rw [List.getElem?_set_self (by simp [li_wd, hi]), li_get hi]
  · rw [List.getElem?_set_ne (Ne.symm hk)]
    by_cases hl : k < li_N
    · rw [li_get hl, li_get hl, h k hk]
    · simp [li_wd, hl]
/-- an int of a cell is set; a long; a reference -/
def li_ui (M : li_M) (i k : Nat) (x : Int32) : li_M := (fun a b => if a = i then (if b = k then x else M.1 a b) else M.1 a b, M.2.1, M.2.2)
def li_ur (M : li_M) (r : Nat) (x : Option Nat) : li_M := (M.1, M.2.1, fun a => if a = r then x else M.2.2 a)
theorem li_ui_at (M : li_M) (i k : Nat) (x : Int32) (a b : Nat) : (li_ui M i k x).1 a b = if a = i then (if b = k then x else M.1 a b) else M.1 a b := rfl
theorem li_rv_ui {Z : li_Z} {M : li_M} {i k : Nat} {x : Int32} (j : Nat) : li_rv Z (li_ui M i k x) j = li_rv Z M j := rfl
theorem li_ob_ne {Z : li_Z} {M : li_M} {i k j : Nat} {x : Int32} (h : j ≠ i) : ∀ (sl : List (Option Nat)) (n : Nat), li_ob Z (li_ui M i k x) j n sl = li_ob Z M j n sl := by
  intro sl
  induction sl with
  | nil => intro n; rfl
  | cons o r ih =>
    intro n
    cases o with
    | none => simp only [li_ob, ih, li_ui_at, if_neg h]
    | some q => simp [li_ob, ih, li_rv_ui]
theorem li_ob_len {Z : li_Z} {M : li_M} {i : Nat} : ∀ (sl : List (Option Nat)) (n : Nat), (li_ob Z M i n sl).length = sl.length := by
  intro sl
  induction sl with
  | nil => intro n; rfl
  | cons o r ih => intro n; simp [li_ob, ih]
theorem li_ob_get {Z : li_Z} {M : li_M} {i : Nat} : ∀ (sl : List (Option Nat)) (n k : Nat), (li_ob Z M i n sl)[k]? = (sl[k]?).map (fun o => match o with
    | none => Value.int (M.1 i (n + k))
    | some j => li_rv Z M j) := by
  intro sl
  induction sl with
  | nil => intro n k; simp [li_ob]
  | cons o r ih =>
    intro n k
    cases k with
    | zero => simp [li_ob]
    | succ k =>
      simp only [li_ob, List.getElem?_cons_succ, ih]
      rw [show n + 1 + k = n + (k + 1) by omega]
theorem li_ob_ge {Z : li_Z} {M : li_M} {i k : Nat} {x : Int32} : ∀ (sl : List (Option Nat)) (n : Nat), k < n → li_ob Z (li_ui M i k x) i n sl = li_ob Z M i n sl := by
  intro sl
  induction sl with
  | nil => intro n _; rfl
  | cons o r ih =>
    intro n hn
    cases o with
    | none => simp only [li_ob, ih (n + 1) (by omega), li_ui_at, if_neg (show n ≠ k by omega), ite_self]
    | some q => simp [li_ob, ih (n + 1) (by omega), li_rv_ui]
theorem li_ob_set {Z : li_Z} {M : li_M} {i : Nat} {x : Int32} : ∀ (sl : List (Option Nat)) (n k : Nat), sl[k]? = some none → li_ob Z (li_ui M i (n + k) x) i n sl = (li_ob Z M i n sl).set k (.int x) := by
  intro sl
  induction sl with
  | nil => intro n k h; simp at h
  | cons o r ih =>
    intro n k h
    cases k with
    | zero =>
      simp only [List.getElem?_cons_zero, Option.some.injEq] at h
      subst h
      simp only [Nat.add_zero, li_ob, List.set_cons_zero]
      rw [li_ob_ge r (n + 1) (by omega)]
      simp [li_ui]
    | succ k =>
      have h1 := ih (n + 1) k (by simpa using h)
      rw [show n + 1 + k = n + (k + 1) by omega] at h1
      cases o with
      | none => simp only [li_ob, h1, li_ui_at, List.set_cons_succ, if_neg (show n ≠ n + (k + 1) by omega), ite_self]
      | some q => simp [li_ob, h1, li_rv_ui]
theorem li_ar_ui {Z : li_Z} {M : li_M} {i k j t : Nat} {x : Int32} (h : j ≠ i) : li_ar Z (li_ui M i k x) j t = li_ar Z M j t := by
  simp [li_ar, li_ui, h]
theorem li_cell_ne {Z : li_Z} {M : li_M} {i k : Nat} {x : Int32} (j : Nat) (h : j ≠ i) : li_cell Z (li_ui M i k x) j = li_cell Z M j := by
  unfold li_cell
  cases li_sh j with
  | inl o => simp only [li_ob_ne h]
  | inr a => simp only [li_ar_ui h]
/-- a method: its name, code, locals, type -/
abbrev li_Y : Type := MethodName × ByteArray × Nat × Option FieldType
def li_rm (d : Nat) : Room := { frames := d, cells := 0, slots := 0, locals := 60 * d }
/-- what lies outside the world and stays: the static row, the texts -/
def li_rf (j : Nat) : Int32 := if j = 0 then 1 else if j = 1 then 3 else if j = 2 then 9 else 99
def li_so (i : Nat) : String × Nat × String := if i = 0 then ("ClockForTalk$Rule", 48, "<>=") else if i = 1 then ("ClockForTalk$Rule", 74, "+-") else if i = 2 then ("ClockForTalk$Rule", 79, "*/") else ("ClockForTalk$Rule", 87, "lwscdh")
def li_len : List Nat := [3, 2, 2, 6]
def li_byt : List (List Int32) := [[60, 62, 61], [43, 45], [42, 47], [108, 119, 115, 99, 100, 104]]
def li_E (Z : li_Z) (U : State) (H : Heap) : Prop :=
  va_Z "ClockForTalk$Costs" "REACH" "[I" (.ref (Z.2.2 2000)) (li_A Z) U H ∧ va_T .int (Z.2.2 2000) 4 (fun j => .int (li_rf j)) (li_A Z) U H ∧
  vk_S 4 li_len li_byt (fun i => Z.2.2 (2100 + i)) (fun i => Z.2.2 (2200 + i)) (li_A Z) U H ∧ va_Z "java/lang/String" "COMPACT_STRINGS" "Z" (.int 1) (li_A Z) U H ∧ va_Zq "jdk/internal/util/Preconditions" "SIOOBE_FORMATTER" "Ljava/util/function/BiFunction;" (li_A Z) U H
theorem li_E.moved {Z : li_Z} {u U : State} {H : Heap} (hvm : u.vm.Alike U.vm) (h : li_E Z u H) : li_E Z U H :=
  ⟨va_Z.moved hvm h.1, va_T.moved hvm h.2.1, vk_S.moved hvm h.2.2.1, va_Z.moved hvm h.2.2.2.1, va_Zq.moved hvm h.2.2.2.2⟩
theorem li_E.kept {Z : li_Z} {U : State} {H H1 : Heap} (h : li_E Z U H) (hq : ∀ a : Nat, a < H.size → ¬ li_A Z a → H1[a]? = H[a]?) : li_E Z U H1 :=
  ⟨va_Z.kept h.1 hq, va_T.kept h.2.1 hq, vk_S.kept h.2.2.1 hq, va_Z.kept h.2.2.2.1 hq, va_Zq.kept h.2.2.2.2 hq⟩
def li_K (Z : li_Z) (s : State) : Prop := va_K Z.1 vwCl (li_tys Z) s ∧ li_dis Z ∧ (∀ w ∈ li_nw, va_Nw w s) ∧ li_E Z s s.heap ∧ ∀ i : Nat, i < 4 → vk_R (li_so i).1 (li_so i).2.1 (li_so i).2.2 (Z.2.2 (2100 + i)) s
def li_X (Y : li_Y) (p : Program) (s : State) (m : MethodId) (args : Array Value) (meth : Method) (c : Code) : Prop :=
  p.tables.exec = Jvm.exec ∧ c.code = Y.2.1 ∧ c.maxLocals = Y.2.2.1 ∧ s.vm.findClass Y.1.cls = some m.cls ∧ (∀ w ∈ li_ws, w.before args s = true) ∧ meth.sig.returnType = Y.2.2.2 ∧ meth.locks = false
def li_Q (Z : li_Z) (Q : Option Value → li_M → Prop) : Array Value → State → Outcome → State → Prop := fun _ st oc t => (∃ (r : Option Value) (M' : li_M), oc = .returned r ∧ Q r M' ∧ li_H Z M' t.heap) ∧ va_F (li_A Z) st t
/-- from this pc, with these locals and this stack, at this state, the method comes to its end with Q -/
def li_T (l : Launch) (Z : li_Z) (Y : li_Y) (d : Nat) (pc : Nat) (lo : List (Nat × Value)) (st : List Value) (M : li_M) (Q : Option Value → li_M → Prop) : Prop :=
  ∀ (p : Program) (e : Env) (s : State) (m : MethodId) (args : Array Value) (below : List Frame) (meth : Method) (c : Code), li_X Y p s m args meth c → li_K Z s →
    ∀ (H : Heap) (locs : List Loc) (ls : Array Slot), li_H Z M H → va_S (li_A Z) s.heap H locs → lv_has ls Y.2.2.1 lo →
      W p l e (li_rm d) s m args below meth c H locs 0 0 (MQ below (li_Q Z Q) args s 0 0 (li_A Z)) (F0 m pc ls st)
def li_wy (Y : li_Y) : List Cond := .code Y.1 Y.2.1 Y.2.2.1 Y.2.2.2 :: li_ws
def li_Met (l : Launch) (Z : li_Z) (Y : li_Y) (d : Nat) (av : List Value) (M : li_M) (Q : Option Value → li_M → Prop) : Prop :=
  Met l Y.1 (li_wy Y) (li_rm d) (va_Pc av (fun U => li_H Z M U.heap ∧ li_K Z U)) (li_Q Z Q) 0 0 (li_A Z)
theorem li_enter {l : Launch} {Z : li_Z} {Y : li_Y} {d : Nat} {av : List Value} {M : li_M} {Q : Option Value → li_M → Prop} (hy : plainName Y.1.cls = true) (hlen : (lg_sl av).length ≤ Y.2.2.1)
    (k : li_T l Z Y d 0 (lv_args 0 av) [] M Q) : li_Met l Z Y d av M Q := by
  refine Met.ofW (cc := Y.2.1) (maxL := Y.2.2.1) (ret := Y.2.2.2) hy rfl ?_
  intro p e s m args below meth c s₁ B hml hv
  obtain ⟨rfl, hH, hK⟩ := hv
  have hts := atoms_spec (ws := li_wy Y) B.pre
  have hl := lv_entry av (n := Y.2.2.1) hlen
  rw [lg_entry_eq]
  exact k p e s m _ below meth c ⟨B.exec, B.bytes, hml, findClass_of_methodNamed B.named, fun w hw => hts w (List.mem_cons_of_mem _ hw), B.returns, B.notSynchronized⟩ hK s.heap [] _ hH va_S.rf hl
theorem li_mono {l : Launch} {Z : li_Z} {Y : li_Y} {d : Nat} {av : List Value} {M : li_M} {Q Q' : Option Value → li_M → Prop} (h : ∀ r M', Q r M' → Q' r M') (hM : li_Met l Z Y d av M Q) : li_Met l Z Y d av M Q' := by
  intro p e a1 a2 a3 s m args below a4 a5 a6 a7
  obtain ⟨n, o, h1, h2, h3, h4, h5⟩ := hM p e a1 a2 a3 s m args below a4 a5 a6 a7
  refine ⟨n, o, h1, h2, h3, ?_, h5⟩
  obtain ⟨⟨r, M', e1, e2, e3⟩, e4⟩ := h4
  exact ⟨⟨r, M', e1, h _ _ e2, e3⟩, e4⟩
