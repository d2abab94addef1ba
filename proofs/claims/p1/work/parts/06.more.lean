/-! FRAMES, names, the JDK's small functions -/
/-- outside the cells of E nothing has changed -/
def li_fr (E : Nat → Prop) (M M' : li_M) : Prop := (∀ i, ¬ E i → M'.1 i = M.1 i) ∧ (∀ i, ¬ E i → M'.2.1 i = M.2.1 i) ∧ M'.2.2 = M.2.2
theorem li_fr_refl {E : Nat → Prop} {M : li_M} : li_fr E M M := ⟨fun _ _ => rfl, fun _ _ => rfl, rfl⟩
theorem li_fr_ui {E : Nat → Prop} {M N N' : li_M} {j k : Nat} {x : Int32} (h : li_fr E M N) (hj : E j) (e : N' = li_ui N j k x) : li_fr E M N' := by
  subst e
  refine ⟨fun i hi => ?_, h.2.1, h.2.2⟩
  rw [← h.1 i hi]
  funext b
  have hij : i ≠ j := fun q => hi (q ▸ hj)
  simp [li_ui, hij]
theorem li_fr_trans {E E' : Nat → Prop} {M N N' : li_M} (h : li_fr E M N) (h' : li_fr E' N N') (hE : ∀ i, E' i → E i) : li_fr E M N' :=
  ⟨fun i hi => (h'.1 i (fun q => hi (hE i q))).trans (h.1 i hi), fun i hi => (h'.2.1 i (fun q => hi (hE i q))).trans (h.2.1 i hi), h'.2.2.trans h.2.2⟩
/-- ends: an int, a boolean, nothing, a long; and the frame -/
abbrev li_SI (E : Nat → Prop) (M : li_M) : Option Value → li_M → Prop := fun r M' => (∃ x : Int32, r = some (.int x)) ∧ li_fr E M M'
abbrev li_SV (E : Nat → Prop) (M : li_M) : Option Value → li_M → Prop := fun r M' => r = none ∧ li_fr E M M'
abbrev li_SL (E : Nat → Prop) (M : li_M) : Option Value → li_M → Prop := fun r M' => (∃ x : Int64, r = some (.long x)) ∧ li_fr E M M'
theorem li_nz {x : Int32} (h : x = 0 ∨ x = 1) : narrow .boolean (.int x) = .int x := by rcases h with rfl | rfl <;> rfl
theorem li_fz {x : Int32} (h : x = 0 ∨ x = 1) : fits .boolean (.int x) = true := by rcases h with rfl | rfl <;> rfl
theorem li_up {i B : Int32} (h : i < B) : (2147483647 - (i + 1).toInt).toNat < (2147483647 - i.toInt).toNat := by
  have h1 := Int32.lt_iff_toInt_lt.mp h
  have h2 := Int32.toInt_lt B
  have h3 := Int32.le_toInt i
  have e : (i + 1).toInt = i.toInt + 1 := by
    rw [Int32.toInt_add]
    have : (1 : Int32).toInt = 1 := rfl
    rw [this, Int.bmod_eq_of_le (by omega) (by omega)]
  omega
theorem li_in {i v : Int32} {n : Nat} (h1 : 0 ≤ i) (h2 : i < v) (hv : v.toInt = n) : vp_in i n := by
  rw [vp_in_iff]
  have h3 := Int32.le_iff_toInt_le.mp h1
  have h4 := Int32.lt_iff_toInt_lt.mp h2
  have : (0 : Int32).toInt = 0 := rfl
  omega
theorem li_ge {x y : Int32} (h : ¬ x < y) : y ≤ x := Int32.not_lt.mp h
theorem li_gt {x y : Int32} (h : ¬ x ≤ y) : y < x := Int32.not_le.mp h
section LIM
variable {l : Launch} {Z : li_Z} {Y : li_Y} {d pc ix : Nat} {lo lo' : List (Nat × Value)} {st rest : List Value} {M : li_M} {Q : Option Value → li_M → Prop}
theorem li_top {x : Int32} (k : ∀ y : Int32, y = x → li_T l Z Y d pc lo (.int y :: st) M Q) : li_T l Z Y d pc lo (.int x :: st) M Q := k x rfl
theorem li_topL {x : Int64} (k : ∀ y : Int64, y = x → li_T l Z Y d pc lo (.long y :: st) M Q) : li_T l Z Y d pc lo (.long x :: st) M Q := k x rfl
theorem li_nm (k : ∀ N : li_M, N = M → li_T l Z Y d pc lo st N Q) : li_T l Z Y d pc lo st M Q := k M rfl
theorem li_pick (ks : List Nat) (lo' : List (Nat × Value)) (hl : lv_pick lo ks = lo') (k : li_T l Z Y d pc lo' st M Q) : li_T l Z Y d pc lo st M Q :=
  fun p e s m args below meth c C K H locs ls hH hS hl' => k p e s m args below meth c C K H locs ls hH hS (lv_sub hl' ks hl)
theorem li_mmax {x y : Int32} (hd : decode Y.2.1 pc = .ok (.invokestatic ix, 3)) (hdd : 1 ≤ d) (w1 : Cond.methodLink Y.1.cls ix Lib.Math.max.name ∈ li_ws) (w2 : Cond.static Lib.Math.max.name ∈ li_ws) (w3 : Cond.initialized "java/lang/Math" ∈ li_ws) (w4 : Cond.code Lib.Math.max.name Lib.Math.max.code 2 (some .int) ∈ li_ws) (hc : (st.map fun v => v.category).sum ≤ 8)
    (kk : li_T l Z Y d (pc + 3) lo (.int (if x < y then y else x) :: st) M Q) : li_T l Z Y d pc lo (.int y :: .int x :: st) M Q :=
  fun p e s m args below meth c C K H locs ls hH hS hl => va_mmax C.1 C.2.1 (C.2.2.1.trans hl.1.symm) C.2.2.2.1 (C.2.2.2.2.1 _ w1) (C.2.2.2.2.1 _ w2) (C.2.2.2.2.1 _ w3) (C.2.2.2.2.1 _ w4) hdd (by show _ + 13 ≤ 60 * d; omega) (Nat.le_refl _) (Nat.le_refl _) hd (kk p e s m args below meth c C K H locs ls hH hS hl)
theorem li_mmin {x y : Int32} (hd : decode Y.2.1 pc = .ok (.invokestatic ix, 3)) (hdd : 1 ≤ d) (w1 : Cond.methodLink Y.1.cls ix Lib.Math.min.name ∈ li_ws) (w2 : Cond.static Lib.Math.min.name ∈ li_ws) (w3 : Cond.initialized "java/lang/Math" ∈ li_ws) (w4 : Cond.code Lib.Math.min.name Lib.Math.min.code 2 (some .int) ∈ li_ws) (hc : (st.map fun v => v.category).sum ≤ 8)
    (kk : li_T l Z Y d (pc + 3) lo (.int (if y < x then y else x) :: st) M Q) : li_T l Z Y d pc lo (.int y :: .int x :: st) M Q :=
  fun p e s m args below meth c C K H locs ls hH hS hl => va_mmin C.1 C.2.1 (C.2.2.1.trans hl.1.symm) C.2.2.2.1 (C.2.2.2.2.1 _ w1) (C.2.2.2.2.1 _ w2) (C.2.2.2.2.1 _ w3) (C.2.2.2.2.1 _ w4) hdd (by show _ + 13 ≤ 60 * d; omega) (Nat.le_refl _) (Nat.le_refl _) hd (kk p e s m args below meth c C K H locs ls hH hS hl)
theorem li_mabs {x : Int32} (hd : decode Y.2.1 pc = .ok (.invokestatic ix, 3)) (hdd : 1 ≤ d) (w1 : Cond.methodLink Y.1.cls ix Lib.Math.abs.name ∈ li_ws) (w2 : Cond.static Lib.Math.abs.name ∈ li_ws) (w3 : Cond.initialized "java/lang/Math" ∈ li_ws) (w4 : Cond.code Lib.Math.abs.name Lib.Math.abs.code 1 (some .int) ∈ li_ws) (hc : (st.map fun v => v.category).sum ≤ 8)
    (kk : li_T l Z Y d (pc + 3) lo (.int (if 0 ≤ x then x else 0 - x) :: st) M Q) : li_T l Z Y d pc lo (.int x :: st) M Q :=
  fun p e s m args below meth c C K H locs ls hH hS hl => va_mabs C.1 C.2.1 (C.2.2.1.trans hl.1.symm) C.2.2.2.1 (C.2.2.2.2.1 _ w1) (C.2.2.2.2.1 _ w2) (C.2.2.2.2.1 _ w3) (C.2.2.2.2.1 _ w4) hdd (by show _ + 13 ≤ 60 * d; omega) (Nat.le_refl _) (Nat.le_refl _) hd (kk p e s m args below meth c C K H locs ls hH hS hl)
/-- the static row -/
theorem li_reach (hd : decode Y.2.1 pc = .ok (.getstatic ix, 3)) (hw : Cond.fieldLink Y.1.cls ix "ClockForTalk$Costs" "REACH" "[I" ∈ li_ws) (kk : li_T l Z Y d (pc + 3) lo (.ref (Z.2.2 2000) :: st) M Q) : li_T l Z Y d pc lo st M Q :=
  fun p e s m args below meth c C K H locs ls hH hS hl => va_gets C.1 C.2.1 (C := "ClockForTalk$Costs") (n := "REACH") (d := "[I") (ref := "ClockForTalk$Costs") K.2.2.2.1.1 hS C.2.2.2.1 (C.2.2.2.2.1 _ hw) (fun _ h => h) hd (kk p e s m args below meth c C K H locs ls hH hS hl)
/-- copying: a row of ints to another -/
def li_uc (M : li_M) (j : Nat) (f : Nat → Int32) : li_M := (fun a => if a = j then f else M.1 a, M.2.1, M.2.2)
def li_ucL (M : li_M) (j : Nat) (f : Nat → Int64) : li_M := (M.1, fun a => if a = j then f else M.2.1 a, M.2.2)
theorem li_fr_uc {E : Nat → Prop} {M N N' : li_M} {j : Nat} {f : Nat → Int32} (h : li_fr E M N) (hj : E j) (e : N' = li_uc N j f) : li_fr E M N' := by
  subst e
  refine ⟨fun i hi => ?_, h.2.1, h.2.2⟩
  rw [← h.1 i hi]
  have hij : i ≠ j := fun q => hi (q ▸ hj)
  simp [li_uc, hij]
theorem li_fr_ucL {E : Nat → Prop} {M N N' : li_M} {j : Nat} {f : Nat → Int64} (h : li_fr E M N) (hj : E j) (e : N' = li_ucL N j f) : li_fr E M N' := by
  subst e
  refine ⟨h.1, fun i hi => ?_, h.2.2⟩
  rw [← h.2.1 i hi]
  have hij : i ≠ j := fun q => hi (q ▸ hj)
  simp [li_ucL, hij]
end LIM
