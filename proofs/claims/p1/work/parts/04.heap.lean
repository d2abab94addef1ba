/-! THE STEPS that touch cells, and calls -/
section LIH
variable {l : Launch} {Z : li_Z} {Y : li_Y} {d pc : Nat} {lo lo' : List (Nat × Value)} {st : List Value} {M : li_M} {Q : Option Value → li_M → Prop}
theorem li_cellO {i ci : Nat} {sl : List (Option Nat)} (hs : li_sh i = .inl (ci, sl)) : li_cell Z M i = .inr (ci, li_ob Z M i 0 sl) := by
  unfold li_cell; rw [hs]
theorem li_cellA {i t n : Nat} (hs : li_sh i = .inr (t, n)) : li_cell Z M i = .inl (Z.2.1 (li_ct t), n, li_ar Z M i t) := by
  unfold li_cell; rw [hs]
/-- an int field -/
theorem li_geti {j ci k ix N : Nat} {T : u_T} {C0 : String} {sl : List (Option Nat)} (hd : decode Y.2.1 pc = .ok (.getfield ix, 3)) (hj : j < li_N) (hs : li_sh j = .inl (ci, sl)) (hc : vwCl[ci]? = some (C0, T, N)) (hk : sl[k]? = some none) (hkN : k < N) (hin : ∀ w ∈ u_ws C0 T N, w ∈ li_ws) (hw : Cond.fieldLink Y.1.cls ix (T k).1 (T k).2.1 (T k).2.2.1 ∈ li_ws)
    (kk : li_T l Z Y d (pc + 3) lo (.int (M.1 j k) :: st) M Q) : li_T l Z Y d pc lo (.ref (Z.2.2 j) :: st) M Q := by
  intro p e s m args below meth c C K H locs ls hH hS hl
  refine va_get (D := Z.1) (ci := ci) (v := .int (M.1 j k)) (C := C0) (T := T) (N := N) (fs := li_ob Z M j 0 sl) C.1 C.2.1 C.2.2.2.2.1 hin C.2.2.2.1 K.1 hH j (by rw [li_get hj, li_cellO hs]) hc k hkN (C.2.2.2.2.1 _ hw) (fun _ h => h) (by rw [li_ob_get, hk]; simp) hd (kk p e s m args below meth c C K H locs ls hH hS hl)
/-- a reference field that stays -/
theorem li_getr {j ci k ix N q : Nat} {T : u_T} {C0 : String} {sl : List (Option Nat)} (hd : decode Y.2.1 pc = .ok (.getfield ix, 3)) (hj : j < li_N) (hs : li_sh j = .inl (ci, sl)) (hc : vwCl[ci]? = some (C0, T, N)) (hk : sl[k]? = some (some q)) (hq : q < 1000) (hkN : k < N) (hin : ∀ w ∈ u_ws C0 T N, w ∈ li_ws) (hw : Cond.fieldLink Y.1.cls ix (T k).1 (T k).2.1 (T k).2.2.1 ∈ li_ws)
    (kk : li_T l Z Y d (pc + 3) lo (.ref (Z.2.2 q) :: st) M Q) : li_T l Z Y d pc lo (.ref (Z.2.2 j) :: st) M Q := by
  intro p e s m args below meth c C K H locs ls hH hS hl
  refine va_get (D := Z.1) (ci := ci) (v := .ref (Z.2.2 q)) (C := C0) (T := T) (N := N) (fs := li_ob Z M j 0 sl) C.1 C.2.1 C.2.2.2.2.1 hin C.2.2.2.1 K.1 hH j (by rw [li_get hj, li_cellO hs]) hc k hkN (C.2.2.2.2.1 _ hw) (fun _ h => h) (by rw [li_ob_get, hk]; simp [li_rv, hq]) hd (kk p e s m args below meth c C K H locs ls hH hS hl)
/-- a reference field that changes, holding the cell q -/
theorem li_getm {j ci k ix N r q : Nat} {T : u_T} {C0 : String} {sl : List (Option Nat)} (hd : decode Y.2.1 pc = .ok (.getfield ix, 3)) (hj : j < li_N) (hs : li_sh j = .inl (ci, sl)) (hc : vwCl[ci]? = some (C0, T, N)) (hk : sl[k]? = some (some (1000 + r))) (hr : M.2.2 r = some q) (hkN : k < N) (hin : ∀ w ∈ u_ws C0 T N, w ∈ li_ws) (hw : Cond.fieldLink Y.1.cls ix (T k).1 (T k).2.1 (T k).2.2.1 ∈ li_ws)
    (kk : li_T l Z Y d (pc + 3) lo (.ref (Z.2.2 q) :: st) M Q) : li_T l Z Y d pc lo (.ref (Z.2.2 j) :: st) M Q := by
  intro p e s m args below meth c C K H locs ls hH hS hl
  refine va_get (D := Z.1) (ci := ci) (v := .ref (Z.2.2 q)) (C := C0) (T := T) (N := N) (fs := li_ob Z M j 0 sl) C.1 C.2.1 C.2.2.2.2.1 hin C.2.2.2.1 K.1 hH j (by rw [li_get hj, li_cellO hs]) hc k hkN (C.2.2.2.2.1 _ hw) (fun _ h => h) (by rw [li_ob_get, hk]; simp [li_rv, hr, va_rf, show ¬ 1000 + r < 1000 by omega]) hd (kk p e s m args below meth c C K H locs ls hH hS hl)
/-- an int (or boolean) field is set -/
theorem li_puti {j ci k ix N : Nat} {T : u_T} {C0 : String} {sl : List (Option Nat)} {x : Int32} {ty0 : Nat → FieldType} {ty : FieldType} (hd : decode Y.2.1 pc = .ok (.putfield ix, 3)) (hj : j < li_N) (hs : li_sh j = .inl (ci, sl)) (hc : vwCl[ci]? = some (C0, T, N)) (hk : sl[k]? = some none) (hkN : k < N) (hin : ∀ w ∈ u_ws C0 T N, w ∈ li_ws) (hty : ∀ k, k < N → parseFieldDescriptor (T k).2.2.1 = some (ty0 k)) (hnm : ∀ a, a < N → ∀ b, b < N → a ≠ b → (T a).2.1 ≠ (T b).2.1) (hfin : (T k).2.2.2 = false) (hdesc : parseFieldDescriptor (T k).2.2.1 = some ty) (hn : narrow ty (.int x) = .int x) (hf : fits ty (.int x) = true) (hw : Cond.fieldLink Y.1.cls ix (T k).1 (T k).2.1 (T k).2.2.1 ∈ li_ws)
    (kk : li_T l Z Y d (pc + 3) lo st (li_ui M j k x) Q) : li_T l Z Y d pc lo (.int x :: .ref (Z.2.2 j) :: st) M Q := by
  intro p e s m args below meth c C K H locs ls hH hS hl
  refine va_put (D := Z.1) (ci := ci) (v := .int x) (ty := ty) (C := C0) (T := T) (N := N) (fs := li_ob Z M j 0 sl) C.1 C.2.1 C.2.2.2.2.1 hin ty0 hty hnm C.2.2.2.1 K.1 hH (li_D K.2.1) hS j (by rw [li_get hj, li_cellO hs]) hc k hkN (C.2.2.2.2.1 _ hw) (fun _ h => h) hfin hdesc hn hf (by rw [li_ob_len]; exact (List.getElem?_eq_some_iff.mp hk).1) hd (fun H1 locs1 hP hD hS1 => ?_)
  have e0 : (li_wd Z M).set j (Z.2.2 j, .inr (ci, (li_ob Z M j 0 sl).set k (.int x))) = li_wd Z (li_ui M j k x) := by
    have e1 := li_ob_set (Z := Z) (M := M) (i := j) (x := x) sl 0 k hk
    rw [Nat.zero_add] at e1
    rw [← e1, ← li_cellO (Z := Z) (M := li_ui M j k x) hs]
    exact li_set hj li_cell_ne
  rw [e0] at hP
  exact kk p e s m args below meth c C K H1 locs1 ls hP hS1 hl
/-- an int array read -/
theorem li_iald {j n : Nat} {i : Int32} (hd : decode Y.2.1 pc = .ok (.iaload, 1)) (hj : j < li_N) (hs : li_sh j = .inr (0, n)) (hi : vp_in i n) (kk : li_T l Z Y d (pc + 1) lo (.int (M.1 j i.toNatClampNeg) :: st) M Q) : li_T l Z Y d pc lo (.int i :: .ref (Z.2.2 j) :: st) M Q := by
  intro p e s m args below meth c C K H locs ls hH hS hl
  exact va_iald (D := Z.1) (f := M.1 j) C.1 C.2.1 K.1 hH j 0 (by rw [li_get hj, li_cellA hs]; rfl) rfl hi hd (kk p e s m args below meth c C K H locs ls hH hS hl)
theorem li_zald {j n : Nat} {i : Int32} (hd : decode Y.2.1 pc = .ok (.baload, 1)) (hj : j < li_N) (hs : li_sh j = .inr (3, n)) (hi : vp_in i n) (kk : li_T l Z Y d (pc + 1) lo (.int (M.1 j i.toNatClampNeg) :: st) M Q) : li_T l Z Y d pc lo (.int i :: .ref (Z.2.2 j) :: st) M Q := by
  intro p e s m args below meth c C K H locs ls hH hS hl
  exact va_zald (D := Z.1) (f := M.1 j) C.1 C.2.1 K.1 hH j 3 (by rw [li_get hj, li_cellA hs]; rfl) rfl hi hd (kk p e s m args below meth c C K H locs ls hH hS hl)
theorem li_lald {j n : Nat} {i : Int32} (hd : decode Y.2.1 pc = .ok (.laload, 1)) (hj : j < li_N) (hs : li_sh j = .inr (1, n)) (hi : vp_in i n) (kk : li_T l Z Y d (pc + 1) lo (.long (M.2.1 j i.toNatClampNeg) :: st) M Q) : li_T l Z Y d pc lo (.int i :: .ref (Z.2.2 j) :: st) M Q := by
  intro p e s m args below meth c C K H locs ls hH hS hl
  exact va_lald (D := Z.1) (f := M.2.1 j) C.1 C.2.1 K.1 hH j 1 (by rw [li_get hj, li_cellA hs]; rfl) rfl hi hd (kk p e s m args below meth c C K H locs ls hH hS hl)
/-- the ledgers' row -/
theorem li_aald {j n b : Nat} {i : Int32} (hd : decode Y.2.1 pc = .ok (.aaload, 1)) (hj : j < li_N) (hs : li_sh j = .inr (100 + b, n)) (hi : vp_in i n) (kk : li_T l Z Y d (pc + 1) lo (.ref (Z.2.2 (b + 8 * i.toNatClampNeg)) :: st) M Q) : li_T l Z Y d pc lo (.int i :: .ref (Z.2.2 j) :: st) M Q := by
  intro p e s m args below meth c C K H locs ls hH hS hl
  have e1 : li_ar Z M j (100 + b) = .inr (.inr (.inr (.inr (fun j => some (Z.2.2 (b + 8 * j)))))) := by
    unfold li_ar
    rw [if_neg (by omega)]
    simp
  have e2 : li_ct (100 + b) = 4 := by unfold li_ct; rw [if_neg (by omega)]
  refine va_aldq (D := Z.1) (C := "ClockForTalk$Ledger") (f := fun j => some (Z.2.2 (b + 8 * j))) (cA := Z.2.1 4) (n := n) C.1 C.2.1 K.1 hH j 4 (by rw [li_get hj, li_cellA hs, e1, e2]) rfl hi hd (kk p e s m args below meth c C K H locs ls hH hS hl)
theorem li_alen {j t n : Nat} (v : Int32) (hd : decode Y.2.1 pc = .ok (.arraylength, 1)) (hj : j < li_N) (hs : li_sh j = .inr (t, n)) (ht : t < 4 ∨ 100 ≤ t) (hv : Int32.ofNat n = v) (kk : li_T l Z Y d (pc + 1) lo (.int v :: st) M Q) : li_T l Z Y d pc lo (.ref (Z.2.2 j) :: st) M Q := by
  intro p e s m args below meth c C K H locs ls hH hS hl
  have hk := kk p e s m args below meth c C K H locs ls hH hS hl
  rcases ht with ht | ht
  · rcases (show t = 0 ∨ t = 1 ∨ t = 2 ∨ t = 3 by omega) with rfl | rfl | rfl | rfl
    · exact va_alen (D := Z.1) C.1 C.2.1 K.1 hH j 0 (x := (n, li_ar Z M j 0)) (by rw [li_get hj, li_cellA hs]; rfl) rfl hv hd hk
    · exact va_alen (D := Z.1) C.1 C.2.1 K.1 hH j 1 (x := (n, li_ar Z M j 1)) (by rw [li_get hj, li_cellA hs]; rfl) rfl hv hd hk
    · exact va_alen (D := Z.1) C.1 C.2.1 K.1 hH j 2 (x := (n, li_ar Z M j 2)) (by rw [li_get hj, li_cellA hs]; rfl) rfl hv hd hk
    · exact va_alen (D := Z.1) C.1 C.2.1 K.1 hH j 3 (x := (n, li_ar Z M j 3)) (by rw [li_get hj, li_cellA hs]; rfl) rfl hv hd hk
  · have e2 : li_ct t = 4 := by unfold li_ct; rw [if_neg (by omega)]
    exact va_alen (D := Z.1) C.1 C.2.1 K.1 hH j 4 (x := (n, li_ar Z M j t)) (by rw [li_get hj, li_cellA hs, e2]) rfl hv hd hk
/-- an int array written -/
theorem li_iast {j n : Nat} {i x : Int32} (hd : decode Y.2.1 pc = .ok (.iastore, 1)) (hj : j < li_N) (hs : li_sh j = .inr (0, n)) (hi : vp_in i n) (kk : li_T l Z Y d (pc + 1) lo st (li_ui M j i.toNatClampNeg x) Q) : li_T l Z Y d pc lo (.int x :: .int i :: .ref (Z.2.2 j) :: st) M Q := by
  intro p e s m args below meth c C K H locs ls hH hS hl
  refine va_iast (D := Z.1) (f := M.1 j) C.1 C.2.1 K.1 hH (li_D K.2.1) hS j 0 (by rw [li_get hj, li_cellA hs]; rfl) rfl hi hd (fun H1 locs1 hP hD hS1 => ?_)
  have e0 : (li_wd Z M).set j (Z.2.2 j, .inl (Z.2.1 0, n, .inl (upd (M.1 j) i.toNatClampNeg x))) = li_wd Z (li_ui M j i.toNatClampNeg x) := by
    rw [← li_set (Z := Z) (M := M) (M' := li_ui M j i.toNatClampNeg x) hj li_cell_ne, li_cellA hs]
    simp [li_ct, li_ar, li_ui, upd]
    rfl
  rw [e0] at hP
  exact kk p e s m args below meth c C K H1 locs1 ls hP hS1 hl
theorem li_bast {j n : Nat} {i x : Int32} (hd : decode Y.2.1 pc = .ok (.bastore, 1)) (hj : j < li_N) (hs : li_sh j = .inr (2, n)) (hi : vp_in i n) (kk : li_T l Z Y d (pc + 1) lo st (li_ui M j i.toNatClampNeg x.toInt8.toInt32) Q) : li_T l Z Y d pc lo (.int x :: .int i :: .ref (Z.2.2 j) :: st) M Q := by
  intro p e s m args below meth c C K H locs ls hH hS hl
  refine va_bast (D := Z.1) (f := M.1 j) C.1 C.2.1 K.1 hH (li_D K.2.1) hS j 2 (by rw [li_get hj, li_cellA hs]; rfl) rfl hi hd (fun H1 locs1 hP hD hS1 => ?_)
  rw [vp_nar_byte] at hP
  have e0 : (li_wd Z M).set j (Z.2.2 j, .inl (Z.2.1 2, n, .inl (upd (M.1 j) i.toNatClampNeg x.toInt8.toInt32))) = li_wd Z (li_ui M j i.toNatClampNeg x.toInt8.toInt32) := by
    rw [← li_set (Z := Z) (M := M) (M' := li_ui M j i.toNatClampNeg x.toInt8.toInt32) hj li_cell_ne, li_cellA hs]
    simp [li_ct, li_ar, li_ui, upd]
    rfl
  rw [e0] at hP
  exact kk p e s m args below meth c C K H1 locs1 ls hP hS1 hl
theorem li_zast {j n : Nat} {i x : Int32} (hd : decode Y.2.1 pc = .ok (.bastore, 1)) (hj : j < li_N) (hs : li_sh j = .inr (3, n)) (hi : vp_in i n) (hx : x = 0 ∨ x = 1) (kk : li_T l Z Y d (pc + 1) lo st (li_ui M j i.toNatClampNeg x) Q) : li_T l Z Y d pc lo (.int x :: .int i :: .ref (Z.2.2 j) :: st) M Q := by
  intro p e s m args below meth c C K H locs ls hH hS hl
  refine va_zast (D := Z.1) (f := M.1 j) C.1 C.2.1 K.1 hH (li_D K.2.1) hS j 3 (by rw [li_get hj, li_cellA hs]; rfl) rfl hi hd (fun H1 locs1 hP hD hS1 => ?_)
  have ex : vp_nar .boolean x = x := by
    rcases hx with rfl | rfl <;> rfl
  rw [ex] at hP
  have e0 : (li_wd Z M).set j (Z.2.2 j, .inl (Z.2.1 3, n, .inl (upd (M.1 j) i.toNatClampNeg x))) = li_wd Z (li_ui M j i.toNatClampNeg x) := by
    rw [← li_set (Z := Z) (M := M) (M' := li_ui M j i.toNatClampNeg x) hj li_cell_ne, li_cellA hs]
    simp [li_ct, li_ar, li_ui, upd]
    rfl
  rw [e0] at hP
  exact kk p e s m args below meth c C K H1 locs1 ls hP hS1 hl
end LIH
