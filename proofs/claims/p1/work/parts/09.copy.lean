/-! COPYING whole rows -/
theorem li_cell_uc {Z : li_Z} {M : li_M} {i : Nat} {f : Nat → Int32} (hs : ∃ t n, li_sh i = .inr (t, n)) (j : Nat) (h : j ≠ i) : li_cell Z (li_uc M i f) j = li_cell Z M j := by
  have hob : ∀ (sl : List (Option Nat)) (n : Nat), li_ob Z (li_uc M i f) j n sl = li_ob Z M j n sl := by
    intro sl
    induction sl with
    | nil => intro n; rfl
    | cons o r ih =>
      intro n
      cases o with
      | none =>
        simp only [li_ob, ih]
        simp [li_uc, h]
      | some q =>
        simp only [li_ob, ih]
        rfl
  unfold li_cell
  cases li_sh j with
  | inl o => simp only [hob]
  | inr a => simp [li_ar, li_uc, h]
theorem li_cell_ucL {Z : li_Z} {M : li_M} {i : Nat} {f : Nat → Int64} (j : Nat) (h : j ≠ i) : li_cell Z (li_ucL M i f) j = li_cell Z M j := by
  have hob : ∀ (sl : List (Option Nat)) (n : Nat), li_ob Z (li_ucL M i f) j n sl = li_ob Z M j n sl := by
    intro sl
    induction sl with
    | nil => intro n; rfl
    | cons o r ih =>
      intro n
      cases o with
      | none =>
        simp only [li_ob, ih]
        rfl
      | some q =>
        simp only [li_ob, ih]
        rfl
  unfold li_cell
  cases li_sh j with
  | inl o => simp only [hob]
  | inr a => simp [li_ar, li_ucL, h]
section LIY
variable {l : Launch} {Z : li_Z} {Y : li_Y} {d pc ix : Nat} {lo : List (Nat × Value)} {st : List Value} {M : li_M} {Q : Option Value → li_M → Prop}
theorem li_nfw : nativeFrameWords "java/lang/System" "arraycopy" 5 ≤ 20 := by decide +kernel
theorem li_copyI {js jd n0 n1 : Nat} {N : Int32} (hd : decode Y.2.1 pc = .ok (.invokestatic ix, 3)) (hdd : 1 ≤ d) (w1 : Cond.methodLink Y.1.cls ix arraycopyName ∈ li_ws) (w2 : Cond.native arraycopyName ∈ li_ws) (w3 : Cond.static arraycopyName ∈ li_ws) (w4 : Cond.initialized "java/lang/System" ∈ li_ws)
    (hjs : js < li_N) (hss : li_sh js = .inr (0, n0)) (hjd : jd < li_N) (hsd : li_sh jd = .inr (0, n1)) (h3 : ¬ N < 0) (h4 : N.toNatClampNeg ≤ n0) (h5 : N.toNatClampNeg ≤ n1) (hc : (st.map fun v => v.category).sum ≤ 8)
    (kk : li_T l Z Y d (pc + 3) lo st (li_uc M jd (va_cpy (M.1 js) (M.1 jd) 0 0 N.toNatClampNeg)) Q) : li_T l Z Y d pc lo (.int N :: .int 0 :: .ref (Z.2.2 jd) :: .int 0 :: .ref (Z.2.2 js) :: st) M Q := by
  intro p e s m args below meth c C K H locs ls hH hS hl
  have hn := li_nfw
  refine va_copyi (D := Z.1) (f := M.1 js) (g := M.1 jd) C.1 C.2.1 (C.2.2.1.trans hl.1.symm) C.2.2.2.1 (C.2.2.2.2.1 _ w1) (C.2.2.2.2.1 _ w2) (C.2.2.2.2.1 _ w3) (C.2.2.2.2.1 _ w4) K.1 hH (li_D K.2.1) hS js jd 0 0 (by rw [li_get hjs, li_cellA hss]; rfl) (by rw [li_get hjd, li_cellA hsd]; rfl) rfl rfl rfl (by decide) (by decide) h3 (by show 0 + _ ≤ _; omega) (by show 0 + _ ≤ _; omega) (fun _ _ => rfl) hdd (by show _ ≤ 60 * d; omega) hd (fun H1 locs1 hP hD hS1 => ?_)
  have e0 : (li_wd Z M).set jd (Z.2.2 jd, .inl (Z.2.1 0, n1, .inl (va_cpy (M.1 js) (M.1 jd) (0 : Int32).toNatClampNeg (0 : Int32).toNatClampNeg N.toNatClampNeg))) = li_wd Z (li_uc M jd (va_cpy (M.1 js) (M.1 jd) 0 0 N.toNatClampNeg)) := by
    rw [← li_set (Z := Z) (M := M) (M' := li_uc M jd (va_cpy (M.1 js) (M.1 jd) 0 0 N.toNatClampNeg)) hjd (li_cell_uc ⟨_, _, hsd⟩), li_cellA hsd]
    simp [li_ct, li_ar, li_uc]
  rw [e0] at hP
  exact kk p e s m args below meth c C K H1 locs1 ls hP hS1 hl
theorem li_copyL {js jd n0 n1 : Nat} {N : Int32} (hd : decode Y.2.1 pc = .ok (.invokestatic ix, 3)) (hdd : 1 ≤ d) (w1 : Cond.methodLink Y.1.cls ix arraycopyName ∈ li_ws) (w2 : Cond.native arraycopyName ∈ li_ws) (w3 : Cond.static arraycopyName ∈ li_ws) (w4 : Cond.initialized "java/lang/System" ∈ li_ws)
    (hjs : js < li_N) (hss : li_sh js = .inr (1, n0)) (hjd : jd < li_N) (hsd : li_sh jd = .inr (1, n1)) (h3 : ¬ N < 0) (h4 : N.toNatClampNeg ≤ n0) (h5 : N.toNatClampNeg ≤ n1) (hc : (st.map fun v => v.category).sum ≤ 8)
    (kk : li_T l Z Y d (pc + 3) lo st (li_ucL M jd (va_cpy (M.2.1 js) (M.2.1 jd) 0 0 N.toNatClampNeg)) Q) : li_T l Z Y d pc lo (.int N :: .int 0 :: .ref (Z.2.2 jd) :: .int 0 :: .ref (Z.2.2 js) :: st) M Q := by
  intro p e s m args below meth c C K H locs ls hH hS hl
  have hn := li_nfw
  refine va_copyl (D := Z.1) (f := M.2.1 js) (g := M.2.1 jd) C.1 C.2.1 (C.2.2.1.trans hl.1.symm) C.2.2.2.1 (C.2.2.2.2.1 _ w1) (C.2.2.2.2.1 _ w2) (C.2.2.2.2.1 _ w3) (C.2.2.2.2.1 _ w4) K.1 hH (li_D K.2.1) hS js jd 1 1 (by rw [li_get hjs, li_cellA hss]; rfl) (by rw [li_get hjd, li_cellA hsd]; rfl) rfl rfl rfl (by decide) (by decide) h3 (by show 0 + _ ≤ _; omega) (by show 0 + _ ≤ _; omega) (fun _ _ => rfl) hdd (by show _ ≤ 60 * d; omega) hd (fun H1 locs1 hP hD hS1 => ?_)
  have e0 : (li_wd Z M).set jd (Z.2.2 jd, .inl (Z.2.1 1, n1, .inr (.inl (va_cpy (M.2.1 js) (M.2.1 jd) (0 : Int32).toNatClampNeg (0 : Int32).toNatClampNeg N.toNatClampNeg)))) = li_wd Z (li_ucL M jd (va_cpy (M.2.1 js) (M.2.1 jd) 0 0 N.toNatClampNeg)) := by
    rw [← li_set (Z := Z) (M := M) (M' := li_ucL M jd (va_cpy (M.2.1 js) (M.2.1 jd) 0 0 N.toNatClampNeg)) hjd li_cell_ucL, li_cellA hsd]
    simp [li_ct, li_ar, li_ucL]
  rw [e0] at hP
  exact kk p e s m args below meth c C K H1 locs1 ls hP hS1 hl
end LIY
