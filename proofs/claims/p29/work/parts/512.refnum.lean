/-- what is read of a row of bytes -/
abbrev li_by (h : Nat → Int32) : Nat → Int32 := fun i => h i &&& 255
theorem hr_rd {M : li_M} (hq : M.2.2 0 = some 180) (h0 : 0 ≤ (M.1 175 14).toInt) : (li_hr M).toInt = rd_ch (li_by (M.1 180)) (min (M.1 175 12).toInt (M.1 175 13).toInt) (M.1 175 14).toInt := by
  have h9 := li_cl (i := M.1 175 14) h0
  have hc : li_rc M = 180 := by unfold li_rc; rw [hq]; rfl
  have z : (-1 : Int32).toInt = -1 := rfl
  unfold li_hr rd_ch
  by_cases c : M.1 175 14 < M.1 175 12 ∧ M.1 175 14 < M.1 175 13
  · have c1 := Int32.lt_iff_toInt_lt.mp c.1
    have c2 := Int32.lt_iff_toInt_lt.mp c.2
    rw [if_pos c, if_pos (by omega), hc, show (M.1 175 14).toInt.toNat = (M.1 175 14).toNatClampNeg by omega]
  · rw [if_neg c, if_neg ?_, z]
    intro q
    exact c ⟨Int32.lt_iff_toInt_lt.mpr (by omega), Int32.lt_iff_toInt_lt.mpr (by omega)⟩
theorem hr_pt {N : li_M} {g : Nat → Int32} {e p : Int} (b : N.2.2 0 = some 180) (h0 : 0 ≤ (N.1 175 14).toInt) (hc : N.1 180 = g) (he : min (N.1 175 12).toInt (N.1 175 13).toInt = e) (hp : (N.1 175 14).toInt = p) : (li_hr N).toInt = rd_ch (li_by g) e p := by
  subst hc; subst he; subst hp; exact hr_rd b h0
theorem fs_180 {E : Nat → Nat → Prop} {M0 M N : li_M} (h1 : li_fs E M0 M) (h2 : li_fs E M0 N) (hE : ∀ i, ¬ E 180 i) : N.1 180 = M.1 180 := funext fun i => (h2.1 180 i (hE i)).trans (h1.1 180 i (hE i)).symm
