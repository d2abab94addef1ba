def li_gr (g hZq : Nat → Int32) (m : Int) : Prop := ∀ i : Nat, (i : Int) < 3 * m → g i = hZq i ∧ 0 ≤ (g i).toInt ∧ (g i).toInt ≤ 6
theorem li_gr_mv {g g' hZq h' : Nat → Int32} {m m' : Int} (hg : g' = g) (hh : h' = hZq) (hmZq : m' = m) (a : li_gr g hZq m) : li_gr g' h' m' := by
  subst hg; subst hh; subst hmZq; exact a
theorem li_gr_0 {g hZq : Nat → Int32} {m : Int} (hmZq : m ≤ 0) : li_gr g hZq m := fun i hiZq => absurd hiZq (by omega)
theorem li_gr_new {g hZq x y : Nat → Int32} {len len' k k' r r' m : Int} (a : li_gk g x len k r) (b : li_gk hZq y len' k' r') (hx : y = x) (hl : len' = len) (hr : 0 ≤ r) (hr' : 0 ≤ r') (hk : 3 * m ≤ k) (hk' : 3 * m ≤ k') : li_gr g hZq m := by
  subst hx; subst hl
  intro i hiZq
  have u := a hr i (by omega)
  have v := b hr' i (by omega)
  exact ⟨Int32.toInt_inj.mp (u.1.trans v.1.symm), u.2⟩
theorem wx_eq {M : li_M} (hJ : li_J M) {X hZq : Nat → Int32} {len n : Int} (c : li_wx X hZq len n) (hh : hZq = li_by (M.1 180)) (hn : n ≤ 14) (hl : n ≤ len) : ∀ i : Nat, (i : Int) < n → M.1 180 i - 97 = X i := by
  subst hh
  intro i hiZq
  have u := c i hiZq (by omega)
  have e : rd_ch (li_by (M.1 180)) len i = (M.1 180 i &&& 255).toInt := by
    unfold rd_ch
    rw [if_pos (by omega)]
    rfl
  rw [e] at u
  have b := tl_byte (hJ.byte (q := 180) (by unfold li_rq; omega) i) (by omega)
  rw [← b] at u
  have zZq : (97 : Int32).toInt = 97 := rfl
  have t : (M.1 180 i - 97).toInt = (M.1 180 i).toInt - (97 : Int32).toInt := tl_sub rfl (by omega)
  exact Int32.toInt_inj.mp (by omega)

