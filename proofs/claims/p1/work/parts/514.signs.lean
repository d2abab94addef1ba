def li_us (x y : Int32) : Int32 := (x.toUInt32 >>> (y.toUInt32 &&& Int32.toUInt32 31)).toInt32
theorem a_X11_put {l : Launch} {Z : li_Z} (d : Nat) (hd : 1 ≤ d) {j n : Nat} (hj : j < li_N) (hs : li_sh j = .inr (0, n)) (hn : n < 2147483648) (i x : Int32) (M0 : li_M) : li_Met l Z YX11_put d [.ref (Z.2.2 j), .int i, .int x] M0 (fun r M' => r = none ∧ li_fr (fun i => i = j) M0 M' ∧ ∀ k : Nat, M'.1 j k = if 0 ≤ i.toInt ∧ i.toInt < ((n : Nat) : Int) ∧ k = i.toNatClampNeg then x else M0.1 j k) := li_mono (fun r M' h => ⟨h.1, by rw [h.2]; exact li_fr_put rfl, fun k => by
  have hz : (0 : Int32).toInt = 0 := rfl
  have hn' := nI_toInt32 hn
  rw [h.2]
  unfold li_put
  by_cases c : 0 ≤ i ∧ i < nI n
  · have c1 := Int32.le_iff_toInt_le.mp c.1
    have c2 := Int32.lt_iff_toInt_lt.mp c.2
    rw [if_pos c, li_ui_at, if_pos rfl]
    by_cases q : k = i.toNatClampNeg
    · rw [if_pos q, if_pos ⟨by omega, by omega, q⟩]
    · rw [if_neg q, if_neg (fun z => q z.2.2)]
  · rw [if_neg c, if_neg (fun z => c ⟨Int32.le_iff_toInt_le.mpr (by omega), Int32.lt_iff_toInt_lt.mpr (by omega)⟩)]⟩) (x_X11_put d hd hj hs hn i x M0)
