/-! more facts -/
theorem tl_bz {x : Int32} (h : x.toInt = 0 ∨ x.toInt = 1) : x = 0 ∨ x = 1 := h.elim (fun q => Or.inl (Int32.toInt_inj.mp (q.trans rfl))) (fun q => Or.inr (Int32.toInt_inj.mp (q.trans rfl)))
def lb_bit (a : Int32) (k : Nat) : Bool := a.toBitVec.getLsbD k
def lb_pc (a : Int32) : Nat := (lb_bit a 0).toNat + (lb_bit a 1).toNat + (lb_bit a 2).toNat + (lb_bit a 3).toNat + (lb_bit a 4).toNat + (lb_bit a 5).toNat
theorem lb_pc_le (a : Int32) : lb_pc a ≤ 6 := by
  unfold lb_pc
  have h : ∀ b : Bool, b.toNat ≤ 1 := by decide
  have h0 := h (lb_bit a 0)
  have h1 := h (lb_bit a 1)
  have h2 := h (lb_bit a 2)
  have h3 := h (lb_bit a 3)
  have h4 := h (lb_bit a 4)
  have h5 := h (lb_bit a 5)
  omega
theorem lb_or (a b : Int32) (k : Nat) : lb_bit (a ||| b) k = (lb_bit a k || lb_bit b k) := by
  unfold lb_bit
  rw [Int32.toBitVec_or, BitVec.getLsbD_or]
theorem lb_pc_or {a o x b : Int32} (ho : 0 ≤ o.toInt ∧ o.toInt ≤ 5) (ex : x = 1 <<< (o &&& 31)) (eb : b = a ||| x) (hn : ¬ lb_bit a o.toInt.toNat = true) : lb_pc b = lb_pc a + 1 := by
  have e : ∀ k : Int32, o.toInt = k.toInt → o = k := fun k q => Int32.toInt_inj.mp q
  subst eb
  have h : ∀ b : Bool, ¬ b = true → b = false := by decide
  rcases (show o.toInt = 0 ∨ o.toInt = 1 ∨ o.toInt = 2 ∨ o.toInt = 3 ∨ o.toInt = 4 ∨ o.toInt = 5 by omega) with q | q | q | q | q | q
  all_goals (rw [q] at hn)
  · have := e 0 q; subst this
    have h0 := h _ hn
    unfold lb_pc
    simp only [lb_or]
    rw [show lb_bit a 0 = false from h0, ex]
    rw [show lb_bit (1 <<< ((0 : Int32) &&& 31)) 0 = true by decide, show lb_bit (1 <<< ((0 : Int32) &&& 31)) 1 = false by decide, show lb_bit (1 <<< ((0 : Int32) &&& 31)) 2 = false by decide, show lb_bit (1 <<< ((0 : Int32) &&& 31)) 3 = false by decide, show lb_bit (1 <<< ((0 : Int32) &&& 31)) 4 = false by decide, show lb_bit (1 <<< ((0 : Int32) &&& 31)) 5 = false by decide]
    simp <;> omega
  · have := e 1 q; subst this
    have h0 := h _ hn
    unfold lb_pc
    simp only [lb_or]
    rw [show lb_bit a 1 = false from h0, ex]
    rw [show lb_bit (1 <<< ((1 : Int32) &&& 31)) 0 = false by decide, show lb_bit (1 <<< ((1 : Int32) &&& 31)) 1 = true by decide, show lb_bit (1 <<< ((1 : Int32) &&& 31)) 2 = false by decide, show lb_bit (1 <<< ((1 : Int32) &&& 31)) 3 = false by decide, show lb_bit (1 <<< ((1 : Int32) &&& 31)) 4 = false by decide, show lb_bit (1 <<< ((1 : Int32) &&& 31)) 5 = false by decide]
    simp <;> omega
  · have := e 2 q; subst this
    have h0 := h _ hn
    unfold lb_pc
    simp only [lb_or]
    rw [show lb_bit a 2 = false from h0, ex]
    rw [show lb_bit (1 <<< ((2 : Int32) &&& 31)) 0 = false by decide, show lb_bit (1 <<< ((2 : Int32) &&& 31)) 1 = false by decide, show lb_bit (1 <<< ((2 : Int32) &&& 31)) 2 = true by decide, show lb_bit (1 <<< ((2 : Int32) &&& 31)) 3 = false by decide, show lb_bit (1 <<< ((2 : Int32) &&& 31)) 4 = false by decide, show lb_bit (1 <<< ((2 : Int32) &&& 31)) 5 = false by decide]
    simp <;> omega
  · have := e 3 q; subst this
    have h0 := h _ hn
    unfold lb_pc
    simp only [lb_or]
    rw [show lb_bit a 3 = false from h0, ex]
    rw [show lb_bit (1 <<< ((3 : Int32) &&& 31)) 0 = false by decide, show lb_bit (1 <<< ((3 : Int32) &&& 31)) 1 = false by decide, show lb_bit (1 <<< ((3 : Int32) &&& 31)) 2 = false by decide, show lb_bit (1 <<< ((3 : Int32) &&& 31)) 3 = true by decide, show lb_bit (1 <<< ((3 : Int32) &&& 31)) 4 = false by decide, show lb_bit (1 <<< ((3 : Int32) &&& 31)) 5 = false by decide]
    simp <;> omega
  · have := e 4 q; subst this
    have h0 := h _ hn
    unfold lb_pc
    simp only [lb_or]
    rw [show lb_bit a 4 = false from h0, ex]
    rw [show lb_bit (1 <<< ((4 : Int32) &&& 31)) 0 = false by decide, show lb_bit (1 <<< ((4 : Int32) &&& 31)) 1 = false by decide, show lb_bit (1 <<< ((4 : Int32) &&& 31)) 2 = false by decide, show lb_bit (1 <<< ((4 : Int32) &&& 31)) 3 = false by decide, show lb_bit (1 <<< ((4 : Int32) &&& 31)) 4 = true by decide, show lb_bit (1 <<< ((4 : Int32) &&& 31)) 5 = false by decide]
    simp <;> omega
  · have := e 5 q; subst this
    have h0 := h _ hn
    unfold lb_pc
    simp only [lb_or]
    rw [show lb_bit a 5 = false from h0, ex]
    rw [show lb_bit (1 <<< ((5 : Int32) &&& 31)) 0 = false by decide, show lb_bit (1 <<< ((5 : Int32) &&& 31)) 1 = false by decide, show lb_bit (1 <<< ((5 : Int32) &&& 31)) 2 = false by decide, show lb_bit (1 <<< ((5 : Int32) &&& 31)) 3 = false by decide, show lb_bit (1 <<< ((5 : Int32) &&& 31)) 4 = false by decide, show lb_bit (1 <<< ((5 : Int32) &&& 31)) 5 = true by decide]
    simp <;> omega
theorem lb_sl : ∀ n, n < 32 → ((nI n &&& 31).toBitVec.smod 32).toNat = n := by decide +kernel
theorem lb_sshr (n : Nat) (hn : n < 32) (x : Int32) {i : Nat} (hi : i < 32) : lb_bit (x >>> (nI n &&& 31)) i = if n + i < 32 then lb_bit x (n + i) else lb_bit x 31 := by
  unfold lb_bit
  rw [Int32.toBitVec_shiftRight]
  show (x.toBitVec.sshiftRight ((nI n &&& 31).toBitVec.smod 32).toNat).getLsbD i = _
  rw [lb_sl n hn, BitVec.getLsbD_sshiftRight, BitVec.msb_eq_getLsbD_last]
  simp [hi]
theorem lb_and (x y : Int32) (i : Nat) : lb_bit (x &&& y) i = (lb_bit x i && lb_bit y i) := by unfold lb_bit; rw [Int32.toBitVec_and, BitVec.getLsbD_and]
theorem lb_ext {x y : Int32} (h : ∀ i, i < 32 → lb_bit x i = lb_bit y i) : x = y := Int32.toBitVec_inj.mp (BitVec.eq_of_getLsbD_eq (fun i hi => h i hi))
theorem lb_one : ∀ i, i < 32 → lb_bit 1 i = decide (i = 0) := by decide +kernel
theorem lb_has0 {a k x y : Int32} (hk : 0 ≤ k.toInt ∧ k.toInt ≤ 31) (ex : x = a >>> (k &&& 31)) (ey : y = x &&& 1) : y = 1 ↔ lb_bit a k.toInt.toNat = true := by
  have hn : k.toInt.toNat < 32 := by omega
  have ek : k = nI k.toInt.toNat := Int32.toInt_inj.mp (by rw [nI_toInt (by omega)]; omega)
  have h0 : lb_bit x 0 = lb_bit a k.toInt.toNat := by
    rw [ex]
    conv => lhs; rw [ek]
    rw [lb_sshr _ hn a (by decide), if_pos (show k.toInt.toNat + 0 < 32 from hn)]
    rfl
  constructor
  · intro hy
    rw [← h0]
    have h1 : lb_bit y 0 = true := by rw [hy]; decide
    rw [ey, lb_and] at h1
    exact (Bool.and_eq_true_iff.mp h1).1
  · intro h
    rw [← h0] at h
    apply lb_ext
    intro i hi
    rw [ey, lb_and, lb_one i hi]
    by_cases c : i = 0
    · subst c; simp [h]
    · simp [c]
theorem lb_has {a k x y : Int32} (hk : 0 ≤ k.toInt ∧ k.toInt ≤ 31) (ex : x = a >>> (k &&& 31)) (ey : y = x &&& 1) (hy : y = 1) : lb_bit a k.toInt.toNat = true := (lb_has0 hk ex ey).mp hy
theorem lb_hasnt {a k x y : Int32} (hk : 0 ≤ k.toInt ∧ k.toInt ≤ 31) (ex : x = a >>> (k &&& 31)) (ey : y = x &&& 1) (hy : ¬ y = 1) : ¬ lb_bit a k.toInt.toNat = true := fun h => hy ((lb_has0 hk ex ey).mpr h)
/-- a reference that changes: the rule's row -/
theorem li_J.ur1 {M M' : li_M} {q : Nat} (h : li_J M) (hq : li_rl q) (e : M' = li_ur M 1 (some q)) : li_J M' := by
  subst e
  exact ⟨h.1, h.2.1, ⟨q, rfl, hq⟩, h.2.2.2⟩
