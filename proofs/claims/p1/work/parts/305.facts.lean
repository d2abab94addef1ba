/-! facts of bits, for omega -/
theorem tl_andR {x y z : Int32} (h : z = x &&& y) (hy : 0 ≤ y.toInt) : 0 ≤ z.toInt ∧ z.toInt ≤ y.toInt := by
  have h1 : y.toInt = if 2 * y.toBitVec.toNat < 2 ^ 32 then (y.toBitVec.toNat : Int) else (y.toBitVec.toNat : Int) - 2 ^ 32 := BitVec.toInt_eq_toNat_cond y.toBitVec
  have h2 : z.toInt = if 2 * z.toBitVec.toNat < 2 ^ 32 then (z.toBitVec.toNat : Int) else (z.toBitVec.toNat : Int) - 2 ^ 32 := BitVec.toInt_eq_toNat_cond z.toBitVec
  have h3 : z.toBitVec.toNat ≤ y.toBitVec.toNat := by
    rw [h, Int32.toBitVec_and, BitVec.toNat_and]
    exact Nat.and_le_right
  have h4 := y.toBitVec.isLt
  by_cases c : 2 * y.toBitVec.toNat < 2 ^ 32
  · rw [if_pos c] at h1
    rw [if_pos (by omega)] at h2
    omega
  · rw [if_neg c] at h1
    omega
theorem tl_andL {x y z : Int32} (h : z = x &&& y) (hx : 0 ≤ x.toInt) : 0 ≤ z.toInt ∧ z.toInt ≤ x.toInt := tl_andR (x := y) (h.trans (Int32.and_comm x y)) hx
theorem tl_shl1 {y z : Int32} (h : z = 1 <<< (y &&& 31)) (hy : 0 ≤ y.toInt ∧ y.toInt ≤ 8) : (y.toInt = 0 ∧ z.toInt = 1) ∨ (y.toInt = 1 ∧ z.toInt = 2) ∨ (y.toInt = 2 ∧ z.toInt = 4) ∨ (y.toInt = 3 ∧ z.toInt = 8) ∨ (y.toInt = 4 ∧ z.toInt = 16) ∨ (y.toInt = 5 ∧ z.toInt = 32) ∨ (y.toInt = 6 ∧ z.toInt = 64) ∨ (y.toInt = 7 ∧ z.toInt = 128) ∨ (y.toInt = 8 ∧ z.toInt = 256) := by
  have e : ∀ k : Int32, y.toInt = k.toInt → y = k := fun k q => Int32.toInt_inj.mp q
  rcases (show y.toInt = 0 ∨ y.toInt = 1 ∨ y.toInt = 2 ∨ y.toInt = 3 ∨ y.toInt = 4 ∨ y.toInt = 5 ∨ y.toInt = 6 ∨ y.toInt = 7 ∨ y.toInt = 8 by omega) with q | q | q | q | q | q | q | q | q
  · have := e 0 q; subst this; subst h; decide
  · have := e 1 q; subst this; subst h; decide
  · have := e 2 q; subst this; subst h; decide
  · have := e 3 q; subst this; subst h; decide
  · have := e 4 q; subst this; subst h; decide
  · have := e 5 q; subst this; subst h; decide
  · have := e 6 q; subst this; subst h; decide
  · have := e 7 q; subst this; subst h; decide
  · have := e 8 q; subst this; subst h; decide
theorem tl_shl255 {y z : Int32} (h : z = 1 <<< (y &&& 31)) (hy : 0 ≤ y.toInt ∧ y.toInt ≤ 7) : 1 ≤ z.toInt ∧ z.toInt ≤ 128 := by
  have := tl_shl1 h (by omega)
  omega
