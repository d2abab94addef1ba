/-! more facts -/
theorem tl_bz {x : Int32} (h : x.toInt = 0 ∨ x.toInt = 1) : x = 0 ∨ x = 1 := h.elim (fun q => Or.inl (Int32.toInt_inj.mp (q.trans rfl))) (fun q => Or.inr (Int32.toInt_inj.mp (q.trans rfl)))
def lb_bit (a : Int32) (k : Nat) : Bool := a.toBitVec.getLsbD k
theorem lb_and (x y : Int32) (i : Nat) : lb_bit (x &&& y) i = (lb_bit x i && lb_bit y i) := by unfold lb_bit; rw [Int32.toBitVec_and, BitVec.getLsbD_and]
theorem lb_ext {x y : Int32} (h : ∀ i, i < 32 → lb_bit x i = lb_bit y i) : x = y := Int32.toBitVec_inj.mp (BitVec.eq_of_getLsbD_eq (fun i hi => h i hi))
/-- a reference that changes: the rule's row -/
theorem li_J.ur1 {M M' : li_M} {q : Nat} (h : li_J M) (hq : li_rl q) (e : M' = li_ur M 1 (some q)) : li_J M' := by
  subst e
  exact ⟨h.1, h.2.1, ⟨q, rfl, hq⟩, h.2.2.2⟩
