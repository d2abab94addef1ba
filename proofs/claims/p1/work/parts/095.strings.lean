section LIST
variable {l : Launch} {Z : li_Z} {Y Y' : li_Y} {d d' pc ix : Nat} {lo : List (Nat × Value)} {st rest : List Value} {M : li_M} {Q Q' : Option Value → li_M → Prop}
end LIST
theorem tl_b {x : Int32} (h : x = 0 ∨ x = 1) : x.toInt = 0 ∨ x.toInt = 1 := by rcases h with rfl | rfl; exact Or.inl rfl; exact Or.inr rfl
