/-! what arrays hold, place by place -/
theorem li_cell_ui {M M' : li_M} {i k j : Nat} {x : Int32} (e : M' = li_ui M i k x) (h : j ≠ i) : M'.1 j = M.1 j := by
  subst e
  funext b
  rw [li_ui_at, if_neg h]
