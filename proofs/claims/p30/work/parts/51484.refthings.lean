abbrev li_ul (g : Nat → Int32) (e PZq k p n m : Int) : Prop := li_tl (li_by g) e PZq k p n m
