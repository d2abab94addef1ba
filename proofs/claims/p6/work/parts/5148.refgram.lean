def li_hd (p : Prop) : Prop := p
theorem li_hdI {p : Prop} (h : p) : li_hd p := h
