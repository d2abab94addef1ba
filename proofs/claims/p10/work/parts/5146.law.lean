theorem li_pq_self {g : Nat → Int32} {len k p n : Int} : ∃ a b c : Int, li_pq g len k p n a b c := ⟨(rd_pl g len k.toNat p n).1, (rd_pl g len k.toNat p n).2.1, (rd_pl g len k.toNat p n).2.2, rfl⟩
theorem li_al_0 : li_al (fun _ => 0) (fun _ => 0) := fun _ => (by decide : (0 : Int32) = 0 &&& 255)

