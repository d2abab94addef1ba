theorem li_al_0 : li_al (fun _ => 0) (fun _ => 0) := fun _ => (by decide : (0 : Int32) = 0 &&& 255)

