def li_hb (b i : Int32) : Int := (li_us b i &&& 1).toInt
set_option maxRecDepth 100000 in
set_option maxHeartbeats 4000000 in
theorem k11_X11_holds {l : Launch} {Z : li_Z} (d : Nat) (hd : 1 ≤ d) (p1 : Int32) (p2 : Int32) (M0 : li_M) : li_Met l Z YX11_holds d [.int p1, .int p2] M0 (fun r M' => (∃ x : Int32, r = some (.int x) ∧ (x = 0 ∨ x = 1) ∧ ((x.toInt = 1 ∧ 0 ≤ p2.toInt ∧ p2.toInt < 32 ∧ ¬ li_hb p1 p2 = 0) ∨ (x.toInt = 0 ∧ ¬ (0 ≤ p2.toInt ∧ p2.toInt < 32 ∧ ¬ li_hb p1 p2 = 0)))) ∧ li_fr (fun i => False) M0 M') := by
  refine li_enter (by decide +kernel) (Nat.le_of_ble_eq_true rfl) ?_
  show li_T l Z YX11_holds d 0 [(0, .int p1), (1, .int p2)] [] M0 _
  have hf : li_fr (fun i => False) M0 M0 := li_fr_refl
  have gp1 := tl_rg p1
  have gp2 := tl_rg p2
  refine li_iload_n 1 dX11_holds_0 rfl ?_
  refine li_if_lt 22 dX11_holds_1 (by decide) (fun c1 => ?_) (fun c1 => ?_)
  · have tc1 : p2.toInt < 0 := tl_lt c1
    refine li_iconst 0 dX11_holds_22 (by decide) ?_
    have z0 : (0 : Int32).toInt = 0 := rfl
    exact li_iret dX11_holds_23 rfl (li_nz (Or.inl rfl)) ⟨⟨_, rfl, Or.inl rfl, (by omega)⟩, hf⟩
  · have tc1 : 0 ≤ p2.toInt := tl_nlt c1
    refine li_iload_n 1 dX11_holds_4 rfl ?_
    refine li_bipush 32 dX11_holds_5 (by decide) ?_
    refine li_icmp_ge 22 dX11_holds_7 (by decide) (fun c2 => ?_) (fun c2 => ?_)
    · have tc2 : 32 ≤ p2.toInt := tl_le c2
      refine li_iconst 0 dX11_holds_22 (by decide) ?_
      have z0 : (0 : Int32).toInt = 0 := rfl
      exact li_iret dX11_holds_23 rfl (li_nz (Or.inl rfl)) ⟨⟨_, rfl, Or.inl rfl, (by omega)⟩, hf⟩
    · have tc2 : p2.toInt < 32 := tl_nle c2
      refine li_iload_n 0 dX11_holds_10 rfl ?_
      refine li_iload_n 1 dX11_holds_11 rfl ?_
      refine li_iushr dX11_holds_12 ?_
      refine li_top (fun x3 ex3 => ?_)
      refine li_iconst 1 dX11_holds_13 (by decide) ?_
      refine li_iand dX11_holds_14 ?_
      refine li_top (fun x4 ex4 => ?_)
      have tx4 := tl_and1 ex4
      have hb : x4.toInt = li_hb p1 p2 := by rw [ex4, ex3]; rfl
      refine li_if_eq 22 dX11_holds_15 (by decide) (fun c5 => ?_) (fun c5 => ?_)
      · have tc5 : x4.toInt = 0 := tl_eq c5
        refine li_iconst 0 dX11_holds_22 (by decide) ?_
        have z0 : (0 : Int32).toInt = 0 := rfl
        exact li_iret dX11_holds_23 rfl (li_nz (Or.inl rfl)) ⟨⟨_, rfl, Or.inl rfl, (by omega)⟩, hf⟩
      · have tc5 : ¬ x4.toInt = 0 := tl_ne c5
        refine li_iconst 1 dX11_holds_18 (by decide) ?_
        refine li_goto 23 dX11_holds_19 (by decide) ?_
        have z1 : (1 : Int32).toInt = 1 := rfl
        exact li_iret dX11_holds_23 rfl (li_nz (Or.inr rfl)) ⟨⟨_, rfl, Or.inr rfl, (by omega)⟩, hf⟩
