abbrev YX11_at : li_Y := (yX11_at, cX11_at, 2, (some .int))
theorem dX11_at_0 : decode cX11_at 0 = .ok (.aload_n 0, 1) := by decide +kernel
theorem dX11_at_1 : decode cX11_at 1 = .ok (.ifnull 19, 3) := by decide +kernel
theorem dX11_at_4 : decode cX11_at 4 = .ok (.iload_n 1, 1) := by decide +kernel
theorem dX11_at_5 : decode cX11_at 5 = .ok (.ifCond .lt 15, 3) := by decide +kernel
theorem dX11_at_8 : decode cX11_at 8 = .ok (.iload_n 1, 1) := by decide +kernel
theorem dX11_at_9 : decode cX11_at 9 = .ok (.aload_n 0, 1) := by decide +kernel
theorem dX11_at_10 : decode cX11_at 10 = .ok (.arraylength, 1) := by decide +kernel
theorem dX11_at_11 : decode cX11_at 11 = .ok (.if_icmp .ge 9, 3) := by decide +kernel
theorem dX11_at_14 : decode cX11_at 14 = .ok (.aload_n 0, 1) := by decide +kernel
theorem dX11_at_15 : decode cX11_at 15 = .ok (.iload_n 1, 1) := by decide +kernel
theorem dX11_at_16 : decode cX11_at 16 = .ok (.iaload, 1) := by decide +kernel
theorem dX11_at_17 : decode cX11_at 17 = .ok (.goto 4, 3) := by decide +kernel
theorem dX11_at_20 : decode cX11_at 20 = .ok (.iconst 0, 1) := by decide +kernel
theorem dX11_at_21 : decode cX11_at 21 = .ok (.ireturn, 1) := by decide +kernel
abbrev YX11_put : li_Y := (yX11_put, cX11_put, 3, none)
theorem dX11_put_0 : decode cX11_put 0 = .ok (.aload_n 0, 1) := by decide +kernel
theorem dX11_put_1 : decode cX11_put 1 = .ok (.ifnull 17, 3) := by decide +kernel
theorem dX11_put_4 : decode cX11_put 4 = .ok (.iload_n 1, 1) := by decide +kernel
theorem dX11_put_5 : decode cX11_put 5 = .ok (.ifCond .lt 13, 3) := by decide +kernel
theorem dX11_put_8 : decode cX11_put 8 = .ok (.iload_n 1, 1) := by decide +kernel
theorem dX11_put_9 : decode cX11_put 9 = .ok (.aload_n 0, 1) := by decide +kernel
theorem dX11_put_10 : decode cX11_put 10 = .ok (.arraylength, 1) := by decide +kernel
theorem dX11_put_11 : decode cX11_put 11 = .ok (.if_icmp .ge 7, 3) := by decide +kernel
theorem dX11_put_14 : decode cX11_put 14 = .ok (.aload_n 0, 1) := by decide +kernel
theorem dX11_put_15 : decode cX11_put 15 = .ok (.iload_n 1, 1) := by decide +kernel
theorem dX11_put_16 : decode cX11_put 16 = .ok (.iload_n 2, 1) := by decide +kernel
theorem dX11_put_17 : decode cX11_put 17 = .ok (.iastore, 1) := by decide +kernel
theorem dX11_put_18 : decode cX11_put 18 = .ok (.return_, 1) := by decide +kernel
abbrev YX11_wordAt : li_Y := (yX11_wordAt, cX11_wordAt, 2, (some .long))
theorem dX11_wordAt_0 : decode cX11_wordAt 0 = .ok (.aload_n 0, 1) := by decide +kernel
theorem dX11_wordAt_1 : decode cX11_wordAt 1 = .ok (.ifnull 19, 3) := by decide +kernel
theorem dX11_wordAt_4 : decode cX11_wordAt 4 = .ok (.iload_n 1, 1) := by decide +kernel
theorem dX11_wordAt_5 : decode cX11_wordAt 5 = .ok (.ifCond .lt 15, 3) := by decide +kernel
theorem dX11_wordAt_8 : decode cX11_wordAt 8 = .ok (.iload_n 1, 1) := by decide +kernel
theorem dX11_wordAt_9 : decode cX11_wordAt 9 = .ok (.aload_n 0, 1) := by decide +kernel
theorem dX11_wordAt_10 : decode cX11_wordAt 10 = .ok (.arraylength, 1) := by decide +kernel
theorem dX11_wordAt_11 : decode cX11_wordAt 11 = .ok (.if_icmp .ge 9, 3) := by decide +kernel
theorem dX11_wordAt_14 : decode cX11_wordAt 14 = .ok (.aload_n 0, 1) := by decide +kernel
theorem dX11_wordAt_15 : decode cX11_wordAt 15 = .ok (.iload_n 1, 1) := by decide +kernel
theorem dX11_wordAt_16 : decode cX11_wordAt 16 = .ok (.laload, 1) := by decide +kernel
theorem dX11_wordAt_17 : decode cX11_wordAt 17 = .ok (.goto 4, 3) := by decide +kernel
theorem dX11_wordAt_20 : decode cX11_wordAt 20 = .ok (.lconst 0, 1) := by decide +kernel
theorem dX11_wordAt_21 : decode cX11_wordAt 21 = .ok (.lreturn, 1) := by decide +kernel
theorem nI_toInt32 {n : Nat} (h : n < 2147483648) : (nI n).toInt = (n : Int) := nI_toInt h
section LIR
variable {l : Launch} {Z : li_Z} {Y : li_Y} {d pc : Nat} {lo : List (Nat × Value)} {st : List Value} {M : li_M} {Q : Option Value → li_M → Prop}
theorem li_alenR (hd : decode Y.2.1 pc = .ok (.arraylength, 1)) (kk : li_T l Z Y d (pc + 1) lo (.int 4 :: st) M Q) : li_T l Z Y d pc lo (.ref (Z.2.2 2000) :: st) M Q := by
  intro p e s m args below meth c C K H locs ls hH hS hl
  obtain ⟨cell, h1, h2, h3, h4, h5, h6, h7⟩ := va_T.kept K.2.2.2.1.2.1 hS.2.1
  exact W.alen C.1 C.2.1 h1 h2 (n := 4) (h5.trans rfl) rfl rfl hd (kk p e s m args below meth c C K H locs ls hH hS hl)
theorem li_ialdR {i : Int32} (hi : vp_in i 4) (hd : decode Y.2.1 pc = .ok (.iaload, 1)) (kk : li_T l Z Y d (pc + 1) lo (.int (li_rf i.toNatClampNeg) :: st) M Q) : li_T l Z Y d pc lo (.int i :: .ref (Z.2.2 2000) :: st) M Q := by
  intro p e s m args below meth c C K H locs ls hH hS hl
  obtain ⟨cell, h1, h2, h3, h4, h5, h6, h7⟩ := va_T.kept K.2.2.2.1.2.1 hS.2.1
  have hlt : i.toNatClampNeg < 4 := Nat.not_le.mp fun q => hi (Or.inr q)
  exact W.iald C.1 C.2.1 h1 h2 h3 (fun q => hi (q.elim Or.inl (fun q => Or.inr (by omega)))) (h6 _ hlt) rfl rfl hd (kk p e s m args below meth c C K H locs ls hH hS hl)
end LIR
def li_at (f : Nat → Int32) (n : Nat) (i : Int32) : Int32 := if 0 ≤ i ∧ i < nI n then f i.toNatClampNeg else 0
def li_atL (f : Nat → Int64) (n : Nat) (i : Int32) : Int64 := if 0 ≤ i ∧ i < nI n then f i.toNatClampNeg else 0
def li_put (M : li_M) (j n : Nat) (i x : Int32) : li_M := if 0 ≤ i ∧ i < nI n then li_ui M j i.toNatClampNeg x else M
theorem li_fr_put {E : Nat → Prop} {M : li_M} {j n : Nat} {i x : Int32} (hj : E j) : li_fr E M (li_put M j n i x) := by
  unfold li_put
  by_cases h : 0 ≤ i ∧ i < nI n
  · rw [if_pos h]; exact li_fr_ui li_fr_refl hj rfl
  · rw [if_neg h]; exact li_fr_refl
theorem x_X11_at {l : Launch} {Z : li_Z} (d : Nat) (hd : 1 ≤ d) {j n : Nat} (hj : j < li_N) (hs : li_sh j = .inr (0, n)) (hn : n < 2147483648) (i : Int32) (M0 : li_M) : li_Met l Z YX11_at d [.ref (Z.2.2 j), .int i] M0 (fun r M' => r = some (.int (li_at (M0.1 j) n i)) ∧ M' = M0) := by
  refine li_enter (by decide +kernel) (Nat.le_of_ble_eq_true rfl) ?_
  show li_T l Z YX11_at d 0 [(0, .ref (Z.2.2 j)), (1, .int i)] [] M0 _
  refine li_aload_n 0 dX11_at_0 rfl ?_
  refine li_ifnull dX11_at_1 ?_
  refine li_iload_n 1 dX11_at_4 rfl ?_
  refine li_if_lt 20 dX11_at_5 (by decide) (fun c1 => ?_) (fun c1 => ?_)
  · refine li_iconst 0 dX11_at_20 (by decide) ?_
    exact li_iret dX11_at_21 rfl rfl ⟨by rw [li_at, if_neg (fun h => absurd h.1 (Int32.not_le.mpr c1))], rfl⟩
  · refine li_iload_n 1 dX11_at_8 rfl ?_
    refine li_aload_n 0 dX11_at_9 rfl ?_
    refine li_alen (nI n) dX11_at_10 hj hs (Or.inl (by decide)) rfl ?_
    refine li_icmp_ge 20 dX11_at_11 (by decide) (fun c2 => ?_) (fun c2 => ?_)
    · refine li_iconst 0 dX11_at_20 (by decide) ?_
      exact li_iret dX11_at_21 rfl rfl ⟨by rw [li_at, if_neg (fun h => absurd h.2 (Int32.not_lt.mpr c2))], rfl⟩
    · refine li_aload_n 0 dX11_at_14 rfl ?_
      refine li_iload_n 1 dX11_at_15 rfl ?_
      refine li_iald dX11_at_16 hj hs (li_in (li_ge c1) (li_gt c2) (nI_toInt32 hn)) ?_
      refine li_goto 21 dX11_at_17 (by decide) ?_
      exact li_iret dX11_at_21 rfl rfl ⟨by rw [li_at, if_pos ⟨li_ge c1, li_gt c2⟩], rfl⟩
theorem x_X11_atR {l : Launch} {Z : li_Z} (d : Nat) (hd : 1 ≤ d) (i : Int32) (M0 : li_M) : li_Met l Z YX11_at d [.ref (Z.2.2 2000), .int i] M0 (fun r M' => r = some (.int (li_at li_rf 4 i)) ∧ M' = M0) := by
  refine li_enter (by decide +kernel) (Nat.le_of_ble_eq_true rfl) ?_
  show li_T l Z YX11_at d 0 [(0, .ref (Z.2.2 2000)), (1, .int i)] [] M0 _
  refine li_aload_n 0 dX11_at_0 rfl ?_
  refine li_ifnull dX11_at_1 ?_
  refine li_iload_n 1 dX11_at_4 rfl ?_
  refine li_if_lt 20 dX11_at_5 (by decide) (fun c1 => ?_) (fun c1 => ?_)
  · refine li_iconst 0 dX11_at_20 (by decide) ?_
    exact li_iret dX11_at_21 rfl rfl ⟨by rw [li_at, if_neg (fun h => absurd h.1 (Int32.not_le.mpr c1))], rfl⟩
  · refine li_iload_n 1 dX11_at_8 rfl ?_
    refine li_aload_n 0 dX11_at_9 rfl ?_
    refine li_alenR dX11_at_10 ?_
    refine li_icmp_ge 20 dX11_at_11 (by decide) (fun c2 => ?_) (fun c2 => ?_)
    · refine li_iconst 0 dX11_at_20 (by decide) ?_
      exact li_iret dX11_at_21 rfl rfl ⟨by rw [li_at, if_neg (fun h => absurd h.2 (Int32.not_lt.mpr c2))], rfl⟩
    · refine li_aload_n 0 dX11_at_14 rfl ?_
      refine li_iload_n 1 dX11_at_15 rfl ?_
      refine li_ialdR (li_in (li_ge c1) (li_gt c2) rfl) dX11_at_16 ?_
      refine li_goto 21 dX11_at_17 (by decide) ?_
      exact li_iret dX11_at_21 rfl rfl ⟨by rw [li_at, if_pos ⟨li_ge c1, li_gt c2⟩], rfl⟩
theorem x_X11_put {l : Launch} {Z : li_Z} (d : Nat) (hd : 1 ≤ d) {j n : Nat} (hj : j < li_N) (hs : li_sh j = .inr (0, n)) (hn : n < 2147483648) (i x : Int32) (M0 : li_M) : li_Met l Z YX11_put d [.ref (Z.2.2 j), .int i, .int x] M0 (fun r M' => r = none ∧ M' = li_put M0 j n i x) := by
  refine li_enter (by decide +kernel) (Nat.le_of_ble_eq_true rfl) ?_
  show li_T l Z YX11_put d 0 [(0, .ref (Z.2.2 j)), (1, .int i), (2, .int x)] [] M0 _
  refine li_aload_n 0 dX11_put_0 rfl ?_
  refine li_ifnull dX11_put_1 ?_
  refine li_iload_n 1 dX11_put_4 rfl ?_
  refine li_if_lt 18 dX11_put_5 (by decide) (fun c1 => ?_) (fun c1 => ?_)
  · exact li_vret dX11_put_18 rfl ⟨rfl, by rw [li_put, if_neg (fun h => absurd h.1 (Int32.not_le.mpr c1))]⟩
  · refine li_iload_n 1 dX11_put_8 rfl ?_
    refine li_aload_n 0 dX11_put_9 rfl ?_
    refine li_alen (nI n) dX11_put_10 hj hs (Or.inl (by decide)) rfl ?_
    refine li_icmp_ge 18 dX11_put_11 (by decide) (fun c2 => ?_) (fun c2 => ?_)
    · exact li_vret dX11_put_18 rfl ⟨rfl, by rw [li_put, if_neg (fun h => absurd h.2 (Int32.not_lt.mpr c2))]⟩
    · refine li_aload_n 0 dX11_put_14 rfl ?_
      refine li_iload_n 1 dX11_put_15 rfl ?_
      refine li_iload_n 2 dX11_put_16 rfl ?_
      refine li_iast dX11_put_17 hj hs (li_in (li_ge c1) (li_gt c2) (nI_toInt32 hn)) ?_
      exact li_vret dX11_put_18 rfl ⟨rfl, by rw [li_put, if_pos ⟨li_ge c1, li_gt c2⟩]⟩
theorem x_X11_wordAt {l : Launch} {Z : li_Z} (d : Nat) (hd : 1 ≤ d) {j n : Nat} (hj : j < li_N) (hs : li_sh j = .inr (1, n)) (hn : n < 2147483648) (i : Int32) (M0 : li_M) : li_Met l Z YX11_wordAt d [.ref (Z.2.2 j), .int i] M0 (fun r M' => r = some (.long (li_atL (M0.2.1 j) n i)) ∧ M' = M0) := by
  refine li_enter (by decide +kernel) (Nat.le_of_ble_eq_true rfl) ?_
  show li_T l Z YX11_wordAt d 0 [(0, .ref (Z.2.2 j)), (1, .int i)] [] M0 _
  refine li_aload_n 0 dX11_wordAt_0 rfl ?_
  refine li_ifnull dX11_wordAt_1 ?_
  refine li_iload_n 1 dX11_wordAt_4 rfl ?_
  refine li_if_lt 20 dX11_wordAt_5 (by decide) (fun c1 => ?_) (fun c1 => ?_)
  · refine li_lconst 0 dX11_wordAt_20 (by decide) ?_
    exact li_lret dX11_wordAt_21 rfl ⟨by rw [li_atL, if_neg (fun h => absurd h.1 (Int32.not_le.mpr c1))], rfl⟩
  · refine li_iload_n 1 dX11_wordAt_8 rfl ?_
    refine li_aload_n 0 dX11_wordAt_9 rfl ?_
    refine li_alen (nI n) dX11_wordAt_10 hj hs (Or.inl (by decide)) rfl ?_
    refine li_icmp_ge 20 dX11_wordAt_11 (by decide) (fun c2 => ?_) (fun c2 => ?_)
    · refine li_lconst 0 dX11_wordAt_20 (by decide) ?_
      exact li_lret dX11_wordAt_21 rfl ⟨by rw [li_atL, if_neg (fun h => absurd h.2 (Int32.not_lt.mpr c2))], rfl⟩
    · refine li_aload_n 0 dX11_wordAt_14 rfl ?_
      refine li_iload_n 1 dX11_wordAt_15 rfl ?_
      refine li_lald dX11_wordAt_16 hj hs (li_in (li_ge c1) (li_gt c2) (nI_toInt32 hn)) ?_
      refine li_goto 21 dX11_wordAt_17 (by decide) ?_
      exact li_lret dX11_wordAt_21 rfl ⟨by rw [li_atL, if_pos ⟨li_ge c1, li_gt c2⟩], rfl⟩
theorem k_X11_at {l : Launch} {Z : li_Z} (d : Nat) (hd : 1 ≤ d) {j n : Nat} (hj : j < li_N) (hs : li_sh j = .inr (0, n)) (hn : n < 2147483648) (i : Int32) (M0 : li_M) : li_Met l Z YX11_at d [.ref (Z.2.2 j), .int i] M0 (li_SI (fun _ => False) M0) := li_mono (fun r M' h => ⟨⟨_, h.1⟩, by rw [h.2]; exact li_fr_refl⟩) (x_X11_at d hd hj hs hn i M0)
theorem k_X11_atR {l : Launch} {Z : li_Z} (d : Nat) (hd : 1 ≤ d) (i : Int32) (M0 : li_M) : li_Met l Z YX11_at d [.ref (Z.2.2 2000), .int i] M0 (li_SI (fun _ => False) M0) := li_mono (fun r M' h => ⟨⟨_, h.1⟩, by rw [h.2]; exact li_fr_refl⟩) (x_X11_atR d hd i M0)
theorem k_X11_put {l : Launch} {Z : li_Z} (d : Nat) (hd : 1 ≤ d) {j n : Nat} (hj : j < li_N) (hs : li_sh j = .inr (0, n)) (hn : n < 2147483648) (i x : Int32) (M0 : li_M) : li_Met l Z YX11_put d [.ref (Z.2.2 j), .int i, .int x] M0 (li_SV (fun i => i = j) M0) := li_mono (fun r M' h => ⟨h.1, by rw [h.2]; exact li_fr_put rfl⟩) (x_X11_put d hd hj hs hn i x M0)
theorem k_X11_wordAt {l : Launch} {Z : li_Z} (d : Nat) (hd : 1 ≤ d) {j n : Nat} (hj : j < li_N) (hs : li_sh j = .inr (1, n)) (hn : n < 2147483648) (i : Int32) (M0 : li_M) : li_Met l Z YX11_wordAt d [.ref (Z.2.2 j), .int i] M0 (li_SL (fun _ => False) M0) := li_mono (fun r M' h => ⟨⟨_, h.1⟩, by rw [h.2]; exact li_fr_refl⟩) (x_X11_wordAt d hd hj hs hn i M0)
