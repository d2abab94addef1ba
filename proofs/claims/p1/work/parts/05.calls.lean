/-! CALLS -/
def li_isN : Cond → Bool
  | .methodLinkNest _ _ _ _ => true
  | .fieldLinkNest _ _ _ _ _ _ => true
  | _ => false
theorem li_nw_ok : li_nw.all li_isN = true := by decide +kernel
theorem li_nw_warm {w : Cond} {s U : State} (h : li_isN w = true) (hW : s.WarmedH U.vm) (hZ : va_Nw w s) : va_Nw w U := by
  cases w with
  | methodLinkNest a b c d => exact va_Nw.warmM hW hZ
  | fieldLinkNest a b c d e f => exact va_Nw.warmF hW hZ
  | _ => cases h
theorem li_nw_on {w : Cond} (h : li_isN w = true) : w.onTables = true := by
  cases w with
  | methodLinkNest a b c d => rfl
  | fieldLinkNest a b c d e f => rfl
  | _ => cases h
theorem li_K_warm {Z : li_Z} {s U : State} {H : Heap} {locs : List Loc} (hW : s.WarmedH U.vm) (hU : U.heap = H) (hS : va_S (li_A Z) s.heap H locs) (h : li_K Z s) : li_K Z U :=
  ⟨va_K.moved hW.alike h.1, h.2.1, fun w hw => li_nw_warm (List.all_eq_true.mp li_nw_ok w hw) hW (h.2.2.1 w hw), li_E.moved hW.alike (h.2.2.2.1.kept fun a h1 h2 => by rw [hU]; exact hS.2.1 a h1 h2), fun i hi => vk_R.warm hW (h.2.2.2.2 i hi)⟩
theorem li_blind {Z : li_Z} {M : li_M} {av : List Value} : FrameBlind (va_Pc av (fun U => li_H Z M U.heap ∧ li_K Z U)) := by
  intro a U g mk h
  obtain ⟨h1, h2, h3, h4, h5, h6, h7⟩ := h
  exact ⟨h1, h2, va_K.moved (u := U) (U := U.calling g mk a) (Vm.Alike.refl U.vm) h3, h4, fun w hw => va_Nw.same (u := U) (U := U.calling g mk a) (li_nw_on (List.all_eq_true.mp li_nw_ok w hw)) rfl (h5 w hw), li_E.moved (u := U) (U := U.calling g mk a) (Vm.Alike.refl U.vm) h6, fun i hi => vk_R.same (u := U) (U := U.calling g mk a) rfl (h7 i hi)⟩
section LIC
variable {l : Launch} {Z : li_Z} {Y Y' : li_Y} {d d' pc ix : Nat} {lo : List (Nat × Value)} {st rest : List Value} {M : li_M} {Q Q' : Option Value → li_M → Prop}
theorem li_good (hc : Cond.code Y'.1 Y'.2.1 Y'.2.2.1 Y'.2.2.2 ∈ li_ws) : GoodIn li_ws (li_wy Y') := by
  have key : ∀ w ∈ li_ws, (w.onTables && w.keeps) = true ∨ ∃ ty, w = .arrayClass ty := fun w hw => good_of_word (List.mem_filter.mp hw).2
  intro w hw
  rcases List.mem_cons.mp hw with rfl | hw
  · exact ⟨hc, key _ hc⟩
  · exact ⟨hw, key _ hw⟩
/-- what is behind a call: every answer, at every state that the callee's end allows -/
theorem li_behind {p : Program} {e : Env} {s : State} {m : MethodId} {args : Array Value} {below : List Frame} {meth : Method} {c : Code} {H : Heap} {locs : List Loc} {ls : Array Slot} {a : Array Value} {st0 : List Value} {R : Room} {Qf : State → Prop}
    (hr : va_Run p l e R s m args below meth c H locs 0 0 0 0 (F0 m pc ls st0) rest (li_Q Z Q' a) (li_A Z)) (hS : va_S (li_A Z) s.heap H locs)
    (kk : ∀ (r : Option Value) (M' : li_M) (H1 : Heap) (locs1 : List Loc), Q' r M' → li_H Z M' H1 → va_S (li_A Z) s.heap H1 locs1 → W p l e R s m args below meth c H1 locs1 0 0 Qf (F0 m (pc + 3) ls (r.toList ++ rest))) : W p l e R s m args below meth c H locs 0 0 Qf (F0 m pc ls st0) := by
  intro T hT X
  obtain ⟨v, st₀, t, T', L, h0, X', hL, e1, e2, ⟨⟨r, M', hv, hp, hb⟩, hz, hk⟩, stp⟩ := hr T hT X
  cases hv
  rw [h0] at hz hk
  obtain ⟨t2, a1, b1⟩ := kk v M' T'.heap (locs ++ L) hp (by rw [e1]; exact hb)
    ⟨Nat.le_trans hS.1 (by rw [e1]; exact hz), fun q h1 h2 => by rw [e1, hk q (Nat.lt_of_lt_of_le h1 hS.1) h2]; exact hS.2.1 q h1 h2, fun q hq => by
      rcases List.mem_append.mp hq with h | h
      · exact hS.2.2 q h
      · exact hL q h⟩ T' rfl X'
  exact ⟨t2, stp t2 a1, b1⟩
theorem li_callV {As : List Value} {j ci N n : Nat} {T : u_T} {sl : List (Option Nat)} (hd : decode Y.2.1 pc = .ok (.invokevirtual ix, 3)) (hM : li_Met l Z Y' d' (.ref (Z.2.2 j) :: As) M Q') (hdd : d' + 1 ≤ d) (hml : Y'.2.2.1 ≤ 41)
    (w1 : Cond.methodLink Y.1.cls ix Y'.1 ∈ li_ws) (w2 : Cond.instanceMethod Y'.1 ∈ li_ws) (w3 : Cond.selects Y'.1.cls Y'.1 Y'.1 ∈ li_ws) (w4 : Cond.initialized Y'.1.cls ∈ li_ws) (w5 : Cond.code Y'.1 Y'.2.1 Y'.2.2.1 Y'.2.2.2 ∈ li_ws)
    (hy : Y'.1.cls ≠ "java/lang/invoke/MethodHandle" ∧ Y'.1.cls ≠ "java/lang/invoke/VarHandle" ∧ (parseMethodDescriptor Y'.1.desc).map (fun d => d.parameters.length) = some n) (hn : As.length = n)
    (hj : j < li_N) (hs : li_sh j = .inl (ci, sl)) (hc : vwCl[ci]? = some (Y'.1.cls, T, N)) (hst : st = As.reverse ++ .ref (Z.2.2 j) :: rest) (hcat : (rest.map fun v => v.category).sum ≤ 8)
    (kk : ∀ (r : Option Value) (M' : li_M), Q' r M' → li_T l Z Y d (pc + 3) lo (r.toList ++ rest) M' Q) : li_T l Z Y d pc lo st M Q := by
  intro p e s m args below meth c C K H locs ls hH hS hl
  have hrun := va_runV (R := li_rm d) (e := e) (below := below) (meth := meth) (locs := locs) (cells := 0) (slots := 0) (As := As) (rest := rest) (n := n) (g := F0 m pc ls st) (index := ix) (own := Y.1.cls) (C := Y'.1.cls) (b := Z.2.2 j) (H := H) (Ts := li_ws)
    ⟨C.1, C.2.1, C.2.2.1, C.2.2.2.1, C.2.2.2.2.1⟩ hM
    (cwV n C.2.2.2.2.1 (fun w hw => by
      rcases List.mem_append.mp (by unfold wsV at hw; exact hw) with h | h
      · have hm : w ∈ li_ws := by
          simp only [List.mem_cons, List.not_mem_nil, or_false] at h
          rcases h with rfl | rfl | rfl | rfl
          · exact w1
          · exact w2
          · exact w3
          · exact w4
        exact ⟨hm, good_of_word (List.mem_filter.mp hm).2⟩
      · exact li_good w5 w h) rfl rfl rfl ⟨rfl, hy⟩ ⟨hdd, by show 8 + (Y'.2.2.1 + 11) + 60 * d' ≤ 60 * d; omega⟩)
    ⟨li_blind, va_recv K.1 hH hc (q0 := j) (by rw [li_get hj, li_cellO hs]), fun U hU hW => ⟨rfl, by rw [hU]; exact hH, li_K_warm hW hU hS K⟩⟩ rfl hn hl.1 hst (lv_room hcat) hd ⟨Nat.le_refl _, Nat.le_refl _⟩
  exact li_behind hrun hS (fun r M' H1 locs1 hq hH1 hS1 => kk r M' hq p e s m args below meth c C K H1 locs1 ls hH1 hS1 hl)
theorem li_callS {As : List Value} {n : Nat} (hd : decode Y.2.1 pc = .ok (.invokestatic ix, 3)) (hM : li_Met l Z Y' d' As M Q') (hdd : d' + 1 ≤ d) (hml : Y'.2.2.1 ≤ 41)
    (w1 : Cond.methodLink Y.1.cls ix Y'.1 ∈ li_ws) (w2 : Cond.static Y'.1 ∈ li_ws) (w4 : Cond.initialized Y'.1.cls ∈ li_ws) (w5 : Cond.code Y'.1 Y'.2.1 Y'.2.2.1 Y'.2.2.2 ∈ li_ws)
    (hy : Y'.1.cls ≠ "java/lang/invoke/MethodHandle" ∧ Y'.1.cls ≠ "java/lang/invoke/VarHandle" ∧ (parseMethodDescriptor Y'.1.desc).map (fun d => d.parameters.length) = some n) (hn : As.length = n)
    (hst : st = As.reverse ++ rest) (hcat : (rest.map fun v => v.category).sum ≤ 8)
    (kk : ∀ (r : Option Value) (M' : li_M), Q' r M' → li_T l Z Y d (pc + 3) lo (r.toList ++ rest) M' Q) : li_T l Z Y d pc lo st M Q := by
  intro p e s m args below meth c C K H locs ls hH hS hl
  have hrun := va_runS (R := li_rm d) (e := e) (below := below) (meth := meth) (locs := locs) (cells := 0) (slots := 0) (As := As) (rest := rest) (n := n) (g := F0 m pc ls st) (index := ix) (own := Y.1.cls) (H := H) (Ts := li_ws)
    ⟨C.1, C.2.1, C.2.2.1, C.2.2.2.1, C.2.2.2.2.1⟩ hM
    ⟨callB_of n C.2.2.2.2.1 (li_good w5) rfl rfl rfl (C.2.2.2.2.1 _ w4) (C.2.2.2.2.1 _ w1) hy ⟨hdd, by show 8 + (Y'.2.2.1 + 11) + 60 * d' ≤ 60 * d; omega⟩, C.2.2.2.2.1 _ w2⟩
    ⟨li_blind, fun U hU hW => ⟨rfl, by rw [hU]; exact hH, li_K_warm hW hU hS K⟩⟩ rfl hn hl.1 hst (lv_room hcat) hd ⟨Nat.le_refl _, Nat.le_refl _⟩
  exact li_behind hrun hS (fun r M' H1 locs1 hq hH1 hS1 => kk r M' hq p e s m args below meth c C K H1 locs1 ls hH1 hS1 hl)
/-- a private static method of a nest mate -/
theorem li_callN {As : List Value} {n : Nat} {host : String} (hd : decode Y.2.1 pc = .ok (.invokestatic ix, 3)) (hM : li_Met l Z Y' d' As M Q') (hdd : d' + 1 ≤ d) (hml : Y'.2.2.1 ≤ 41)
    (w1 : Cond.methodLinkNest Y.1.cls ix Y'.1 host ∈ li_nw) (w2 : Cond.static Y'.1 ∈ li_ws) (w4 : Cond.initialized Y'.1.cls ∈ li_ws) (w5 : Cond.code Y'.1 Y'.2.1 Y'.2.2.1 Y'.2.2.2 ∈ li_ws)
    (hy : Y'.1.cls ≠ "java/lang/invoke/MethodHandle" ∧ Y'.1.cls ≠ "java/lang/invoke/VarHandle" ∧ (parseMethodDescriptor Y'.1.desc).map (fun d => d.parameters.length) = some n) (hn : As.length = n)
    (hst : st = As.reverse ++ rest) (hcat : (rest.map fun v => v.category).sum ≤ 8)
    (kk : ∀ (r : Option Value) (M' : li_M), Q' r M' → li_T l Z Y d (pc + 3) lo (r.toList ++ rest) M' Q) : li_T l Z Y d pc lo st M Q := by
  intro p e s m args below meth c C K H locs ls hH hS hl
  have hrun := va_runSN (R := li_rm d) (e := e) (below := below) (meth := meth) (locs := locs) (cells := 0) (slots := 0) (As := As) (rest := rest) (n := n) (g := F0 m pc ls st) (index := ix) (own := Y.1.cls) (host := host) (H := H) (Ts := li_ws)
    ⟨C.1, C.2.1, C.2.2.1, C.2.2.2.1, C.2.2.2.2.1⟩ hM
    ⟨va_cnB n C.2.2.2.2.1 (li_good w5) rfl rfl rfl (K.2.2.1 _ w1) (C.2.2.2.2.1 _ w4) hy ⟨hdd, by show 8 + (Y'.2.2.1 + 11) + 60 * d' ≤ 60 * d; omega⟩, C.2.2.2.2.1 _ w2, trivial⟩
    ⟨li_blind, fun U hU hW => ⟨rfl, by rw [hU]; exact hH, li_K_warm hW hU hS K⟩⟩ rfl hn hl.1 hst (lv_room hcat) hd ⟨Nat.le_refl _, Nat.le_refl _⟩
  exact li_behind hrun hS (fun r M' H1 locs1 hq hH1 hS1 => kk r M' hq p e s m args below meth c C K H1 locs1 ls hH1 hS1 hl)
end LIC
