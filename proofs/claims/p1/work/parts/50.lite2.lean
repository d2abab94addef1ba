def l2_rm (d : Nat) : Room := { frames := d, cells := 1, slots := 6, locals := 60 * d }
/-- what a throw of this class needs: the two statics of Throwable, the texts of the messages -/
def li_V (Z : li_Z) (s : State) : Prop := vx_Zq Bundle.tN "UNASSIGNED_STACK" Bundle.steD (li_A Z) s s.heap ∧ vx_Zq Bundle.tN "SUPPRESSED_SENTINEL" Bundle.listD (li_A Z) s s.heap ∧
 (∀ w ∈ l2_bad, va_Nw w s) ∧
  (∃ a, vk_R "ClockForTalk" 134 "no such person, or nothing such of one" a s) ∧ (∃ a, vk_R "ClockForTalk" 173 "no such thing, or nothing such of one" a s) ∧ (∃ a, vk_R "ClockForTalk" 207 "no such loan, or nothing such of one" a s) ∧ ∃ a, vk_R "ClockForTalk" 433 "no such number of the row" a s
theorem l2_bad_on {w : Cond} (h : w ∈ l2_bad) : w.onTables = true := List.all_eq_true.mp (show l2_bad.all Cond.onTables = true by decide +kernel) w h
theorem l2_bad_warm {w : Cond} {s U : State} (hW : s.WarmedH U.vm) (hw : w ∈ l2_bad) (h : va_Nw w s) : va_Nw w U := by
  simp only [l2_bad, List.mem_cons, List.not_mem_nil, or_false] at hw
  rcases hw with rfl | rfl | rfl | rfl
  · exact va_Nw.warmD hW h
  · exact va_Nw.warmD hW h
  · exact va_Nw.warmD hW h
  · exact va_Nw.warmC hW h
theorem li_V.warm {Z : li_Z} {s U : State} {H : Heap} {locs : List Loc} (hW : s.WarmedH U.vm) (hU : U.heap = H) (hS : va_S (li_A Z) s.heap H locs) (h : li_V Z s) : li_V Z U := by
  obtain ⟨h1, h2, h3, ⟨a1, b1⟩, ⟨a2, b2⟩, ⟨a3, b3⟩, a4, b4⟩ := h
  exact ⟨vx_Zq.moved hW.alike (h1.kept fun a x y => by rw [hU]; exact hS.2.1 a x y), vx_Zq.moved hW.alike (h2.kept fun a x y => by rw [hU]; exact hS.2.1 a x y), fun w hw => l2_bad_warm hW hw (h3 w hw), ⟨a1, vk_R.warm hW b1⟩, ⟨a2, vk_R.warm hW b2⟩, ⟨a3, vk_R.warm hW b3⟩, a4, vk_R.warm hW b4⟩
theorem li_V.same {Z : li_Z} {U : State} {g : JFrame} {mk : MethodId} {a : Array Value} (h : li_V Z U) : li_V Z (U.calling g mk a) := by
  obtain ⟨h1, h2, h3, ⟨a1, b1⟩, ⟨a2, b2⟩, ⟨a3, b3⟩, a4, b4⟩ := h
  exact ⟨vx_Zq.moved (u := U) (U := U.calling g mk a) (Vm.Alike.refl U.vm) h1, vx_Zq.moved (u := U) (U := U.calling g mk a) (Vm.Alike.refl U.vm) h2, fun w hw => va_Nw.same (u := U) (U := U.calling g mk a) (l2_bad_on hw) rfl (h3 w hw), ⟨a1, vk_R.same (u := U) (U := U.calling g mk a) rfl b1⟩, ⟨a2, vk_R.same (u := U) (U := U.calling g mk a) rfl b2⟩, ⟨a3, vk_R.same (u := U) (U := U.calling g mk a) rfl b3⟩, a4, vk_R.same (u := U) (U := U.calling g mk a) rfl b4⟩
def l2_XC (Z : li_Z) (M : li_M) : String → State → State → Prop := vx_X (fun _ : Unit => True) (fun E _ t => E = "java/util/NoSuchElementException" ∧ li_H Z M t.heap) (li_A Z)
def l2_X (l : Launch) (Z : li_Z) (Y : li_Y) (p : Program) (s : State) (m : MethodId) (args : Array Value) (meth : Method) (c : Code) : Prop :=
  p.tables.exec = Jvm.exec ∧ c.code = Y.2.1 ∧ c.maxLocals = Y.2.2.1 ∧ s.vm.findClass Y.1.cls = some m.cls ∧ (∀ w ∈ li_ws, w.before args s = true) ∧ meth.sig.returnType = Y.2.2.2 ∧ meth.locks = false ∧ (∀ x ∈ c.exceptionTable.toList, False) ∧ l.stackTraces = false ∧ li_V Z s
def l2_T (l : Launch) (Z : li_Z) (Y : li_Y) (d : Nat) (M0 : li_M) (pc : Nat) (lo : List (Nat × Value)) (st : List Value) (M : li_M) (Q : Option Value → li_M → Prop) : Prop :=
  ∀ (p : Program) (e : Env) (s : State) (m : MethodId) (args : Array Value) (below : List Frame) (meth : Method) (c : Code), l2_X l Z Y p s m args meth c → li_K Z s →
    ∀ (H : Heap) (locs : List Loc) (ls : Array Slot), li_H Z M H → va_S (li_A Z) s.heap H locs → lv_has ls Y.2.2.1 lo →
      W p l e (l2_rm d) s m args below meth c H locs 0 0 (vx_MQ below (li_Q Z Q) (l2_XC Z M0) args s 1 6 (li_A Z)) (F0 m pc ls st)
def l2_Met (l : Launch) (Z : li_Z) (Y : li_Y) (d : Nat) (av : List Value) (M : li_M) (Q : Option Value → li_M → Prop) : Prop :=
  vx_Met l Y.1 (li_wy Y) (l2_rm d) (va_Pc av (fun U => li_H Z M U.heap ∧ li_K Z U ∧ li_V Z U)) (li_Q Z Q) (l2_XC Z M) 1 6 (li_A Z)
theorem l2_enter {l : Launch} {Z : li_Z} {Y : li_Y} {d : Nat} {av : List Value} {M : li_M} {Q : Option Value → li_M → Prop} (htr : l.stackTraces = false) (hy : plainName Y.1.cls = true) (hlen : (lg_sl av).length ≤ Y.2.2.1)
    (k : l2_T l Z Y d M 0 (lv_args 0 av) [] M Q) : l2_Met l Z Y d av M Q := by
  refine vx_ofW (cc := Y.2.1) (maxL := Y.2.2.1) (ret := Y.2.2.2) hy rfl ?_
  intro p e s m args below meth c s₁ B hml ht hv
  obtain ⟨rfl, hH, hK, hV⟩ := hv
  have hts := atoms_spec (ws := li_wy Y) B.pre
  have hl := lv_entry av (n := Y.2.2.1) hlen
  rw [lg_entry_eq]
  exact k p e s m _ below meth c ⟨B.exec, B.bytes, hml, findClass_of_methodNamed B.named, fun w hw => hts w (List.mem_cons_of_mem _ hw), B.returns, B.notSynchronized, ht, htr, hV⟩ hK s.heap [] _ hH va_S.rf hl
section L2
variable {l : Launch} {Z : li_Z} {Y Y' : li_Y} {d d' pc ix : Nat} {lo lo' : List (Nat × Value)} {st rest : List Value} {M M0 : li_M} {Q Q' : Option Value → li_M → Prop}
theorem l2_iload_n {k : Fin 4} {x : Int32} (q : Nat) (hd : decode Y.2.1 pc = .ok (.iload_n k, 1)) (hk : lo[q]? = some ((k : Nat), .int x)) (kk : l2_T l Z Y d M0 (pc + 1) lo (.int x :: st) M Q) : l2_T l Z Y d M0 pc lo (st) M Q :=
  fun p e s m args below meth c C K H locs ls hH hS hl => lv_iload_n C.1 C.2.1 hd rfl (lv_at hl q hk) (kk p e s m args below meth c C K H locs ls hH hS hl)
theorem l2_aload_n {k : Fin 4} {x : Nat} (q : Nat) (hd : decode Y.2.1 pc = .ok (.aload_n k, 1)) (hk : lo[q]? = some ((k : Nat), .ref x)) (kk : l2_T l Z Y d M0 (pc + 1) lo (.ref x :: st) M Q) : l2_T l Z Y d M0 pc lo (st) M Q :=
  fun p e s m args below meth c C K H locs ls hH hS hl => lv_aload_n C.1 C.2.1 hd rfl (lv_at hl q hk) (kk p e s m args below meth c C K H locs ls hH hS hl)
theorem l2_iconst {n : Int} (v : Int32) (hd : decode Y.2.1 pc = .ok (.iconst n, 1)) (hv : Int32.ofInt n = v) (kk : l2_T l Z Y d M0 (pc + 1) lo (.int v :: st) M Q) : l2_T l Z Y d M0 pc lo (st) M Q :=
  fun p e s m args below meth c C K H locs ls hH hS hl => lv_iconst C.1 C.2.1 hd hv (kk p e s m args below meth c C K H locs ls hH hS hl)
theorem l2_isub {x y : Int32} (hd : decode Y.2.1 pc = .ok (.isub, 1))  (kk : l2_T l Z Y d M0 (pc + 1) lo (.int (x - y) :: st) M Q) : l2_T l Z Y d M0 pc lo (.int y :: .int x :: st) M Q :=
  fun p e s m args below meth c C K H locs ls hH hS hl => lv_isub C.1 C.2.1 hd (kk p e s m args below meth c C K H locs ls hH hS hl)
theorem l2_if_eq {x : Int32} {off : Int} (tgt : Nat) (hd : decode Y.2.1 pc = .ok (.ifCond .eq off, 3)) (ht : (pc : Int) + off = (tgt : Int)) (kt : x = 0 → l2_T l Z Y d M0 tgt lo st M Q) (kf : ¬ (x = 0) → l2_T l Z Y d M0 (pc + 3) lo st M Q) : l2_T l Z Y d M0 pc lo (.int x :: st) M Q :=
  fun p e s m args below meth c C K H locs ls hH hS hl => lv_if_eq C.1 C.2.1 hd ht (fun h => kt h p e s m args below meth c C K H locs ls hH hS hl) (fun h => kf h p e s m args below meth c C K H locs ls hH hS hl)
theorem l2_if_ne {x : Int32} {off : Int} (tgt : Nat) (hd : decode Y.2.1 pc = .ok (.ifCond .ne off, 3)) (ht : (pc : Int) + off = (tgt : Int)) (kt : x ≠ 0 → l2_T l Z Y d M0 tgt lo st M Q) (kf : x = 0 → l2_T l Z Y d M0 (pc + 3) lo st M Q) : l2_T l Z Y d M0 pc lo (.int x :: st) M Q :=
  fun p e s m args below meth c C K H locs ls hH hS hl => lv_if_ne C.1 C.2.1 hd ht (fun h => kt h p e s m args below meth c C K H locs ls hH hS hl) (fun h => kf h p e s m args below meth c C K H locs ls hH hS hl)
theorem l2_geti {j ci k ix N : Nat} {T : u_T} {C0 : String} {sl : List (Option Nat)} (hd : decode Y.2.1 pc = .ok (.getfield ix, 3)) (hj : j < li_N) (hs : li_sh j = .inl (ci, sl)) (hc : vwCl[ci]? = some (C0, T, N)) (hk : sl[k]? = some none) (hkN : k < N) (hin : ∀ w ∈ u_ws C0 T N, w ∈ li_ws) (hw : Cond.fieldLink Y.1.cls ix (T k).1 (T k).2.1 (T k).2.2.1 ∈ li_ws)
    (kk : l2_T l Z Y d M0 (pc + 3) lo (.int (M.1 j k) :: st) M Q) : l2_T l Z Y d M0 pc lo (.ref (Z.2.2 j) :: st) M Q := by
  intro p e s m args below meth c C K H locs ls hH hS hl
  refine va_get (D := Z.1) (ci := ci) (v := .int (M.1 j k)) (C := C0) (T := T) (N := N) (fs := li_ob Z M j 0 sl) C.1 C.2.1 C.2.2.2.2.1 hin C.2.2.2.1 K.1 hH j (by rw [li_get hj, li_cellO hs]) hc k hkN (C.2.2.2.2.1 _ hw) (fun _ h => h) (by rw [li_ob_get, hk]; simp) hd (kk p e s m args below meth c C K H locs ls hH hS hl)
theorem l2_getr {j ci k ix N q : Nat} {T : u_T} {C0 : String} {sl : List (Option Nat)} (hd : decode Y.2.1 pc = .ok (.getfield ix, 3)) (hj : j < li_N) (hs : li_sh j = .inl (ci, sl)) (hc : vwCl[ci]? = some (C0, T, N)) (hk : sl[k]? = some (some q)) (hq : q < 1000) (hkN : k < N) (hin : ∀ w ∈ u_ws C0 T N, w ∈ li_ws) (hw : Cond.fieldLink Y.1.cls ix (T k).1 (T k).2.1 (T k).2.2.1 ∈ li_ws)
    (kk : l2_T l Z Y d M0 (pc + 3) lo (.ref (Z.2.2 q) :: st) M Q) : l2_T l Z Y d M0 pc lo (.ref (Z.2.2 j) :: st) M Q := by
  intro p e s m args below meth c C K H locs ls hH hS hl
  refine va_get (D := Z.1) (ci := ci) (v := .ref (Z.2.2 q)) (C := C0) (T := T) (N := N) (fs := li_ob Z M j 0 sl) C.1 C.2.1 C.2.2.2.2.1 hin C.2.2.2.1 K.1 hH j (by rw [li_get hj, li_cellO hs]) hc k hkN (C.2.2.2.2.1 _ hw) (fun _ h => h) (by rw [li_ob_get, hk]; simp [li_rv, hq]) hd (kk p e s m args below meth c C K H locs ls hH hS hl)
theorem l2_callV {As : List Value} {j ci N n : Nat} {T : u_T} {sl : List (Option Nat)} (hd : decode Y.2.1 pc = .ok (.invokevirtual ix, 3)) (hM : li_Met l Z Y' d' (.ref (Z.2.2 j) :: As) M Q') (hdd : d' + 1 ≤ d) (hml : Y'.2.2.1 ≤ 41)
    (w1 : Cond.methodLink Y.1.cls ix Y'.1 ∈ li_ws) (w2 : Cond.instanceMethod Y'.1 ∈ li_ws) (w3 : Cond.selects Y'.1.cls Y'.1 Y'.1 ∈ li_ws) (w4 : Cond.initialized Y'.1.cls ∈ li_ws) (w5 : Cond.code Y'.1 Y'.2.1 Y'.2.2.1 Y'.2.2.2 ∈ li_ws)
    (hy : Y'.1.cls ≠ "java/lang/invoke/MethodHandle" ∧ Y'.1.cls ≠ "java/lang/invoke/VarHandle" ∧ (parseMethodDescriptor Y'.1.desc).map (fun d => d.parameters.length) = some n) (hn : As.length = n)
    (hj : j < li_N) (hs : li_sh j = .inl (ci, sl)) (hc : vwCl[ci]? = some (Y'.1.cls, T, N)) (hst : st = As.reverse ++ .ref (Z.2.2 j) :: rest) (hcat : (rest.map fun v => v.category).sum ≤ 8)
    (kk : ∀ (r : Option Value) (M' : li_M), Q' r M' → l2_T l Z Y d M0 (pc + 3) lo (r.toList ++ rest) M' Q) : l2_T l Z Y d M0 pc lo st M Q := by
  intro p e s m args below meth c C K H locs ls hH hS hl
  have hrun := va_runV (R := l2_rm d) (e := e) (below := below) (meth := meth) (locs := locs) (cells := 0) (slots := 0) (As := As) (rest := rest) (n := n) (g := F0 m pc ls st) (index := ix) (own := Y.1.cls) (C := Y'.1.cls) (b := Z.2.2 j) (H := H) (Ts := li_ws)
    ⟨C.1, C.2.1, C.2.2.1, C.2.2.2.1, C.2.2.2.2.1⟩ hM
    (cwV n C.2.2.2.2.1 (fun w hw => by
      rcases List.mem_append.mp (by unfold wsV at hw; exact hw) with h | h
      · have hm : w ∈ li_ws := by
          simp only [List.mem_cons, List.not_mem_nil, or_false] at h
          rcases h with rfl | rfl | rfl | rfl
          · exact w1
          · exact w2
          · exact w3
          · exact w4
        exact ⟨hm, good_of_word (List.mem_filter.mp hm).2⟩
      · exact li_good w5 w h) rfl rfl rfl ⟨rfl, hy⟩ ⟨hdd, by show 8 + (Y'.2.2.1 + 11) + 60 * d' ≤ 60 * d; omega⟩)
    ⟨li_blind, va_recv K.1 hH hc (q0 := j) (by rw [li_get hj, li_cellO hs]), fun U hU hW => ⟨rfl, by rw [hU]; exact hH, li_K_warm hW hU hS K⟩⟩ rfl hn hl.1 hst (lv_room hcat) hd ⟨Nat.zero_le _, Nat.zero_le _⟩
  exact li_behind hrun hS (fun r M' H1 locs1 hq hH1 hS1 => kk r M' hq p e s m args below meth c C K H1 locs1 ls hH1 hS1 hl)
theorem l2_callS {As : List Value} {n : Nat} (hd : decode Y.2.1 pc = .ok (.invokestatic ix, 3)) (hM : li_Met l Z Y' d' As M Q') (hdd : d' + 1 ≤ d) (hml : Y'.2.2.1 ≤ 41)
    (w1 : Cond.methodLink Y.1.cls ix Y'.1 ∈ li_ws) (w2 : Cond.static Y'.1 ∈ li_ws) (w4 : Cond.initialized Y'.1.cls ∈ li_ws) (w5 : Cond.code Y'.1 Y'.2.1 Y'.2.2.1 Y'.2.2.2 ∈ li_ws)
    (hy : Y'.1.cls ≠ "java/lang/invoke/MethodHandle" ∧ Y'.1.cls ≠ "java/lang/invoke/VarHandle" ∧ (parseMethodDescriptor Y'.1.desc).map (fun d => d.parameters.length) = some n) (hn : As.length = n)
    (hst : st = As.reverse ++ rest) (hcat : (rest.map fun v => v.category).sum ≤ 8)
    (kk : ∀ (r : Option Value) (M' : li_M), Q' r M' → l2_T l Z Y d M0 (pc + 3) lo (r.toList ++ rest) M' Q) : l2_T l Z Y d M0 pc lo st M Q := by
  intro p e s m args below meth c C K H locs ls hH hS hl
  have hrun := va_runS (R := l2_rm d) (e := e) (below := below) (meth := meth) (locs := locs) (cells := 0) (slots := 0) (As := As) (rest := rest) (n := n) (g := F0 m pc ls st) (index := ix) (own := Y.1.cls) (H := H) (Ts := li_ws)
    ⟨C.1, C.2.1, C.2.2.1, C.2.2.2.1, C.2.2.2.2.1⟩ hM
    ⟨callB_of n C.2.2.2.2.1 (li_good w5) rfl rfl rfl (C.2.2.2.2.1 _ w4) (C.2.2.2.2.1 _ w1) hy ⟨hdd, by show 8 + (Y'.2.2.1 + 11) + 60 * d' ≤ 60 * d; omega⟩, C.2.2.2.2.1 _ w2⟩
    ⟨li_blind, fun U hU hW => ⟨rfl, by rw [hU]; exact hH, li_K_warm hW hU hS K⟩⟩ rfl hn hl.1 hst (lv_room hcat) hd ⟨Nat.zero_le _, Nat.zero_le _⟩
  exact li_behind hrun hS (fun r M' H1 locs1 hq hH1 hS1 => kk r M' hq p e s m args below meth c C K H1 locs1 ls hH1 hS1 hl)
theorem l2_top {x : Int32} (k : ∀ y : Int32, y = x → l2_T l Z Y d M0 pc lo (.int y :: st) M Q) : l2_T l Z Y d M0 pc lo (.int x :: st) M Q := k x rfl
theorem l2_throw {is : Nat} {text : String} (hd4 : 6 ≤ d) (hcls : Y.1.cls = "ClockForTalk") (hM : M = M0) (hk : Cond.classLink "ClockForTalk" 132 nse_X ∈ li_ws) (hini : Cond.initialized nse_X ∈ li_ws) (hstr : ∀ s, li_V Z s → ∃ a, vk_R "ClockForTalk" is text a s)
    (d0 : decode Y.2.1 pc = .ok (.new 132, 3)) (d3 : decode Y.2.1 (pc + 3) = .ok (.dup, 1)) (d4 : decode Y.2.1 (pc + 4) = .ok (.ldc is, 2)) (d6 : decode Y.2.1 (pc + 6) = .ok (.invokespecial 136, 3)) (d9 : decode Y.2.1 (pc + 9) = .ok (.athrow, 1)) (hcat : (st.map fun v => v.category).sum ≤ 8) : l2_T l Z Y d M0 pc lo st M Q := by
  intro p e s m args below meth c C K H locs ls hH hS hl
  obtain ⟨a, hs⟩ := hstr s C.2.2.2.2.2.2.2.2.2
  have hV := C.2.2.2.2.2.2.2.2.2
  subst hM
  have hcl : s.vm.findClass "ClockForTalk" = some m.cls := by rw [← hcls]; exact C.2.2.2.1
  have hat : ∀ w ∈ (nse_at "ClockForTalk" 136).filter vx_no, w.before args s = true := fun w hw => by
    by_cases g : goodWord w = true
    · exact C.2.2.2.2.1 _ (l2_hat1 w (List.mem_filter.mpr ⟨hw, g⟩))
    · have h9 := l2_hat2 w (List.mem_filter.mpr ⟨hw, by simpa using g⟩)
      exact va_Nw.use (l2_bad_on h9) (hV.2.2.1 w h9)
  refine nse_make (A := li_A Z) C.1 C.2.1 C.2.2.2.2.2.2.2.2.1 hcl (C.2.2.2.2.1 _ hk) (C.2.2.2.2.1 _ hini) hs hat l2_hgood hV.1 hV.2.1 hS (by rw [C.2.2.1]; exact hl.1) d0 d3 d4 d6
    (by show 2 + 3 < d; omega) (by show (st.map fun v => v.category).sum + (13 * (2 + 1) + 43) ≤ 60 * d; omega) (Nat.le_refl 1) (Nat.le_refl 6) (fun q H1 ce hz hk9 hce hv hfc => ?_)
  refine vx_athrow C.1 C.2.1 d9 ?_
  exact vx_out (fun x hx => absurd (C.2.2.2.2.2.2.2.1 x hx) id) C.2.2.2.2.2.2.1 hce hv hfc
    (fun t ht hA => ⟨(), trivial, ⟨rfl, by rw [ht]; exact hH.kept (fun k q hq => hk9 _ ((hH k q hq).lt))⟩, ⟨by rw [ht]; exact Nat.le_trans hS.1 hz, fun q h1 h2 => by rw [ht]; exact (hk9 q (Nat.lt_of_lt_of_le h1 hS.1)).trans (hS.2.1 q h1 h2)⟩⟩) hS.2.2 (Nat.le_refl 1) (Nat.le_refl 6)
theorem l2_throwW {is : Nat} {text : String} (hd4 : 6 ≤ d) (hcls : Y.1.cls = "ClockForTalk") (hM : M = M0) (hk : Cond.classLink "ClockForTalk" 132 nse_X ∈ li_ws) (hini : Cond.initialized nse_X ∈ li_ws) (hstr : ∀ s, li_V Z s → ∃ a, vk_R "ClockForTalk" is text a s)
    (d0 : decode Y.2.1 pc = .ok (.new 132, 3)) (d3 : decode Y.2.1 (pc + 3) = .ok (.dup, 1)) (d4 : decode Y.2.1 (pc + 4) = .ok (.ldc_w is, 3)) (d6 : decode Y.2.1 (pc + 7) = .ok (.invokespecial 136, 3)) (d9 : decode Y.2.1 (pc + 10) = .ok (.athrow, 1)) (hcat : (st.map fun v => v.category).sum ≤ 8) : l2_T l Z Y d M0 pc lo st M Q := by
  intro p e s m args below meth c C K H locs ls hH hS hl
  obtain ⟨a, hs⟩ := hstr s C.2.2.2.2.2.2.2.2.2
  have hV := C.2.2.2.2.2.2.2.2.2
  subst hM
  have hcl : s.vm.findClass "ClockForTalk" = some m.cls := by rw [← hcls]; exact C.2.2.2.1
  have hat : ∀ w ∈ (nse_at "ClockForTalk" 136).filter vx_no, w.before args s = true := fun w hw => by
    by_cases g : goodWord w = true
    · exact C.2.2.2.2.1 _ (l2_hat1 w (List.mem_filter.mpr ⟨hw, g⟩))
    · have h9 := l2_hat2 w (List.mem_filter.mpr ⟨hw, by simpa using g⟩)
      exact va_Nw.use (l2_bad_on h9) (hV.2.2.1 w h9)
  refine nse_makeW (A := li_A Z) C.1 C.2.1 C.2.2.2.2.2.2.2.2.1 hcl (C.2.2.2.2.1 _ hk) (C.2.2.2.2.1 _ hini) hs hat l2_hgood hV.1 hV.2.1 hS (by rw [C.2.2.1]; exact hl.1) d0 d3 d4 d6
    (by show 2 + 3 < d; omega) (by show (st.map fun v => v.category).sum + (13 * (2 + 1) + 43) ≤ 60 * d; omega) (Nat.le_refl 1) (Nat.le_refl 6) (fun q H1 ce hz hk9 hce hv hfc => ?_)
  refine vx_athrow C.1 C.2.1 d9 ?_
  exact vx_out (fun x hx => absurd (C.2.2.2.2.2.2.2.1 x hx) id) C.2.2.2.2.2.2.1 hce hv hfc
    (fun t ht hA => ⟨(), trivial, ⟨rfl, by rw [ht]; exact hH.kept (fun k q hq => hk9 _ ((hH k q hq).lt))⟩, ⟨by rw [ht]; exact Nat.le_trans hS.1 hz, fun q h1 h2 => by rw [ht]; exact (hk9 q (Nat.lt_of_lt_of_le h1 hS.1)).trans (hS.2.1 q h1 h2)⟩⟩) hS.2.2 (Nat.le_refl 1) (Nat.le_refl 6)
end L2
