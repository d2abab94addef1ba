theorem w_1297 : (Jvm.Cond.codeWith ({ cls := "ClockForTalkLaw", name := "person", desc := "(LClockForTalk;II[J)I" } : Jvm.MethodName) method_3_code (5 : Nat) (Option.some Jvm.ClassFile.FieldType.int) [((0 : Nat), (10 : Nat), (13 : Nat), (13 : Nat))]) ∈ li_ws := li_mem 1297 (by decide +kernel) (by decide +kernel)
theorem w_1298 : (Jvm.Cond.classLink "ClockForTalkLaw" (13 : Nat) "java/util/NoSuchElementException") ∈ li_ws := li_mem 1298 (by decide +kernel) (by decide +kernel)
theorem w_1299 : (Jvm.Cond.methodLink "ClockForTalkLaw" (7 : Nat) ({ cls := "ClockForTalk", name := "person", desc := "(II)I" } : Jvm.MethodName)) ∈ li_ws := li_mem 1299 (by decide +kernel) (by decide +kernel)
theorem w_1300 : (Jvm.Cond.instanceMethod ({ cls := "ClockForTalk", name := "person", desc := "(II)I" } : Jvm.MethodName)) ∈ li_ws := li_mem 1300 (by decide +kernel) (by decide +kernel)
theorem w_1301 : (Jvm.Cond.selects "ClockForTalk" ({ cls := "ClockForTalk", name := "person", desc := "(II)I" } : Jvm.MethodName) ({ cls := "ClockForTalk", name := "person", desc := "(II)I" } : Jvm.MethodName)) ∈ li_ws := li_mem 1301 (by decide +kernel) (by decide +kernel)
theorem w_1302 : (Jvm.Cond.code ({ cls := "ClockForTalk", name := "person", desc := "(II)I" } : Jvm.MethodName) prog_1_method_7_code (3 : Nat) (Option.some Jvm.ClassFile.FieldType.int)) ∈ li_ws := li_mem 1302 (by decide +kernel) (by decide +kernel)
theorem w_1373 : (Jvm.Cond.codeWith ({ cls := "ClockForTalkLaw", name := "thing", desc := "(LClockForTalk;II[J)I" } : Jvm.MethodName) method_4_code (5 : Nat) (Option.some Jvm.ClassFile.FieldType.int) [((0 : Nat), (10 : Nat), (13 : Nat), (13 : Nat))]) ∈ li_ws := li_mem 1373 (by decide +kernel) (by decide +kernel)
theorem w_1374 : (Jvm.Cond.methodLink "ClockForTalkLaw" (15 : Nat) ({ cls := "ClockForTalk", name := "thing", desc := "(II)I" } : Jvm.MethodName)) ∈ li_ws := li_mem 1374 (by decide +kernel) (by decide +kernel)
theorem w_1375 : (Jvm.Cond.instanceMethod ({ cls := "ClockForTalk", name := "thing", desc := "(II)I" } : Jvm.MethodName)) ∈ li_ws := li_mem 1375 (by decide +kernel) (by decide +kernel)
theorem w_1376 : (Jvm.Cond.selects "ClockForTalk" ({ cls := "ClockForTalk", name := "thing", desc := "(II)I" } : Jvm.MethodName) ({ cls := "ClockForTalk", name := "thing", desc := "(II)I" } : Jvm.MethodName)) ∈ li_ws := li_mem 1376 (by decide +kernel) (by decide +kernel)
theorem w_1377 : (Jvm.Cond.code ({ cls := "ClockForTalk", name := "thing", desc := "(II)I" } : Jvm.MethodName) prog_1_method_8_code (3 : Nat) (Option.some Jvm.ClassFile.FieldType.int)) ∈ li_ws := li_mem 1377 (by decide +kernel) (by decide +kernel)
theorem w_1382 : (Jvm.Cond.codeWith ({ cls := "ClockForTalkLaw", name := "loan", desc := "(LClockForTalk;II[J)I" } : Jvm.MethodName) method_5_code (5 : Nat) (Option.some Jvm.ClassFile.FieldType.int) [((0 : Nat), (10 : Nat), (13 : Nat), (13 : Nat))]) ∈ li_ws := li_mem 1382 (by decide +kernel) (by decide +kernel)
theorem w_1383 : (Jvm.Cond.methodLink "ClockForTalkLaw" (18 : Nat) ({ cls := "ClockForTalk", name := "loan", desc := "(II)I" } : Jvm.MethodName)) ∈ li_ws := li_mem 1383 (by decide +kernel) (by decide +kernel)
theorem w_1384 : (Jvm.Cond.instanceMethod ({ cls := "ClockForTalk", name := "loan", desc := "(II)I" } : Jvm.MethodName)) ∈ li_ws := li_mem 1384 (by decide +kernel) (by decide +kernel)
theorem w_1385 : (Jvm.Cond.selects "ClockForTalk" ({ cls := "ClockForTalk", name := "loan", desc := "(II)I" } : Jvm.MethodName) ({ cls := "ClockForTalk", name := "loan", desc := "(II)I" } : Jvm.MethodName)) ∈ li_ws := li_mem 1385 (by decide +kernel) (by decide +kernel)
theorem w_1386 : (Jvm.Cond.code ({ cls := "ClockForTalk", name := "loan", desc := "(II)I" } : Jvm.MethodName) prog_1_method_9_code (3 : Nat) (Option.some Jvm.ClassFile.FieldType.int)) ∈ li_ws := li_mem 1386 (by decide +kernel) (by decide +kernel)
theorem w_1390 : (Jvm.Cond.codeWith ({ cls := "ClockForTalkLaw", name := "row", desc := "(LClockForTalk;I[J)I" } : Jvm.MethodName) method_6_code (4 : Nat) (Option.some Jvm.ClassFile.FieldType.int) [((0 : Nat), (9 : Nat), (12 : Nat), (13 : Nat))]) ∈ li_ws := li_mem 1390 (by decide +kernel) (by decide +kernel)
theorem w_1391 : (Jvm.Cond.methodLink "ClockForTalkLaw" (21 : Nat) ({ cls := "ClockForTalk", name := "row", desc := "(I)I" } : Jvm.MethodName)) ∈ li_ws := li_mem 1391 (by decide +kernel) (by decide +kernel)
theorem w_1392 : (Jvm.Cond.instanceMethod ({ cls := "ClockForTalk", name := "row", desc := "(I)I" } : Jvm.MethodName)) ∈ li_ws := li_mem 1392 (by decide +kernel) (by decide +kernel)
theorem w_1393 : (Jvm.Cond.selects "ClockForTalk" ({ cls := "ClockForTalk", name := "row", desc := "(I)I" } : Jvm.MethodName) ({ cls := "ClockForTalk", name := "row", desc := "(I)I" } : Jvm.MethodName)) ∈ li_ws := li_mem 1393 (by decide +kernel) (by decide +kernel)
theorem w_1394 : (Jvm.Cond.code ({ cls := "ClockForTalk", name := "row", desc := "(I)I" } : Jvm.MethodName) prog_1_method_41_code (2 : Nat) (Option.some Jvm.ClassFile.FieldType.int)) ∈ li_ws := li_mem 1394 (by decide +kernel) (by decide +kernel)
/-! THE LAW'S OWN MACHINE -/
abbrev YL_law : li_Y := (yL_law, cL_law, 7, (some .boolean))
theorem l3_J {E : Nat → Prop} {M M' : li_M} (h : li_J M) (hf : li_fr E M M') (hE : ∀ i, E i → i < 175 ∨ i = 204) : li_J M' := by
  have e : ∀ i, 174 < i → i ≠ 204 → M'.1 i = M.1 i := fun i h1 h2 => hf.1 i (fun q => by rcases hE i q with z | z <;> omega)
  refine ⟨fun k => by rw [e 175 (by decide) (by decide)]; exact h.1 k, fun j i hj => ?_, ?_⟩
  · by_cases q : j = 204
    · subst q
      exact li_el_free (by unfold li_led; omega) (by decide) (by decide) (by unfold li_rq; omega)
    · rw [e j (by omega) q]; exact h.2.1 j i hj
  · unfold li_Jm
    rw [e 175 (by decide) (by decide), hf.2.2]
    exact h.2.2
theorem l3_gV {own : String} {ix : Nat} {Y' : li_Y} (w1 : Cond.methodLink own ix Y'.1 ∈ li_ws) (w2 : Cond.instanceMethod Y'.1 ∈ li_ws) (w3 : Cond.selects Y'.1.cls Y'.1 Y'.1 ∈ li_ws) (w4 : Cond.initialized Y'.1.cls ∈ li_ws) (w5 : Cond.code Y'.1 Y'.2.1 Y'.2.2.1 Y'.2.2.2 ∈ li_ws) : GoodIn li_ws (wsV own ix Y'.1.cls Y'.1 (li_wy Y')) := fun w hw => by
  rcases List.mem_append.mp (by unfold wsV at hw; exact hw) with h | h
  · have hm : w ∈ li_ws := by
      simp only [List.mem_cons, List.not_mem_nil, or_false] at h
      rcases h with rfl | rfl | rfl | rfl
      · exact w1
      · exact w2
      · exact w3
      · exact w4
    exact ⟨hm, good_of_word (List.mem_filter.mp hm).2⟩
  · exact li_good w5 w h
theorem l3_gS {own : String} {ix : Nat} {y : MethodName} {cw : Cond} (w1 : Cond.methodLink own ix y ∈ li_ws) (w2 : Cond.static y ∈ li_ws) (w3 : Cond.initialized y.cls ∈ li_ws) (w4 : cw ∈ li_ws) : GoodIn li_ws (va_wsS own ix y (cw :: li_ws)) := fun w hw => by
  have hm : w ∈ li_ws := by
    rcases List.mem_append.mp (by unfold va_wsS at hw; exact hw) with h | h
    · simp only [List.mem_cons, List.not_mem_nil, or_false] at h
      rcases h with rfl | rfl | rfl
      · exact w1
      · exact w2
      · exact w3
    · rcases List.mem_cons.mp h with rfl | h
      · exact w4
      · exact h
  exact ⟨hm, good_of_word (List.mem_filter.mp hm).2⟩
theorem l2_blind {Z : li_Z} {M : li_M} {av : List Value} : FrameBlind (va_Pc av (fun U => li_H Z M U.heap ∧ li_K Z U ∧ li_V Z U)) := by
  intro a U g mk h
  obtain ⟨h1, h2, h3, h4⟩ := h
  have z := li_blind (Z := Z) (M := M) (av := av) a U g mk ⟨h1, h2, h3⟩
  exact ⟨z.1, z.2.1, z.2.2, li_V.same h4⟩
theorem l2_cb : Cond.castable nse_X nse_X ∈ l2_bad := by simp [l2_bad]
theorem l2_behind {p : Program} {l : Launch} {e : Env} {R : Room} {s : State} {m : MethodId} {args : Array Value} {below : List Frame} {meth : Method} {c : Code} {H : Heap} {locs : List Loc} {ls : Array Slot} {a : Array Value} {st0 rest : List Value} {pc : Nat} {Z : li_Z} {M : li_M} {Q' : Option Value → li_M → Prop} {Qf : State → Prop}
    (hr : vx_Run p l e R s m args below meth c H locs 0 0 1 6 (F0 m pc ls st0) rest (li_Q Z Q' a) (l2_XC Z M) (li_A Z)) (hS : va_S (li_A Z) s.heap H locs)
    (kk : ∀ (r : Option Value) (M' : li_M) (H1 : Heap) (locs1 : List Loc), Q' r M' → li_H Z M' H1 → va_S (li_A Z) s.heap H1 locs1 → W p l e R s m args below meth c H1 locs1 1 6 Qf (F0 m (pc + 3) ls (r.toList ++ rest)))
    (kx : ∀ (H1 : Heap) (locs1 : List Loc) (q9 : Addr) (ce : Cell), li_H Z M H1 → va_S (li_A Z) s.heap H1 locs1 → H1[q9]? = some ce → ce.vm = .none → s.vm.findClass nse_X = some ce.cls → vx_W p l e R s m args below meth c H1 locs1 1 6 Qf (F0 m pc ls rest) q9) : W p l e R s m args below meth c H locs 0 0 Qf (F0 m pc ls st0) := by
  intro T hT X
  rcases hr T hT X with ⟨v, st₀, t, T', L, h0, X', hL, e1, e2, ⟨⟨r, M', hv, hp, hb⟩, hz, hk⟩, stp⟩ | ⟨q, st₀, t, T', L, E, ce, h0, X', hL, e1, e2, ⟨u, -, ⟨hE, hb⟩, hz, hk⟩, hce, hcv, hcl, stp⟩
  · cases hv
    rw [h0] at hz hk
    obtain ⟨t2, a1, b1⟩ := kk v M' T'.heap (locs ++ L) hp (by rw [e1]; exact hb)
      ⟨Nat.le_trans hS.1 (by rw [e1]; exact hz), fun q h1 h2 => by rw [e1, hk q (Nat.lt_of_lt_of_le h1 hS.1) h2]; exact hS.2.1 q h1 h2, fun q hq => by
        rcases List.mem_append.mp hq with h | h
        · exact hS.2.2 q h
        · exact hL q h⟩ T' rfl X'
    exact ⟨t2, stp t2 a1, b1⟩
  · subst hE
    rw [h0] at hz hk
    obtain ⟨t2, a1, b1⟩ := kx T'.heap (locs ++ L) q ce (by rw [e1]; exact hb)
      ⟨Nat.le_trans hS.1 (by rw [e1]; exact hz), fun q h1 h2 => by rw [e1, hk q (Nat.lt_of_lt_of_le h1 hS.1) h2]; exact hS.2.1 q h1 h2, fun q hq => by
        rcases List.mem_append.mp hq with h | h
        · exact hS.2.2 q h
        · exact hL q h⟩ (by rw [e1]; exact hce) hcv hcl T' rfl X'
    exact ⟨t2, stp.trans a1, b1⟩
theorem dL_person_0 : decode cL_person 0 = .ok (.aload_n 3, 1) := by decide +kernel
theorem dL_person_1 : decode cL_person 1 = .ok (.iconst 0, 1) := by decide +kernel
theorem dL_person_2 : decode cL_person 2 = .ok (.aload_n 0, 1) := by decide +kernel
theorem dL_person_3 : decode cL_person 3 = .ok (.iload_n 1, 1) := by decide +kernel
theorem dL_person_4 : decode cL_person 4 = .ok (.iload_n 2, 1) := by decide +kernel
theorem dL_person_5 : decode cL_person 5 = .ok (.invokevirtual 7, 3) := by decide +kernel
theorem dL_person_13 : decode cL_person 13 = .ok (.astore 4, 2) := by decide +kernel
theorem dL_person_15 : decode cL_person 15 = .ok (.iconst 1, 1) := by decide +kernel
theorem dL_person_16 : decode cL_person 16 = .ok (.ireturn, 1) := by decide +kernel
theorem dL_thing_0 : decode cL_thing 0 = .ok (.aload_n 3, 1) := by decide +kernel
theorem dL_thing_1 : decode cL_thing 1 = .ok (.iconst 0, 1) := by decide +kernel
theorem dL_thing_2 : decode cL_thing 2 = .ok (.aload_n 0, 1) := by decide +kernel
theorem dL_thing_3 : decode cL_thing 3 = .ok (.iload_n 1, 1) := by decide +kernel
theorem dL_thing_4 : decode cL_thing 4 = .ok (.iload_n 2, 1) := by decide +kernel
theorem dL_thing_5 : decode cL_thing 5 = .ok (.invokevirtual 15, 3) := by decide +kernel
theorem dL_thing_13 : decode cL_thing 13 = .ok (.astore 4, 2) := by decide +kernel
theorem dL_thing_15 : decode cL_thing 15 = .ok (.iconst 1, 1) := by decide +kernel
theorem dL_thing_16 : decode cL_thing 16 = .ok (.ireturn, 1) := by decide +kernel
theorem dL_loan_0 : decode cL_loan 0 = .ok (.aload_n 3, 1) := by decide +kernel
theorem dL_loan_1 : decode cL_loan 1 = .ok (.iconst 0, 1) := by decide +kernel
theorem dL_loan_2 : decode cL_loan 2 = .ok (.aload_n 0, 1) := by decide +kernel
theorem dL_loan_3 : decode cL_loan 3 = .ok (.iload_n 1, 1) := by decide +kernel
theorem dL_loan_4 : decode cL_loan 4 = .ok (.iload_n 2, 1) := by decide +kernel
theorem dL_loan_5 : decode cL_loan 5 = .ok (.invokevirtual 18, 3) := by decide +kernel
theorem dL_loan_13 : decode cL_loan 13 = .ok (.astore 4, 2) := by decide +kernel
theorem dL_loan_15 : decode cL_loan 15 = .ok (.iconst 1, 1) := by decide +kernel
theorem dL_loan_16 : decode cL_loan 16 = .ok (.ireturn, 1) := by decide +kernel
theorem dL_row_0 : decode cL_row 0 = .ok (.aload_n 2, 1) := by decide +kernel
theorem dL_row_1 : decode cL_row 1 = .ok (.iconst 0, 1) := by decide +kernel
theorem dL_row_2 : decode cL_row 2 = .ok (.aload_n 0, 1) := by decide +kernel
theorem dL_row_3 : decode cL_row 3 = .ok (.iload_n 1, 1) := by decide +kernel
theorem dL_row_4 : decode cL_row 4 = .ok (.invokevirtual 21, 3) := by decide +kernel
theorem dL_row_12 : decode cL_row 12 = .ok (.astore_n 3, 1) := by decide +kernel
theorem dL_row_13 : decode cL_row 13 = .ok (.iconst 1, 1) := by decide +kernel
theorem dL_row_14 : decode cL_row 14 = .ok (.ireturn, 1) := by decide +kernel
abbrev lh_ws_person : List Cond := .codeWith yL_person cL_person 5 (some .int) [(0, 10, 13, 13)] :: li_ws
set_option maxRecDepth 100000 in
set_option maxHeartbeats 4000000 in
theorem lh_person {l : Launch} {Z : li_Z} (htr : l.stackTraces = false) (p1 p2 : Int32) (M : li_M) (z50 : (M.1 5 0).toInt = 0) : Met l yL_person lh_ws_person (l2_rm 1001) (va_Pc [.ref (Z.2.2 0), .int p1, .int p2, .ref (Z.2.2 204)] (fun U => li_H Z M U.heap ∧ li_K Z U ∧ li_V Z U)) (li_Q Z (fun r M' => r = some (.int 1) ∧ li_fr (fun _ => False) M M')) 1 6 (li_A Z) := by
  refine va_MetW (cc := cL_person) (maxL := 5) (ret := some .int) (hh := [(0, 10, 13, 13)]) (by decide +kernel) rfl ?_
  intro p e s m args below meth c s₁ B hml hv
  obtain ⟨rfl, hH, hK, hV⟩ := hv
  have hx := B.exec
  have hb := B.bytes
  have hr := B.returns
  have hlocks := B.notSynchronized
  have hts := atoms_spec (ws := lh_ws_person) B.pre
  have hw : ∀ w ∈ li_ws, w.before ([.ref (Z.2.2 0), .int p1, .int p2, .ref (Z.2.2 204)] : List Value).toArray s = true := fun w h => hts w (List.mem_cons_of_mem _ h)
  have hown : s.vm.findClass yL_person.cls = some m.cls := findClass_of_methodNamed B.named
  have htab := vx_table (x := yL_person) B (hts _ List.mem_cons_self)
  have hl := lv_entry ([.ref (Z.2.2 0), .int p1, .int p2, .ref (Z.2.2 204)]) (n := 5) (Nat.le_of_ble_eq_true rfl)
  rw [lg_entry_eq]
  generalize (lg_sl ([.ref (Z.2.2 0), .int p1, .int p2, .ref (Z.2.2 204)]) ++ List.replicate (5 - (lg_sl ([.ref (Z.2.2 0), .int p1, .int p2, .ref (Z.2.2 204)])).length) Slot.unset).toArray = ls at hl ⊢
  have hl : lv_has ls 5 [(0, .ref (Z.2.2 0)), (1, .int p1), (2, .int p2), (3, .ref (Z.2.2 204))] := hl
  have hS : va_S (li_A Z) s.heap s.heap [] := va_S.rf
  refine lv_aload_n hx hb dL_person_0 rfl (lv_at hl 3 rfl) ?_
  refine lv_iconst (v := 0) hx hb dL_person_1 (by decide) ?_
  refine lv_aload_n hx hb dL_person_2 rfl (lv_at hl 0 rfl) ?_
  refine lv_iload_n hx hb dL_person_3 rfl (lv_at hl 1 rfl) ?_
  refine lv_iload_n hx hb dL_person_4 rfl (lv_at hl 2 rfl) ?_
  have hrun := vx_runV (l := l) (R := l2_rm 1001) (e := e) (below := below) (meth := meth) (locs := []) (cells := 0) (slots := 0) (As := [.int p1, .int p2]) (rest := [.int 0, .ref (Z.2.2 204)]) (n := 2) (g := F0 m 5 ls [.int p2, .int p1, .ref (Z.2.2 0), .int 0, .ref (Z.2.2 204)]) (index := 7) (own := yL_person.cls) (C := YX11_person.1.cls) (b := Z.2.2 0) (H := s.heap) (Ts := li_ws)
    ⟨hx, hb, hml, hown, hw⟩ (k15_X11_person 1000 (Nat.le_of_ble_eq_true rfl) htr p1 p2 M z50) (cwV 2 hw (l3_gV w_1299 w_1300 w_1301 w_101 w_1302) rfl rfl rfl ⟨rfl, by decide +kernel⟩ ⟨Nat.le_of_ble_eq_true rfl, Nat.le_of_ble_eq_true rfl⟩)
    ⟨l2_blind, va_recv hK.1 hH (q0 := 0) (ci := 11) (q := (RX11, TX11, 13)) rfl (by rw [li_get (by decide), li_cellO sh_0]), fun U hU hW => ⟨rfl, by rw [hU]; exact hH, li_K_warm hW hU hS hK, hV.warm hW hU hS⟩⟩ rfl rfl hl.1 rfl (lv_room (Nat.le_of_ble_eq_true rfl)) dL_person_5 ⟨Nat.le_of_ble_eq_true rfl, Nat.le_of_ble_eq_true rfl⟩
  refine l2_behind hrun hS (fun r M1 H1 locs1 hq hH1 hS1 => ?_) (fun H1 locs1 q9 ce hH1 hS1 hce hv9 hcl => ?_)
  · obtain ⟨⟨x1, rfl, hF⟩, hf⟩ := hq; exact hF.elim
  · refine vx_catch (own := yL_person.cls) (name := nse_X) (E := nse_X) hown [] ⟨0, 10, 13, 13⟩ [] (by rw [htab]; rfl) (fun z hz => absurd hz List.not_mem_nil) (by decide) (by decide) (hw _ w_1298) (va_Nw.use (l2_bad_on l2_cb) (hV.2.2.1 _ l2_cb)) hce hv9 hcl ?_
    refine lv_astore (lv' := [(4, .ref q9), (0, .ref (Z.2.2 0)), (1, .int p1), (2, .int p2), (3, .ref (Z.2.2 204))]) hx hb dL_person_13 hl (by decide) rfl (fun ls hl => ?_)
    refine lv_iconst (v := 1) hx hb dL_person_15 (by decide) ?_
    exact W.zret hx hb hr rfl (fun t ht hW => ⟨⟨_, M, rfl, ⟨rfl, li_fr_refl⟩, by rw [ht]; exact hH1⟩, hS1.F ht⟩) hS1.2.2 dL_person_16 hlocks
abbrev lh_ws_thing : List Cond := .codeWith yL_thing cL_thing 5 (some .int) [(0, 10, 13, 13)] :: li_ws
set_option maxRecDepth 100000 in
set_option maxHeartbeats 4000000 in
theorem lh_thing {l : Launch} {Z : li_Z} (htr : l.stackTraces = false) (p1 p2 : Int32) (M : li_M) (z51 : (M.1 5 1).toInt = 0) : Met l yL_thing lh_ws_thing (l2_rm 1001) (va_Pc [.ref (Z.2.2 0), .int p1, .int p2, .ref (Z.2.2 204)] (fun U => li_H Z M U.heap ∧ li_K Z U ∧ li_V Z U)) (li_Q Z (fun r M' => r = some (.int 1) ∧ li_fr (fun _ => False) M M')) 1 6 (li_A Z) := by
  refine va_MetW (cc := cL_thing) (maxL := 5) (ret := some .int) (hh := [(0, 10, 13, 13)]) (by decide +kernel) rfl ?_
  intro p e s m args below meth c s₁ B hml hv
  obtain ⟨rfl, hH, hK, hV⟩ := hv
  have hx := B.exec
  have hb := B.bytes
  have hr := B.returns
  have hlocks := B.notSynchronized
  have hts := atoms_spec (ws := lh_ws_thing) B.pre
  have hw : ∀ w ∈ li_ws, w.before ([.ref (Z.2.2 0), .int p1, .int p2, .ref (Z.2.2 204)] : List Value).toArray s = true := fun w h => hts w (List.mem_cons_of_mem _ h)
  have hown : s.vm.findClass yL_thing.cls = some m.cls := findClass_of_methodNamed B.named
  have htab := vx_table (x := yL_thing) B (hts _ List.mem_cons_self)
  have hl := lv_entry ([.ref (Z.2.2 0), .int p1, .int p2, .ref (Z.2.2 204)]) (n := 5) (Nat.le_of_ble_eq_true rfl)
  rw [lg_entry_eq]
  generalize (lg_sl ([.ref (Z.2.2 0), .int p1, .int p2, .ref (Z.2.2 204)]) ++ List.replicate (5 - (lg_sl ([.ref (Z.2.2 0), .int p1, .int p2, .ref (Z.2.2 204)])).length) Slot.unset).toArray = ls at hl ⊢
  have hl : lv_has ls 5 [(0, .ref (Z.2.2 0)), (1, .int p1), (2, .int p2), (3, .ref (Z.2.2 204))] := hl
  have hS : va_S (li_A Z) s.heap s.heap [] := va_S.rf
  refine lv_aload_n hx hb dL_thing_0 rfl (lv_at hl 3 rfl) ?_
  refine lv_iconst (v := 0) hx hb dL_thing_1 (by decide) ?_
  refine lv_aload_n hx hb dL_thing_2 rfl (lv_at hl 0 rfl) ?_
  refine lv_iload_n hx hb dL_thing_3 rfl (lv_at hl 1 rfl) ?_
  refine lv_iload_n hx hb dL_thing_4 rfl (lv_at hl 2 rfl) ?_
  have hrun := vx_runV (l := l) (R := l2_rm 1001) (e := e) (below := below) (meth := meth) (locs := []) (cells := 0) (slots := 0) (As := [.int p1, .int p2]) (rest := [.int 0, .ref (Z.2.2 204)]) (n := 2) (g := F0 m 5 ls [.int p2, .int p1, .ref (Z.2.2 0), .int 0, .ref (Z.2.2 204)]) (index := 15) (own := yL_thing.cls) (C := YX11_thing.1.cls) (b := Z.2.2 0) (H := s.heap) (Ts := li_ws)
    ⟨hx, hb, hml, hown, hw⟩ (k15_X11_thing 1000 (Nat.le_of_ble_eq_true rfl) htr p1 p2 M z51) (cwV 2 hw (l3_gV w_1374 w_1375 w_1376 w_101 w_1377) rfl rfl rfl ⟨rfl, by decide +kernel⟩ ⟨Nat.le_of_ble_eq_true rfl, Nat.le_of_ble_eq_true rfl⟩)
    ⟨l2_blind, va_recv hK.1 hH (q0 := 0) (ci := 11) (q := (RX11, TX11, 13)) rfl (by rw [li_get (by decide), li_cellO sh_0]), fun U hU hW => ⟨rfl, by rw [hU]; exact hH, li_K_warm hW hU hS hK, hV.warm hW hU hS⟩⟩ rfl rfl hl.1 rfl (lv_room (Nat.le_of_ble_eq_true rfl)) dL_thing_5 ⟨Nat.le_of_ble_eq_true rfl, Nat.le_of_ble_eq_true rfl⟩
  refine l2_behind hrun hS (fun r M1 H1 locs1 hq hH1 hS1 => ?_) (fun H1 locs1 q9 ce hH1 hS1 hce hv9 hcl => ?_)
  · obtain ⟨⟨x1, rfl, hF⟩, hf⟩ := hq; exact hF.elim
  · refine vx_catch (own := yL_thing.cls) (name := nse_X) (E := nse_X) hown [] ⟨0, 10, 13, 13⟩ [] (by rw [htab]; rfl) (fun z hz => absurd hz List.not_mem_nil) (by decide) (by decide) (hw _ w_1298) (va_Nw.use (l2_bad_on l2_cb) (hV.2.2.1 _ l2_cb)) hce hv9 hcl ?_
    refine lv_astore (lv' := [(4, .ref q9), (0, .ref (Z.2.2 0)), (1, .int p1), (2, .int p2), (3, .ref (Z.2.2 204))]) hx hb dL_thing_13 hl (by decide) rfl (fun ls hl => ?_)
    refine lv_iconst (v := 1) hx hb dL_thing_15 (by decide) ?_
    exact W.zret hx hb hr rfl (fun t ht hW => ⟨⟨_, M, rfl, ⟨rfl, li_fr_refl⟩, by rw [ht]; exact hH1⟩, hS1.F ht⟩) hS1.2.2 dL_thing_16 hlocks
abbrev lh_ws_loan : List Cond := .codeWith yL_loan cL_loan 5 (some .int) [(0, 10, 13, 13)] :: li_ws
set_option maxRecDepth 100000 in
set_option maxHeartbeats 4000000 in
theorem lh_loan {l : Launch} {Z : li_Z} (htr : l.stackTraces = false) (p1 p2 : Int32) (M : li_M) (z132 : (M.1 13 2).toInt = 0) : Met l yL_loan lh_ws_loan (l2_rm 1001) (va_Pc [.ref (Z.2.2 0), .int p1, .int p2, .ref (Z.2.2 204)] (fun U => li_H Z M U.heap ∧ li_K Z U ∧ li_V Z U)) (li_Q Z (fun r M' => r = some (.int 1) ∧ li_fr (fun _ => False) M M')) 1 6 (li_A Z) := by
  refine va_MetW (cc := cL_loan) (maxL := 5) (ret := some .int) (hh := [(0, 10, 13, 13)]) (by decide +kernel) rfl ?_
  intro p e s m args below meth c s₁ B hml hv
  obtain ⟨rfl, hH, hK, hV⟩ := hv
  have hx := B.exec
  have hb := B.bytes
  have hr := B.returns
  have hlocks := B.notSynchronized
  have hts := atoms_spec (ws := lh_ws_loan) B.pre
  have hw : ∀ w ∈ li_ws, w.before ([.ref (Z.2.2 0), .int p1, .int p2, .ref (Z.2.2 204)] : List Value).toArray s = true := fun w h => hts w (List.mem_cons_of_mem _ h)
  have hown : s.vm.findClass yL_loan.cls = some m.cls := findClass_of_methodNamed B.named
  have htab := vx_table (x := yL_loan) B (hts _ List.mem_cons_self)
  have hl := lv_entry ([.ref (Z.2.2 0), .int p1, .int p2, .ref (Z.2.2 204)]) (n := 5) (Nat.le_of_ble_eq_true rfl)
  rw [lg_entry_eq]
  generalize (lg_sl ([.ref (Z.2.2 0), .int p1, .int p2, .ref (Z.2.2 204)]) ++ List.replicate (5 - (lg_sl ([.ref (Z.2.2 0), .int p1, .int p2, .ref (Z.2.2 204)])).length) Slot.unset).toArray = ls at hl ⊢
  have hl : lv_has ls 5 [(0, .ref (Z.2.2 0)), (1, .int p1), (2, .int p2), (3, .ref (Z.2.2 204))] := hl
  have hS : va_S (li_A Z) s.heap s.heap [] := va_S.rf
  refine lv_aload_n hx hb dL_loan_0 rfl (lv_at hl 3 rfl) ?_
  refine lv_iconst (v := 0) hx hb dL_loan_1 (by decide) ?_
  refine lv_aload_n hx hb dL_loan_2 rfl (lv_at hl 0 rfl) ?_
  refine lv_iload_n hx hb dL_loan_3 rfl (lv_at hl 1 rfl) ?_
  refine lv_iload_n hx hb dL_loan_4 rfl (lv_at hl 2 rfl) ?_
  have hrun := vx_runV (l := l) (R := l2_rm 1001) (e := e) (below := below) (meth := meth) (locs := []) (cells := 0) (slots := 0) (As := [.int p1, .int p2]) (rest := [.int 0, .ref (Z.2.2 204)]) (n := 2) (g := F0 m 5 ls [.int p2, .int p1, .ref (Z.2.2 0), .int 0, .ref (Z.2.2 204)]) (index := 18) (own := yL_loan.cls) (C := YX11_loan.1.cls) (b := Z.2.2 0) (H := s.heap) (Ts := li_ws)
    ⟨hx, hb, hml, hown, hw⟩ (k15_X11_loan 1000 (Nat.le_of_ble_eq_true rfl) htr p1 p2 M z132) (cwV 2 hw (l3_gV w_1383 w_1384 w_1385 w_101 w_1386) rfl rfl rfl ⟨rfl, by decide +kernel⟩ ⟨Nat.le_of_ble_eq_true rfl, Nat.le_of_ble_eq_true rfl⟩)
    ⟨l2_blind, va_recv hK.1 hH (q0 := 0) (ci := 11) (q := (RX11, TX11, 13)) rfl (by rw [li_get (by decide), li_cellO sh_0]), fun U hU hW => ⟨rfl, by rw [hU]; exact hH, li_K_warm hW hU hS hK, hV.warm hW hU hS⟩⟩ rfl rfl hl.1 rfl (lv_room (Nat.le_of_ble_eq_true rfl)) dL_loan_5 ⟨Nat.le_of_ble_eq_true rfl, Nat.le_of_ble_eq_true rfl⟩
  refine l2_behind hrun hS (fun r M1 H1 locs1 hq hH1 hS1 => ?_) (fun H1 locs1 q9 ce hH1 hS1 hce hv9 hcl => ?_)
  · obtain ⟨⟨x1, rfl, hF⟩, hf⟩ := hq; exact hF.elim
  · refine vx_catch (own := yL_loan.cls) (name := nse_X) (E := nse_X) hown [] ⟨0, 10, 13, 13⟩ [] (by rw [htab]; rfl) (fun z hz => absurd hz List.not_mem_nil) (by decide) (by decide) (hw _ w_1298) (va_Nw.use (l2_bad_on l2_cb) (hV.2.2.1 _ l2_cb)) hce hv9 hcl ?_
    refine lv_astore (lv' := [(4, .ref q9), (0, .ref (Z.2.2 0)), (1, .int p1), (2, .int p2), (3, .ref (Z.2.2 204))]) hx hb dL_loan_13 hl (by decide) rfl (fun ls hl => ?_)
    refine lv_iconst (v := 1) hx hb dL_loan_15 (by decide) ?_
    exact W.zret hx hb hr rfl (fun t ht hW => ⟨⟨_, M, rfl, ⟨rfl, li_fr_refl⟩, by rw [ht]; exact hH1⟩, hS1.F ht⟩) hS1.2.2 dL_loan_16 hlocks
abbrev lh_ws_row : List Cond := .codeWith yL_row cL_row 4 (some .int) [(0, 9, 12, 13)] :: li_ws
set_option maxRecDepth 100000 in
set_option maxHeartbeats 4000000 in
theorem lh_row {l : Launch} {Z : li_Z} (htr : l.stackTraces = false) (p1 : Int32) (M : li_M) (z31 : (M.1 3 1).toInt = 0) : Met l yL_row lh_ws_row (l2_rm 1001) (va_Pc [.ref (Z.2.2 0), .int p1, .ref (Z.2.2 204)] (fun U => li_H Z M U.heap ∧ li_K Z U ∧ li_V Z U)) (li_Q Z (fun r M' => r = some (.int 1) ∧ li_fr (fun _ => False) M M')) 1 6 (li_A Z) := by
  refine va_MetW (cc := cL_row) (maxL := 4) (ret := some .int) (hh := [(0, 9, 12, 13)]) (by decide +kernel) rfl ?_
  intro p e s m args below meth c s₁ B hml hv
  obtain ⟨rfl, hH, hK, hV⟩ := hv
  have hx := B.exec
  have hb := B.bytes
  have hr := B.returns
  have hlocks := B.notSynchronized
  have hts := atoms_spec (ws := lh_ws_row) B.pre
  have hw : ∀ w ∈ li_ws, w.before ([.ref (Z.2.2 0), .int p1, .ref (Z.2.2 204)] : List Value).toArray s = true := fun w h => hts w (List.mem_cons_of_mem _ h)
  have hown : s.vm.findClass yL_row.cls = some m.cls := findClass_of_methodNamed B.named
  have htab := vx_table (x := yL_row) B (hts _ List.mem_cons_self)
  have hl := lv_entry ([.ref (Z.2.2 0), .int p1, .ref (Z.2.2 204)]) (n := 4) (Nat.le_of_ble_eq_true rfl)
  rw [lg_entry_eq]
  generalize (lg_sl ([.ref (Z.2.2 0), .int p1, .ref (Z.2.2 204)]) ++ List.replicate (4 - (lg_sl ([.ref (Z.2.2 0), .int p1, .ref (Z.2.2 204)])).length) Slot.unset).toArray = ls at hl ⊢
  have hl : lv_has ls 4 [(0, .ref (Z.2.2 0)), (1, .int p1), (2, .ref (Z.2.2 204))] := hl
  have hS : va_S (li_A Z) s.heap s.heap [] := va_S.rf
  refine lv_aload_n hx hb dL_row_0 rfl (lv_at hl 2 rfl) ?_
  refine lv_iconst (v := 0) hx hb dL_row_1 (by decide) ?_
  refine lv_aload_n hx hb dL_row_2 rfl (lv_at hl 0 rfl) ?_
  refine lv_iload_n hx hb dL_row_3 rfl (lv_at hl 1 rfl) ?_
  have hrun := vx_runV (l := l) (R := l2_rm 1001) (e := e) (below := below) (meth := meth) (locs := []) (cells := 0) (slots := 0) (As := [.int p1]) (rest := [.int 0, .ref (Z.2.2 204)]) (n := 1) (g := F0 m 4 ls [.int p1, .ref (Z.2.2 0), .int 0, .ref (Z.2.2 204)]) (index := 21) (own := yL_row.cls) (C := YX11_row.1.cls) (b := Z.2.2 0) (H := s.heap) (Ts := li_ws)
    ⟨hx, hb, hml, hown, hw⟩ (k15_X11_row 1000 (Nat.le_of_ble_eq_true rfl) htr p1 M z31) (cwV 1 hw (l3_gV w_1391 w_1392 w_1393 w_101 w_1394) rfl rfl rfl ⟨rfl, by decide +kernel⟩ ⟨Nat.le_of_ble_eq_true rfl, Nat.le_of_ble_eq_true rfl⟩)
    ⟨l2_blind, va_recv hK.1 hH (q0 := 0) (ci := 11) (q := (RX11, TX11, 13)) rfl (by rw [li_get (by decide), li_cellO sh_0]), fun U hU hW => ⟨rfl, by rw [hU]; exact hH, li_K_warm hW hU hS hK, hV.warm hW hU hS⟩⟩ rfl rfl hl.1 rfl (lv_room (Nat.le_of_ble_eq_true rfl)) dL_row_4 ⟨Nat.le_of_ble_eq_true rfl, Nat.le_of_ble_eq_true rfl⟩
  refine l2_behind hrun hS (fun r M1 H1 locs1 hq hH1 hS1 => ?_) (fun H1 locs1 q9 ce hH1 hS1 hce hv9 hcl => ?_)
  · obtain ⟨⟨x1, rfl, hF⟩, hf⟩ := hq; exact hF.elim
  · refine vx_catch (own := yL_row.cls) (name := nse_X) (E := nse_X) hown [] ⟨0, 9, 12, 13⟩ [] (by rw [htab]; rfl) (fun z hz => absurd hz List.not_mem_nil) (by decide) (by decide) (hw _ w_1298) (va_Nw.use (l2_bad_on l2_cb) (hV.2.2.1 _ l2_cb)) hce hv9 hcl ?_
    refine lv_astore_n (lv' := [(3, .ref q9), (0, .ref (Z.2.2 0)), (1, .int p1), (2, .ref (Z.2.2 204))]) hx hb dL_row_12 rfl hl (by decide) rfl (fun ls hl => ?_)
    refine lv_iconst (v := 1) hx hb dL_row_13 (by decide) ?_
    exact W.zret hx hb hr rfl (fun t ht hW => ⟨⟨_, M, rfl, ⟨rfl, li_fr_refl⟩, by rw [ht]; exact hH1⟩, hS1.F ht⟩) hS1.2.2 dL_row_14 hlocks
def l3_X (Z : li_Z) (b L : Nat) (xs : Nat → Int32) (l : Launch) (p : Program) (s : State) (m : MethodId) (meth : Method) (c : Code) : Prop :=
  p.tables.exec = Jvm.exec ∧ c.code = YL_law.2.1 ∧ c.maxLocals = YL_law.2.2.1 ∧ s.vm.findClass YL_law.1.cls = some m.cls ∧ (∀ w ∈ li_ws, w.before #[Value.ref b] s = true) ∧ meth.sig.returnType = YL_law.2.2.2 ∧ meth.locks = false ∧ va_X b L xs s s.heap ∧ b < s.heap.size ∧ l.stackTraces = false ∧ li_V Z s ∧ ∀ q, li_A Z q → s.heap.size ≤ q
abbrev l3_A (s : State) : Nat → Prop := fun q => s.heap.size ≤ q
def l3_T (l : Launch) (Z : li_Z) (b L : Nat) (xs : Nat → Int32) (k : Nat) (pc : Nat) (lo : List (Nat × Value)) (st : List Value) (M : li_M) (_ : Option Value → li_M → Prop) : Prop :=
  ∀ (p : Program) (e : Env) (s : State) (m : MethodId) (below : List Frame) (meth : Method) (c : Code), l3_X Z b L xs l p s m meth c → li_K Z s →
    ∀ (H : Heap) (ls : Array Slot), li_H Z M H → va_S (l3_A s) s.heap H [] → lv_has ls YL_law.2.2.1 lo →
      W p l e room_1 s m #[Value.ref b] below meth c H [] (205 + k) (52492 + 6 * k) (lw_Z below #[Value.ref b] s) (F0 m pc ls st)
theorem l3_kw {Z : li_Z} {s U : State} {H : Heap} (hW : s.WarmedH U.vm) (hU : U.heap = H) (hS : va_S (l3_A s) s.heap H []) (h : li_K Z s) : li_K Z U :=
  ⟨va_K.moved hW.alike h.1, h.2.1, fun w hw => li_nw_warm (List.all_eq_true.mp li_nw_ok w hw) hW (h.2.2.1 w hw), li_E.moved hW.alike (h.2.2.2.1.kept fun a h1 h2 => by rw [hU]; exact hS.2.1 a h1 (Nat.not_le.mpr h1)), fun i hi => vk_R.warm hW (h.2.2.2.2 i hi)⟩
theorem l3_vw {Z : li_Z} {s U : State} {H : Heap} (hW : s.WarmedH U.vm) (hU : U.heap = H) (hS : va_S (l3_A s) s.heap H []) (h : li_V Z s) : li_V Z U := by
  obtain ⟨h1, h2, h3, ⟨a1, b1⟩, ⟨a2, b2⟩, ⟨a3, b3⟩, a4, b4⟩ := h
  exact ⟨vx_Zq.moved hW.alike (h1.kept fun a x y => by rw [hU]; exact hS.2.1 a x (Nat.not_le.mpr x)), vx_Zq.moved hW.alike (h2.kept fun a x y => by rw [hU]; exact hS.2.1 a x (Nat.not_le.mpr x)), fun w hw => l2_bad_warm hW hw (h3 w hw), ⟨a1, vk_R.warm hW b1⟩, ⟨a2, vk_R.warm hW b2⟩, ⟨a3, vk_R.warm hW b3⟩, a4, vk_R.warm hW b4⟩
theorem l3_behind {p : Program} {l : Launch} {e : Env} {s : State} {m : MethodId} {below : List Frame} {meth : Method} {c : Code} {H : Heap} {ls : Array Slot} {a : Array Value} {st0 rest : List Value} {pc b cells slots mc ms : Nat} {Z : li_Z} {Q' : Option Value → li_M → Prop} {Qf : State → Prop}
    (hr : va_Run p l e room_1 s m #[Value.ref b] below meth c H [] cells slots mc ms (F0 m pc ls st0) rest (li_Q Z Q' a) (li_A Z)) (hA : ∀ q, li_A Z q → s.heap.size ≤ q) (hS : va_S (l3_A s) s.heap H [])
    (kk : ∀ (r : Option Value) (M' : li_M) (H1 : Heap), Q' r M' → li_H Z M' H1 → va_S (l3_A s) s.heap H1 [] → W p l e room_1 s m #[Value.ref b] below meth c H1 [] (cells + mc) (slots + ms) Qf (F0 m (pc + 3) ls (r.toList ++ rest))) : W p l e room_1 s m #[Value.ref b] below meth c H [] cells slots Qf (F0 m pc ls st0) := by
  intro T hT X
  obtain ⟨v, st₀, t, T', L', h0, X', hL, e1, e2, ⟨⟨r, M', hv, hp, hb⟩, hz, hk⟩, stp⟩ := hr T hT X
  cases hv
  rw [h0] at hz hk
  obtain ⟨t2, a1, b1⟩ := kk v M' T'.heap hp (by rw [e1]; exact hb) ⟨Nat.le_trans hS.1 (by rw [e1]; exact hz), fun q h1 h2 => by rw [e1, hk q (Nat.lt_of_lt_of_le h1 hS.1) (fun z => h2 (hA q z))]; exact hS.2.1 q h1 h2, fun q hq => absurd hq List.not_mem_nil⟩ T' rfl (Stand.forget (locs := []) X' (fun q h => hA _ (hL q h)))
  exact ⟨t2, stp t2 a1, b1⟩
section L3
variable {l : Launch} {Z : li_Z} {Y' : li_Y} {b L kc d' pc ix : Nat} {xs : Nat → Int32} {lo lo' : List (Nat × Value)} {st rest : List Value} {M : li_M} {Q Q' : Option Value → li_M → Prop}
theorem l3_iload {i : Nat} {x : Int32} (q : Nat) (hd : decode YL_law.2.1 pc = .ok (.iload i, 2)) (hk : lo[q]? = some (i, .int x)) (kk : l3_T l Z b L xs kc (pc + 2) lo (.int x :: st) M Q) : l3_T l Z b L xs kc pc lo (st) M Q :=
  fun p e s m below meth c C K H ls hH hS hl => lv_iload C.1 C.2.1 hd (lv_at hl q hk) (kk p e s m below meth c C K H ls hH hS hl)
theorem l3_aload_n {k : Fin 4} {x : Nat} (q : Nat) (hd : decode YL_law.2.1 pc = .ok (.aload_n k, 1)) (hk : lo[q]? = some ((k : Nat), .ref x)) (kk : l3_T l Z b L xs kc (pc + 1) lo (.ref x :: st) M Q) : l3_T l Z b L xs kc pc lo (st) M Q :=
  fun p e s m below meth c C K H ls hH hS hl => lv_aload_n C.1 C.2.1 hd rfl (lv_at hl q hk) (kk p e s m below meth c C K H ls hH hS hl)
theorem l3_iconst {n : Int} (v : Int32) (hd : decode YL_law.2.1 pc = .ok (.iconst n, 1)) (hv : Int32.ofInt n = v) (kk : l3_T l Z b L xs kc (pc + 1) lo (.int v :: st) M Q) : l3_T l Z b L xs kc pc lo (st) M Q :=
  fun p e s m below meth c C K H ls hH hS hl => lv_iconst C.1 C.2.1 hd hv (kk p e s m below meth c C K H ls hH hS hl)
theorem l3_bipush {n : Int} (v : Int32) (hd : decode YL_law.2.1 pc = .ok (.bipush n, 2)) (hv : (Int8.ofInt n).toInt32 = v) (kk : l3_T l Z b L xs kc (pc + 2) lo (.int v :: st) M Q) : l3_T l Z b L xs kc pc lo (st) M Q :=
  fun p e s m below meth c C K H ls hH hS hl => lv_bipush C.1 C.2.1 hd hv (kk p e s m below meth c C K H ls hH hS hl)
theorem l3_iadd {x y : Int32} (hd : decode YL_law.2.1 pc = .ok (.iadd, 1))  (kk : l3_T l Z b L xs kc (pc + 1) lo (.int (x + y) :: st) M Q) : l3_T l Z b L xs kc pc lo (.int y :: .int x :: st) M Q :=
  fun p e s m below meth c C K H ls hH hS hl => lv_iadd C.1 C.2.1 hd (kk p e s m below meth c C K H ls hH hS hl)
theorem l3_isub {x y : Int32} (hd : decode YL_law.2.1 pc = .ok (.isub, 1))  (kk : l3_T l Z b L xs kc (pc + 1) lo (.int (x - y) :: st) M Q) : l3_T l Z b L xs kc pc lo (.int y :: .int x :: st) M Q :=
  fun p e s m below meth c C K H ls hH hS hl => lv_isub C.1 C.2.1 hd (kk p e s m below meth c C K H ls hH hS hl)
theorem l3_iand {x y : Int32} (hd : decode YL_law.2.1 pc = .ok (.iand, 1))  (kk : l3_T l Z b L xs kc (pc + 1) lo (.int (x &&& y) :: st) M Q) : l3_T l Z b L xs kc pc lo (.int y :: .int x :: st) M Q :=
  fun p e s m below meth c C K H ls hH hS hl => lv_iand C.1 C.2.1 hd (kk p e s m below meth c C K H ls hH hS hl)
theorem l3_icmp_gt {x y : Int32} {off : Int} (tgt : Nat) (hd : decode YL_law.2.1 pc = .ok (.if_icmp .gt off, 3)) (ht : (pc : Int) + off = (tgt : Int)) (kt : y < x → l3_T l Z b L xs kc tgt lo st M Q) (kf : ¬ (y < x) → l3_T l Z b L xs kc (pc + 3) lo st M Q) : l3_T l Z b L xs kc pc lo (.int y :: .int x :: st) M Q :=
  fun p e s m below meth c C K H ls hH hS hl => lv_icmp_gt C.1 C.2.1 hd ht (fun h => kt h p e s m below meth c C K H ls hH hS hl) (fun h => kf h p e s m below meth c C K H ls hH hS hl)
theorem l3_icmp_eq {x y : Int32} {off : Int} (tgt : Nat) (hd : decode YL_law.2.1 pc = .ok (.if_icmp .eq off, 3)) (ht : (pc : Int) + off = (tgt : Int)) (kt : x = y → l3_T l Z b L xs kc tgt lo st M Q) (kf : ¬ (x = y) → l3_T l Z b L xs kc (pc + 3) lo st M Q) : l3_T l Z b L xs kc pc lo (.int y :: .int x :: st) M Q :=
  fun p e s m below meth c C K H ls hH hS hl => lv_icmp_eq C.1 C.2.1 hd ht (fun h => kt h p e s m below meth c C K H ls hH hS hl) (fun h => kf h p e s m below meth c C K H ls hH hS hl)
theorem l3_goto {off : Int} (tgt : Nat) (hd : decode YL_law.2.1 pc = .ok (.goto off, 3)) (ht : (pc : Int) + off = (tgt : Int)) (kk : l3_T l Z b L xs kc tgt lo st M Q) : l3_T l Z b L xs kc pc lo st M Q :=
  fun p e s m below meth c C K H ls hH hS hl => lv_goto C.1 C.2.1 hd ht (kk p e s m below meth c C K H ls hH hS hl)
theorem l3_top {x : Int32} (k : ∀ y : Int32, y = x → l3_T l Z b L xs kc pc lo (.int y :: st) M Q) : l3_T l Z b L xs kc pc lo (.int x :: st) M Q := k x rfl
theorem l3_istore {i : Nat} {x : Int32} (lo' : List (Nat × Value)) (hd : decode YL_law.2.1 pc = .ok (.istore i, 2)) (hn : i < YL_law.2.2.1) (hl0 : (i, Value.int x) :: lo.filter (fun q => !(q.1 == i) && !(q.1 + 1 == i && q.2.category == 2)) = lo') (kk : l3_T l Z b L xs kc (pc + 2) lo' (st) M Q) : l3_T l Z b L xs kc pc lo (.int x :: st) M Q :=
  fun p e s m below meth c C K H ls hH hS hl => lv_istore C.1 C.2.1 hd hl hn hl0 (fun _ hl => (kk p e s m below meth c C K H _ hH hS hl))
theorem l3_iinc {i : Nat} {n : Int} {x : Int32} (q : Nat) (lo' : List (Nat × Value)) (v : Int32) (hd : decode YL_law.2.1 pc = .ok (.iinc i n, 3)) (hk : lo[q]? = some (i, .int x)) (hv : x + Int32.ofInt n = v) (hn : i < YL_law.2.2.1) (hl0 : (i, Value.int v) :: lo.filter (fun q => !(q.1 == i) && !(q.1 + 1 == i && q.2.category == 2)) = lo') (kk : l3_T l Z b L xs kc (pc + 3) lo' st M Q) : l3_T l Z b L xs kc pc lo st M Q :=
  fun p e s m below meth c C K H ls hH hS hl => lv_iinc C.1 C.2.1 hd hl hk hv hn hl0 (fun _ hl => (kk p e s m below meth c C K H _ hH hS hl))
theorem l3_table {dflt lw hi : Int} {offs : Array Int} {len : Nat} {x : Int32} (hd : decode YL_law.2.1 pc = .ok (.tableswitch dflt lw hi offs, len)) (tds : Nat) (htd : (pc : Int) + dflt = (tds : Int)) (ko : (x.toInt < lw ∨ hi < x.toInt) → l3_T l Z b L xs kc tds lo st M Q) (ki : ¬ x.toInt < lw → ¬ hi < x.toInt → ∃ (off : Int) (tgt : Nat), offs[(x.toInt - lw).toNat]? = some off ∧ (pc : Int) + off = (tgt : Int) ∧ l3_T l Z b L xs kc tgt lo st M Q) : l3_T l Z b L xs kc pc lo (.int x :: st) M Q := by
  intro p e s m below meth c C K H ls hH hS hl
  by_cases h1 : x.toInt < lw
  · exact lv_tableOut C.1 C.2.1 hd (Or.inl h1) htd (ko (Or.inl h1) p e s m below meth c C K H ls hH hS hl)
  · by_cases h2 : hi < x.toInt
    · exact lv_tableOut C.1 C.2.1 hd (Or.inr h2) htd (ko (Or.inr h2) p e s m below meth c C K H ls hH hS hl)
    · obtain ⟨off, tgt, a1, a2, a3⟩ := ki h1 h2
      exact lv_tableIn C.1 C.2.1 hd h1 h2 a1 a2 (a3 p e s m below meth c C K H ls hH hS hl)
theorem l3_pick (ks : List Nat) (lo' : List (Nat × Value)) (hl : lv_pick lo ks = lo') (k : l3_T l Z b L xs kc pc lo' st M Q) : l3_T l Z b L xs kc pc lo st M Q :=
  fun p e s m below meth c C K H ls hH hS hl' => k p e s m below meth c C K H ls hH hS (lv_sub hl' ks hl)
theorem l3_if_ne {x : Int32} {off : Int} (tgt : Nat) (hd : decode YL_law.2.1 pc = .ok (.ifCond .ne off, 3)) (ht : (pc : Int) + off = (tgt : Int)) (kt : x ≠ 0 → l3_T l Z b L xs kc tgt lo st M Q) (kf : x = 0 → l3_T l Z b L xs kc (pc + 3) lo st M Q) : l3_T l Z b L xs kc pc lo (.int x :: st) M Q :=
  fun p e s m below meth c C K H ls hH hS hl => lv_if_ne C.1 C.2.1 hd ht (fun h => kt h p e s m below meth c C K H ls hH hS hl) (fun h => kf h p e s m below meth c C K H ls hH hS hl)
theorem l3_sld {i : Int32} (hd : decode YL_law.2.1 pc = .ok (.iaload, 1)) (hi : vp_in i L) (kk : l3_T l Z b L xs kc (pc + 1) lo (.int (xs i.toNatClampNeg) :: st) M Q) : l3_T l Z b L xs kc pc lo (.int i :: .ref b :: st) M Q :=
  fun p e s m below meth c C K H ls hH hS hl => va_sld C.1 C.2.1 C.2.2.2.2.2.2.2.1 C.2.2.2.2.2.2.2.2.1 (Nat.not_le.mpr C.2.2.2.2.2.2.2.2.1) hS hi hd (kk p e s m below meth c C K H ls hH hS hl)
theorem l3_slen (hd : decode YL_law.2.1 pc = .ok (.arraylength, 1)) (kk : l3_T l Z b L xs kc (pc + 1) lo (.int (Int32.ofNat L) :: st) M Q) : l3_T l Z b L xs kc pc lo (.ref b :: st) M Q :=
  fun p e s m below meth c C K H ls hH hS hl => va_slen C.1 C.2.1 C.2.2.2.2.2.2.2.1 C.2.2.2.2.2.2.2.2.1 (Nat.not_le.mpr C.2.2.2.2.2.2.2.2.1) hS hd (kk p e s m below meth c C K H ls hH hS hl)
theorem l3_callV {As : List Value} {j ci N n : Nat} {T : u_T} {sl : List (Option Nat)} (hk : kc ≤ 600) (hd : decode YL_law.2.1 pc = .ok (.invokevirtual ix, 3)) (hM : li_Met l Z Y' d' (.ref (Z.2.2 j) :: As) M Q') (hdd : d' ≤ 1000) (hml : Y'.2.2.1 ≤ 41)
    (w1 : Cond.methodLink YL_law.1.cls ix Y'.1 ∈ li_ws) (w2 : Cond.instanceMethod Y'.1 ∈ li_ws) (w3 : Cond.selects Y'.1.cls Y'.1 Y'.1 ∈ li_ws) (w4 : Cond.initialized Y'.1.cls ∈ li_ws) (w5 : Cond.code Y'.1 Y'.2.1 Y'.2.2.1 Y'.2.2.2 ∈ li_ws)
    (hy : Y'.1.cls ≠ "java/lang/invoke/MethodHandle" ∧ Y'.1.cls ≠ "java/lang/invoke/VarHandle" ∧ (parseMethodDescriptor Y'.1.desc).map (fun d => d.parameters.length) = some n) (hn : As.length = n)
    (hj : j < li_N) (hs : li_sh j = .inl (ci, sl)) (hc : vwCl[ci]? = some (Y'.1.cls, T, N)) (hst : st = As.reverse ++ .ref (Z.2.2 j) :: rest) (hcat : (rest.map fun v => v.category).sum ≤ 8)
    (kk : ∀ (r : Option Value) (M' : li_M), Q' r M' → l3_T l Z b L xs kc (pc + 3) lo (r.toList ++ rest) M' Q) : l3_T l Z b L xs kc pc lo st M Q := by
  intro p e s m below meth c C K H ls hH hS hl
  have hA := C.2.2.2.2.2.2.2.2.2.2.2
  have hrun := va_runV (R := room_1) (e := e) (below := below) (meth := meth) (locs := []) (cells := 205 + kc) (slots := 52492 + 6 * kc) (As := As) (rest := rest) (n := n) (g := F0 m pc ls st) (index := ix) (own := YL_law.1.cls) (C := Y'.1.cls) (b := Z.2.2 j) (H := H) (Ts := li_ws)
    ⟨C.1, C.2.1, C.2.2.1, C.2.2.2.1, C.2.2.2.2.1⟩ hM
    (cwV n C.2.2.2.2.1 (l3_gV w1 w2 w3 w4 w5) rfl rfl rfl ⟨rfl, hy⟩ ⟨by show d' + 1 ≤ 2048; omega, by show 8 + (Y'.2.2.1 + 11) + 60 * d' ≤ 84000; omega⟩)
    ⟨li_blind, va_recv K.1 hH hc (q0 := j) (by rw [li_get hj, li_cellO hs]), fun U hU hW => ⟨rfl, by rw [hU]; exact hH, l3_kw hW hU hS K⟩⟩ rfl hn hl.1 hst (lv_room hcat) hd ⟨by show 205 + kc + 0 ≤ 600002; omega, by show 52492 + 6 * kc + 0 ≤ 7302232; omega⟩
  exact l3_behind hrun hA hS (fun r M' H1 hq hH1 hS1 => kk r M' hq p e s m below meth c C K H1 ls hH1 hS1 hl)
theorem l3_callH {As : List Value} {n maxL : Nat} {y : MethodName} {bytes : ByteArray} {ret : Option FieldType} {hh : List (Nat × Nat × Nat × Nat)} (hk : kc ≤ 600) (hd : decode YL_law.2.1 pc = .ok (.invokestatic ix, 3)) (hM : Met l y (.codeWith y bytes maxL ret hh :: li_ws) (l2_rm 1001) (va_Pc As (fun U => li_H Z M U.heap ∧ li_K Z U ∧ li_V Z U)) (li_Q Z Q') 1 6 (li_A Z)) (hml : maxL ≤ 41)
    (w1 : Cond.methodLink YL_law.1.cls ix y ∈ li_ws) (w2 : Cond.static y ∈ li_ws) (w3 : Cond.initialized y.cls ∈ li_ws) (w4 : Cond.codeWith y bytes maxL ret hh ∈ li_ws)
    (hy : y.cls ≠ "java/lang/invoke/MethodHandle" ∧ y.cls ≠ "java/lang/invoke/VarHandle" ∧ (parseMethodDescriptor y.desc).map (fun d => d.parameters.length) = some n) (hn : As.length = n)
    (hst : st = As.reverse ++ rest) (hcat : (rest.map fun v => v.category).sum ≤ 8)
    (kk : ∀ (r : Option Value) (M' : li_M), Q' r M' → l3_T l Z b L xs (kc + 1) (pc + 3) lo (r.toList ++ rest) M' Q) : l3_T l Z b L xs kc pc lo st M Q := by
  intro p e s m below meth c C K H ls hH hS hl
  have hA := C.2.2.2.2.2.2.2.2.2.2.2
  have hV := C.2.2.2.2.2.2.2.2.2.2.1
  have hrun := vx_runSW (R := room_1) (e := e) (below := below) (meth := meth) (locs := []) (cells := 205 + kc) (slots := 52492 + 6 * kc) (As := As) (rest := rest) (n := n) (g := F0 m pc ls st) (index := ix) (own := YL_law.1.cls) (H := H) (Ts := li_ws)
    ⟨C.1, C.2.1, C.2.2.1, C.2.2.2.1, C.2.2.2.2.1⟩ hM
    (vx_cwSW n C.2.2.2.2.1 (l3_gS w1 w2 w3 w4) rfl rfl rfl hy ⟨Nat.le_of_ble_eq_true rfl, by show 8 + (maxL + 11) + 60 * 1001 ≤ 84000; omega⟩)
    ⟨l2_blind, fun U hU hW => ⟨rfl, by rw [hU]; exact hH, l3_kw hW hU hS K, l3_vw hW hU hS hV⟩⟩ rfl hn hl.1 hst (lv_room hcat) hd ⟨by show 205 + kc + 1 ≤ 600002; omega, by show 52492 + 6 * kc + 6 ≤ 7302232; omega⟩
  exact l3_behind hrun hA hS (fun r M' H1 hq hH1 hS1 => W.widen (k := 205 + (kc + 1)) (n := 52492 + 6 * (kc + 1)) (by omega) (by omega) (kk r M' hq p e s m below meth c C K H1 ls hH1 hS1 hl))
theorem l3_end (hk : kc ≤ 600) (hd : decode YL_law.2.1 pc = .ok (.ireturn, 1)) : l3_T l Z b L xs kc pc lo [.int 1] M Q :=
  fun p e s m below meth c C K H ls hH hS hl => W.widen (k := 600002) (n := 7302232) (by omega) (by omega) (lw_ret C.1 C.2.1 C.2.2.2.2.2.1 C.2.2.2.2.2.2.1 hd)
end L3
