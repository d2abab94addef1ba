theorem w_124 : (Jvm.Cond.classLink "ClockForTalkLaw" (8 : Nat) "ClockForTalk") ∈ li_ws := li_mem 124 (by decide +kernel) (by decide +kernel)
theorem w_125 : (Jvm.Cond.instantiable "ClockForTalk" (13 : Nat)) ∈ li_ws := li_mem 125 (by decide +kernel) (by decide +kernel)
theorem w_126 : (Jvm.Cond.methodLink "ClockForTalkLaw" (25 : Nat) ({ cls := "ClockForTalk", name := "<init>", desc := "()V" } : Jvm.MethodName)) ∈ li_ws := li_mem 126 (by decide +kernel) (by decide +kernel)
theorem w_127 : (Jvm.Cond.instanceMethod ({ cls := "ClockForTalk", name := "<init>", desc := "()V" } : Jvm.MethodName)) ∈ li_ws := li_mem 127 (by decide +kernel) (by decide +kernel)
theorem w_128 : (Jvm.Cond.code ({ cls := "ClockForTalk", name := "<init>", desc := "()V" } : Jvm.MethodName) prog_1_method_1_code (1 : Nat) (Option.none : Option Jvm.ClassFile.FieldType)) ∈ li_ws := li_mem 128 (by decide +kernel) (by decide +kernel)
theorem w_1396 : (Jvm.Cond.classLink "ClockForTalkLaw" (26 : Nat) "ClockForTalkModel") ∈ li_ws := li_mem 1396 (by decide +kernel) (by decide +kernel)
theorem w_1397 : (Jvm.Cond.instantiable "ClockForTalkModel" (52 : Nat)) ∈ li_ws := li_mem 1397 (by decide +kernel) (by decide +kernel)
theorem w_1398 : (Jvm.Cond.methodLink "ClockForTalkLaw" (28 : Nat) ({ cls := "ClockForTalkModel", name := "<init>", desc := "()V" } : Jvm.MethodName)) ∈ li_ws := li_mem 1398 (by decide +kernel) (by decide +kernel)
theorem w_1399 : (Jvm.Cond.instanceMethod ({ cls := "ClockForTalkModel", name := "<init>", desc := "()V" } : Jvm.MethodName)) ∈ li_ws := li_mem 1399 (by decide +kernel) (by decide +kernel)
theorem w_1400 : (Jvm.Cond.code ({ cls := "ClockForTalkModel", name := "<init>", desc := "()V" } : Jvm.MethodName) prog_13_method_1_code (1 : Nat) (Option.none : Option Jvm.ClassFile.FieldType)) ∈ li_ws := li_mem 1400 (by decide +kernel) (by decide +kernel)
set_option maxRecDepth 100000 in
set_option maxHeartbeats 4000000 in
theorem ls_start {p : Program} {e : Env} {s : State} {m : MethodId} {below : List Frame} {meth : Method} {c : Code} (l : Launch) (htr : l.stackTraces = false) {b L : Nat} {xs : Nat → Int32} (hL : L ≤ 5) (C0 : lw_At p s m meth c b L xs) : W p l e room_1 s m #[Value.ref b] below meth c s.heap [] 0 0 (lw_Z below #[Value.ref b] s) (entryFrame m ([Value.ref b] : List Value).toArray 7) := by
  obtain ⟨D, c0, c1, c2, c3, c4, hK⟩ := ls_K C0
  obtain ⟨r, tk, tv, e1, e2, e3, e4, e5, e6⟩ := ls_facts C0
  obtain ⟨hx, hb, hr, hml, hown, hts, hX, hbl, hlocks, hgv⟩ := id C0
  have hown : s.vm.findClass YL_law.1.cls = some m.cls := hown
  have hw : ∀ w ∈ li_ws, w.before #[Value.ref b] s = true := fun w h => hts w (List.mem_filter.mp h).1
  have hN : ∀ w ∈ li_nw, va_Nw w s := fun w h => va_Nw.of (li_nw_on (List.all_eq_true.mp li_nw_ok w h)) (hts w (lw_nw_tbl w h))
  have hAO : va_AO "ClockForTalk$Ledger" s := va_AO.of (hts _ (List.mem_of_getElem? (i := 287) (by decide +kernel)))
  have hA : ∀ q : Nat, s.heap.size ≤ q → l3_A s q := fun _ h => h
  have hS : va_S (l3_A s) s.heap s.heap [] := va_S.rf
  have hP : va_P D vwCl [] s.heap := fun k q h => by simp at h
  have hD : va_D (l3_A s) [] := ⟨fun i j p q h => by simp at h, fun k q h => by simp at h⟩
  have hl := lv_entry ([.ref b]) (n := 7) (Nat.le_of_ble_eq_true rfl)
  rw [lg_entry_eq]
  generalize (lg_sl ([.ref b]) ++ List.replicate (7 - (lg_sl ([.ref b])).length) Slot.unset).toArray = ls at hl ⊢
  have hl : lv_has ls 7 [(0, .ref b)] := hl
  refine va_new (ci := 11) (fs := [.null, .null, .null, .null, .null, .null, .null, .null, .null, .null, .null, .null, .null]) (C := RX11) (T := TX11) (N := 13) hx hb hw li_in11 tyX11 tyX11_ok hown (hw _ w_124) (hw _ w_125) (hw _ w_101) hK hP hD hS hA rfl (fun j hj => by rcases (show j = 0 ∨ j = 1 ∨ j = 2 ∨ j = 3 ∨ j = 4 ∨ j = 5 ∨ j = 6 ∨ j = 7 ∨ j = 8 ∨ j = 9 ∨ j = 10 ∨ j = 11 ∨ j = 12 by omega) with rfl | rfl | rfl | rfl | rfl | rfl | rfl | rfl | rfl | rfl | rfl | rfl | rfl <;> rfl) (Nat.le_of_ble_eq_true rfl) (Nat.le_of_ble_eq_true rfl) dL_law_0 (fun h1 H1 hP hD hS => ?_)
  refine W.widen (k := 1) (n := 13) (Nat.le_of_ble_eq_true rfl) (Nat.le_of_ble_eq_true rfl) ?_
  have hP : va_P D vwCl [(h1, .inr (11, [.null, .null, .null, .null, .null, .null, .null, .null, .null, .null, .null, .null, .null]))] H1 := hP
  have hD : va_D (l3_A s) [(h1, .inr (11, [.null, .null, .null, .null, .null, .null, .null, .null, .null, .null, .null, .null, .null]))] := hD
  refine lv_dup hx hb dL_law_3 rfl ?_
  have hPc := hP.sub (ws' := [(h1, .inr (11, [.null, .null, .null, .null, .null, .null, .null, .null, .null, .null, .null, .null, .null]))]) [0] rfl
  have hDc := hD.sub (ws' := [(h1, .inr (11, [.null, .null, .null, .null, .null, .null, .null, .null, .null, .null, .null, .null, .null]))]) [0] (by decide) rfl
  have hFc := va_free (wc := [(h1, .inr (11, [.null, .null, .null, .null, .null, .null, .null, .null, .null, .null, .null, .null, .null]))]) hD hS hA [0] rfl
  refine va_callv (va_runI (As := []) (rest := [.ref h1]) ⟨hx, hb, hml, hown, hw⟩ (ct_X11_init l D c0 c1 c2 c3 c4 h1 H1.size) (cwI 0 hw (li_good w_128) rfl rfl rfl (hw _ w_101) (hw _ w_126) (hw _ w_127) rfl (by decide +kernel) ⟨Nat.le_of_ble_eq_true rfl, Nat.le_of_ble_eq_true rfl⟩) ⟨fun a U g mk q => ct_blind q, fun U hU hW => ⟨rfl, by rw [hU], by rw [hU]; exact hPc, va_K.moved hW.alike hK, hDc.weaken (fun _ _ _ _ => trivial), fun w hw9 => li_nw_warm (List.all_eq_true.mp li_nw_ok w hw9) hW (hN w hw9), va_AO.moved hW.alike hAO⟩⟩ rfl rfl hl.1 rfl (lv_room (Nat.le_of_ble_eq_true rfl)) dL_law_4 ⟨Nat.le_of_ble_eq_true rfl, Nat.le_of_ble_eq_true rfl⟩) hS (fun q _ h => hFc q h) hFc (fun u t H2 locs ht hvm _ hB hz1 hk1 hS => ?_)
  obtain ⟨hP1, hD1⟩ := hB
  rw [ht] at hP1
  obtain ⟨hP, hD⟩ := va_join (wr := []) (w1 := w11 c0 c1 c2 c3 c4 h1 u) hP hD [0] [] rfl rfl (by decide +kernel) (by decide +kernel) hk1 hFc hP1 hD1
  refine va_forget (fun q hq => hS.2.2 q hq) ?_
  have hS : va_S (l3_A s) s.heap H2 [] := ⟨hS.1, hS.2.1, fun q hq => absurd hq List.not_mem_nil⟩
  refine W.widen (k := 175) (n := 3402) (Nat.le_of_ble_eq_true rfl) (Nat.le_of_ble_eq_true rfl) ?_
  have hP : va_P D vwCl (w11 c0 c1 c2 c3 c4 h1 u) H2 := hP
  have hD : va_D (l3_A s) (w11 c0 c1 c2 c3 c4 h1 u) := hD
  refine lv_astore_n (lv' := [(1, .ref h1), (0, .ref b)]) hx hb dL_law_7 rfl hl (by decide) rfl (fun ls hl => ?_)
  refine va_new (ci := 12) (fs := [.null, .int 0, .null, .null, .int 0, .null, .null, .int 0, .null, .int 0, .int 0, .null, .int 0, .int 0, .int 0, .int 0, .null, .null, .int 0, .null, .int 0, .null, .null, .int 0, .null, .int 0, .int 0, .null, .int 0, .null, .null, .null, .int 0, .int 0, .null, .int 0, .null, .null, .int 0, .null, .int 0, .null, .null, .int 0, .null, .null, .int 0, .null, .int 0, .null, .null, .null]) (C := RX12) (T := TX12) (N := 52) hx hb hw li_in12 tyX12 tyX12_ok hown (hw _ w_1396) (hw _ w_1397) (hw _ w_112) hK hP hD hS hA rfl (fun j hj => by rcases (show j = 0 ∨ j = 1 ∨ j = 2 ∨ j = 3 ∨ j = 4 ∨ j = 5 ∨ j = 6 ∨ j = 7 ∨ j = 8 ∨ j = 9 ∨ j = 10 ∨ j = 11 ∨ j = 12 ∨ j = 13 ∨ j = 14 ∨ j = 15 ∨ j = 16 ∨ j = 17 ∨ j = 18 ∨ j = 19 ∨ j = 20 ∨ j = 21 ∨ j = 22 ∨ j = 23 ∨ j = 24 ∨ j = 25 ∨ j = 26 ∨ j = 27 ∨ j = 28 ∨ j = 29 ∨ j = 30 ∨ j = 31 ∨ j = 32 ∨ j = 33 ∨ j = 34 ∨ j = 35 ∨ j = 36 ∨ j = 37 ∨ j = 38 ∨ j = 39 ∨ j = 40 ∨ j = 41 ∨ j = 42 ∨ j = 43 ∨ j = 44 ∨ j = 45 ∨ j = 46 ∨ j = 47 ∨ j = 48 ∨ j = 49 ∨ j = 50 ∨ j = 51 by omega) with rfl | rfl | rfl | rfl | rfl | rfl | rfl | rfl | rfl | rfl | rfl | rfl | rfl | rfl | rfl | rfl | rfl | rfl | rfl | rfl | rfl | rfl | rfl | rfl | rfl | rfl | rfl | rfl | rfl | rfl | rfl | rfl | rfl | rfl | rfl | rfl | rfl | rfl | rfl | rfl | rfl | rfl | rfl | rfl | rfl | rfl | rfl | rfl | rfl | rfl | rfl | rfl <;> rfl) (Nat.le_of_ble_eq_true rfl) (Nat.le_of_ble_eq_true rfl) dL_law_8 (fun h2 H3 hP hD hS => ?_)
  refine W.widen (k := 176) (n := 3454) (Nat.le_of_ble_eq_true rfl) (Nat.le_of_ble_eq_true rfl) ?_
  have hP : va_P D vwCl (w11 c0 c1 c2 c3 c4 h1 u ++ [(h2, .inr (12, [.null, .int 0, .null, .null, .int 0, .null, .null, .int 0, .null, .int 0, .int 0, .null, .int 0, .int 0, .int 0, .int 0, .null, .null, .int 0, .null, .int 0, .null, .null, .int 0, .null, .int 0, .int 0, .null, .int 0, .null, .null, .null, .int 0, .int 0, .null, .int 0, .null, .null, .int 0, .null, .int 0, .null, .null, .int 0, .null, .null, .int 0, .null, .int 0, .null, .null, .null]))]) H3 := hP
  have hD : va_D (l3_A s) (w11 c0 c1 c2 c3 c4 h1 u ++ [(h2, .inr (12, [.null, .int 0, .null, .null, .int 0, .null, .null, .int 0, .null, .int 0, .int 0, .null, .int 0, .int 0, .int 0, .int 0, .null, .null, .int 0, .null, .int 0, .null, .null, .int 0, .null, .int 0, .int 0, .null, .int 0, .null, .null, .null, .int 0, .int 0, .null, .int 0, .null, .null, .int 0, .null, .int 0, .null, .null, .int 0, .null, .null, .int 0, .null, .int 0, .null, .null, .null]))]) := hD
  refine lv_dup hx hb dL_law_11 rfl ?_
  have hPc := hP.sub (ws' := [(h2, .inr (12, [.null, .int 0, .null, .null, .int 0, .null, .null, .int 0, .null, .int 0, .int 0, .null, .int 0, .int 0, .int 0, .int 0, .null, .null, .int 0, .null, .int 0, .null, .null, .int 0, .null, .int 0, .int 0, .null, .int 0, .null, .null, .null, .int 0, .int 0, .null, .int 0, .null, .null, .int 0, .null, .int 0, .null, .null, .int 0, .null, .null, .int 0, .null, .int 0, .null, .null, .null]))]) [175] rfl
  have hDc := hD.sub (ws' := [(h2, .inr (12, [.null, .int 0, .null, .null, .int 0, .null, .null, .int 0, .null, .int 0, .int 0, .null, .int 0, .int 0, .int 0, .int 0, .null, .null, .int 0, .null, .int 0, .null, .null, .int 0, .null, .int 0, .int 0, .null, .int 0, .null, .null, .null, .int 0, .int 0, .null, .int 0, .null, .null, .int 0, .null, .int 0, .null, .null, .int 0, .null, .null, .int 0, .null, .int 0, .null, .null, .null]))]) [175] (by decide) rfl
  have hFc := va_free (wc := [(h2, .inr (12, [.null, .int 0, .null, .null, .int 0, .null, .null, .int 0, .null, .int 0, .int 0, .null, .int 0, .int 0, .int 0, .int 0, .null, .null, .int 0, .null, .int 0, .null, .null, .int 0, .null, .int 0, .int 0, .null, .int 0, .null, .null, .null, .int 0, .int 0, .null, .int 0, .null, .null, .int 0, .null, .int 0, .null, .null, .int 0, .null, .null, .int 0, .null, .int 0, .null, .null, .null]))]) hD hS hA [175] rfl
  refine va_callv (va_runI (As := []) (rest := [.ref h2]) ⟨hx, hb, hml, hown, hw⟩ (ct_X12_init l D c0 c1 c2 c3 c4 h2 H3.size) (cwI 0 hw (li_good w_1400) rfl rfl rfl (hw _ w_112) (hw _ w_1398) (hw _ w_1399) rfl (by decide +kernel) ⟨Nat.le_of_ble_eq_true rfl, Nat.le_of_ble_eq_true rfl⟩) ⟨fun a U g mk q => ct_blind q, fun U hU hW => ⟨rfl, by rw [hU], by rw [hU]; exact hPc, va_K.moved hW.alike hK, hDc.weaken (fun _ _ _ _ => trivial), fun w hw9 => li_nw_warm (List.all_eq_true.mp li_nw_ok w hw9) hW (hN w hw9), va_AO.moved hW.alike hAO⟩⟩ rfl rfl hl.1 rfl (lv_room (Nat.le_of_ble_eq_true rfl)) dL_law_12 ⟨Nat.le_of_ble_eq_true rfl, Nat.le_of_ble_eq_true rfl⟩) hS (fun q _ h => hFc q h) hFc (fun v t H4 locs ht hvm _ hB hz1 hk1 hS => ?_)
  obtain ⟨hP1, hD1⟩ := hB
  rw [ht] at hP1
  obtain ⟨hP, hD⟩ := va_join (wr := w11 c0 c1 c2 c3 c4 h1 u) (w1 := w12 c0 c1 c2 c3 c4 h2 v) hP hD [175] [0, 1, 2, 3, 4, 5, 6, 7, 8, 9, 10, 11, 12, 13, 14, 15, 16, 17, 18, 19, 20, 21, 22, 23, 24, 25, 26, 27, 28, 29, 30, 31, 32, 33, 34, 35, 36, 37, 38, 39, 40, 41, 42, 43, 44, 45, 46, 47, 48, 49, 50, 51, 52, 53, 54, 55, 56, 57, 58, 59, 60, 61, 62, 63, 64, 65, 66, 67, 68, 69, 70, 71, 72, 73, 74, 75, 76, 77, 78, 79, 80, 81, 82, 83, 84, 85, 86, 87, 88, 89, 90, 91, 92, 93, 94, 95, 96, 97, 98, 99, 100, 101, 102, 103, 104, 105, 106, 107, 108, 109, 110, 111, 112, 113, 114, 115, 116, 117, 118, 119, 120, 121, 122, 123, 124, 125, 126, 127, 128, 129, 130, 131, 132, 133, 134, 135, 136, 137, 138, 139, 140, 141, 142, 143, 144, 145, 146, 147, 148, 149, 150, 151, 152, 153, 154, 155, 156, 157, 158, 159, 160, 161, 162, 163, 164, 165, 166, 167, 168, 169, 170, 171, 172, 173, 174] rfl rfl (by decide +kernel) (by decide +kernel) hk1 hFc hP1 hD1
  refine va_forget (fun q hq => hS.2.2 q hq) ?_
  have hS : va_S (l3_A s) s.heap H4 [] := ⟨hS.1, hS.2.1, fun q hq => absurd hq List.not_mem_nil⟩
  refine W.widen (k := 204) (n := 52491) (Nat.le_of_ble_eq_true rfl) (Nat.le_of_ble_eq_true rfl) ?_
  have hP : va_P D vwCl (w11 c0 c1 c2 c3 c4 h1 u ++ w12 c0 c1 c2 c3 c4 h2 v) H4 := hP
  have hD : va_D (l3_A s) (w11 c0 c1 c2 c3 c4 h1 u ++ w12 c0 c1 c2 c3 c4 h2 v) := hD
  refine lv_astore_n (lv' := [(2, .ref h2), (1, .ref h1), (0, .ref b)]) hx hb dL_law_15 rfl hl (by decide) rfl (fun ls hl => ?_)
  refine lv_iconst (v := 1) hx hb dL_law_16 (by decide) ?_
  refine va_newa (atype := .long) (ty := .long) (N' := 1) (a0 := (1, .inr (.inl (fun _ => 0)))) hx hb (hw _ w_279) rfl hK hP hD hS hA (fun _ => rfl) (by decide) (by decide) (by decide) (Nat.le_of_ble_eq_true rfl) (Nat.le_of_ble_eq_true rfl) dL_law_17 (fun q3 cA H5 hK2 hP hD hS => ?_)
  obtain rfl : c1 = cA := (ct_uni hK2 1 5 rfl rfl (fun C => by simp)).symm
  have hP : va_P D vwCl (w13 c0 c1 c2 c3 c4 h1 u h2 v q3) H5 := hP
  have hD : va_D (l3_A s) (w13 c0 c1 c2 c3 c4 h1 u h2 v q3) := hD
  refine lv_astore_n (lv' := [(3, .ref q3), (2, .ref h2), (1, .ref h1), (0, .ref b)]) hx hb dL_law_19 rfl hl (by decide) rfl (fun ls hl => ?_)
  refine lv_iconst (v := 0) hx hb dL_law_20 (by decide) ?_
  refine lv_istore (lv' := [(4, .int 0), (3, .ref q3), (2, .ref h2), (1, .ref h1), (0, .ref b)]) hx hb dL_law_21 hl (by decide) rfl (fun ls hl => ?_)
  obtain ⟨ex, x0, x1, x2⟩ : ∃ ex : Nat → Nat, ex 2000 = r ∧ (∀ i, i < 4 → ex (2100 + i) = tk i) ∧ ∀ i, i < 4 → ex (2200 + i) = tv i := ⟨fun i => if i = 2000 then r else if i < 2200 then tk (i - 2100) else tv (i - 2200), if_pos rfl, fun i hi => by dsimp only; rw [if_neg (by omega), if_pos (by omega), Nat.add_sub_cancel_left], fun i hi => by dsimp only; rw [if_neg (by omega), if_neg (by omega), Nat.add_sub_cancel_left]⟩
  obtain ⟨Z, hZ⟩ : ∃ Z : li_Z, Z = lz D c0 c1 c2 c3 c4 h1 u h2 v q3 ex := ⟨_, rfl⟩
  have hH : li_H Z lM0 H5 := by rw [hZ]; exact lz_H (A := l3_A s) hP
  have hdis : li_dis Z := by rw [hZ]; exact lz_dis hD
  have hZA : ∀ q, li_A Z q → l3_A s q := by rw [hZ]; exact lz_A hD
  have hex : ∀ i, 205 ≤ i → Z.2.2 i = ex i := fun i hi => by rw [hZ]; exact lz_ex i hi
  have hKZ : va_K Z.1 vwCl (li_tys Z) s := by rw [hZ]; exact hK
  have hE : li_E Z s s.heap := by
    refine ⟨?_, ?_, ls_S (e3.narrow hZA) (fun i hi => (hex _ (by omega)).trans (x1 i hi)) (fun i hi => (hex _ (by omega)).trans (x2 i hi)), e4.narrow hZA, e5.narrow hZA⟩
    · rw [hex 2000 (by decide), x0]; exact e1.narrow hZA
    · rw [hex 2000 (by decide), x0]; exact e2.narrow hZA
  have hKK : li_K Z s := ⟨hKZ, hdis, hN, hE, fun i hi => by rw [hex _ (by omega), x1 i hi]; exact e6 i hi⟩
  have hXX : l3_X Z b L xs l p s m meth c := ⟨hx, hb, hml, hown, hw, hr, hlocks, hX, hbl, htr, ls_V C0 hZA, hZA⟩
  have g0 : Z.2.2 0 = h1 := by rw [hZ]; rfl
  have g1 : Z.2.2 175 = h2 := by rw [hZ]; rfl
  have g2 : Z.2.2 204 = q3 := by rw [hZ]; rfl
  have hT := l3_loop (l := l) (Z := Z) (b := b) (L := L) (xs := xs) (Q := fun _ _ => True) htr hL lM0 lM0_J rfl rfl rfl rfl rfl rfl rfl rfl rfl rfl rfl rfl rfl rfl rfl rfl rfl rfl rfl rfl rfl (li_wq_z (fun _ => rfl) (by decide)) (fun _ => rfl)
  rw [g0, g1, g2] at hT
  exact hT p e s m below meth c hXX hKK H5 ls hH hS (lv_sub hl [0, 4, 3, 2, 1] rfl)
