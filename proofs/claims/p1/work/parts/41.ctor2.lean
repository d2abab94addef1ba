theorem w_367 : (Jvm.Cond.methodLink "ClockForTalk$Costs" (3 : Nat) ({ cls := "java/lang/Object", name := "<init>", desc := "()V" } : Jvm.MethodName)) ∈ li_ws := li_mem 367 (by decide +kernel) (by decide +kernel)
theorem w_403 : (Jvm.Cond.methodLink "ClockForTalk$WordOfMouth" (3 : Nat) ({ cls := "java/lang/Object", name := "<init>", desc := "()V" } : Jvm.MethodName)) ∈ li_ws := li_mem 403 (by decide +kernel) (by decide +kernel)
theorem w_440 : (Jvm.Cond.methodLink "ClockForTalk$Dusk" (3 : Nat) ({ cls := "java/lang/Object", name := "<init>", desc := "()V" } : Jvm.MethodName)) ∈ li_ws := li_mem 440 (by decide +kernel) (by decide +kernel)
theorem dX0_init_0 : decode cX0_init 0 = .ok (.aload_n 0, 1) := by decide +kernel
theorem dX0_init_1 : decode cX0_init 1 = .ok (.invokespecial 3, 3) := by decide +kernel
theorem dX0_init_4 : decode cX0_init 4 = .ok (.aload_n 0, 1) := by decide +kernel
theorem dX0_init_5 : decode cX0_init 5 = .ok (.bipush 32, 2) := by decide +kernel
theorem dX0_init_7 : decode cX0_init 7 = .ok (.newarray .int, 2) := by decide +kernel
theorem dX0_init_9 : decode cX0_init 9 = .ok (.putfield 9, 3) := by decide +kernel
theorem dX0_init_12 : decode cX0_init 12 = .ok (.aload_n 0, 1) := by decide +kernel
theorem dX0_init_13 : decode cX0_init 13 = .ok (.bipush 8, 2) := by decide +kernel
theorem dX0_init_15 : decode cX0_init 15 = .ok (.newarray .int, 2) := by decide +kernel
theorem dX0_init_17 : decode cX0_init 17 = .ok (.putfield 15, 3) := by decide +kernel
theorem dX0_init_20 : decode cX0_init 20 = .ok (.aload_n 0, 1) := by decide +kernel
theorem dX0_init_21 : decode cX0_init 21 = .ok (.aload_n 1, 1) := by decide +kernel
theorem dX0_init_22 : decode cX0_init 22 = .ok (.putfield 18, 3) := by decide +kernel
theorem dX0_init_25 : decode cX0_init 25 = .ok (.aload_n 0, 1) := by decide +kernel
theorem dX0_init_26 : decode cX0_init 26 = .ok (.aload_n 2, 1) := by decide +kernel
theorem dX0_init_27 : decode cX0_init 27 = .ok (.putfield 22, 3) := by decide +kernel
theorem dX0_init_30 : decode cX0_init 30 = .ok (.aload_n 0, 1) := by decide +kernel
theorem dX0_init_31 : decode cX0_init 31 = .ok (.aload_n 3, 1) := by decide +kernel
theorem dX0_init_32 : decode cX0_init 32 = .ok (.putfield 26, 3) := by decide +kernel
theorem dX0_init_35 : decode cX0_init 35 = .ok (.return_, 1) := by decide +kernel
abbrev YX0_init : li_Y := (yX0_init, cX0_init, 4, none)
theorem dX9_init_0 : decode cX9_init 0 = .ok (.aload_n 0, 1) := by decide +kernel
theorem dX9_init_1 : decode cX9_init 1 = .ok (.invokespecial 3, 3) := by decide +kernel
theorem dX9_init_4 : decode cX9_init 4 = .ok (.aload_n 0, 1) := by decide +kernel
theorem dX9_init_5 : decode cX9_init 5 = .ok (.bipush 36, 2) := by decide +kernel
theorem dX9_init_7 : decode cX9_init 7 = .ok (.newarray .int, 2) := by decide +kernel
theorem dX9_init_9 : decode cX9_init 9 = .ok (.putfield 9, 3) := by decide +kernel
theorem dX9_init_12 : decode cX9_init 12 = .ok (.aload_n 0, 1) := by decide +kernel
theorem dX9_init_13 : decode cX9_init 13 = .ok (.bipush 6, 2) := by decide +kernel
theorem dX9_init_15 : decode cX9_init 15 = .ok (.newarray .int, 2) := by decide +kernel
theorem dX9_init_17 : decode cX9_init 17 = .ok (.putfield 15, 3) := by decide +kernel
theorem dX9_init_20 : decode cX9_init 20 = .ok (.aload_n 0, 1) := by decide +kernel
theorem dX9_init_21 : decode cX9_init 21 = .ok (.bipush 6, 2) := by decide +kernel
theorem dX9_init_23 : decode cX9_init 23 = .ok (.newarray .int, 2) := by decide +kernel
theorem dX9_init_25 : decode cX9_init 25 = .ok (.putfield 18, 3) := by decide +kernel
theorem dX9_init_28 : decode cX9_init 28 = .ok (.aload_n 0, 1) := by decide +kernel
theorem dX9_init_29 : decode cX9_init 29 = .ok (.bipush 6, 2) := by decide +kernel
theorem dX9_init_31 : decode cX9_init 31 = .ok (.newarray .int, 2) := by decide +kernel
theorem dX9_init_33 : decode cX9_init 33 = .ok (.putfield 21, 3) := by decide +kernel
theorem dX9_init_36 : decode cX9_init 36 = .ok (.aload_n 0, 1) := by decide +kernel
theorem dX9_init_37 : decode cX9_init 37 = .ok (.aload_n 1, 1) := by decide +kernel
theorem dX9_init_38 : decode cX9_init 38 = .ok (.putfield 24, 3) := by decide +kernel
theorem dX9_init_41 : decode cX9_init 41 = .ok (.aload_n 0, 1) := by decide +kernel
theorem dX9_init_42 : decode cX9_init 42 = .ok (.aload_n 2, 1) := by decide +kernel
theorem dX9_init_43 : decode cX9_init 43 = .ok (.putfield 28, 3) := by decide +kernel
theorem dX9_init_46 : decode cX9_init 46 = .ok (.aload_n 0, 1) := by decide +kernel
theorem dX9_init_47 : decode cX9_init 47 = .ok (.aload_n 3, 1) := by decide +kernel
theorem dX9_init_48 : decode cX9_init 48 = .ok (.putfield 32, 3) := by decide +kernel
theorem dX9_init_51 : decode cX9_init 51 = .ok (.return_, 1) := by decide +kernel
abbrev YX9_init : li_Y := (yX9_init, cX9_init, 4, none)
theorem dX2_init_0 : decode cX2_init 0 = .ok (.aload_n 0, 1) := by decide +kernel
theorem dX2_init_1 : decode cX2_init 1 = .ok (.invokespecial 3, 3) := by decide +kernel
theorem dX2_init_4 : decode cX2_init 4 = .ok (.aload_n 0, 1) := by decide +kernel
theorem dX2_init_5 : decode cX2_init 5 = .ok (.bipush 6, 2) := by decide +kernel
theorem dX2_init_7 : decode cX2_init 7 = .ok (.newarray .int, 2) := by decide +kernel
theorem dX2_init_9 : decode cX2_init 9 = .ok (.putfield 9, 3) := by decide +kernel
theorem dX2_init_12 : decode cX2_init 12 = .ok (.aload_n 0, 1) := by decide +kernel
theorem dX2_init_13 : decode cX2_init 13 = .ok (.sipush 1125, 3) := by decide +kernel
theorem dX2_init_16 : decode cX2_init 16 = .ok (.newarray .long, 2) := by decide +kernel
theorem dX2_init_18 : decode cX2_init 18 = .ok (.putfield 15, 3) := by decide +kernel
theorem dX2_init_21 : decode cX2_init 21 = .ok (.aload_n 0, 1) := by decide +kernel
theorem dX2_init_22 : decode cX2_init 22 = .ok (.aload_n 1, 1) := by decide +kernel
theorem dX2_init_23 : decode cX2_init 23 = .ok (.putfield 19, 3) := by decide +kernel
theorem dX2_init_26 : decode cX2_init 26 = .ok (.aload_n 0, 1) := by decide +kernel
theorem dX2_init_27 : decode cX2_init 27 = .ok (.aload_n 2, 1) := by decide +kernel
theorem dX2_init_28 : decode cX2_init 28 = .ok (.putfield 23, 3) := by decide +kernel
theorem dX2_init_31 : decode cX2_init 31 = .ok (.aload_n 0, 1) := by decide +kernel
theorem dX2_init_32 : decode cX2_init 32 = .ok (.aload_n 3, 1) := by decide +kernel
theorem dX2_init_33 : decode cX2_init 33 = .ok (.putfield 27, 3) := by decide +kernel
theorem dX2_init_36 : decode cX2_init 36 = .ok (.return_, 1) := by decide +kernel
abbrev YX2_init : li_Y := (yX2_init, cX2_init, 4, none)
set_option maxRecDepth 100000 in
set_option maxHeartbeats 4000000 in
theorem ct_X0_init (l : Launch) (D : va_G) (c0 c1 c2 c3 c4 : ClassId) (h0 : Nat) (h1 h2 h3 : Nat) (sz : Nat) : Met l YX0_init.1 (li_wy YX0_init) ({ frames := 1, cells := 2, slots := 40, locals := 60 } : Room) (va_Pc [.ref h0, .ref h1, .ref h2, .ref h3] (fun U => ct_pre D c0 c1 c2 c3 c4 [(h0, .inr (0, [.null, .null, .null, .null, .null, .int 0, .int 0, .int 0]))] sz U)) (va_Qv (fun _ : Nat → Nat => True) (fun u t => va_P D vwCl [(h0, .inr (0, [.ref h1, .ref h2, .ref h3, .ref (u 0), .ref (u 1), .int 0, .int 0, .int 0])), ((u 0), .inl (c0, 32, .inl (fun _ => 0))), ((u 1), .inl (c0, 8, .inl (fun _ => 0)))] t.heap ∧ va_D (va_A [(h0, .inr (0, [.null, .null, .null, .null, .null, .int 0, .int 0, .int 0]))] sz) [(h0, .inr (0, [.ref h1, .ref h2, .ref h3, .ref (u 0), .ref (u 1), .int 0, .int 0, .int 0])), ((u 0), .inl (c0, 32, .inl (fun _ => 0))), ((u 1), .inl (c0, 8, .inl (fun _ => 0)))]) (va_A [(h0, .inr (0, [.null, .null, .null, .null, .null, .int 0, .int 0, .int 0]))] sz)) 2 40 (va_A [(h0, .inr (0, [.null, .null, .null, .null, .null, .int 0, .int 0, .int 0]))] sz) := by
  refine Met.ofW (cc := YX0_init.2.1) (maxL := YX0_init.2.2.1) (ret := none) (by decide +kernel) rfl ?_
  intro p e s m args below meth c s₁ B hml hv
  obtain ⟨rfl, hsz, hP, hK, hD0, hN, hAO⟩ := hv
  have hx := B.exec
  have hb := B.bytes
  have hr := B.returns
  have hts := atoms_spec (ws := li_wy YX0_init) B.pre
  have hw : ∀ w ∈ li_ws, w.before #[.ref h0, .ref h1, .ref h2, .ref h3] s = true := fun w h => hts w (List.mem_cons_of_mem _ h)
  have hown : s.vm.findClass YX0_init.1.cls = some m.cls := findClass_of_methodNamed B.named
  have hlocks := B.notSynchronized
  have hin : meth.name = "<init>" := (name_of_methodNamed B.named B.method).1
  subst hsz
  have hD := hD0.self (sz := s.heap.size)
  generalize hAe : va_A [(h0, .inr (0, [.null, .null, .null, .null, .null, .int 0, .int 0, .int 0]))] s.heap.size = A at hD ⊢
  have hA : ∀ q : Nat, s.heap.size ≤ q → A q := fun q h => by rw [← hAe]; exact Or.inr h
  have hS : va_S A s.heap s.heap [] := va_S.rf
  have hP : va_P D vwCl [(h0, .inr (0, [.null, .null, .null, .null, .null, .int 0, .int 0, .int 0]))] s.heap := hP
  let tys : List (ClassId × FieldType) := [(c0, .int), (c1, .long), (c2, .byte), (c3, .boolean), (c4, .object "ClockForTalk$Ledger")]
  have hl := lv_entry ([.ref h0, .ref h1, .ref h2, .ref h3]) (n := 4) (Nat.le_of_ble_eq_true rfl)
  rw [lg_entry_eq]
  generalize (lg_sl ([.ref h0, .ref h1, .ref h2, .ref h3]) ++ List.replicate (4 - (lg_sl ([.ref h0, .ref h1, .ref h2, .ref h3])).length) Slot.unset).toArray = ls at hl ⊢
  have hl : lv_has ls 4 [(0, .ref h0), (1, .ref h1), (2, .ref h2), (3, .ref h3)] := hl
  refine lv_aload_n hx hb dX0_init_0 rfl (lv_at hl 0 rfl) ?_
  refine W.objInit hx hb hown (hw _ w_367) (hw _ w_130) (hw _ w_objcode) rfl (by rw [hml]; exact hl.1) rfl dX0_init_1 (Nat.le_of_ble_eq_true rfl) (Nat.le_of_ble_eq_true rfl) ?_
  refine W.eq (g2 := F0 m 4 ls []) rfl ?_
  refine lv_aload_n hx hb dX0_init_4 rfl (lv_at hl 0 rfl) ?_
  refine lv_bipush (v := 32) hx hb dX0_init_5 (by decide) ?_
  refine va_newa (atype := .int) (ty := .int) (N' := 32) (a0 := (32, .inl (fun _ => 0))) hx hb (hw _ w_152) rfl hK hP hD hS hA (fun _ => rfl) (by decide) (by decide) (by decide) (Nat.le_of_ble_eq_true rfl) (Nat.le_of_ble_eq_true rfl) dX0_init_7 (fun q1 cA H2 hK hP hD hS => ?_)
  obtain rfl : c0 = cA := (ct_uni hK 0 5 rfl rfl (fun C => by simp)).symm
  have hK := hK.sub (tys' := tys) [0, 1, 2, 3, 4] rfl
  have hP : va_P D vwCl [(h0, .inr (0, [.null, .null, .null, .null, .null, .int 0, .int 0, .int 0])), (q1, .inl (c0, 32, .inl (fun _ => 0)))] H2 := hP
  have hD : va_D A [(h0, .inr (0, [.null, .null, .null, .null, .null, .int 0, .int 0, .int 0])), (q1, .inl (c0, 32, .inl (fun _ => 0)))] := hD
  refine W.widen (k := 1) (n := 32) (Nat.le_of_ble_eq_true rfl) (Nat.le_of_ble_eq_true rfl) ?_
  refine va_putF (D := D) (ci := 0) (v := .ref q1) (C := RX0) (T := TX0) (N := 8) hx hb hw li_in0 tyX0 tyX0_ok nmX0 hown hK hP hD hS 0 rfl rfl 3 (by decide) (hw _ w_371) (fun _ h9 => h9) rfl hin rfl rfl rfl rfl (Nat.le_of_ble_eq_true rfl) dX0_init_9 (fun H3 l4 hP hD hS => ?_)
  have hP : va_P D vwCl [(h0, .inr (0, [.null, .null, .null, .ref q1, .null, .int 0, .int 0, .int 0])), (q1, .inl (c0, 32, .inl (fun _ => 0)))] H3 := hP
  have hD : va_D A [(h0, .inr (0, [.null, .null, .null, .ref q1, .null, .int 0, .int 0, .int 0])), (q1, .inl (c0, 32, .inl (fun _ => 0)))] := hD
  refine lv_aload_n hx hb dX0_init_12 rfl (lv_at hl 0 rfl) ?_
  refine lv_bipush (v := 8) hx hb dX0_init_13 (by decide) ?_
  refine va_newa (atype := .int) (ty := .int) (N' := 8) (a0 := (8, .inl (fun _ => 0))) hx hb (hw _ w_152) rfl hK hP hD hS hA (fun _ => rfl) (by decide) (by decide) (by decide) (Nat.le_of_ble_eq_true rfl) (Nat.le_of_ble_eq_true rfl) dX0_init_15 (fun q5 cA H6 hK hP hD hS => ?_)
  obtain rfl : c0 = cA := (ct_uni hK 0 5 rfl rfl (fun C => by simp)).symm
  have hK := hK.sub (tys' := tys) [0, 1, 2, 3, 4] rfl
  have hP : va_P D vwCl [(h0, .inr (0, [.null, .null, .null, .ref q1, .null, .int 0, .int 0, .int 0])), (q1, .inl (c0, 32, .inl (fun _ => 0))), (q5, .inl (c0, 8, .inl (fun _ => 0)))] H6 := hP
  have hD : va_D A [(h0, .inr (0, [.null, .null, .null, .ref q1, .null, .int 0, .int 0, .int 0])), (q1, .inl (c0, 32, .inl (fun _ => 0))), (q5, .inl (c0, 8, .inl (fun _ => 0)))] := hD
  refine W.widen (k := 2) (n := 40) (Nat.le_of_ble_eq_true rfl) (Nat.le_of_ble_eq_true rfl) ?_
  refine va_putF (D := D) (ci := 0) (v := .ref q5) (C := RX0) (T := TX0) (N := 8) hx hb hw li_in0 tyX0 tyX0_ok nmX0 hown hK hP hD hS 0 rfl rfl 4 (by decide) (hw _ w_373) (fun _ h9 => h9) rfl hin rfl rfl rfl rfl (Nat.le_of_ble_eq_true rfl) dX0_init_17 (fun H7 l8 hP hD hS => ?_)
  have hP : va_P D vwCl [(h0, .inr (0, [.null, .null, .null, .ref q1, .ref q5, .int 0, .int 0, .int 0])), (q1, .inl (c0, 32, .inl (fun _ => 0))), (q5, .inl (c0, 8, .inl (fun _ => 0)))] H7 := hP
  have hD : va_D A [(h0, .inr (0, [.null, .null, .null, .ref q1, .ref q5, .int 0, .int 0, .int 0])), (q1, .inl (c0, 32, .inl (fun _ => 0))), (q5, .inl (c0, 8, .inl (fun _ => 0)))] := hD
  refine lv_aload_n hx hb dX0_init_20 rfl (lv_at hl 0 rfl) ?_
  refine lv_aload_n hx hb dX0_init_21 rfl (lv_at hl 1 rfl) ?_
  refine va_putF (D := D) (ci := 0) (v := .ref h1) (C := RX0) (T := TX0) (N := 8) hx hb hw li_in0 tyX0 tyX0_ok nmX0 hown hK hP hD hS 0 rfl rfl 0 (by decide) (hw _ w_368) (fun _ h9 => h9) rfl hin rfl rfl rfl rfl (Nat.le_of_ble_eq_true rfl) dX0_init_22 (fun H9 l10 hP hD hS => ?_)
  have hP : va_P D vwCl [(h0, .inr (0, [.ref h1, .null, .null, .ref q1, .ref q5, .int 0, .int 0, .int 0])), (q1, .inl (c0, 32, .inl (fun _ => 0))), (q5, .inl (c0, 8, .inl (fun _ => 0)))] H9 := hP
  have hD : va_D A [(h0, .inr (0, [.ref h1, .null, .null, .ref q1, .ref q5, .int 0, .int 0, .int 0])), (q1, .inl (c0, 32, .inl (fun _ => 0))), (q5, .inl (c0, 8, .inl (fun _ => 0)))] := hD
  refine lv_aload_n hx hb dX0_init_25 rfl (lv_at hl 0 rfl) ?_
  refine lv_aload_n hx hb dX0_init_26 rfl (lv_at hl 2 rfl) ?_
  refine va_putF (D := D) (ci := 0) (v := .ref h2) (C := RX0) (T := TX0) (N := 8) hx hb hw li_in0 tyX0 tyX0_ok nmX0 hown hK hP hD hS 0 rfl rfl 1 (by decide) (hw _ w_369) (fun _ h9 => h9) rfl hin rfl rfl rfl rfl (Nat.le_of_ble_eq_true rfl) dX0_init_27 (fun H11 l12 hP hD hS => ?_)
  have hP : va_P D vwCl [(h0, .inr (0, [.ref h1, .ref h2, .null, .ref q1, .ref q5, .int 0, .int 0, .int 0])), (q1, .inl (c0, 32, .inl (fun _ => 0))), (q5, .inl (c0, 8, .inl (fun _ => 0)))] H11 := hP
  have hD : va_D A [(h0, .inr (0, [.ref h1, .ref h2, .null, .ref q1, .ref q5, .int 0, .int 0, .int 0])), (q1, .inl (c0, 32, .inl (fun _ => 0))), (q5, .inl (c0, 8, .inl (fun _ => 0)))] := hD
  refine lv_aload_n hx hb dX0_init_30 rfl (lv_at hl 0 rfl) ?_
  refine lv_aload_n hx hb dX0_init_31 rfl (lv_at hl 3 rfl) ?_
  refine va_putF (D := D) (ci := 0) (v := .ref h3) (C := RX0) (T := TX0) (N := 8) hx hb hw li_in0 tyX0 tyX0_ok nmX0 hown hK hP hD hS 0 rfl rfl 2 (by decide) (hw _ w_370) (fun _ h9 => h9) rfl hin rfl rfl rfl rfl (Nat.le_of_ble_eq_true rfl) dX0_init_32 (fun H13 l14 hP hD hS => ?_)
  have hP : va_P D vwCl [(h0, .inr (0, [.ref h1, .ref h2, .ref h3, .ref q1, .ref q5, .int 0, .int 0, .int 0])), (q1, .inl (c0, 32, .inl (fun _ => 0))), (q5, .inl (c0, 8, .inl (fun _ => 0)))] H13 := hP
  have hD : va_D A [(h0, .inr (0, [.ref h1, .ref h2, .ref h3, .ref q1, .ref q5, .int 0, .int 0, .int 0])), (q1, .inl (c0, 32, .inl (fun _ => 0))), (q5, .inl (c0, 8, .inl (fun _ => 0)))] := hD
  refine W.widen (k := 2) (n := 40) (Nat.le_of_ble_eq_true rfl) (Nat.le_of_ble_eq_true rfl) ?_
  exact W.vret hx hb hr (fun t ht hW => ⟨⟨fun i => [q1, q5].getD i 0, rfl, trivial, by rw [ht]; exact hP, hD⟩, hS.F ht⟩) hS.2.2 dX0_init_35
set_option maxRecDepth 100000 in
set_option maxHeartbeats 4000000 in
theorem ct_X9_init (l : Launch) (D : va_G) (c0 c1 c2 c3 c4 : ClassId) (h0 : Nat) (h1 h2 h3 : Nat) (sz : Nat) : Met l YX9_init.1 (li_wy YX9_init) ({ frames := 1, cells := 4, slots := 54, locals := 60 } : Room) (va_Pc [.ref h0, .ref h1, .ref h2, .ref h3] (fun U => ct_pre D c0 c1 c2 c3 c4 [(h0, .inr (9, [.null, .null, .null, .null, .null, .null, .null, .int 0, .int 0]))] sz U)) (va_Qv (fun _ : Nat → Nat => True) (fun u t => va_P D vwCl [(h0, .inr (9, [.ref h1, .ref h2, .ref h3, .ref (u 0), .ref (u 1), .ref (u 2), .ref (u 3), .int 0, .int 0])), ((u 0), .inl (c0, 36, .inl (fun _ => 0))), ((u 1), .inl (c0, 6, .inl (fun _ => 0))), ((u 2), .inl (c0, 6, .inl (fun _ => 0))), ((u 3), .inl (c0, 6, .inl (fun _ => 0)))] t.heap ∧ va_D (va_A [(h0, .inr (9, [.null, .null, .null, .null, .null, .null, .null, .int 0, .int 0]))] sz) [(h0, .inr (9, [.ref h1, .ref h2, .ref h3, .ref (u 0), .ref (u 1), .ref (u 2), .ref (u 3), .int 0, .int 0])), ((u 0), .inl (c0, 36, .inl (fun _ => 0))), ((u 1), .inl (c0, 6, .inl (fun _ => 0))), ((u 2), .inl (c0, 6, .inl (fun _ => 0))), ((u 3), .inl (c0, 6, .inl (fun _ => 0)))]) (va_A [(h0, .inr (9, [.null, .null, .null, .null, .null, .null, .null, .int 0, .int 0]))] sz)) 4 54 (va_A [(h0, .inr (9, [.null, .null, .null, .null, .null, .null, .null, .int 0, .int 0]))] sz) := by
  refine Met.ofW (cc := YX9_init.2.1) (maxL := YX9_init.2.2.1) (ret := none) (by decide +kernel) rfl ?_
  intro p e s m args below meth c s₁ B hml hv
  obtain ⟨rfl, hsz, hP, hK, hD0, hN, hAO⟩ := hv
  have hx := B.exec
  have hb := B.bytes
  have hr := B.returns
  have hts := atoms_spec (ws := li_wy YX9_init) B.pre
  have hw : ∀ w ∈ li_ws, w.before #[.ref h0, .ref h1, .ref h2, .ref h3] s = true := fun w h => hts w (List.mem_cons_of_mem _ h)
  have hown : s.vm.findClass YX9_init.1.cls = some m.cls := findClass_of_methodNamed B.named
  have hlocks := B.notSynchronized
  have hin : meth.name = "<init>" := (name_of_methodNamed B.named B.method).1
  subst hsz
  have hD := hD0.self (sz := s.heap.size)
  generalize hAe : va_A [(h0, .inr (9, [.null, .null, .null, .null, .null, .null, .null, .int 0, .int 0]))] s.heap.size = A at hD ⊢
  have hA : ∀ q : Nat, s.heap.size ≤ q → A q := fun q h => by rw [← hAe]; exact Or.inr h
  have hS : va_S A s.heap s.heap [] := va_S.rf
  have hP : va_P D vwCl [(h0, .inr (9, [.null, .null, .null, .null, .null, .null, .null, .int 0, .int 0]))] s.heap := hP
  let tys : List (ClassId × FieldType) := [(c0, .int), (c1, .long), (c2, .byte), (c3, .boolean), (c4, .object "ClockForTalk$Ledger")]
  have hl := lv_entry ([.ref h0, .ref h1, .ref h2, .ref h3]) (n := 4) (Nat.le_of_ble_eq_true rfl)
  rw [lg_entry_eq]
  generalize (lg_sl ([.ref h0, .ref h1, .ref h2, .ref h3]) ++ List.replicate (4 - (lg_sl ([.ref h0, .ref h1, .ref h2, .ref h3])).length) Slot.unset).toArray = ls at hl ⊢
  have hl : lv_has ls 4 [(0, .ref h0), (1, .ref h1), (2, .ref h2), (3, .ref h3)] := hl
  refine lv_aload_n hx hb dX9_init_0 rfl (lv_at hl 0 rfl) ?_
  refine W.objInit hx hb hown (hw _ w_403) (hw _ w_130) (hw _ w_objcode) rfl (by rw [hml]; exact hl.1) rfl dX9_init_1 (Nat.le_of_ble_eq_true rfl) (Nat.le_of_ble_eq_true rfl) ?_
  refine W.eq (g2 := F0 m 4 ls []) rfl ?_
  refine lv_aload_n hx hb dX9_init_4 rfl (lv_at hl 0 rfl) ?_
  refine lv_bipush (v := 36) hx hb dX9_init_5 (by decide) ?_
  refine va_newa (atype := .int) (ty := .int) (N' := 36) (a0 := (36, .inl (fun _ => 0))) hx hb (hw _ w_152) rfl hK hP hD hS hA (fun _ => rfl) (by decide) (by decide) (by decide) (Nat.le_of_ble_eq_true rfl) (Nat.le_of_ble_eq_true rfl) dX9_init_7 (fun q1 cA H2 hK hP hD hS => ?_)
  obtain rfl : c0 = cA := (ct_uni hK 0 5 rfl rfl (fun C => by simp)).symm
  have hK := hK.sub (tys' := tys) [0, 1, 2, 3, 4] rfl
  have hP : va_P D vwCl [(h0, .inr (9, [.null, .null, .null, .null, .null, .null, .null, .int 0, .int 0])), (q1, .inl (c0, 36, .inl (fun _ => 0)))] H2 := hP
  have hD : va_D A [(h0, .inr (9, [.null, .null, .null, .null, .null, .null, .null, .int 0, .int 0])), (q1, .inl (c0, 36, .inl (fun _ => 0)))] := hD
  refine W.widen (k := 1) (n := 36) (Nat.le_of_ble_eq_true rfl) (Nat.le_of_ble_eq_true rfl) ?_
  refine va_putF (D := D) (ci := 9) (v := .ref q1) (C := RX9) (T := TX9) (N := 9) hx hb hw li_in9 tyX9 tyX9_ok nmX9 hown hK hP hD hS 0 rfl rfl 3 (by decide) (hw _ w_407) (fun _ h9 => h9) rfl hin rfl rfl rfl rfl (Nat.le_of_ble_eq_true rfl) dX9_init_9 (fun H3 l4 hP hD hS => ?_)
  have hP : va_P D vwCl [(h0, .inr (9, [.null, .null, .null, .ref q1, .null, .null, .null, .int 0, .int 0])), (q1, .inl (c0, 36, .inl (fun _ => 0)))] H3 := hP
  have hD : va_D A [(h0, .inr (9, [.null, .null, .null, .ref q1, .null, .null, .null, .int 0, .int 0])), (q1, .inl (c0, 36, .inl (fun _ => 0)))] := hD
  refine lv_aload_n hx hb dX9_init_12 rfl (lv_at hl 0 rfl) ?_
  refine lv_bipush (v := 6) hx hb dX9_init_13 (by decide) ?_
  refine va_newa (atype := .int) (ty := .int) (N' := 6) (a0 := (6, .inl (fun _ => 0))) hx hb (hw _ w_152) rfl hK hP hD hS hA (fun _ => rfl) (by decide) (by decide) (by decide) (Nat.le_of_ble_eq_true rfl) (Nat.le_of_ble_eq_true rfl) dX9_init_15 (fun q5 cA H6 hK hP hD hS => ?_)
  obtain rfl : c0 = cA := (ct_uni hK 0 5 rfl rfl (fun C => by simp)).symm
  have hK := hK.sub (tys' := tys) [0, 1, 2, 3, 4] rfl
  have hP : va_P D vwCl [(h0, .inr (9, [.null, .null, .null, .ref q1, .null, .null, .null, .int 0, .int 0])), (q1, .inl (c0, 36, .inl (fun _ => 0))), (q5, .inl (c0, 6, .inl (fun _ => 0)))] H6 := hP
  have hD : va_D A [(h0, .inr (9, [.null, .null, .null, .ref q1, .null, .null, .null, .int 0, .int 0])), (q1, .inl (c0, 36, .inl (fun _ => 0))), (q5, .inl (c0, 6, .inl (fun _ => 0)))] := hD
  refine W.widen (k := 2) (n := 42) (Nat.le_of_ble_eq_true rfl) (Nat.le_of_ble_eq_true rfl) ?_
  refine va_putF (D := D) (ci := 9) (v := .ref q5) (C := RX9) (T := TX9) (N := 9) hx hb hw li_in9 tyX9 tyX9_ok nmX9 hown hK hP hD hS 0 rfl rfl 4 (by decide) (hw _ w_408) (fun _ h9 => h9) rfl hin rfl rfl rfl rfl (Nat.le_of_ble_eq_true rfl) dX9_init_17 (fun H7 l8 hP hD hS => ?_)
  have hP : va_P D vwCl [(h0, .inr (9, [.null, .null, .null, .ref q1, .ref q5, .null, .null, .int 0, .int 0])), (q1, .inl (c0, 36, .inl (fun _ => 0))), (q5, .inl (c0, 6, .inl (fun _ => 0)))] H7 := hP
  have hD : va_D A [(h0, .inr (9, [.null, .null, .null, .ref q1, .ref q5, .null, .null, .int 0, .int 0])), (q1, .inl (c0, 36, .inl (fun _ => 0))), (q5, .inl (c0, 6, .inl (fun _ => 0)))] := hD
  refine lv_aload_n hx hb dX9_init_20 rfl (lv_at hl 0 rfl) ?_
  refine lv_bipush (v := 6) hx hb dX9_init_21 (by decide) ?_
  refine va_newa (atype := .int) (ty := .int) (N' := 6) (a0 := (6, .inl (fun _ => 0))) hx hb (hw _ w_152) rfl hK hP hD hS hA (fun _ => rfl) (by decide) (by decide) (by decide) (Nat.le_of_ble_eq_true rfl) (Nat.le_of_ble_eq_true rfl) dX9_init_23 (fun q9 cA H10 hK hP hD hS => ?_)
  obtain rfl : c0 = cA := (ct_uni hK 0 5 rfl rfl (fun C => by simp)).symm
  have hK := hK.sub (tys' := tys) [0, 1, 2, 3, 4] rfl
  have hP : va_P D vwCl [(h0, .inr (9, [.null, .null, .null, .ref q1, .ref q5, .null, .null, .int 0, .int 0])), (q1, .inl (c0, 36, .inl (fun _ => 0))), (q5, .inl (c0, 6, .inl (fun _ => 0))), (q9, .inl (c0, 6, .inl (fun _ => 0)))] H10 := hP
  have hD : va_D A [(h0, .inr (9, [.null, .null, .null, .ref q1, .ref q5, .null, .null, .int 0, .int 0])), (q1, .inl (c0, 36, .inl (fun _ => 0))), (q5, .inl (c0, 6, .inl (fun _ => 0))), (q9, .inl (c0, 6, .inl (fun _ => 0)))] := hD
  refine W.widen (k := 3) (n := 48) (Nat.le_of_ble_eq_true rfl) (Nat.le_of_ble_eq_true rfl) ?_
  refine va_putF (D := D) (ci := 9) (v := .ref q9) (C := RX9) (T := TX9) (N := 9) hx hb hw li_in9 tyX9 tyX9_ok nmX9 hown hK hP hD hS 0 rfl rfl 5 (by decide) (hw _ w_409) (fun _ h9 => h9) rfl hin rfl rfl rfl rfl (Nat.le_of_ble_eq_true rfl) dX9_init_25 (fun H11 l12 hP hD hS => ?_)
  have hP : va_P D vwCl [(h0, .inr (9, [.null, .null, .null, .ref q1, .ref q5, .ref q9, .null, .int 0, .int 0])), (q1, .inl (c0, 36, .inl (fun _ => 0))), (q5, .inl (c0, 6, .inl (fun _ => 0))), (q9, .inl (c0, 6, .inl (fun _ => 0)))] H11 := hP
  have hD : va_D A [(h0, .inr (9, [.null, .null, .null, .ref q1, .ref q5, .ref q9, .null, .int 0, .int 0])), (q1, .inl (c0, 36, .inl (fun _ => 0))), (q5, .inl (c0, 6, .inl (fun _ => 0))), (q9, .inl (c0, 6, .inl (fun _ => 0)))] := hD
  refine lv_aload_n hx hb dX9_init_28 rfl (lv_at hl 0 rfl) ?_
  refine lv_bipush (v := 6) hx hb dX9_init_29 (by decide) ?_
  refine va_newa (atype := .int) (ty := .int) (N' := 6) (a0 := (6, .inl (fun _ => 0))) hx hb (hw _ w_152) rfl hK hP hD hS hA (fun _ => rfl) (by decide) (by decide) (by decide) (Nat.le_of_ble_eq_true rfl) (Nat.le_of_ble_eq_true rfl) dX9_init_31 (fun q13 cA H14 hK hP hD hS => ?_)
  obtain rfl : c0 = cA := (ct_uni hK 0 5 rfl rfl (fun C => by simp)).symm
  have hK := hK.sub (tys' := tys) [0, 1, 2, 3, 4] rfl
  have hP : va_P D vwCl [(h0, .inr (9, [.null, .null, .null, .ref q1, .ref q5, .ref q9, .null, .int 0, .int 0])), (q1, .inl (c0, 36, .inl (fun _ => 0))), (q5, .inl (c0, 6, .inl (fun _ => 0))), (q9, .inl (c0, 6, .inl (fun _ => 0))), (q13, .inl (c0, 6, .inl (fun _ => 0)))] H14 := hP
  have hD : va_D A [(h0, .inr (9, [.null, .null, .null, .ref q1, .ref q5, .ref q9, .null, .int 0, .int 0])), (q1, .inl (c0, 36, .inl (fun _ => 0))), (q5, .inl (c0, 6, .inl (fun _ => 0))), (q9, .inl (c0, 6, .inl (fun _ => 0))), (q13, .inl (c0, 6, .inl (fun _ => 0)))] := hD
  refine W.widen (k := 4) (n := 54) (Nat.le_of_ble_eq_true rfl) (Nat.le_of_ble_eq_true rfl) ?_
  refine va_putF (D := D) (ci := 9) (v := .ref q13) (C := RX9) (T := TX9) (N := 9) hx hb hw li_in9 tyX9 tyX9_ok nmX9 hown hK hP hD hS 0 rfl rfl 6 (by decide) (hw _ w_410) (fun _ h9 => h9) rfl hin rfl rfl rfl rfl (Nat.le_of_ble_eq_true rfl) dX9_init_33 (fun H15 l16 hP hD hS => ?_)
  have hP : va_P D vwCl [(h0, .inr (9, [.null, .null, .null, .ref q1, .ref q5, .ref q9, .ref q13, .int 0, .int 0])), (q1, .inl (c0, 36, .inl (fun _ => 0))), (q5, .inl (c0, 6, .inl (fun _ => 0))), (q9, .inl (c0, 6, .inl (fun _ => 0))), (q13, .inl (c0, 6, .inl (fun _ => 0)))] H15 := hP
  have hD : va_D A [(h0, .inr (9, [.null, .null, .null, .ref q1, .ref q5, .ref q9, .ref q13, .int 0, .int 0])), (q1, .inl (c0, 36, .inl (fun _ => 0))), (q5, .inl (c0, 6, .inl (fun _ => 0))), (q9, .inl (c0, 6, .inl (fun _ => 0))), (q13, .inl (c0, 6, .inl (fun _ => 0)))] := hD
  refine lv_aload_n hx hb dX9_init_36 rfl (lv_at hl 0 rfl) ?_
  refine lv_aload_n hx hb dX9_init_37 rfl (lv_at hl 1 rfl) ?_
  refine va_putF (D := D) (ci := 9) (v := .ref h1) (C := RX9) (T := TX9) (N := 9) hx hb hw li_in9 tyX9 tyX9_ok nmX9 hown hK hP hD hS 0 rfl rfl 0 (by decide) (hw _ w_404) (fun _ h9 => h9) rfl hin rfl rfl rfl rfl (Nat.le_of_ble_eq_true rfl) dX9_init_38 (fun H17 l18 hP hD hS => ?_)
  have hP : va_P D vwCl [(h0, .inr (9, [.ref h1, .null, .null, .ref q1, .ref q5, .ref q9, .ref q13, .int 0, .int 0])), (q1, .inl (c0, 36, .inl (fun _ => 0))), (q5, .inl (c0, 6, .inl (fun _ => 0))), (q9, .inl (c0, 6, .inl (fun _ => 0))), (q13, .inl (c0, 6, .inl (fun _ => 0)))] H17 := hP
  have hD : va_D A [(h0, .inr (9, [.ref h1, .null, .null, .ref q1, .ref q5, .ref q9, .ref q13, .int 0, .int 0])), (q1, .inl (c0, 36, .inl (fun _ => 0))), (q5, .inl (c0, 6, .inl (fun _ => 0))), (q9, .inl (c0, 6, .inl (fun _ => 0))), (q13, .inl (c0, 6, .inl (fun _ => 0)))] := hD
  refine lv_aload_n hx hb dX9_init_41 rfl (lv_at hl 0 rfl) ?_
  refine lv_aload_n hx hb dX9_init_42 rfl (lv_at hl 2 rfl) ?_
  refine va_putF (D := D) (ci := 9) (v := .ref h2) (C := RX9) (T := TX9) (N := 9) hx hb hw li_in9 tyX9 tyX9_ok nmX9 hown hK hP hD hS 0 rfl rfl 1 (by decide) (hw _ w_405) (fun _ h9 => h9) rfl hin rfl rfl rfl rfl (Nat.le_of_ble_eq_true rfl) dX9_init_43 (fun H19 l20 hP hD hS => ?_)
  have hP : va_P D vwCl [(h0, .inr (9, [.ref h1, .ref h2, .null, .ref q1, .ref q5, .ref q9, .ref q13, .int 0, .int 0])), (q1, .inl (c0, 36, .inl (fun _ => 0))), (q5, .inl (c0, 6, .inl (fun _ => 0))), (q9, .inl (c0, 6, .inl (fun _ => 0))), (q13, .inl (c0, 6, .inl (fun _ => 0)))] H19 := hP
  have hD : va_D A [(h0, .inr (9, [.ref h1, .ref h2, .null, .ref q1, .ref q5, .ref q9, .ref q13, .int 0, .int 0])), (q1, .inl (c0, 36, .inl (fun _ => 0))), (q5, .inl (c0, 6, .inl (fun _ => 0))), (q9, .inl (c0, 6, .inl (fun _ => 0))), (q13, .inl (c0, 6, .inl (fun _ => 0)))] := hD
  refine lv_aload_n hx hb dX9_init_46 rfl (lv_at hl 0 rfl) ?_
  refine lv_aload_n hx hb dX9_init_47 rfl (lv_at hl 3 rfl) ?_
  refine va_putF (D := D) (ci := 9) (v := .ref h3) (C := RX9) (T := TX9) (N := 9) hx hb hw li_in9 tyX9 tyX9_ok nmX9 hown hK hP hD hS 0 rfl rfl 2 (by decide) (hw _ w_406) (fun _ h9 => h9) rfl hin rfl rfl rfl rfl (Nat.le_of_ble_eq_true rfl) dX9_init_48 (fun H21 l22 hP hD hS => ?_)
  have hP : va_P D vwCl [(h0, .inr (9, [.ref h1, .ref h2, .ref h3, .ref q1, .ref q5, .ref q9, .ref q13, .int 0, .int 0])), (q1, .inl (c0, 36, .inl (fun _ => 0))), (q5, .inl (c0, 6, .inl (fun _ => 0))), (q9, .inl (c0, 6, .inl (fun _ => 0))), (q13, .inl (c0, 6, .inl (fun _ => 0)))] H21 := hP
  have hD : va_D A [(h0, .inr (9, [.ref h1, .ref h2, .ref h3, .ref q1, .ref q5, .ref q9, .ref q13, .int 0, .int 0])), (q1, .inl (c0, 36, .inl (fun _ => 0))), (q5, .inl (c0, 6, .inl (fun _ => 0))), (q9, .inl (c0, 6, .inl (fun _ => 0))), (q13, .inl (c0, 6, .inl (fun _ => 0)))] := hD
  refine W.widen (k := 4) (n := 54) (Nat.le_of_ble_eq_true rfl) (Nat.le_of_ble_eq_true rfl) ?_
  exact W.vret hx hb hr (fun t ht hW => ⟨⟨fun i => [q1, q5, q9, q13].getD i 0, rfl, trivial, by rw [ht]; exact hP, hD⟩, hS.F ht⟩) hS.2.2 dX9_init_51
set_option maxRecDepth 100000 in
set_option maxHeartbeats 4000000 in
theorem ct_X2_init (l : Launch) (D : va_G) (c0 c1 c2 c3 c4 : ClassId) (h0 : Nat) (h1 h2 h3 : Nat) (sz : Nat) : Met l YX2_init.1 (li_wy YX2_init) ({ frames := 1, cells := 2, slots := 1131, locals := 60 } : Room) (va_Pc [.ref h0, .ref h1, .ref h2, .ref h3] (fun U => ct_pre D c0 c1 c2 c3 c4 [(h0, .inr (2, [.null, .null, .null, .null, .null, .int 0, .int 0, .int 0, .int 0]))] sz U)) (va_Qv (fun _ : Nat → Nat => True) (fun u t => va_P D vwCl [(h0, .inr (2, [.ref h1, .ref h2, .ref h3, .ref (u 0), .ref (u 1), .int 0, .int 0, .int 0, .int 0])), ((u 0), .inl (c0, 6, .inl (fun _ => 0))), ((u 1), .inl (c1, 1125, .inr (.inl (fun _ => 0))))] t.heap ∧ va_D (va_A [(h0, .inr (2, [.null, .null, .null, .null, .null, .int 0, .int 0, .int 0, .int 0]))] sz) [(h0, .inr (2, [.ref h1, .ref h2, .ref h3, .ref (u 0), .ref (u 1), .int 0, .int 0, .int 0, .int 0])), ((u 0), .inl (c0, 6, .inl (fun _ => 0))), ((u 1), .inl (c1, 1125, .inr (.inl (fun _ => 0))))]) (va_A [(h0, .inr (2, [.null, .null, .null, .null, .null, .int 0, .int 0, .int 0, .int 0]))] sz)) 2 1131 (va_A [(h0, .inr (2, [.null, .null, .null, .null, .null, .int 0, .int 0, .int 0, .int 0]))] sz) := by
  refine Met.ofW (cc := YX2_init.2.1) (maxL := YX2_init.2.2.1) (ret := none) (by decide +kernel) rfl ?_
  intro p e s m args below meth c s₁ B hml hv
  obtain ⟨rfl, hsz, hP, hK, hD0, hN, hAO⟩ := hv
  have hx := B.exec
  have hb := B.bytes
  have hr := B.returns
  have hts := atoms_spec (ws := li_wy YX2_init) B.pre
  have hw : ∀ w ∈ li_ws, w.before #[.ref h0, .ref h1, .ref h2, .ref h3] s = true := fun w h => hts w (List.mem_cons_of_mem _ h)
  have hown : s.vm.findClass YX2_init.1.cls = some m.cls := findClass_of_methodNamed B.named
  have hlocks := B.notSynchronized
  have hin : meth.name = "<init>" := (name_of_methodNamed B.named B.method).1
  subst hsz
  have hD := hD0.self (sz := s.heap.size)
  generalize hAe : va_A [(h0, .inr (2, [.null, .null, .null, .null, .null, .int 0, .int 0, .int 0, .int 0]))] s.heap.size = A at hD ⊢
  have hA : ∀ q : Nat, s.heap.size ≤ q → A q := fun q h => by rw [← hAe]; exact Or.inr h
  have hS : va_S A s.heap s.heap [] := va_S.rf
  have hP : va_P D vwCl [(h0, .inr (2, [.null, .null, .null, .null, .null, .int 0, .int 0, .int 0, .int 0]))] s.heap := hP
  let tys : List (ClassId × FieldType) := [(c0, .int), (c1, .long), (c2, .byte), (c3, .boolean), (c4, .object "ClockForTalk$Ledger")]
  have hl := lv_entry ([.ref h0, .ref h1, .ref h2, .ref h3]) (n := 4) (Nat.le_of_ble_eq_true rfl)
  rw [lg_entry_eq]
  generalize (lg_sl ([.ref h0, .ref h1, .ref h2, .ref h3]) ++ List.replicate (4 - (lg_sl ([.ref h0, .ref h1, .ref h2, .ref h3])).length) Slot.unset).toArray = ls at hl ⊢
  have hl : lv_has ls 4 [(0, .ref h0), (1, .ref h1), (2, .ref h2), (3, .ref h3)] := hl
  refine lv_aload_n hx hb dX2_init_0 rfl (lv_at hl 0 rfl) ?_
  refine W.objInit hx hb hown (hw _ w_440) (hw _ w_130) (hw _ w_objcode) rfl (by rw [hml]; exact hl.1) rfl dX2_init_1 (Nat.le_of_ble_eq_true rfl) (Nat.le_of_ble_eq_true rfl) ?_
  refine W.eq (g2 := F0 m 4 ls []) rfl ?_
  refine lv_aload_n hx hb dX2_init_4 rfl (lv_at hl 0 rfl) ?_
  refine lv_bipush (v := 6) hx hb dX2_init_5 (by decide) ?_
  refine va_newa (atype := .int) (ty := .int) (N' := 6) (a0 := (6, .inl (fun _ => 0))) hx hb (hw _ w_152) rfl hK hP hD hS hA (fun _ => rfl) (by decide) (by decide) (by decide) (Nat.le_of_ble_eq_true rfl) (Nat.le_of_ble_eq_true rfl) dX2_init_7 (fun q1 cA H2 hK hP hD hS => ?_)
  obtain rfl : c0 = cA := (ct_uni hK 0 5 rfl rfl (fun C => by simp)).symm
  have hK := hK.sub (tys' := tys) [0, 1, 2, 3, 4] rfl
  have hP : va_P D vwCl [(h0, .inr (2, [.null, .null, .null, .null, .null, .int 0, .int 0, .int 0, .int 0])), (q1, .inl (c0, 6, .inl (fun _ => 0)))] H2 := hP
  have hD : va_D A [(h0, .inr (2, [.null, .null, .null, .null, .null, .int 0, .int 0, .int 0, .int 0])), (q1, .inl (c0, 6, .inl (fun _ => 0)))] := hD
  refine W.widen (k := 1) (n := 6) (Nat.le_of_ble_eq_true rfl) (Nat.le_of_ble_eq_true rfl) ?_
  refine va_putF (D := D) (ci := 2) (v := .ref q1) (C := RX2) (T := TX2) (N := 9) hx hb hw li_in2 tyX2 tyX2_ok nmX2 hown hK hP hD hS 0 rfl rfl 3 (by decide) (hw _ w_444) (fun _ h9 => h9) rfl hin rfl rfl rfl rfl (Nat.le_of_ble_eq_true rfl) dX2_init_9 (fun H3 l4 hP hD hS => ?_)
  have hP : va_P D vwCl [(h0, .inr (2, [.null, .null, .null, .ref q1, .null, .int 0, .int 0, .int 0, .int 0])), (q1, .inl (c0, 6, .inl (fun _ => 0)))] H3 := hP
  have hD : va_D A [(h0, .inr (2, [.null, .null, .null, .ref q1, .null, .int 0, .int 0, .int 0, .int 0])), (q1, .inl (c0, 6, .inl (fun _ => 0)))] := hD
  refine lv_aload_n hx hb dX2_init_12 rfl (lv_at hl 0 rfl) ?_
  refine lv_sipush (v := 1125) hx hb dX2_init_13 (by decide) ?_
  refine va_newa (atype := .long) (ty := .long) (N' := 1125) (a0 := (1125, .inr (.inl (fun _ => 0)))) hx hb (hw _ w_279) rfl hK hP hD hS hA (fun _ => rfl) (by decide) (by decide) (by decide) (Nat.le_of_ble_eq_true rfl) (Nat.le_of_ble_eq_true rfl) dX2_init_16 (fun q5 cA H6 hK hP hD hS => ?_)
  obtain rfl : c1 = cA := (ct_uni hK 1 5 rfl rfl (fun C => by simp)).symm
  have hK := hK.sub (tys' := tys) [0, 1, 2, 3, 4] rfl
  have hP : va_P D vwCl [(h0, .inr (2, [.null, .null, .null, .ref q1, .null, .int 0, .int 0, .int 0, .int 0])), (q1, .inl (c0, 6, .inl (fun _ => 0))), (q5, .inl (c1, 1125, .inr (.inl (fun _ => 0))))] H6 := hP
  have hD : va_D A [(h0, .inr (2, [.null, .null, .null, .ref q1, .null, .int 0, .int 0, .int 0, .int 0])), (q1, .inl (c0, 6, .inl (fun _ => 0))), (q5, .inl (c1, 1125, .inr (.inl (fun _ => 0))))] := hD
  refine W.widen (k := 2) (n := 1131) (Nat.le_of_ble_eq_true rfl) (Nat.le_of_ble_eq_true rfl) ?_
  refine va_putF (D := D) (ci := 2) (v := .ref q5) (C := RX2) (T := TX2) (N := 9) hx hb hw li_in2 tyX2 tyX2_ok nmX2 hown hK hP hD hS 0 rfl rfl 4 (by decide) (hw _ w_445) (fun _ h9 => h9) rfl hin rfl rfl rfl rfl (Nat.le_of_ble_eq_true rfl) dX2_init_18 (fun H7 l8 hP hD hS => ?_)
  have hP : va_P D vwCl [(h0, .inr (2, [.null, .null, .null, .ref q1, .ref q5, .int 0, .int 0, .int 0, .int 0])), (q1, .inl (c0, 6, .inl (fun _ => 0))), (q5, .inl (c1, 1125, .inr (.inl (fun _ => 0))))] H7 := hP
  have hD : va_D A [(h0, .inr (2, [.null, .null, .null, .ref q1, .ref q5, .int 0, .int 0, .int 0, .int 0])), (q1, .inl (c0, 6, .inl (fun _ => 0))), (q5, .inl (c1, 1125, .inr (.inl (fun _ => 0))))] := hD
  refine lv_aload_n hx hb dX2_init_21 rfl (lv_at hl 0 rfl) ?_
  refine lv_aload_n hx hb dX2_init_22 rfl (lv_at hl 1 rfl) ?_
  refine va_putF (D := D) (ci := 2) (v := .ref h1) (C := RX2) (T := TX2) (N := 9) hx hb hw li_in2 tyX2 tyX2_ok nmX2 hown hK hP hD hS 0 rfl rfl 0 (by decide) (hw _ w_441) (fun _ h9 => h9) rfl hin rfl rfl rfl rfl (Nat.le_of_ble_eq_true rfl) dX2_init_23 (fun H9 l10 hP hD hS => ?_)
  have hP : va_P D vwCl [(h0, .inr (2, [.ref h1, .null, .null, .ref q1, .ref q5, .int 0, .int 0, .int 0, .int 0])), (q1, .inl (c0, 6, .inl (fun _ => 0))), (q5, .inl (c1, 1125, .inr (.inl (fun _ => 0))))] H9 := hP
  have hD : va_D A [(h0, .inr (2, [.ref h1, .null, .null, .ref q1, .ref q5, .int 0, .int 0, .int 0, .int 0])), (q1, .inl (c0, 6, .inl (fun _ => 0))), (q5, .inl (c1, 1125, .inr (.inl (fun _ => 0))))] := hD
  refine lv_aload_n hx hb dX2_init_26 rfl (lv_at hl 0 rfl) ?_
  refine lv_aload_n hx hb dX2_init_27 rfl (lv_at hl 2 rfl) ?_
  refine va_putF (D := D) (ci := 2) (v := .ref h2) (C := RX2) (T := TX2) (N := 9) hx hb hw li_in2 tyX2 tyX2_ok nmX2 hown hK hP hD hS 0 rfl rfl 1 (by decide) (hw _ w_442) (fun _ h9 => h9) rfl hin rfl rfl rfl rfl (Nat.le_of_ble_eq_true rfl) dX2_init_28 (fun H11 l12 hP hD hS => ?_)
  have hP : va_P D vwCl [(h0, .inr (2, [.ref h1, .ref h2, .null, .ref q1, .ref q5, .int 0, .int 0, .int 0, .int 0])), (q1, .inl (c0, 6, .inl (fun _ => 0))), (q5, .inl (c1, 1125, .inr (.inl (fun _ => 0))))] H11 := hP
  have hD : va_D A [(h0, .inr (2, [.ref h1, .ref h2, .null, .ref q1, .ref q5, .int 0, .int 0, .int 0, .int 0])), (q1, .inl (c0, 6, .inl (fun _ => 0))), (q5, .inl (c1, 1125, .inr (.inl (fun _ => 0))))] := hD
  refine lv_aload_n hx hb dX2_init_31 rfl (lv_at hl 0 rfl) ?_
  refine lv_aload_n hx hb dX2_init_32 rfl (lv_at hl 3 rfl) ?_
  refine va_putF (D := D) (ci := 2) (v := .ref h3) (C := RX2) (T := TX2) (N := 9) hx hb hw li_in2 tyX2 tyX2_ok nmX2 hown hK hP hD hS 0 rfl rfl 2 (by decide) (hw _ w_443) (fun _ h9 => h9) rfl hin rfl rfl rfl rfl (Nat.le_of_ble_eq_true rfl) dX2_init_33 (fun H13 l14 hP hD hS => ?_)
  have hP : va_P D vwCl [(h0, .inr (2, [.ref h1, .ref h2, .ref h3, .ref q1, .ref q5, .int 0, .int 0, .int 0, .int 0])), (q1, .inl (c0, 6, .inl (fun _ => 0))), (q5, .inl (c1, 1125, .inr (.inl (fun _ => 0))))] H13 := hP
  have hD : va_D A [(h0, .inr (2, [.ref h1, .ref h2, .ref h3, .ref q1, .ref q5, .int 0, .int 0, .int 0, .int 0])), (q1, .inl (c0, 6, .inl (fun _ => 0))), (q5, .inl (c1, 1125, .inr (.inl (fun _ => 0))))] := hD
  refine W.widen (k := 2) (n := 1131) (Nat.le_of_ble_eq_true rfl) (Nat.le_of_ble_eq_true rfl) ?_
  exact W.vret hx hb hr (fun t ht hW => ⟨⟨fun i => [q1, q5].getD i 0, rfl, trivial, by rw [ht]; exact hP, hD⟩, hS.F ht⟩) hS.2.2 dX2_init_36
