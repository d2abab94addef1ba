def ct_pre (D : va_G) (c0 c1 c2 c3 c4 : ClassId) (w : va_W) (sz : Nat) (U : State) : Prop := U.heap.size = sz ∧ va_P D vwCl w U.heap ∧ va_K D vwCl [(c0, .int), (c1, .long), (c2, .byte), (c3, .boolean), (c4, .object "ClockForTalk$Ledger")] U ∧ va_D (fun _ => True) w ∧ (∀ w ∈ li_nw, va_Nw w U) ∧ va_AO "ClockForTalk$Ledger" U
theorem ct_blind {D : va_G} {c0 c1 c2 c3 c4 : ClassId} {w : va_W} {sz : Nat} {av : List Value} {a : Array Value} {U : State} {g : JFrame} {mk : MethodId} (q : va_Pc av (fun U => ct_pre D c0 c1 c2 c3 c4 w sz U) a U) : va_Pc av (fun U => ct_pre D c0 c1 c2 c3 c4 w sz U) a (U.calling g mk a) := by
  obtain ⟨q0, q1, qP, qK, qD, qN, qO⟩ := q
  exact ⟨q0, q1, qP, va_K.moved (u := U) (U := U.calling g mk a) (Vm.Alike.refl U.vm) qK, qD, fun w hw => va_Nw.same (u := U) (U := U.calling g mk a) (li_nw_on (List.all_eq_true.mp li_nw_ok w hw)) rfl (qN w hw), va_AO.moved (u := U) (U := U.calling g mk a) (Vm.Alike.refl U.vm) qO⟩
theorem ct_uni {D : va_G} {cl : List vw_C} {tys : List (ClassId × FieldType)} {U : State} {a b : ClassId} {ty : FieldType} (h : va_K D cl tys U) (i j : Nat) (hi : tys[i]? = some (a, ty)) (hj : tys[j]? = some (b, ty)) (ho : ∀ C, ty ≠ .object C) : b = a := by
  have h1 := (h.2 i _ hi).2
  have h2 := (h.2 j _ hj).2
  unfold va_RA at h1 h2
  cases ty with
  | object C => exact absurd rfl (ho C)
  | _ => exact Option.some.inj (h2.symm.trans h1)
theorem ct_uniO {D : va_G} {cl : List vw_C} {tys : List (ClassId × FieldType)} {U : State} {a b : ClassId} {C : String} (h : va_K D cl tys U) (i j : Nat) (hi : tys[i]? = some (a, .object C)) (hj : tys[j]? = some (b, .object C)) : b = a := by
  obtain ⟨k1, m1, x1, x2, x3, x4⟩ := (h.2 i _ hi).2
  obtain ⟨k2, m2, y1, y2, y3, y4⟩ := (h.2 j _ hj).2
  exact Option.some.inj (y4.symm.trans x4)
theorem w_objcode : (Cond.code Lib.objectInit ⟨#[0xb1]⟩ 1 none) ∈ li_ws := li_mem 131 (by decide +kernel) (by decide +kernel)
theorem w_130 : (Jvm.Cond.instanceMethod ({ cls := "java/lang/Object", name := "<init>", desc := "()V" } : Jvm.MethodName)) ∈ li_ws := li_mem 130 (by decide +kernel) (by decide +kernel)
theorem w_137 : (Jvm.Cond.methodLink "ClockForTalk$Text" (3 : Nat) ({ cls := "java/lang/Object", name := "<init>", desc := "()V" } : Jvm.MethodName)) ∈ li_ws := li_mem 137 (by decide +kernel) (by decide +kernel)
theorem w_152 : (Jvm.Cond.arrayClass Jvm.ClassFile.FieldType.int) ∈ li_ws := li_mem 152 (by decide +kernel) (by decide +kernel)
theorem w_158 : (Jvm.Cond.methodLink "ClockForTalk$Row" (3 : Nat) ({ cls := "java/lang/Object", name := "<init>", desc := "()V" } : Jvm.MethodName)) ∈ li_ws := li_mem 158 (by decide +kernel) (by decide +kernel)
theorem w_173 : (Jvm.Cond.methodLink "ClockForTalk$Town" (3 : Nat) ({ cls := "java/lang/Object", name := "<init>", desc := "()V" } : Jvm.MethodName)) ∈ li_ws := li_mem 173 (by decide +kernel) (by decide +kernel)
theorem w_228 : (Jvm.Cond.methodLink "ClockForTalk$Ledger" (3 : Nat) ({ cls := "java/lang/Object", name := "<init>", desc := "()V" } : Jvm.MethodName)) ∈ li_ws := li_mem 228 (by decide +kernel) (by decide +kernel)
theorem w_279 : (Jvm.Cond.arrayClass Jvm.ClassFile.FieldType.long) ∈ li_ws := li_mem 279 (by decide +kernel) (by decide +kernel)
theorem w_314 : (Jvm.Cond.methodLink "ClockForTalk$Rule" (3 : Nat) ({ cls := "java/lang/Object", name := "<init>", desc := "()V" } : Jvm.MethodName)) ∈ li_ws := li_mem 314 (by decide +kernel) (by decide +kernel)
theorem w_334 : (Jvm.Cond.methodLink "ClockForTalk$Wordings" (3 : Nat) ({ cls := "java/lang/Object", name := "<init>", desc := "()V" } : Jvm.MethodName)) ∈ li_ws := li_mem 334 (by decide +kernel) (by decide +kernel)
theorem dX7_init_0 : decode cX7_init 0 = .ok (.aload_n 0, 1) := by decide +kernel
theorem dX7_init_1 : decode cX7_init 1 = .ok (.invokespecial 3, 3) := by decide +kernel
theorem dX7_init_4 : decode cX7_init 4 = .ok (.aload_n 0, 1) := by decide +kernel
theorem dX7_init_5 : decode cX7_init 5 = .ok (.bipush 80, 2) := by decide +kernel
theorem dX7_init_7 : decode cX7_init 7 = .ok (.newarray .int, 2) := by decide +kernel
theorem dX7_init_9 : decode cX7_init 9 = .ok (.putfield 9, 3) := by decide +kernel
theorem dX7_init_12 : decode cX7_init 12 = .ok (.return_, 1) := by decide +kernel
abbrev YX7_init : li_Y := (yX7_init, cX7_init, 1, none)
theorem dX5_init_0 : decode cX5_init 0 = .ok (.aload_n 0, 1) := by decide +kernel
theorem dX5_init_1 : decode cX5_init 1 = .ok (.invokespecial 3, 3) := by decide +kernel
theorem dX5_init_4 : decode cX5_init 4 = .ok (.aload_n 0, 1) := by decide +kernel
theorem dX5_init_5 : decode cX5_init 5 = .ok (.bipush 14, 2) := by decide +kernel
theorem dX5_init_7 : decode cX5_init 7 = .ok (.newarray .int, 2) := by decide +kernel
theorem dX5_init_9 : decode cX5_init 9 = .ok (.putfield 9, 3) := by decide +kernel
theorem dX5_init_12 : decode cX5_init 12 = .ok (.return_, 1) := by decide +kernel
abbrev YX5_init : li_Y := (yX5_init, cX5_init, 1, none)
theorem dX8_init_0 : decode cX8_init 0 = .ok (.aload_n 0, 1) := by decide +kernel
theorem dX8_init_1 : decode cX8_init 1 = .ok (.invokespecial 3, 3) := by decide +kernel
theorem dX8_init_4 : decode cX8_init 4 = .ok (.aload_n 0, 1) := by decide +kernel
theorem dX8_init_5 : decode cX8_init 5 = .ok (.bipush 6, 2) := by decide +kernel
theorem dX8_init_7 : decode cX8_init 7 = .ok (.newarray .int, 2) := by decide +kernel
theorem dX8_init_9 : decode cX8_init 9 = .ok (.putfield 9, 3) := by decide +kernel
theorem dX8_init_12 : decode cX8_init 12 = .ok (.aload_n 0, 1) := by decide +kernel
theorem dX8_init_13 : decode cX8_init 13 = .ok (.bipush 6, 2) := by decide +kernel
theorem dX8_init_15 : decode cX8_init 15 = .ok (.newarray .int, 2) := by decide +kernel
theorem dX8_init_17 : decode cX8_init 17 = .ok (.putfield 15, 3) := by decide +kernel
theorem dX8_init_20 : decode cX8_init 20 = .ok (.aload_n 0, 1) := by decide +kernel
theorem dX8_init_21 : decode cX8_init 21 = .ok (.bipush 8, 2) := by decide +kernel
theorem dX8_init_23 : decode cX8_init 23 = .ok (.newarray .int, 2) := by decide +kernel
theorem dX8_init_25 : decode cX8_init 25 = .ok (.putfield 18, 3) := by decide +kernel
theorem dX8_init_28 : decode cX8_init 28 = .ok (.aload_n 0, 1) := by decide +kernel
theorem dX8_init_29 : decode cX8_init 29 = .ok (.bipush 8, 2) := by decide +kernel
theorem dX8_init_31 : decode cX8_init 31 = .ok (.newarray .int, 2) := by decide +kernel
theorem dX8_init_33 : decode cX8_init 33 = .ok (.putfield 21, 3) := by decide +kernel
theorem dX8_init_36 : decode cX8_init 36 = .ok (.aload_n 0, 1) := by decide +kernel
theorem dX8_init_37 : decode cX8_init 37 = .ok (.bipush 8, 2) := by decide +kernel
theorem dX8_init_39 : decode cX8_init 39 = .ok (.newarray .int, 2) := by decide +kernel
theorem dX8_init_41 : decode cX8_init 41 = .ok (.putfield 24, 3) := by decide +kernel
theorem dX8_init_44 : decode cX8_init 44 = .ok (.aload_n 0, 1) := by decide +kernel
theorem dX8_init_45 : decode cX8_init 45 = .ok (.bipush 8, 2) := by decide +kernel
theorem dX8_init_47 : decode cX8_init 47 = .ok (.newarray .int, 2) := by decide +kernel
theorem dX8_init_49 : decode cX8_init 49 = .ok (.putfield 27, 3) := by decide +kernel
theorem dX8_init_52 : decode cX8_init 52 = .ok (.aload_n 0, 1) := by decide +kernel
theorem dX8_init_53 : decode cX8_init 53 = .ok (.bipush 8, 2) := by decide +kernel
theorem dX8_init_55 : decode cX8_init 55 = .ok (.newarray .int, 2) := by decide +kernel
theorem dX8_init_57 : decode cX8_init 57 = .ok (.putfield 30, 3) := by decide +kernel
theorem dX8_init_60 : decode cX8_init 60 = .ok (.return_, 1) := by decide +kernel
abbrev YX8_init : li_Y := (yX8_init, cX8_init, 1, none)
theorem dX4_init_0 : decode cX4_init 0 = .ok (.aload_n 0, 1) := by decide +kernel
theorem dX4_init_1 : decode cX4_init 1 = .ok (.invokespecial 3, 3) := by decide +kernel
theorem dX4_init_4 : decode cX4_init 4 = .ok (.aload_n 0, 1) := by decide +kernel
theorem dX4_init_5 : decode cX4_init 5 = .ok (.bipush 6, 2) := by decide +kernel
theorem dX4_init_7 : decode cX4_init 7 = .ok (.newarray .int, 2) := by decide +kernel
theorem dX4_init_9 : decode cX4_init 9 = .ok (.putfield 9, 3) := by decide +kernel
theorem dX4_init_12 : decode cX4_init 12 = .ok (.aload_n 0, 1) := by decide +kernel
theorem dX4_init_13 : decode cX4_init 13 = .ok (.bipush 6, 2) := by decide +kernel
theorem dX4_init_15 : decode cX4_init 15 = .ok (.newarray .int, 2) := by decide +kernel
theorem dX4_init_17 : decode cX4_init 17 = .ok (.putfield 15, 3) := by decide +kernel
theorem dX4_init_20 : decode cX4_init 20 = .ok (.aload_n 0, 1) := by decide +kernel
theorem dX4_init_21 : decode cX4_init 21 = .ok (.bipush 6, 2) := by decide +kernel
theorem dX4_init_23 : decode cX4_init 23 = .ok (.newarray .long, 2) := by decide +kernel
theorem dX4_init_25 : decode cX4_init 25 = .ok (.putfield 18, 3) := by decide +kernel
theorem dX4_init_28 : decode cX4_init 28 = .ok (.aload_n 0, 1) := by decide +kernel
theorem dX4_init_29 : decode cX4_init 29 = .ok (.bipush 6, 2) := by decide +kernel
theorem dX4_init_31 : decode cX4_init 31 = .ok (.newarray .int, 2) := by decide +kernel
theorem dX4_init_33 : decode cX4_init 33 = .ok (.putfield 22, 3) := by decide +kernel
theorem dX4_init_36 : decode cX4_init 36 = .ok (.aload_n 0, 1) := by decide +kernel
theorem dX4_init_37 : decode cX4_init 37 = .ok (.bipush 6, 2) := by decide +kernel
theorem dX4_init_39 : decode cX4_init 39 = .ok (.newarray .int, 2) := by decide +kernel
theorem dX4_init_41 : decode cX4_init 41 = .ok (.putfield 25, 3) := by decide +kernel
theorem dX4_init_44 : decode cX4_init 44 = .ok (.aload_n 0, 1) := by decide +kernel
theorem dX4_init_45 : decode cX4_init 45 = .ok (.bipush 6, 2) := by decide +kernel
theorem dX4_init_47 : decode cX4_init 47 = .ok (.newarray .int, 2) := by decide +kernel
theorem dX4_init_49 : decode cX4_init 49 = .ok (.putfield 28, 3) := by decide +kernel
theorem dX4_init_52 : decode cX4_init 52 = .ok (.aload_n 0, 1) := by decide +kernel
theorem dX4_init_53 : decode cX4_init 53 = .ok (.bipush 6, 2) := by decide +kernel
theorem dX4_init_55 : decode cX4_init 55 = .ok (.newarray .long, 2) := by decide +kernel
theorem dX4_init_57 : decode cX4_init 57 = .ok (.putfield 31, 3) := by decide +kernel
theorem dX4_init_60 : decode cX4_init 60 = .ok (.return_, 1) := by decide +kernel
abbrev YX4_init : li_Y := (yX4_init, cX4_init, 1, none)
theorem dX6_init_0 : decode cX6_init 0 = .ok (.aload_n 0, 1) := by decide +kernel
theorem dX6_init_1 : decode cX6_init 1 = .ok (.invokespecial 3, 3) := by decide +kernel
theorem dX6_init_4 : decode cX6_init 4 = .ok (.aload_n 0, 1) := by decide +kernel
theorem dX6_init_5 : decode cX6_init 5 = .ok (.bipush 80, 2) := by decide +kernel
theorem dX6_init_7 : decode cX6_init 7 = .ok (.newarray .int, 2) := by decide +kernel
theorem dX6_init_9 : decode cX6_init 9 = .ok (.putfield 9, 3) := by decide +kernel
theorem dX6_init_12 : decode cX6_init 12 = .ok (.aload_n 0, 1) := by decide +kernel
theorem dX6_init_13 : decode cX6_init 13 = .ok (.bipush 80, 2) := by decide +kernel
theorem dX6_init_15 : decode cX6_init 15 = .ok (.newarray .int, 2) := by decide +kernel
theorem dX6_init_17 : decode cX6_init 17 = .ok (.putfield 15, 3) := by decide +kernel
theorem dX6_init_20 : decode cX6_init 20 = .ok (.aload_n 0, 1) := by decide +kernel
theorem dX6_init_21 : decode cX6_init 21 = .ok (.bipush 6, 2) := by decide +kernel
theorem dX6_init_23 : decode cX6_init 23 = .ok (.newarray .int, 2) := by decide +kernel
theorem dX6_init_25 : decode cX6_init 25 = .ok (.putfield 18, 3) := by decide +kernel
theorem dX6_init_28 : decode cX6_init 28 = .ok (.return_, 1) := by decide +kernel
abbrev YX6_init : li_Y := (yX6_init, cX6_init, 1, none)
theorem dX10_init_0 : decode cX10_init 0 = .ok (.aload_n 0, 1) := by decide +kernel
theorem dX10_init_1 : decode cX10_init 1 = .ok (.invokespecial 3, 3) := by decide +kernel
theorem dX10_init_4 : decode cX10_init 4 = .ok (.aload_n 0, 1) := by decide +kernel
theorem dX10_init_5 : decode cX10_init 5 = .ok (.bipush 30, 2) := by decide +kernel
theorem dX10_init_7 : decode cX10_init 7 = .ok (.newarray .int, 2) := by decide +kernel
theorem dX10_init_9 : decode cX10_init 9 = .ok (.putfield 11, 3) := by decide +kernel
theorem dX10_init_12 : decode cX10_init 12 = .ok (.aload_n 0, 1) := by decide +kernel
theorem dX10_init_13 : decode cX10_init 13 = .ok (.bipush 30, 2) := by decide +kernel
theorem dX10_init_15 : decode cX10_init 15 = .ok (.newarray .int, 2) := by decide +kernel
theorem dX10_init_17 : decode cX10_init 17 = .ok (.putfield 15, 3) := by decide +kernel
theorem dX10_init_20 : decode cX10_init 20 = .ok (.aload_n 0, 1) := by decide +kernel
theorem dX10_init_21 : decode cX10_init 21 = .ok (.bipush 14, 2) := by decide +kernel
theorem dX10_init_23 : decode cX10_init 23 = .ok (.newarray .int, 2) := by decide +kernel
theorem dX10_init_25 : decode cX10_init 25 = .ok (.putfield 18, 3) := by decide +kernel
theorem dX10_init_28 : decode cX10_init 28 = .ok (.aload_n 0, 1) := by decide +kernel
theorem dX10_init_29 : decode cX10_init 29 = .ok (.sipush 225, 3) := by decide +kernel
theorem dX10_init_32 : decode cX10_init 32 = .ok (.newarray .int, 2) := by decide +kernel
theorem dX10_init_34 : decode cX10_init 34 = .ok (.putfield 21, 3) := by decide +kernel
theorem dX10_init_37 : decode cX10_init 37 = .ok (.aload_n 0, 1) := by decide +kernel
theorem dX10_init_38 : decode cX10_init 38 = .ok (.bipush 15, 2) := by decide +kernel
theorem dX10_init_40 : decode cX10_init 40 = .ok (.newarray .int, 2) := by decide +kernel
theorem dX10_init_42 : decode cX10_init 42 = .ok (.putfield 24, 3) := by decide +kernel
theorem dX10_init_45 : decode cX10_init 45 = .ok (.aload_n 0, 1) := by decide +kernel
theorem dX10_init_46 : decode cX10_init 46 = .ok (.sipush 225, 3) := by decide +kernel
theorem dX10_init_49 : decode cX10_init 49 = .ok (.newarray .int, 2) := by decide +kernel
theorem dX10_init_51 : decode cX10_init 51 = .ok (.putfield 27, 3) := by decide +kernel
theorem dX10_init_54 : decode cX10_init 54 = .ok (.aload_n 0, 1) := by decide +kernel
theorem dX10_init_55 : decode cX10_init 55 = .ok (.bipush 15, 2) := by decide +kernel
theorem dX10_init_57 : decode cX10_init 57 = .ok (.newarray .int, 2) := by decide +kernel
theorem dX10_init_59 : decode cX10_init 59 = .ok (.putfield 30, 3) := by decide +kernel
theorem dX10_init_62 : decode cX10_init 62 = .ok (.return_, 1) := by decide +kernel
abbrev YX10_init : li_Y := (yX10_init, cX10_init, 1, none)
set_option maxRecDepth 100000 in
set_option maxHeartbeats 4000000 in
theorem ct_X7_init (l : Launch) (D : va_G) (c0 c1 c2 c3 c4 : ClassId) (h0 : Nat) (sz : Nat) : Met l YX7_init.1 (li_wy YX7_init) ({ frames := 1, cells := 1, slots := 80, locals := 60 } : Room) (va_Pc [.ref h0] (fun U => ct_pre D c0 c1 c2 c3 c4 [(h0, .inr (7, [.null, .int 0, .int 0]))] sz U)) (va_Qv (fun _ : Nat → Nat => True) (fun u t => va_P D vwCl [(h0, .inr (7, [.ref (u 0), .int 0, .int 0])), ((u 0), .inl (c0, 80, .inl (fun _ => 0)))] t.heap ∧ va_D (va_A [(h0, .inr (7, [.null, .int 0, .int 0]))] sz) [(h0, .inr (7, [.ref (u 0), .int 0, .int 0])), ((u 0), .inl (c0, 80, .inl (fun _ => 0)))]) (va_A [(h0, .inr (7, [.null, .int 0, .int 0]))] sz)) 1 80 (va_A [(h0, .inr (7, [.null, .int 0, .int 0]))] sz) := by
  refine Met.ofW (cc := YX7_init.2.1) (maxL := YX7_init.2.2.1) (ret := none) (by decide +kernel) rfl ?_
  intro p e s m args below meth c s₁ B hml hv
  obtain ⟨rfl, hsz, hP, hK, hD0, hN, hAO⟩ := hv
  have hx := B.exec
  have hb := B.bytes
  have hr := B.returns
  have hts := atoms_spec (ws := li_wy YX7_init) B.pre
  have hw : ∀ w ∈ li_ws, w.before #[.ref h0] s = true := fun w h => hts w (List.mem_cons_of_mem _ h)
  have hown : s.vm.findClass YX7_init.1.cls = some m.cls := findClass_of_methodNamed B.named
  have hlocks := B.notSynchronized
  have hin : meth.name = "<init>" := (name_of_methodNamed B.named B.method).1
  subst hsz
  have hD := hD0.self (sz := s.heap.size)
  generalize hAe : va_A [(h0, .inr (7, [.null, .int 0, .int 0]))] s.heap.size = A at hD ⊢
  have hA : ∀ q : Nat, s.heap.size ≤ q → A q := fun q h => by rw [← hAe]; exact Or.inr h
  have hS : va_S A s.heap s.heap [] := va_S.rf
  have hP : va_P D vwCl [(h0, .inr (7, [.null, .int 0, .int 0]))] s.heap := hP
  let tys : List (ClassId × FieldType) := [(c0, .int), (c1, .long), (c2, .byte), (c3, .boolean), (c4, .object "ClockForTalk$Ledger")]
  have hl := lv_entry ([.ref h0]) (n := 1) (Nat.le_of_ble_eq_true rfl)
  rw [lg_entry_eq]
  generalize (lg_sl ([.ref h0]) ++ List.replicate (1 - (lg_sl ([.ref h0])).length) Slot.unset).toArray = ls at hl ⊢
  have hl : lv_has ls 1 [(0, .ref h0)] := hl
  refine lv_aload_n hx hb dX7_init_0 rfl (lv_at hl 0 rfl) ?_
  refine W.objInit hx hb hown (hw _ w_137) (hw _ w_130) (hw _ w_objcode) rfl (by rw [hml]; exact hl.1) rfl dX7_init_1 (Nat.le_of_ble_eq_true rfl) (Nat.le_of_ble_eq_true rfl) ?_
  refine W.eq (g2 := F0 m 4 ls []) rfl ?_
  refine lv_aload_n hx hb dX7_init_4 rfl (lv_at hl 0 rfl) ?_
  refine lv_bipush (v := 80) hx hb dX7_init_5 (by decide) ?_
  refine va_newa (atype := .int) (ty := .int) (N' := 80) (a0 := (80, .inl (fun _ => 0))) hx hb (hw _ w_152) rfl hK hP hD hS hA (fun _ => rfl) (by decide) (by decide) (by decide) (Nat.le_of_ble_eq_true rfl) (Nat.le_of_ble_eq_true rfl) dX7_init_7 (fun q1 cA H2 hK hP hD hS => ?_)
  obtain rfl : c0 = cA := (ct_uni hK 0 5 rfl rfl (fun C => by simp)).symm
  have hK := hK.sub (tys' := tys) [0, 1, 2, 3, 4] rfl
  have hP : va_P D vwCl [(h0, .inr (7, [.null, .int 0, .int 0])), (q1, .inl (c0, 80, .inl (fun _ => 0)))] H2 := hP
  have hD : va_D A [(h0, .inr (7, [.null, .int 0, .int 0])), (q1, .inl (c0, 80, .inl (fun _ => 0)))] := hD
  refine W.widen (k := 1) (n := 80) (Nat.le_of_ble_eq_true rfl) (Nat.le_of_ble_eq_true rfl) ?_
  refine va_putF (D := D) (ci := 7) (v := .ref q1) (C := RX7) (T := TX7) (N := 3) hx hb hw li_in7 tyX7 tyX7_ok nmX7 hown hK hP hD hS 0 rfl rfl 0 (by decide) (hw _ w_138) (fun _ h9 => h9) rfl hin rfl rfl rfl rfl (Nat.le_of_ble_eq_true rfl) dX7_init_9 (fun H3 l4 hP hD hS => ?_)
  have hP : va_P D vwCl [(h0, .inr (7, [.ref q1, .int 0, .int 0])), (q1, .inl (c0, 80, .inl (fun _ => 0)))] H3 := hP
  have hD : va_D A [(h0, .inr (7, [.ref q1, .int 0, .int 0])), (q1, .inl (c0, 80, .inl (fun _ => 0)))] := hD
  refine W.widen (k := 1) (n := 80) (Nat.le_of_ble_eq_true rfl) (Nat.le_of_ble_eq_true rfl) ?_
  exact W.vret hx hb hr (fun t ht hW => ⟨⟨fun i => [q1].getD i 0, rfl, trivial, by rw [ht]; exact hP, hD⟩, hS.F ht⟩) hS.2.2 dX7_init_12
set_option maxRecDepth 100000 in
set_option maxHeartbeats 4000000 in
theorem ct_X5_init (l : Launch) (D : va_G) (c0 c1 c2 c3 c4 : ClassId) (h0 : Nat) (sz : Nat) : Met l YX5_init.1 (li_wy YX5_init) ({ frames := 1, cells := 1, slots := 14, locals := 60 } : Room) (va_Pc [.ref h0] (fun U => ct_pre D c0 c1 c2 c3 c4 [(h0, .inr (5, [.null, .int 0]))] sz U)) (va_Qv (fun _ : Nat → Nat => True) (fun u t => va_P D vwCl [(h0, .inr (5, [.ref (u 0), .int 0])), ((u 0), .inl (c0, 14, .inl (fun _ => 0)))] t.heap ∧ va_D (va_A [(h0, .inr (5, [.null, .int 0]))] sz) [(h0, .inr (5, [.ref (u 0), .int 0])), ((u 0), .inl (c0, 14, .inl (fun _ => 0)))]) (va_A [(h0, .inr (5, [.null, .int 0]))] sz)) 1 14 (va_A [(h0, .inr (5, [.null, .int 0]))] sz) := by
  refine Met.ofW (cc := YX5_init.2.1) (maxL := YX5_init.2.2.1) (ret := none) (by decide +kernel) rfl ?_
  intro p e s m args below meth c s₁ B hml hv
  obtain ⟨rfl, hsz, hP, hK, hD0, hN, hAO⟩ := hv
  have hx := B.exec
  have hb := B.bytes
  have hr := B.returns
  have hts := atoms_spec (ws := li_wy YX5_init) B.pre
  have hw : ∀ w ∈ li_ws, w.before #[.ref h0] s = true := fun w h => hts w (List.mem_cons_of_mem _ h)
  have hown : s.vm.findClass YX5_init.1.cls = some m.cls := findClass_of_methodNamed B.named
  have hlocks := B.notSynchronized
  have hin : meth.name = "<init>" := (name_of_methodNamed B.named B.method).1
  subst hsz
  have hD := hD0.self (sz := s.heap.size)
  generalize hAe : va_A [(h0, .inr (5, [.null, .int 0]))] s.heap.size = A at hD ⊢
  have hA : ∀ q : Nat, s.heap.size ≤ q → A q := fun q h => by rw [← hAe]; exact Or.inr h
  have hS : va_S A s.heap s.heap [] := va_S.rf
  have hP : va_P D vwCl [(h0, .inr (5, [.null, .int 0]))] s.heap := hP
  let tys : List (ClassId × FieldType) := [(c0, .int), (c1, .long), (c2, .byte), (c3, .boolean), (c4, .object "ClockForTalk$Ledger")]
  have hl := lv_entry ([.ref h0]) (n := 1) (Nat.le_of_ble_eq_true rfl)
  rw [lg_entry_eq]
  generalize (lg_sl ([.ref h0]) ++ List.replicate (1 - (lg_sl ([.ref h0])).length) Slot.unset).toArray = ls at hl ⊢
  have hl : lv_has ls 1 [(0, .ref h0)] := hl
  refine lv_aload_n hx hb dX5_init_0 rfl (lv_at hl 0 rfl) ?_
  refine W.objInit hx hb hown (hw _ w_158) (hw _ w_130) (hw _ w_objcode) rfl (by rw [hml]; exact hl.1) rfl dX5_init_1 (Nat.le_of_ble_eq_true rfl) (Nat.le_of_ble_eq_true rfl) ?_
  refine W.eq (g2 := F0 m 4 ls []) rfl ?_
  refine lv_aload_n hx hb dX5_init_4 rfl (lv_at hl 0 rfl) ?_
  refine lv_bipush (v := 14) hx hb dX5_init_5 (by decide) ?_
  refine va_newa (atype := .int) (ty := .int) (N' := 14) (a0 := (14, .inl (fun _ => 0))) hx hb (hw _ w_152) rfl hK hP hD hS hA (fun _ => rfl) (by decide) (by decide) (by decide) (Nat.le_of_ble_eq_true rfl) (Nat.le_of_ble_eq_true rfl) dX5_init_7 (fun q1 cA H2 hK hP hD hS => ?_)
  obtain rfl : c0 = cA := (ct_uni hK 0 5 rfl rfl (fun C => by simp)).symm
  have hK := hK.sub (tys' := tys) [0, 1, 2, 3, 4] rfl
  have hP : va_P D vwCl [(h0, .inr (5, [.null, .int 0])), (q1, .inl (c0, 14, .inl (fun _ => 0)))] H2 := hP
  have hD : va_D A [(h0, .inr (5, [.null, .int 0])), (q1, .inl (c0, 14, .inl (fun _ => 0)))] := hD
  refine W.widen (k := 1) (n := 14) (Nat.le_of_ble_eq_true rfl) (Nat.le_of_ble_eq_true rfl) ?_
  refine va_putF (D := D) (ci := 5) (v := .ref q1) (C := RX5) (T := TX5) (N := 2) hx hb hw li_in5 tyX5 tyX5_ok nmX5 hown hK hP hD hS 0 rfl rfl 0 (by decide) (hw _ w_159) (fun _ h9 => h9) rfl hin rfl rfl rfl rfl (Nat.le_of_ble_eq_true rfl) dX5_init_9 (fun H3 l4 hP hD hS => ?_)
  have hP : va_P D vwCl [(h0, .inr (5, [.ref q1, .int 0])), (q1, .inl (c0, 14, .inl (fun _ => 0)))] H3 := hP
  have hD : va_D A [(h0, .inr (5, [.ref q1, .int 0])), (q1, .inl (c0, 14, .inl (fun _ => 0)))] := hD
  refine W.widen (k := 1) (n := 14) (Nat.le_of_ble_eq_true rfl) (Nat.le_of_ble_eq_true rfl) ?_
  exact W.vret hx hb hr (fun t ht hW => ⟨⟨fun i => [q1].getD i 0, rfl, trivial, by rw [ht]; exact hP, hD⟩, hS.F ht⟩) hS.2.2 dX5_init_12
set_option maxRecDepth 100000 in
set_option maxHeartbeats 4000000 in
theorem ct_X8_init (l : Launch) (D : va_G) (c0 c1 c2 c3 c4 : ClassId) (h0 : Nat) (sz : Nat) : Met l YX8_init.1 (li_wy YX8_init) ({ frames := 1, cells := 7, slots := 52, locals := 60 } : Room) (va_Pc [.ref h0] (fun U => ct_pre D c0 c1 c2 c3 c4 [(h0, .inr (8, [.int 0, .int 0, .null, .null, .null, .null, .null, .null, .null]))] sz U)) (va_Qv (fun _ : Nat → Nat => True) (fun u t => va_P D vwCl [(h0, .inr (8, [.int 0, .int 0, .ref (u 0), .ref (u 1), .ref (u 2), .ref (u 3), .ref (u 4), .ref (u 5), .ref (u 6)])), ((u 0), .inl (c0, 6, .inl (fun _ => 0))), ((u 1), .inl (c0, 6, .inl (fun _ => 0))), ((u 2), .inl (c0, 8, .inl (fun _ => 0))), ((u 3), .inl (c0, 8, .inl (fun _ => 0))), ((u 4), .inl (c0, 8, .inl (fun _ => 0))), ((u 5), .inl (c0, 8, .inl (fun _ => 0))), ((u 6), .inl (c0, 8, .inl (fun _ => 0)))] t.heap ∧ va_D (va_A [(h0, .inr (8, [.int 0, .int 0, .null, .null, .null, .null, .null, .null, .null]))] sz) [(h0, .inr (8, [.int 0, .int 0, .ref (u 0), .ref (u 1), .ref (u 2), .ref (u 3), .ref (u 4), .ref (u 5), .ref (u 6)])), ((u 0), .inl (c0, 6, .inl (fun _ => 0))), ((u 1), .inl (c0, 6, .inl (fun _ => 0))), ((u 2), .inl (c0, 8, .inl (fun _ => 0))), ((u 3), .inl (c0, 8, .inl (fun _ => 0))), ((u 4), .inl (c0, 8, .inl (fun _ => 0))), ((u 5), .inl (c0, 8, .inl (fun _ => 0))), ((u 6), .inl (c0, 8, .inl (fun _ => 0)))]) (va_A [(h0, .inr (8, [.int 0, .int 0, .null, .null, .null, .null, .null, .null, .null]))] sz)) 7 52 (va_A [(h0, .inr (8, [.int 0, .int 0, .null, .null, .null, .null, .null, .null, .null]))] sz) := by
  refine Met.ofW (cc := YX8_init.2.1) (maxL := YX8_init.2.2.1) (ret := none) (by decide +kernel) rfl ?_
  intro p e s m args below meth c s₁ B hml hv
  obtain ⟨rfl, hsz, hP, hK, hD0, hN, hAO⟩ := hv
  have hx := B.exec
  have hb := B.bytes
  have hr := B.returns
  have hts := atoms_spec (ws := li_wy YX8_init) B.pre
  have hw : ∀ w ∈ li_ws, w.before #[.ref h0] s = true := fun w h => hts w (List.mem_cons_of_mem _ h)
  have hown : s.vm.findClass YX8_init.1.cls = some m.cls := findClass_of_methodNamed B.named
  have hlocks := B.notSynchronized
  have hin : meth.name = "<init>" := (name_of_methodNamed B.named B.method).1
  subst hsz
  have hD := hD0.self (sz := s.heap.size)
  generalize hAe : va_A [(h0, .inr (8, [.int 0, .int 0, .null, .null, .null, .null, .null, .null, .null]))] s.heap.size = A at hD ⊢
  have hA : ∀ q : Nat, s.heap.size ≤ q → A q := fun q h => by rw [← hAe]; exact Or.inr h
  have hS : va_S A s.heap s.heap [] := va_S.rf
  have hP : va_P D vwCl [(h0, .inr (8, [.int 0, .int 0, .null, .null, .null, .null, .null, .null, .null]))] s.heap := hP
  let tys : List (ClassId × FieldType) := [(c0, .int), (c1, .long), (c2, .byte), (c3, .boolean), (c4, .object "ClockForTalk$Ledger")]
  have hl := lv_entry ([.ref h0]) (n := 1) (Nat.le_of_ble_eq_true rfl)
  rw [lg_entry_eq]
  generalize (lg_sl ([.ref h0]) ++ List.replicate (1 - (lg_sl ([.ref h0])).length) Slot.unset).toArray = ls at hl ⊢
  have hl : lv_has ls 1 [(0, .ref h0)] := hl
  refine lv_aload_n hx hb dX8_init_0 rfl (lv_at hl 0 rfl) ?_
  refine W.objInit hx hb hown (hw _ w_173) (hw _ w_130) (hw _ w_objcode) rfl (by rw [hml]; exact hl.1) rfl dX8_init_1 (Nat.le_of_ble_eq_true rfl) (Nat.le_of_ble_eq_true rfl) ?_
  refine W.eq (g2 := F0 m 4 ls []) rfl ?_
  refine lv_aload_n hx hb dX8_init_4 rfl (lv_at hl 0 rfl) ?_
  refine lv_bipush (v := 6) hx hb dX8_init_5 (by decide) ?_
  refine va_newa (atype := .int) (ty := .int) (N' := 6) (a0 := (6, .inl (fun _ => 0))) hx hb (hw _ w_152) rfl hK hP hD hS hA (fun _ => rfl) (by decide) (by decide) (by decide) (Nat.le_of_ble_eq_true rfl) (Nat.le_of_ble_eq_true rfl) dX8_init_7 (fun q1 cA H2 hK hP hD hS => ?_)
  obtain rfl : c0 = cA := (ct_uni hK 0 5 rfl rfl (fun C => by simp)).symm
  have hK := hK.sub (tys' := tys) [0, 1, 2, 3, 4] rfl
  have hP : va_P D vwCl [(h0, .inr (8, [.int 0, .int 0, .null, .null, .null, .null, .null, .null, .null])), (q1, .inl (c0, 6, .inl (fun _ => 0)))] H2 := hP
  have hD : va_D A [(h0, .inr (8, [.int 0, .int 0, .null, .null, .null, .null, .null, .null, .null])), (q1, .inl (c0, 6, .inl (fun _ => 0)))] := hD
  refine W.widen (k := 1) (n := 6) (Nat.le_of_ble_eq_true rfl) (Nat.le_of_ble_eq_true rfl) ?_
  refine va_putF (D := D) (ci := 8) (v := .ref q1) (C := RX8) (T := TX8) (N := 9) hx hb hw li_in8 tyX8 tyX8_ok nmX8 hown hK hP hD hS 0 rfl rfl 2 (by decide) (hw _ w_183) (fun _ h9 => h9) rfl hin rfl rfl rfl rfl (Nat.le_of_ble_eq_true rfl) dX8_init_9 (fun H3 l4 hP hD hS => ?_)
  have hP : va_P D vwCl [(h0, .inr (8, [.int 0, .int 0, .ref q1, .null, .null, .null, .null, .null, .null])), (q1, .inl (c0, 6, .inl (fun _ => 0)))] H3 := hP
  have hD : va_D A [(h0, .inr (8, [.int 0, .int 0, .ref q1, .null, .null, .null, .null, .null, .null])), (q1, .inl (c0, 6, .inl (fun _ => 0)))] := hD
  refine lv_aload_n hx hb dX8_init_12 rfl (lv_at hl 0 rfl) ?_
  refine lv_bipush (v := 6) hx hb dX8_init_13 (by decide) ?_
  refine va_newa (atype := .int) (ty := .int) (N' := 6) (a0 := (6, .inl (fun _ => 0))) hx hb (hw _ w_152) rfl hK hP hD hS hA (fun _ => rfl) (by decide) (by decide) (by decide) (Nat.le_of_ble_eq_true rfl) (Nat.le_of_ble_eq_true rfl) dX8_init_15 (fun q5 cA H6 hK hP hD hS => ?_)
  obtain rfl : c0 = cA := (ct_uni hK 0 5 rfl rfl (fun C => by simp)).symm
  have hK := hK.sub (tys' := tys) [0, 1, 2, 3, 4] rfl
  have hP : va_P D vwCl [(h0, .inr (8, [.int 0, .int 0, .ref q1, .null, .null, .null, .null, .null, .null])), (q1, .inl (c0, 6, .inl (fun _ => 0))), (q5, .inl (c0, 6, .inl (fun _ => 0)))] H6 := hP
  have hD : va_D A [(h0, .inr (8, [.int 0, .int 0, .ref q1, .null, .null, .null, .null, .null, .null])), (q1, .inl (c0, 6, .inl (fun _ => 0))), (q5, .inl (c0, 6, .inl (fun _ => 0)))] := hD
  refine W.widen (k := 2) (n := 12) (Nat.le_of_ble_eq_true rfl) (Nat.le_of_ble_eq_true rfl) ?_
  refine va_putF (D := D) (ci := 8) (v := .ref q5) (C := RX8) (T := TX8) (N := 9) hx hb hw li_in8 tyX8 tyX8_ok nmX8 hown hK hP hD hS 0 rfl rfl 3 (by decide) (hw _ w_185) (fun _ h9 => h9) rfl hin rfl rfl rfl rfl (Nat.le_of_ble_eq_true rfl) dX8_init_17 (fun H7 l8 hP hD hS => ?_)
  have hP : va_P D vwCl [(h0, .inr (8, [.int 0, .int 0, .ref q1, .ref q5, .null, .null, .null, .null, .null])), (q1, .inl (c0, 6, .inl (fun _ => 0))), (q5, .inl (c0, 6, .inl (fun _ => 0)))] H7 := hP
  have hD : va_D A [(h0, .inr (8, [.int 0, .int 0, .ref q1, .ref q5, .null, .null, .null, .null, .null])), (q1, .inl (c0, 6, .inl (fun _ => 0))), (q5, .inl (c0, 6, .inl (fun _ => 0)))] := hD
  refine lv_aload_n hx hb dX8_init_20 rfl (lv_at hl 0 rfl) ?_
  refine lv_bipush (v := 8) hx hb dX8_init_21 (by decide) ?_
  refine va_newa (atype := .int) (ty := .int) (N' := 8) (a0 := (8, .inl (fun _ => 0))) hx hb (hw _ w_152) rfl hK hP hD hS hA (fun _ => rfl) (by decide) (by decide) (by decide) (Nat.le_of_ble_eq_true rfl) (Nat.le_of_ble_eq_true rfl) dX8_init_23 (fun q9 cA H10 hK hP hD hS => ?_)
  obtain rfl : c0 = cA := (ct_uni hK 0 5 rfl rfl (fun C => by simp)).symm
  have hK := hK.sub (tys' := tys) [0, 1, 2, 3, 4] rfl
  have hP : va_P D vwCl [(h0, .inr (8, [.int 0, .int 0, .ref q1, .ref q5, .null, .null, .null, .null, .null])), (q1, .inl (c0, 6, .inl (fun _ => 0))), (q5, .inl (c0, 6, .inl (fun _ => 0))), (q9, .inl (c0, 8, .inl (fun _ => 0)))] H10 := hP
  have hD : va_D A [(h0, .inr (8, [.int 0, .int 0, .ref q1, .ref q5, .null, .null, .null, .null, .null])), (q1, .inl (c0, 6, .inl (fun _ => 0))), (q5, .inl (c0, 6, .inl (fun _ => 0))), (q9, .inl (c0, 8, .inl (fun _ => 0)))] := hD
  refine W.widen (k := 3) (n := 20) (Nat.le_of_ble_eq_true rfl) (Nat.le_of_ble_eq_true rfl) ?_
  refine va_putF (D := D) (ci := 8) (v := .ref q9) (C := RX8) (T := TX8) (N := 9) hx hb hw li_in8 tyX8 tyX8_ok nmX8 hown hK hP hD hS 0 rfl rfl 4 (by decide) (hw _ w_188) (fun _ h9 => h9) rfl hin rfl rfl rfl rfl (Nat.le_of_ble_eq_true rfl) dX8_init_25 (fun H11 l12 hP hD hS => ?_)
  have hP : va_P D vwCl [(h0, .inr (8, [.int 0, .int 0, .ref q1, .ref q5, .ref q9, .null, .null, .null, .null])), (q1, .inl (c0, 6, .inl (fun _ => 0))), (q5, .inl (c0, 6, .inl (fun _ => 0))), (q9, .inl (c0, 8, .inl (fun _ => 0)))] H11 := hP
  have hD : va_D A [(h0, .inr (8, [.int 0, .int 0, .ref q1, .ref q5, .ref q9, .null, .null, .null, .null])), (q1, .inl (c0, 6, .inl (fun _ => 0))), (q5, .inl (c0, 6, .inl (fun _ => 0))), (q9, .inl (c0, 8, .inl (fun _ => 0)))] := hD
  refine lv_aload_n hx hb dX8_init_28 rfl (lv_at hl 0 rfl) ?_
  refine lv_bipush (v := 8) hx hb dX8_init_29 (by decide) ?_
  refine va_newa (atype := .int) (ty := .int) (N' := 8) (a0 := (8, .inl (fun _ => 0))) hx hb (hw _ w_152) rfl hK hP hD hS hA (fun _ => rfl) (by decide) (by decide) (by decide) (Nat.le_of_ble_eq_true rfl) (Nat.le_of_ble_eq_true rfl) dX8_init_31 (fun q13 cA H14 hK hP hD hS => ?_)
  obtain rfl : c0 = cA := (ct_uni hK 0 5 rfl rfl (fun C => by simp)).symm
  have hK := hK.sub (tys' := tys) [0, 1, 2, 3, 4] rfl
  have hP : va_P D vwCl [(h0, .inr (8, [.int 0, .int 0, .ref q1, .ref q5, .ref q9, .null, .null, .null, .null])), (q1, .inl (c0, 6, .inl (fun _ => 0))), (q5, .inl (c0, 6, .inl (fun _ => 0))), (q9, .inl (c0, 8, .inl (fun _ => 0))), (q13, .inl (c0, 8, .inl (fun _ => 0)))] H14 := hP
  have hD : va_D A [(h0, .inr (8, [.int 0, .int 0, .ref q1, .ref q5, .ref q9, .null, .null, .null, .null])), (q1, .inl (c0, 6, .inl (fun _ => 0))), (q5, .inl (c0, 6, .inl (fun _ => 0))), (q9, .inl (c0, 8, .inl (fun _ => 0))), (q13, .inl (c0, 8, .inl (fun _ => 0)))] := hD
  refine W.widen (k := 4) (n := 28) (Nat.le_of_ble_eq_true rfl) (Nat.le_of_ble_eq_true rfl) ?_
  refine va_putF (D := D) (ci := 8) (v := .ref q13) (C := RX8) (T := TX8) (N := 9) hx hb hw li_in8 tyX8 tyX8_ok nmX8 hown hK hP hD hS 0 rfl rfl 5 (by decide) (hw _ w_191) (fun _ h9 => h9) rfl hin rfl rfl rfl rfl (Nat.le_of_ble_eq_true rfl) dX8_init_33 (fun H15 l16 hP hD hS => ?_)
  have hP : va_P D vwCl [(h0, .inr (8, [.int 0, .int 0, .ref q1, .ref q5, .ref q9, .ref q13, .null, .null, .null])), (q1, .inl (c0, 6, .inl (fun _ => 0))), (q5, .inl (c0, 6, .inl (fun _ => 0))), (q9, .inl (c0, 8, .inl (fun _ => 0))), (q13, .inl (c0, 8, .inl (fun _ => 0)))] H15 := hP
  have hD : va_D A [(h0, .inr (8, [.int 0, .int 0, .ref q1, .ref q5, .ref q9, .ref q13, .null, .null, .null])), (q1, .inl (c0, 6, .inl (fun _ => 0))), (q5, .inl (c0, 6, .inl (fun _ => 0))), (q9, .inl (c0, 8, .inl (fun _ => 0))), (q13, .inl (c0, 8, .inl (fun _ => 0)))] := hD
  refine lv_aload_n hx hb dX8_init_36 rfl (lv_at hl 0 rfl) ?_
  refine lv_bipush (v := 8) hx hb dX8_init_37 (by decide) ?_
  refine va_newa (atype := .int) (ty := .int) (N' := 8) (a0 := (8, .inl (fun _ => 0))) hx hb (hw _ w_152) rfl hK hP hD hS hA (fun _ => rfl) (by decide) (by decide) (by decide) (Nat.le_of_ble_eq_true rfl) (Nat.le_of_ble_eq_true rfl) dX8_init_39 (fun q17 cA H18 hK hP hD hS => ?_)
  obtain rfl : c0 = cA := (ct_uni hK 0 5 rfl rfl (fun C => by simp)).symm
  have hK := hK.sub (tys' := tys) [0, 1, 2, 3, 4] rfl
  have hP : va_P D vwCl [(h0, .inr (8, [.int 0, .int 0, .ref q1, .ref q5, .ref q9, .ref q13, .null, .null, .null])), (q1, .inl (c0, 6, .inl (fun _ => 0))), (q5, .inl (c0, 6, .inl (fun _ => 0))), (q9, .inl (c0, 8, .inl (fun _ => 0))), (q13, .inl (c0, 8, .inl (fun _ => 0))), (q17, .inl (c0, 8, .inl (fun _ => 0)))] H18 := hP
  have hD : va_D A [(h0, .inr (8, [.int 0, .int 0, .ref q1, .ref q5, .ref q9, .ref q13, .null, .null, .null])), (q1, .inl (c0, 6, .inl (fun _ => 0))), (q5, .inl (c0, 6, .inl (fun _ => 0))), (q9, .inl (c0, 8, .inl (fun _ => 0))), (q13, .inl (c0, 8, .inl (fun _ => 0))), (q17, .inl (c0, 8, .inl (fun _ => 0)))] := hD
  refine W.widen (k := 5) (n := 36) (Nat.le_of_ble_eq_true rfl) (Nat.le_of_ble_eq_true rfl) ?_
  refine va_putF (D := D) (ci := 8) (v := .ref q17) (C := RX8) (T := TX8) (N := 9) hx hb hw li_in8 tyX8 tyX8_ok nmX8 hown hK hP hD hS 0 rfl rfl 6 (by decide) (hw _ w_194) (fun _ h9 => h9) rfl hin rfl rfl rfl rfl (Nat.le_of_ble_eq_true rfl) dX8_init_41 (fun H19 l20 hP hD hS => ?_)
  have hP : va_P D vwCl [(h0, .inr (8, [.int 0, .int 0, .ref q1, .ref q5, .ref q9, .ref q13, .ref q17, .null, .null])), (q1, .inl (c0, 6, .inl (fun _ => 0))), (q5, .inl (c0, 6, .inl (fun _ => 0))), (q9, .inl (c0, 8, .inl (fun _ => 0))), (q13, .inl (c0, 8, .inl (fun _ => 0))), (q17, .inl (c0, 8, .inl (fun _ => 0)))] H19 := hP
  have hD : va_D A [(h0, .inr (8, [.int 0, .int 0, .ref q1, .ref q5, .ref q9, .ref q13, .ref q17, .null, .null])), (q1, .inl (c0, 6, .inl (fun _ => 0))), (q5, .inl (c0, 6, .inl (fun _ => 0))), (q9, .inl (c0, 8, .inl (fun _ => 0))), (q13, .inl (c0, 8, .inl (fun _ => 0))), (q17, .inl (c0, 8, .inl (fun _ => 0)))] := hD
  refine lv_aload_n hx hb dX8_init_44 rfl (lv_at hl 0 rfl) ?_
  refine lv_bipush (v := 8) hx hb dX8_init_45 (by decide) ?_
  refine va_newa (atype := .int) (ty := .int) (N' := 8) (a0 := (8, .inl (fun _ => 0))) hx hb (hw _ w_152) rfl hK hP hD hS hA (fun _ => rfl) (by decide) (by decide) (by decide) (Nat.le_of_ble_eq_true rfl) (Nat.le_of_ble_eq_true rfl) dX8_init_47 (fun q21 cA H22 hK hP hD hS => ?_)
  obtain rfl : c0 = cA := (ct_uni hK 0 5 rfl rfl (fun C => by simp)).symm
  have hK := hK.sub (tys' := tys) [0, 1, 2, 3, 4] rfl
  have hP : va_P D vwCl [(h0, .inr (8, [.int 0, .int 0, .ref q1, .ref q5, .ref q9, .ref q13, .ref q17, .null, .null])), (q1, .inl (c0, 6, .inl (fun _ => 0))), (q5, .inl (c0, 6, .inl (fun _ => 0))), (q9, .inl (c0, 8, .inl (fun _ => 0))), (q13, .inl (c0, 8, .inl (fun _ => 0))), (q17, .inl (c0, 8, .inl (fun _ => 0))), (q21, .inl (c0, 8, .inl (fun _ => 0)))] H22 := hP
  have hD : va_D A [(h0, .inr (8, [.int 0, .int 0, .ref q1, .ref q5, .ref q9, .ref q13, .ref q17, .null, .null])), (q1, .inl (c0, 6, .inl (fun _ => 0))), (q5, .inl (c0, 6, .inl (fun _ => 0))), (q9, .inl (c0, 8, .inl (fun _ => 0))), (q13, .inl (c0, 8, .inl (fun _ => 0))), (q17, .inl (c0, 8, .inl (fun _ => 0))), (q21, .inl (c0, 8, .inl (fun _ => 0)))] := hD
  refine W.widen (k := 6) (n := 44) (Nat.le_of_ble_eq_true rfl) (Nat.le_of_ble_eq_true rfl) ?_
  refine va_putF (D := D) (ci := 8) (v := .ref q21) (C := RX8) (T := TX8) (N := 9) hx hb hw li_in8 tyX8 tyX8_ok nmX8 hown hK hP hD hS 0 rfl rfl 7 (by decide) (hw _ w_197) (fun _ h9 => h9) rfl hin rfl rfl rfl rfl (Nat.le_of_ble_eq_true rfl) dX8_init_49 (fun H23 l24 hP hD hS => ?_)
  have hP : va_P D vwCl [(h0, .inr (8, [.int 0, .int 0, .ref q1, .ref q5, .ref q9, .ref q13, .ref q17, .ref q21, .null])), (q1, .inl (c0, 6, .inl (fun _ => 0))), (q5, .inl (c0, 6, .inl (fun _ => 0))), (q9, .inl (c0, 8, .inl (fun _ => 0))), (q13, .inl (c0, 8, .inl (fun _ => 0))), (q17, .inl (c0, 8, .inl (fun _ => 0))), (q21, .inl (c0, 8, .inl (fun _ => 0)))] H23 := hP
  have hD : va_D A [(h0, .inr (8, [.int 0, .int 0, .ref q1, .ref q5, .ref q9, .ref q13, .ref q17, .ref q21, .null])), (q1, .inl (c0, 6, .inl (fun _ => 0))), (q5, .inl (c0, 6, .inl (fun _ => 0))), (q9, .inl (c0, 8, .inl (fun _ => 0))), (q13, .inl (c0, 8, .inl (fun _ => 0))), (q17, .inl (c0, 8, .inl (fun _ => 0))), (q21, .inl (c0, 8, .inl (fun _ => 0)))] := hD
  refine lv_aload_n hx hb dX8_init_52 rfl (lv_at hl 0 rfl) ?_
  refine lv_bipush (v := 8) hx hb dX8_init_53 (by decide) ?_
  refine va_newa (atype := .int) (ty := .int) (N' := 8) (a0 := (8, .inl (fun _ => 0))) hx hb (hw _ w_152) rfl hK hP hD hS hA (fun _ => rfl) (by decide) (by decide) (by decide) (Nat.le_of_ble_eq_true rfl) (Nat.le_of_ble_eq_true rfl) dX8_init_55 (fun q25 cA H26 hK hP hD hS => ?_)
  obtain rfl : c0 = cA := (ct_uni hK 0 5 rfl rfl (fun C => by simp)).symm
  have hK := hK.sub (tys' := tys) [0, 1, 2, 3, 4] rfl
  have hP : va_P D vwCl [(h0, .inr (8, [.int 0, .int 0, .ref q1, .ref q5, .ref q9, .ref q13, .ref q17, .ref q21, .null])), (q1, .inl (c0, 6, .inl (fun _ => 0))), (q5, .inl (c0, 6, .inl (fun _ => 0))), (q9, .inl (c0, 8, .inl (fun _ => 0))), (q13, .inl (c0, 8, .inl (fun _ => 0))), (q17, .inl (c0, 8, .inl (fun _ => 0))), (q21, .inl (c0, 8, .inl (fun _ => 0))), (q25, .inl (c0, 8, .inl (fun _ => 0)))] H26 := hP
  have hD : va_D A [(h0, .inr (8, [.int 0, .int 0, .ref q1, .ref q5, .ref q9, .ref q13, .ref q17, .ref q21, .null])), (q1, .inl (c0, 6, .inl (fun _ => 0))), (q5, .inl (c0, 6, .inl (fun _ => 0))), (q9, .inl (c0, 8, .inl (fun _ => 0))), (q13, .inl (c0, 8, .inl (fun _ => 0))), (q17, .inl (c0, 8, .inl (fun _ => 0))), (q21, .inl (c0, 8, .inl (fun _ => 0))), (q25, .inl (c0, 8, .inl (fun _ => 0)))] := hD
  refine W.widen (k := 7) (n := 52) (Nat.le_of_ble_eq_true rfl) (Nat.le_of_ble_eq_true rfl) ?_
  refine va_putF (D := D) (ci := 8) (v := .ref q25) (C := RX8) (T := TX8) (N := 9) hx hb hw li_in8 tyX8 tyX8_ok nmX8 hown hK hP hD hS 0 rfl rfl 8 (by decide) (hw _ w_201) (fun _ h9 => h9) rfl hin rfl rfl rfl rfl (Nat.le_of_ble_eq_true rfl) dX8_init_57 (fun H27 l28 hP hD hS => ?_)
  have hP : va_P D vwCl [(h0, .inr (8, [.int 0, .int 0, .ref q1, .ref q5, .ref q9, .ref q13, .ref q17, .ref q21, .ref q25])), (q1, .inl (c0, 6, .inl (fun _ => 0))), (q5, .inl (c0, 6, .inl (fun _ => 0))), (q9, .inl (c0, 8, .inl (fun _ => 0))), (q13, .inl (c0, 8, .inl (fun _ => 0))), (q17, .inl (c0, 8, .inl (fun _ => 0))), (q21, .inl (c0, 8, .inl (fun _ => 0))), (q25, .inl (c0, 8, .inl (fun _ => 0)))] H27 := hP
  have hD : va_D A [(h0, .inr (8, [.int 0, .int 0, .ref q1, .ref q5, .ref q9, .ref q13, .ref q17, .ref q21, .ref q25])), (q1, .inl (c0, 6, .inl (fun _ => 0))), (q5, .inl (c0, 6, .inl (fun _ => 0))), (q9, .inl (c0, 8, .inl (fun _ => 0))), (q13, .inl (c0, 8, .inl (fun _ => 0))), (q17, .inl (c0, 8, .inl (fun _ => 0))), (q21, .inl (c0, 8, .inl (fun _ => 0))), (q25, .inl (c0, 8, .inl (fun _ => 0)))] := hD
  refine W.widen (k := 7) (n := 52) (Nat.le_of_ble_eq_true rfl) (Nat.le_of_ble_eq_true rfl) ?_
  exact W.vret hx hb hr (fun t ht hW => ⟨⟨fun i => [q1, q5, q9, q13, q17, q21, q25].getD i 0, rfl, trivial, by rw [ht]; exact hP, hD⟩, hS.F ht⟩) hS.2.2 dX8_init_60
set_option maxRecDepth 100000 in
set_option maxHeartbeats 4000000 in
theorem ct_X4_init (l : Launch) (D : va_G) (c0 c1 c2 c3 c4 : ClassId) (h0 : Nat) (sz : Nat) : Met l YX4_init.1 (li_wy YX4_init) ({ frames := 1, cells := 7, slots := 42, locals := 60 } : Room) (va_Pc [.ref h0] (fun U => ct_pre D c0 c1 c2 c3 c4 [(h0, .inr (4, [.int 0, .int 0, .int 0, .int 0, .null, .null, .null, .null, .null, .null, .null]))] sz U)) (va_Qv (fun _ : Nat → Nat => True) (fun u t => va_P D vwCl [(h0, .inr (4, [.int 0, .int 0, .int 0, .int 0, .ref (u 0), .ref (u 1), .ref (u 2), .ref (u 3), .ref (u 4), .ref (u 5), .ref (u 6)])), ((u 0), .inl (c0, 6, .inl (fun _ => 0))), ((u 1), .inl (c0, 6, .inl (fun _ => 0))), ((u 2), .inl (c1, 6, .inr (.inl (fun _ => 0)))), ((u 3), .inl (c0, 6, .inl (fun _ => 0))), ((u 4), .inl (c0, 6, .inl (fun _ => 0))), ((u 5), .inl (c0, 6, .inl (fun _ => 0))), ((u 6), .inl (c1, 6, .inr (.inl (fun _ => 0))))] t.heap ∧ va_D (va_A [(h0, .inr (4, [.int 0, .int 0, .int 0, .int 0, .null, .null, .null, .null, .null, .null, .null]))] sz) [(h0, .inr (4, [.int 0, .int 0, .int 0, .int 0, .ref (u 0), .ref (u 1), .ref (u 2), .ref (u 3), .ref (u 4), .ref (u 5), .ref (u 6)])), ((u 0), .inl (c0, 6, .inl (fun _ => 0))), ((u 1), .inl (c0, 6, .inl (fun _ => 0))), ((u 2), .inl (c1, 6, .inr (.inl (fun _ => 0)))), ((u 3), .inl (c0, 6, .inl (fun _ => 0))), ((u 4), .inl (c0, 6, .inl (fun _ => 0))), ((u 5), .inl (c0, 6, .inl (fun _ => 0))), ((u 6), .inl (c1, 6, .inr (.inl (fun _ => 0))))]) (va_A [(h0, .inr (4, [.int 0, .int 0, .int 0, .int 0, .null, .null, .null, .null, .null, .null, .null]))] sz)) 7 42 (va_A [(h0, .inr (4, [.int 0, .int 0, .int 0, .int 0, .null, .null, .null, .null, .null, .null, .null]))] sz) := by
  refine Met.ofW (cc := YX4_init.2.1) (maxL := YX4_init.2.2.1) (ret := none) (by decide +kernel) rfl ?_
  intro p e s m args below meth c s₁ B hml hv
  obtain ⟨rfl, hsz, hP, hK, hD0, hN, hAO⟩ := hv
  have hx := B.exec
  have hb := B.bytes
  have hr := B.returns
  have hts := atoms_spec (ws := li_wy YX4_init) B.pre
  have hw : ∀ w ∈ li_ws, w.before #[.ref h0] s = true := fun w h => hts w (List.mem_cons_of_mem _ h)
  have hown : s.vm.findClass YX4_init.1.cls = some m.cls := findClass_of_methodNamed B.named
  have hlocks := B.notSynchronized
  have hin : meth.name = "<init>" := (name_of_methodNamed B.named B.method).1
  subst hsz
  have hD := hD0.self (sz := s.heap.size)
  generalize hAe : va_A [(h0, .inr (4, [.int 0, .int 0, .int 0, .int 0, .null, .null, .null, .null, .null, .null, .null]))] s.heap.size = A at hD ⊢
  have hA : ∀ q : Nat, s.heap.size ≤ q → A q := fun q h => by rw [← hAe]; exact Or.inr h
  have hS : va_S A s.heap s.heap [] := va_S.rf
  have hP : va_P D vwCl [(h0, .inr (4, [.int 0, .int 0, .int 0, .int 0, .null, .null, .null, .null, .null, .null, .null]))] s.heap := hP
  let tys : List (ClassId × FieldType) := [(c0, .int), (c1, .long), (c2, .byte), (c3, .boolean), (c4, .object "ClockForTalk$Ledger")]
  have hl := lv_entry ([.ref h0]) (n := 1) (Nat.le_of_ble_eq_true rfl)
  rw [lg_entry_eq]
  generalize (lg_sl ([.ref h0]) ++ List.replicate (1 - (lg_sl ([.ref h0])).length) Slot.unset).toArray = ls at hl ⊢
  have hl : lv_has ls 1 [(0, .ref h0)] := hl
  refine lv_aload_n hx hb dX4_init_0 rfl (lv_at hl 0 rfl) ?_
  refine W.objInit hx hb hown (hw _ w_228) (hw _ w_130) (hw _ w_objcode) rfl (by rw [hml]; exact hl.1) rfl dX4_init_1 (Nat.le_of_ble_eq_true rfl) (Nat.le_of_ble_eq_true rfl) ?_
  refine W.eq (g2 := F0 m 4 ls []) rfl ?_
  refine lv_aload_n hx hb dX4_init_4 rfl (lv_at hl 0 rfl) ?_
  refine lv_bipush (v := 6) hx hb dX4_init_5 (by decide) ?_
  refine va_newa (atype := .int) (ty := .int) (N' := 6) (a0 := (6, .inl (fun _ => 0))) hx hb (hw _ w_152) rfl hK hP hD hS hA (fun _ => rfl) (by decide) (by decide) (by decide) (Nat.le_of_ble_eq_true rfl) (Nat.le_of_ble_eq_true rfl) dX4_init_7 (fun q1 cA H2 hK hP hD hS => ?_)
  obtain rfl : c0 = cA := (ct_uni hK 0 5 rfl rfl (fun C => by simp)).symm
  have hK := hK.sub (tys' := tys) [0, 1, 2, 3, 4] rfl
  have hP : va_P D vwCl [(h0, .inr (4, [.int 0, .int 0, .int 0, .int 0, .null, .null, .null, .null, .null, .null, .null])), (q1, .inl (c0, 6, .inl (fun _ => 0)))] H2 := hP
  have hD : va_D A [(h0, .inr (4, [.int 0, .int 0, .int 0, .int 0, .null, .null, .null, .null, .null, .null, .null])), (q1, .inl (c0, 6, .inl (fun _ => 0)))] := hD
  refine W.widen (k := 1) (n := 6) (Nat.le_of_ble_eq_true rfl) (Nat.le_of_ble_eq_true rfl) ?_
  refine va_putF (D := D) (ci := 4) (v := .ref q1) (C := RX4) (T := TX4) (N := 11) hx hb hw li_in4 tyX4 tyX4_ok nmX4 hown hK hP hD hS 0 rfl rfl 4 (by decide) (hw _ w_239) (fun _ h9 => h9) rfl hin rfl rfl rfl rfl (Nat.le_of_ble_eq_true rfl) dX4_init_9 (fun H3 l4 hP hD hS => ?_)
  have hP : va_P D vwCl [(h0, .inr (4, [.int 0, .int 0, .int 0, .int 0, .ref q1, .null, .null, .null, .null, .null, .null])), (q1, .inl (c0, 6, .inl (fun _ => 0)))] H3 := hP
  have hD : va_D A [(h0, .inr (4, [.int 0, .int 0, .int 0, .int 0, .ref q1, .null, .null, .null, .null, .null, .null])), (q1, .inl (c0, 6, .inl (fun _ => 0)))] := hD
  refine lv_aload_n hx hb dX4_init_12 rfl (lv_at hl 0 rfl) ?_
  refine lv_bipush (v := 6) hx hb dX4_init_13 (by decide) ?_
  refine va_newa (atype := .int) (ty := .int) (N' := 6) (a0 := (6, .inl (fun _ => 0))) hx hb (hw _ w_152) rfl hK hP hD hS hA (fun _ => rfl) (by decide) (by decide) (by decide) (Nat.le_of_ble_eq_true rfl) (Nat.le_of_ble_eq_true rfl) dX4_init_15 (fun q5 cA H6 hK hP hD hS => ?_)
  obtain rfl : c0 = cA := (ct_uni hK 0 5 rfl rfl (fun C => by simp)).symm
  have hK := hK.sub (tys' := tys) [0, 1, 2, 3, 4] rfl
  have hP : va_P D vwCl [(h0, .inr (4, [.int 0, .int 0, .int 0, .int 0, .ref q1, .null, .null, .null, .null, .null, .null])), (q1, .inl (c0, 6, .inl (fun _ => 0))), (q5, .inl (c0, 6, .inl (fun _ => 0)))] H6 := hP
  have hD : va_D A [(h0, .inr (4, [.int 0, .int 0, .int 0, .int 0, .ref q1, .null, .null, .null, .null, .null, .null])), (q1, .inl (c0, 6, .inl (fun _ => 0))), (q5, .inl (c0, 6, .inl (fun _ => 0)))] := hD
  refine W.widen (k := 2) (n := 12) (Nat.le_of_ble_eq_true rfl) (Nat.le_of_ble_eq_true rfl) ?_
  refine va_putF (D := D) (ci := 4) (v := .ref q5) (C := RX4) (T := TX4) (N := 11) hx hb hw li_in4 tyX4 tyX4_ok nmX4 hown hK hP hD hS 0 rfl rfl 5 (by decide) (hw _ w_244) (fun _ h9 => h9) rfl hin rfl rfl rfl rfl (Nat.le_of_ble_eq_true rfl) dX4_init_17 (fun H7 l8 hP hD hS => ?_)
  have hP : va_P D vwCl [(h0, .inr (4, [.int 0, .int 0, .int 0, .int 0, .ref q1, .ref q5, .null, .null, .null, .null, .null])), (q1, .inl (c0, 6, .inl (fun _ => 0))), (q5, .inl (c0, 6, .inl (fun _ => 0)))] H7 := hP
  have hD : va_D A [(h0, .inr (4, [.int 0, .int 0, .int 0, .int 0, .ref q1, .ref q5, .null, .null, .null, .null, .null])), (q1, .inl (c0, 6, .inl (fun _ => 0))), (q5, .inl (c0, 6, .inl (fun _ => 0)))] := hD
  refine lv_aload_n hx hb dX4_init_20 rfl (lv_at hl 0 rfl) ?_
  refine lv_bipush (v := 6) hx hb dX4_init_21 (by decide) ?_
  refine va_newa (atype := .long) (ty := .long) (N' := 6) (a0 := (6, .inr (.inl (fun _ => 0)))) hx hb (hw _ w_279) rfl hK hP hD hS hA (fun _ => rfl) (by decide) (by decide) (by decide) (Nat.le_of_ble_eq_true rfl) (Nat.le_of_ble_eq_true rfl) dX4_init_23 (fun q9 cA H10 hK hP hD hS => ?_)
  obtain rfl : c1 = cA := (ct_uni hK 1 5 rfl rfl (fun C => by simp)).symm
  have hK := hK.sub (tys' := tys) [0, 1, 2, 3, 4] rfl
  have hP : va_P D vwCl [(h0, .inr (4, [.int 0, .int 0, .int 0, .int 0, .ref q1, .ref q5, .null, .null, .null, .null, .null])), (q1, .inl (c0, 6, .inl (fun _ => 0))), (q5, .inl (c0, 6, .inl (fun _ => 0))), (q9, .inl (c1, 6, .inr (.inl (fun _ => 0))))] H10 := hP
  have hD : va_D A [(h0, .inr (4, [.int 0, .int 0, .int 0, .int 0, .ref q1, .ref q5, .null, .null, .null, .null, .null])), (q1, .inl (c0, 6, .inl (fun _ => 0))), (q5, .inl (c0, 6, .inl (fun _ => 0))), (q9, .inl (c1, 6, .inr (.inl (fun _ => 0))))] := hD
  refine W.widen (k := 3) (n := 18) (Nat.le_of_ble_eq_true rfl) (Nat.le_of_ble_eq_true rfl) ?_
  refine va_putF (D := D) (ci := 4) (v := .ref q9) (C := RX4) (T := TX4) (N := 11) hx hb hw li_in4 tyX4 tyX4_ok nmX4 hown hK hP hD hS 0 rfl rfl 6 (by decide) (hw _ w_246) (fun _ h9 => h9) rfl hin rfl rfl rfl rfl (Nat.le_of_ble_eq_true rfl) dX4_init_25 (fun H11 l12 hP hD hS => ?_)
  have hP : va_P D vwCl [(h0, .inr (4, [.int 0, .int 0, .int 0, .int 0, .ref q1, .ref q5, .ref q9, .null, .null, .null, .null])), (q1, .inl (c0, 6, .inl (fun _ => 0))), (q5, .inl (c0, 6, .inl (fun _ => 0))), (q9, .inl (c1, 6, .inr (.inl (fun _ => 0))))] H11 := hP
  have hD : va_D A [(h0, .inr (4, [.int 0, .int 0, .int 0, .int 0, .ref q1, .ref q5, .ref q9, .null, .null, .null, .null])), (q1, .inl (c0, 6, .inl (fun _ => 0))), (q5, .inl (c0, 6, .inl (fun _ => 0))), (q9, .inl (c1, 6, .inr (.inl (fun _ => 0))))] := hD
  refine lv_aload_n hx hb dX4_init_28 rfl (lv_at hl 0 rfl) ?_
  refine lv_bipush (v := 6) hx hb dX4_init_29 (by decide) ?_
  refine va_newa (atype := .int) (ty := .int) (N' := 6) (a0 := (6, .inl (fun _ => 0))) hx hb (hw _ w_152) rfl hK hP hD hS hA (fun _ => rfl) (by decide) (by decide) (by decide) (Nat.le_of_ble_eq_true rfl) (Nat.le_of_ble_eq_true rfl) dX4_init_31 (fun q13 cA H14 hK hP hD hS => ?_)
  obtain rfl : c0 = cA := (ct_uni hK 0 5 rfl rfl (fun C => by simp)).symm
  have hK := hK.sub (tys' := tys) [0, 1, 2, 3, 4] rfl
  have hP : va_P D vwCl [(h0, .inr (4, [.int 0, .int 0, .int 0, .int 0, .ref q1, .ref q5, .ref q9, .null, .null, .null, .null])), (q1, .inl (c0, 6, .inl (fun _ => 0))), (q5, .inl (c0, 6, .inl (fun _ => 0))), (q9, .inl (c1, 6, .inr (.inl (fun _ => 0)))), (q13, .inl (c0, 6, .inl (fun _ => 0)))] H14 := hP
  have hD : va_D A [(h0, .inr (4, [.int 0, .int 0, .int 0, .int 0, .ref q1, .ref q5, .ref q9, .null, .null, .null, .null])), (q1, .inl (c0, 6, .inl (fun _ => 0))), (q5, .inl (c0, 6, .inl (fun _ => 0))), (q9, .inl (c1, 6, .inr (.inl (fun _ => 0)))), (q13, .inl (c0, 6, .inl (fun _ => 0)))] := hD
  refine W.widen (k := 4) (n := 24) (Nat.le_of_ble_eq_true rfl) (Nat.le_of_ble_eq_true rfl) ?_
  refine va_putF (D := D) (ci := 4) (v := .ref q13) (C := RX4) (T := TX4) (N := 11) hx hb hw li_in4 tyX4 tyX4_ok nmX4 hown hK hP hD hS 0 rfl rfl 7 (by decide) (hw _ w_248) (fun _ h9 => h9) rfl hin rfl rfl rfl rfl (Nat.le_of_ble_eq_true rfl) dX4_init_33 (fun H15 l16 hP hD hS => ?_)
  have hP : va_P D vwCl [(h0, .inr (4, [.int 0, .int 0, .int 0, .int 0, .ref q1, .ref q5, .ref q9, .ref q13, .null, .null, .null])), (q1, .inl (c0, 6, .inl (fun _ => 0))), (q5, .inl (c0, 6, .inl (fun _ => 0))), (q9, .inl (c1, 6, .inr (.inl (fun _ => 0)))), (q13, .inl (c0, 6, .inl (fun _ => 0)))] H15 := hP
  have hD : va_D A [(h0, .inr (4, [.int 0, .int 0, .int 0, .int 0, .ref q1, .ref q5, .ref q9, .ref q13, .null, .null, .null])), (q1, .inl (c0, 6, .inl (fun _ => 0))), (q5, .inl (c0, 6, .inl (fun _ => 0))), (q9, .inl (c1, 6, .inr (.inl (fun _ => 0)))), (q13, .inl (c0, 6, .inl (fun _ => 0)))] := hD
  refine lv_aload_n hx hb dX4_init_36 rfl (lv_at hl 0 rfl) ?_
  refine lv_bipush (v := 6) hx hb dX4_init_37 (by decide) ?_
  refine va_newa (atype := .int) (ty := .int) (N' := 6) (a0 := (6, .inl (fun _ => 0))) hx hb (hw _ w_152) rfl hK hP hD hS hA (fun _ => rfl) (by decide) (by decide) (by decide) (Nat.le_of_ble_eq_true rfl) (Nat.le_of_ble_eq_true rfl) dX4_init_39 (fun q17 cA H18 hK hP hD hS => ?_)
  obtain rfl : c0 = cA := (ct_uni hK 0 5 rfl rfl (fun C => by simp)).symm
  have hK := hK.sub (tys' := tys) [0, 1, 2, 3, 4] rfl
  have hP : va_P D vwCl [(h0, .inr (4, [.int 0, .int 0, .int 0, .int 0, .ref q1, .ref q5, .ref q9, .ref q13, .null, .null, .null])), (q1, .inl (c0, 6, .inl (fun _ => 0))), (q5, .inl (c0, 6, .inl (fun _ => 0))), (q9, .inl (c1, 6, .inr (.inl (fun _ => 0)))), (q13, .inl (c0, 6, .inl (fun _ => 0))), (q17, .inl (c0, 6, .inl (fun _ => 0)))] H18 := hP
  have hD : va_D A [(h0, .inr (4, [.int 0, .int 0, .int 0, .int 0, .ref q1, .ref q5, .ref q9, .ref q13, .null, .null, .null])), (q1, .inl (c0, 6, .inl (fun _ => 0))), (q5, .inl (c0, 6, .inl (fun _ => 0))), (q9, .inl (c1, 6, .inr (.inl (fun _ => 0)))), (q13, .inl (c0, 6, .inl (fun _ => 0))), (q17, .inl (c0, 6, .inl (fun _ => 0)))] := hD
  refine W.widen (k := 5) (n := 30) (Nat.le_of_ble_eq_true rfl) (Nat.le_of_ble_eq_true rfl) ?_
  refine va_putF (D := D) (ci := 4) (v := .ref q17) (C := RX4) (T := TX4) (N := 11) hx hb hw li_in4 tyX4 tyX4_ok nmX4 hown hK hP hD hS 0 rfl rfl 8 (by decide) (hw _ w_250) (fun _ h9 => h9) rfl hin rfl rfl rfl rfl (Nat.le_of_ble_eq_true rfl) dX4_init_41 (fun H19 l20 hP hD hS => ?_)
  have hP : va_P D vwCl [(h0, .inr (4, [.int 0, .int 0, .int 0, .int 0, .ref q1, .ref q5, .ref q9, .ref q13, .ref q17, .null, .null])), (q1, .inl (c0, 6, .inl (fun _ => 0))), (q5, .inl (c0, 6, .inl (fun _ => 0))), (q9, .inl (c1, 6, .inr (.inl (fun _ => 0)))), (q13, .inl (c0, 6, .inl (fun _ => 0))), (q17, .inl (c0, 6, .inl (fun _ => 0)))] H19 := hP
  have hD : va_D A [(h0, .inr (4, [.int 0, .int 0, .int 0, .int 0, .ref q1, .ref q5, .ref q9, .ref q13, .ref q17, .null, .null])), (q1, .inl (c0, 6, .inl (fun _ => 0))), (q5, .inl (c0, 6, .inl (fun _ => 0))), (q9, .inl (c1, 6, .inr (.inl (fun _ => 0)))), (q13, .inl (c0, 6, .inl (fun _ => 0))), (q17, .inl (c0, 6, .inl (fun _ => 0)))] := hD
  refine lv_aload_n hx hb dX4_init_44 rfl (lv_at hl 0 rfl) ?_
  refine lv_bipush (v := 6) hx hb dX4_init_45 (by decide) ?_
  refine va_newa (atype := .int) (ty := .int) (N' := 6) (a0 := (6, .inl (fun _ => 0))) hx hb (hw _ w_152) rfl hK hP hD hS hA (fun _ => rfl) (by decide) (by decide) (by decide) (Nat.le_of_ble_eq_true rfl) (Nat.le_of_ble_eq_true rfl) dX4_init_47 (fun q21 cA H22 hK hP hD hS => ?_)
  obtain rfl : c0 = cA := (ct_uni hK 0 5 rfl rfl (fun C => by simp)).symm
  have hK := hK.sub (tys' := tys) [0, 1, 2, 3, 4] rfl
  have hP : va_P D vwCl [(h0, .inr (4, [.int 0, .int 0, .int 0, .int 0, .ref q1, .ref q5, .ref q9, .ref q13, .ref q17, .null, .null])), (q1, .inl (c0, 6, .inl (fun _ => 0))), (q5, .inl (c0, 6, .inl (fun _ => 0))), (q9, .inl (c1, 6, .inr (.inl (fun _ => 0)))), (q13, .inl (c0, 6, .inl (fun _ => 0))), (q17, .inl (c0, 6, .inl (fun _ => 0))), (q21, .inl (c0, 6, .inl (fun _ => 0)))] H22 := hP
  have hD : va_D A [(h0, .inr (4, [.int 0, .int 0, .int 0, .int 0, .ref q1, .ref q5, .ref q9, .ref q13, .ref q17, .null, .null])), (q1, .inl (c0, 6, .inl (fun _ => 0))), (q5, .inl (c0, 6, .inl (fun _ => 0))), (q9, .inl (c1, 6, .inr (.inl (fun _ => 0)))), (q13, .inl (c0, 6, .inl (fun _ => 0))), (q17, .inl (c0, 6, .inl (fun _ => 0))), (q21, .inl (c0, 6, .inl (fun _ => 0)))] := hD
  refine W.widen (k := 6) (n := 36) (Nat.le_of_ble_eq_true rfl) (Nat.le_of_ble_eq_true rfl) ?_
  refine va_putF (D := D) (ci := 4) (v := .ref q21) (C := RX4) (T := TX4) (N := 11) hx hb hw li_in4 tyX4 tyX4_ok nmX4 hown hK hP hD hS 0 rfl rfl 9 (by decide) (hw _ w_252) (fun _ h9 => h9) rfl hin rfl rfl rfl rfl (Nat.le_of_ble_eq_true rfl) dX4_init_49 (fun H23 l24 hP hD hS => ?_)
  have hP : va_P D vwCl [(h0, .inr (4, [.int 0, .int 0, .int 0, .int 0, .ref q1, .ref q5, .ref q9, .ref q13, .ref q17, .ref q21, .null])), (q1, .inl (c0, 6, .inl (fun _ => 0))), (q5, .inl (c0, 6, .inl (fun _ => 0))), (q9, .inl (c1, 6, .inr (.inl (fun _ => 0)))), (q13, .inl (c0, 6, .inl (fun _ => 0))), (q17, .inl (c0, 6, .inl (fun _ => 0))), (q21, .inl (c0, 6, .inl (fun _ => 0)))] H23 := hP
  have hD : va_D A [(h0, .inr (4, [.int 0, .int 0, .int 0, .int 0, .ref q1, .ref q5, .ref q9, .ref q13, .ref q17, .ref q21, .null])), (q1, .inl (c0, 6, .inl (fun _ => 0))), (q5, .inl (c0, 6, .inl (fun _ => 0))), (q9, .inl (c1, 6, .inr (.inl (fun _ => 0)))), (q13, .inl (c0, 6, .inl (fun _ => 0))), (q17, .inl (c0, 6, .inl (fun _ => 0))), (q21, .inl (c0, 6, .inl (fun _ => 0)))] := hD
  refine lv_aload_n hx hb dX4_init_52 rfl (lv_at hl 0 rfl) ?_
  refine lv_bipush (v := 6) hx hb dX4_init_53 (by decide) ?_
  refine va_newa (atype := .long) (ty := .long) (N' := 6) (a0 := (6, .inr (.inl (fun _ => 0)))) hx hb (hw _ w_279) rfl hK hP hD hS hA (fun _ => rfl) (by decide) (by decide) (by decide) (Nat.le_of_ble_eq_true rfl) (Nat.le_of_ble_eq_true rfl) dX4_init_55 (fun q25 cA H26 hK hP hD hS => ?_)
  obtain rfl : c1 = cA := (ct_uni hK 1 5 rfl rfl (fun C => by simp)).symm
  have hK := hK.sub (tys' := tys) [0, 1, 2, 3, 4] rfl
  have hP : va_P D vwCl [(h0, .inr (4, [.int 0, .int 0, .int 0, .int 0, .ref q1, .ref q5, .ref q9, .ref q13, .ref q17, .ref q21, .null])), (q1, .inl (c0, 6, .inl (fun _ => 0))), (q5, .inl (c0, 6, .inl (fun _ => 0))), (q9, .inl (c1, 6, .inr (.inl (fun _ => 0)))), (q13, .inl (c0, 6, .inl (fun _ => 0))), (q17, .inl (c0, 6, .inl (fun _ => 0))), (q21, .inl (c0, 6, .inl (fun _ => 0))), (q25, .inl (c1, 6, .inr (.inl (fun _ => 0))))] H26 := hP
  have hD : va_D A [(h0, .inr (4, [.int 0, .int 0, .int 0, .int 0, .ref q1, .ref q5, .ref q9, .ref q13, .ref q17, .ref q21, .null])), (q1, .inl (c0, 6, .inl (fun _ => 0))), (q5, .inl (c0, 6, .inl (fun _ => 0))), (q9, .inl (c1, 6, .inr (.inl (fun _ => 0)))), (q13, .inl (c0, 6, .inl (fun _ => 0))), (q17, .inl (c0, 6, .inl (fun _ => 0))), (q21, .inl (c0, 6, .inl (fun _ => 0))), (q25, .inl (c1, 6, .inr (.inl (fun _ => 0))))] := hD
  refine W.widen (k := 7) (n := 42) (Nat.le_of_ble_eq_true rfl) (Nat.le_of_ble_eq_true rfl) ?_
  refine va_putF (D := D) (ci := 4) (v := .ref q25) (C := RX4) (T := TX4) (N := 11) hx hb hw li_in4 tyX4 tyX4_ok nmX4 hown hK hP hD hS 0 rfl rfl 10 (by decide) (hw _ w_254) (fun _ h9 => h9) rfl hin rfl rfl rfl rfl (Nat.le_of_ble_eq_true rfl) dX4_init_57 (fun H27 l28 hP hD hS => ?_)
  have hP : va_P D vwCl [(h0, .inr (4, [.int 0, .int 0, .int 0, .int 0, .ref q1, .ref q5, .ref q9, .ref q13, .ref q17, .ref q21, .ref q25])), (q1, .inl (c0, 6, .inl (fun _ => 0))), (q5, .inl (c0, 6, .inl (fun _ => 0))), (q9, .inl (c1, 6, .inr (.inl (fun _ => 0)))), (q13, .inl (c0, 6, .inl (fun _ => 0))), (q17, .inl (c0, 6, .inl (fun _ => 0))), (q21, .inl (c0, 6, .inl (fun _ => 0))), (q25, .inl (c1, 6, .inr (.inl (fun _ => 0))))] H27 := hP
  have hD : va_D A [(h0, .inr (4, [.int 0, .int 0, .int 0, .int 0, .ref q1, .ref q5, .ref q9, .ref q13, .ref q17, .ref q21, .ref q25])), (q1, .inl (c0, 6, .inl (fun _ => 0))), (q5, .inl (c0, 6, .inl (fun _ => 0))), (q9, .inl (c1, 6, .inr (.inl (fun _ => 0)))), (q13, .inl (c0, 6, .inl (fun _ => 0))), (q17, .inl (c0, 6, .inl (fun _ => 0))), (q21, .inl (c0, 6, .inl (fun _ => 0))), (q25, .inl (c1, 6, .inr (.inl (fun _ => 0))))] := hD
  refine W.widen (k := 7) (n := 42) (Nat.le_of_ble_eq_true rfl) (Nat.le_of_ble_eq_true rfl) ?_
  exact W.vret hx hb hr (fun t ht hW => ⟨⟨fun i => [q1, q5, q9, q13, q17, q21, q25].getD i 0, rfl, trivial, by rw [ht]; exact hP, hD⟩, hS.F ht⟩) hS.2.2 dX4_init_60
set_option maxRecDepth 100000 in
set_option maxHeartbeats 4000000 in
theorem ct_X6_init (l : Launch) (D : va_G) (c0 c1 c2 c3 c4 : ClassId) (h0 : Nat) (sz : Nat) : Met l YX6_init.1 (li_wy YX6_init) ({ frames := 1, cells := 3, slots := 166, locals := 60 } : Room) (va_Pc [.ref h0] (fun U => ct_pre D c0 c1 c2 c3 c4 [(h0, .inr (6, [.null, .null, .null, .int 0]))] sz U)) (va_Qv (fun _ : Nat → Nat => True) (fun u t => va_P D vwCl [(h0, .inr (6, [.ref (u 0), .ref (u 1), .ref (u 2), .int 0])), ((u 0), .inl (c0, 80, .inl (fun _ => 0))), ((u 1), .inl (c0, 80, .inl (fun _ => 0))), ((u 2), .inl (c0, 6, .inl (fun _ => 0)))] t.heap ∧ va_D (va_A [(h0, .inr (6, [.null, .null, .null, .int 0]))] sz) [(h0, .inr (6, [.ref (u 0), .ref (u 1), .ref (u 2), .int 0])), ((u 0), .inl (c0, 80, .inl (fun _ => 0))), ((u 1), .inl (c0, 80, .inl (fun _ => 0))), ((u 2), .inl (c0, 6, .inl (fun _ => 0)))]) (va_A [(h0, .inr (6, [.null, .null, .null, .int 0]))] sz)) 3 166 (va_A [(h0, .inr (6, [.null, .null, .null, .int 0]))] sz) := by
  refine Met.ofW (cc := YX6_init.2.1) (maxL := YX6_init.2.2.1) (ret := none) (by decide +kernel) rfl ?_
  intro p e s m args below meth c s₁ B hml hv
  obtain ⟨rfl, hsz, hP, hK, hD0, hN, hAO⟩ := hv
  have hx := B.exec
  have hb := B.bytes
  have hr := B.returns
  have hts := atoms_spec (ws := li_wy YX6_init) B.pre
  have hw : ∀ w ∈ li_ws, w.before #[.ref h0] s = true := fun w h => hts w (List.mem_cons_of_mem _ h)
  have hown : s.vm.findClass YX6_init.1.cls = some m.cls := findClass_of_methodNamed B.named
  have hlocks := B.notSynchronized
  have hin : meth.name = "<init>" := (name_of_methodNamed B.named B.method).1
  subst hsz
  have hD := hD0.self (sz := s.heap.size)
  generalize hAe : va_A [(h0, .inr (6, [.null, .null, .null, .int 0]))] s.heap.size = A at hD ⊢
  have hA : ∀ q : Nat, s.heap.size ≤ q → A q := fun q h => by rw [← hAe]; exact Or.inr h
  have hS : va_S A s.heap s.heap [] := va_S.rf
  have hP : va_P D vwCl [(h0, .inr (6, [.null, .null, .null, .int 0]))] s.heap := hP
  let tys : List (ClassId × FieldType) := [(c0, .int), (c1, .long), (c2, .byte), (c3, .boolean), (c4, .object "ClockForTalk$Ledger")]
  have hl := lv_entry ([.ref h0]) (n := 1) (Nat.le_of_ble_eq_true rfl)
  rw [lg_entry_eq]
  generalize (lg_sl ([.ref h0]) ++ List.replicate (1 - (lg_sl ([.ref h0])).length) Slot.unset).toArray = ls at hl ⊢
  have hl : lv_has ls 1 [(0, .ref h0)] := hl
  refine lv_aload_n hx hb dX6_init_0 rfl (lv_at hl 0 rfl) ?_
  refine W.objInit hx hb hown (hw _ w_314) (hw _ w_130) (hw _ w_objcode) rfl (by rw [hml]; exact hl.1) rfl dX6_init_1 (Nat.le_of_ble_eq_true rfl) (Nat.le_of_ble_eq_true rfl) ?_
  refine W.eq (g2 := F0 m 4 ls []) rfl ?_
  refine lv_aload_n hx hb dX6_init_4 rfl (lv_at hl 0 rfl) ?_
  refine lv_bipush (v := 80) hx hb dX6_init_5 (by decide) ?_
  refine va_newa (atype := .int) (ty := .int) (N' := 80) (a0 := (80, .inl (fun _ => 0))) hx hb (hw _ w_152) rfl hK hP hD hS hA (fun _ => rfl) (by decide) (by decide) (by decide) (Nat.le_of_ble_eq_true rfl) (Nat.le_of_ble_eq_true rfl) dX6_init_7 (fun q1 cA H2 hK hP hD hS => ?_)
  obtain rfl : c0 = cA := (ct_uni hK 0 5 rfl rfl (fun C => by simp)).symm
  have hK := hK.sub (tys' := tys) [0, 1, 2, 3, 4] rfl
  have hP : va_P D vwCl [(h0, .inr (6, [.null, .null, .null, .int 0])), (q1, .inl (c0, 80, .inl (fun _ => 0)))] H2 := hP
  have hD : va_D A [(h0, .inr (6, [.null, .null, .null, .int 0])), (q1, .inl (c0, 80, .inl (fun _ => 0)))] := hD
  refine W.widen (k := 1) (n := 80) (Nat.le_of_ble_eq_true rfl) (Nat.le_of_ble_eq_true rfl) ?_
  refine va_putF (D := D) (ci := 6) (v := .ref q1) (C := RX6) (T := TX6) (N := 4) hx hb hw li_in6 tyX6 tyX6_ok nmX6 hown hK hP hD hS 0 rfl rfl 0 (by decide) (hw _ w_315) (fun _ h9 => h9) rfl hin rfl rfl rfl rfl (Nat.le_of_ble_eq_true rfl) dX6_init_9 (fun H3 l4 hP hD hS => ?_)
  have hP : va_P D vwCl [(h0, .inr (6, [.ref q1, .null, .null, .int 0])), (q1, .inl (c0, 80, .inl (fun _ => 0)))] H3 := hP
  have hD : va_D A [(h0, .inr (6, [.ref q1, .null, .null, .int 0])), (q1, .inl (c0, 80, .inl (fun _ => 0)))] := hD
  refine lv_aload_n hx hb dX6_init_12 rfl (lv_at hl 0 rfl) ?_
  refine lv_bipush (v := 80) hx hb dX6_init_13 (by decide) ?_
  refine va_newa (atype := .int) (ty := .int) (N' := 80) (a0 := (80, .inl (fun _ => 0))) hx hb (hw _ w_152) rfl hK hP hD hS hA (fun _ => rfl) (by decide) (by decide) (by decide) (Nat.le_of_ble_eq_true rfl) (Nat.le_of_ble_eq_true rfl) dX6_init_15 (fun q5 cA H6 hK hP hD hS => ?_)
  obtain rfl : c0 = cA := (ct_uni hK 0 5 rfl rfl (fun C => by simp)).symm
  have hK := hK.sub (tys' := tys) [0, 1, 2, 3, 4] rfl
  have hP : va_P D vwCl [(h0, .inr (6, [.ref q1, .null, .null, .int 0])), (q1, .inl (c0, 80, .inl (fun _ => 0))), (q5, .inl (c0, 80, .inl (fun _ => 0)))] H6 := hP
  have hD : va_D A [(h0, .inr (6, [.ref q1, .null, .null, .int 0])), (q1, .inl (c0, 80, .inl (fun _ => 0))), (q5, .inl (c0, 80, .inl (fun _ => 0)))] := hD
  refine W.widen (k := 2) (n := 160) (Nat.le_of_ble_eq_true rfl) (Nat.le_of_ble_eq_true rfl) ?_
  refine va_putF (D := D) (ci := 6) (v := .ref q5) (C := RX6) (T := TX6) (N := 4) hx hb hw li_in6 tyX6 tyX6_ok nmX6 hown hK hP hD hS 0 rfl rfl 1 (by decide) (hw _ w_316) (fun _ h9 => h9) rfl hin rfl rfl rfl rfl (Nat.le_of_ble_eq_true rfl) dX6_init_17 (fun H7 l8 hP hD hS => ?_)
  have hP : va_P D vwCl [(h0, .inr (6, [.ref q1, .ref q5, .null, .int 0])), (q1, .inl (c0, 80, .inl (fun _ => 0))), (q5, .inl (c0, 80, .inl (fun _ => 0)))] H7 := hP
  have hD : va_D A [(h0, .inr (6, [.ref q1, .ref q5, .null, .int 0])), (q1, .inl (c0, 80, .inl (fun _ => 0))), (q5, .inl (c0, 80, .inl (fun _ => 0)))] := hD
  refine lv_aload_n hx hb dX6_init_20 rfl (lv_at hl 0 rfl) ?_
  refine lv_bipush (v := 6) hx hb dX6_init_21 (by decide) ?_
  refine va_newa (atype := .int) (ty := .int) (N' := 6) (a0 := (6, .inl (fun _ => 0))) hx hb (hw _ w_152) rfl hK hP hD hS hA (fun _ => rfl) (by decide) (by decide) (by decide) (Nat.le_of_ble_eq_true rfl) (Nat.le_of_ble_eq_true rfl) dX6_init_23 (fun q9 cA H10 hK hP hD hS => ?_)
  obtain rfl : c0 = cA := (ct_uni hK 0 5 rfl rfl (fun C => by simp)).symm
  have hK := hK.sub (tys' := tys) [0, 1, 2, 3, 4] rfl
  have hP : va_P D vwCl [(h0, .inr (6, [.ref q1, .ref q5, .null, .int 0])), (q1, .inl (c0, 80, .inl (fun _ => 0))), (q5, .inl (c0, 80, .inl (fun _ => 0))), (q9, .inl (c0, 6, .inl (fun _ => 0)))] H10 := hP
  have hD : va_D A [(h0, .inr (6, [.ref q1, .ref q5, .null, .int 0])), (q1, .inl (c0, 80, .inl (fun _ => 0))), (q5, .inl (c0, 80, .inl (fun _ => 0))), (q9, .inl (c0, 6, .inl (fun _ => 0)))] := hD
  refine W.widen (k := 3) (n := 166) (Nat.le_of_ble_eq_true rfl) (Nat.le_of_ble_eq_true rfl) ?_
  refine va_putF (D := D) (ci := 6) (v := .ref q9) (C := RX6) (T := TX6) (N := 4) hx hb hw li_in6 tyX6 tyX6_ok nmX6 hown hK hP hD hS 0 rfl rfl 2 (by decide) (hw _ w_317) (fun _ h9 => h9) rfl hin rfl rfl rfl rfl (Nat.le_of_ble_eq_true rfl) dX6_init_25 (fun H11 l12 hP hD hS => ?_)
  have hP : va_P D vwCl [(h0, .inr (6, [.ref q1, .ref q5, .ref q9, .int 0])), (q1, .inl (c0, 80, .inl (fun _ => 0))), (q5, .inl (c0, 80, .inl (fun _ => 0))), (q9, .inl (c0, 6, .inl (fun _ => 0)))] H11 := hP
  have hD : va_D A [(h0, .inr (6, [.ref q1, .ref q5, .ref q9, .int 0])), (q1, .inl (c0, 80, .inl (fun _ => 0))), (q5, .inl (c0, 80, .inl (fun _ => 0))), (q9, .inl (c0, 6, .inl (fun _ => 0)))] := hD
  refine W.widen (k := 3) (n := 166) (Nat.le_of_ble_eq_true rfl) (Nat.le_of_ble_eq_true rfl) ?_
  exact W.vret hx hb hr (fun t ht hW => ⟨⟨fun i => [q1, q5, q9].getD i 0, rfl, trivial, by rw [ht]; exact hP, hD⟩, hS.F ht⟩) hS.2.2 dX6_init_28
set_option maxRecDepth 100000 in
set_option maxHeartbeats 4000000 in
theorem ct_X10_init (l : Launch) (D : va_G) (c0 c1 c2 c3 c4 : ClassId) (h0 : Nat) (sz : Nat) : Met l YX10_init.1 (li_wy YX10_init) ({ frames := 1, cells := 7, slots := 554, locals := 60 } : Room) (va_Pc [.ref h0] (fun U => ct_pre D c0 c1 c2 c3 c4 [(h0, .inr (10, [.null, .null, .null, .null, .null, .null, .null, .int 0]))] sz U)) (va_Qv (fun _ : Nat → Nat => True) (fun u t => va_P D vwCl [(h0, .inr (10, [.ref (u 0), .ref (u 1), .ref (u 2), .ref (u 3), .ref (u 4), .ref (u 5), .ref (u 6), .int 0])), ((u 0), .inl (c0, 30, .inl (fun _ => 0))), ((u 1), .inl (c0, 30, .inl (fun _ => 0))), ((u 2), .inl (c0, 14, .inl (fun _ => 0))), ((u 3), .inl (c0, 225, .inl (fun _ => 0))), ((u 4), .inl (c0, 15, .inl (fun _ => 0))), ((u 5), .inl (c0, 225, .inl (fun _ => 0))), ((u 6), .inl (c0, 15, .inl (fun _ => 0)))] t.heap ∧ va_D (va_A [(h0, .inr (10, [.null, .null, .null, .null, .null, .null, .null, .int 0]))] sz) [(h0, .inr (10, [.ref (u 0), .ref (u 1), .ref (u 2), .ref (u 3), .ref (u 4), .ref (u 5), .ref (u 6), .int 0])), ((u 0), .inl (c0, 30, .inl (fun _ => 0))), ((u 1), .inl (c0, 30, .inl (fun _ => 0))), ((u 2), .inl (c0, 14, .inl (fun _ => 0))), ((u 3), .inl (c0, 225, .inl (fun _ => 0))), ((u 4), .inl (c0, 15, .inl (fun _ => 0))), ((u 5), .inl (c0, 225, .inl (fun _ => 0))), ((u 6), .inl (c0, 15, .inl (fun _ => 0)))]) (va_A [(h0, .inr (10, [.null, .null, .null, .null, .null, .null, .null, .int 0]))] sz)) 7 554 (va_A [(h0, .inr (10, [.null, .null, .null, .null, .null, .null, .null, .int 0]))] sz) := by
  refine Met.ofW (cc := YX10_init.2.1) (maxL := YX10_init.2.2.1) (ret := none) (by decide +kernel) rfl ?_
  intro p e s m args below meth c s₁ B hml hv
  obtain ⟨rfl, hsz, hP, hK, hD0, hN, hAO⟩ := hv
  have hx := B.exec
  have hb := B.bytes
  have hr := B.returns
  have hts := atoms_spec (ws := li_wy YX10_init) B.pre
  have hw : ∀ w ∈ li_ws, w.before #[.ref h0] s = true := fun w h => hts w (List.mem_cons_of_mem _ h)
  have hown : s.vm.findClass YX10_init.1.cls = some m.cls := findClass_of_methodNamed B.named
  have hlocks := B.notSynchronized
  have hin : meth.name = "<init>" := (name_of_methodNamed B.named B.method).1
  subst hsz
  have hD := hD0.self (sz := s.heap.size)
  generalize hAe : va_A [(h0, .inr (10, [.null, .null, .null, .null, .null, .null, .null, .int 0]))] s.heap.size = A at hD ⊢
  have hA : ∀ q : Nat, s.heap.size ≤ q → A q := fun q h => by rw [← hAe]; exact Or.inr h
  have hS : va_S A s.heap s.heap [] := va_S.rf
  have hP : va_P D vwCl [(h0, .inr (10, [.null, .null, .null, .null, .null, .null, .null, .int 0]))] s.heap := hP
  let tys : List (ClassId × FieldType) := [(c0, .int), (c1, .long), (c2, .byte), (c3, .boolean), (c4, .object "ClockForTalk$Ledger")]
  have hl := lv_entry ([.ref h0]) (n := 1) (Nat.le_of_ble_eq_true rfl)
  rw [lg_entry_eq]
  generalize (lg_sl ([.ref h0]) ++ List.replicate (1 - (lg_sl ([.ref h0])).length) Slot.unset).toArray = ls at hl ⊢
  have hl : lv_has ls 1 [(0, .ref h0)] := hl
  refine lv_aload_n hx hb dX10_init_0 rfl (lv_at hl 0 rfl) ?_
  refine W.objInit hx hb hown (hw _ w_334) (hw _ w_130) (hw _ w_objcode) rfl (by rw [hml]; exact hl.1) rfl dX10_init_1 (Nat.le_of_ble_eq_true rfl) (Nat.le_of_ble_eq_true rfl) ?_
  refine W.eq (g2 := F0 m 4 ls []) rfl ?_
  refine lv_aload_n hx hb dX10_init_4 rfl (lv_at hl 0 rfl) ?_
  refine lv_bipush (v := 30) hx hb dX10_init_5 (by decide) ?_
  refine va_newa (atype := .int) (ty := .int) (N' := 30) (a0 := (30, .inl (fun _ => 0))) hx hb (hw _ w_152) rfl hK hP hD hS hA (fun _ => rfl) (by decide) (by decide) (by decide) (Nat.le_of_ble_eq_true rfl) (Nat.le_of_ble_eq_true rfl) dX10_init_7 (fun q1 cA H2 hK hP hD hS => ?_)
  obtain rfl : c0 = cA := (ct_uni hK 0 5 rfl rfl (fun C => by simp)).symm
  have hK := hK.sub (tys' := tys) [0, 1, 2, 3, 4] rfl
  have hP : va_P D vwCl [(h0, .inr (10, [.null, .null, .null, .null, .null, .null, .null, .int 0])), (q1, .inl (c0, 30, .inl (fun _ => 0)))] H2 := hP
  have hD : va_D A [(h0, .inr (10, [.null, .null, .null, .null, .null, .null, .null, .int 0])), (q1, .inl (c0, 30, .inl (fun _ => 0)))] := hD
  refine W.widen (k := 1) (n := 30) (Nat.le_of_ble_eq_true rfl) (Nat.le_of_ble_eq_true rfl) ?_
  refine va_putF (D := D) (ci := 10) (v := .ref q1) (C := RX10) (T := TX10) (N := 8) hx hb hw li_in10 tyX10 tyX10_ok nmX10 hown hK hP hD hS 0 rfl rfl 0 (by decide) (hw _ w_335) (fun _ h9 => h9) rfl hin rfl rfl rfl rfl (Nat.le_of_ble_eq_true rfl) dX10_init_9 (fun H3 l4 hP hD hS => ?_)
  have hP : va_P D vwCl [(h0, .inr (10, [.ref q1, .null, .null, .null, .null, .null, .null, .int 0])), (q1, .inl (c0, 30, .inl (fun _ => 0)))] H3 := hP
  have hD : va_D A [(h0, .inr (10, [.ref q1, .null, .null, .null, .null, .null, .null, .int 0])), (q1, .inl (c0, 30, .inl (fun _ => 0)))] := hD
  refine lv_aload_n hx hb dX10_init_12 rfl (lv_at hl 0 rfl) ?_
  refine lv_bipush (v := 30) hx hb dX10_init_13 (by decide) ?_
  refine va_newa (atype := .int) (ty := .int) (N' := 30) (a0 := (30, .inl (fun _ => 0))) hx hb (hw _ w_152) rfl hK hP hD hS hA (fun _ => rfl) (by decide) (by decide) (by decide) (Nat.le_of_ble_eq_true rfl) (Nat.le_of_ble_eq_true rfl) dX10_init_15 (fun q5 cA H6 hK hP hD hS => ?_)
  obtain rfl : c0 = cA := (ct_uni hK 0 5 rfl rfl (fun C => by simp)).symm
  have hK := hK.sub (tys' := tys) [0, 1, 2, 3, 4] rfl
  have hP : va_P D vwCl [(h0, .inr (10, [.ref q1, .null, .null, .null, .null, .null, .null, .int 0])), (q1, .inl (c0, 30, .inl (fun _ => 0))), (q5, .inl (c0, 30, .inl (fun _ => 0)))] H6 := hP
  have hD : va_D A [(h0, .inr (10, [.ref q1, .null, .null, .null, .null, .null, .null, .int 0])), (q1, .inl (c0, 30, .inl (fun _ => 0))), (q5, .inl (c0, 30, .inl (fun _ => 0)))] := hD
  refine W.widen (k := 2) (n := 60) (Nat.le_of_ble_eq_true rfl) (Nat.le_of_ble_eq_true rfl) ?_
  refine va_putF (D := D) (ci := 10) (v := .ref q5) (C := RX10) (T := TX10) (N := 8) hx hb hw li_in10 tyX10 tyX10_ok nmX10 hown hK hP hD hS 0 rfl rfl 1 (by decide) (hw _ w_336) (fun _ h9 => h9) rfl hin rfl rfl rfl rfl (Nat.le_of_ble_eq_true rfl) dX10_init_17 (fun H7 l8 hP hD hS => ?_)
  have hP : va_P D vwCl [(h0, .inr (10, [.ref q1, .ref q5, .null, .null, .null, .null, .null, .int 0])), (q1, .inl (c0, 30, .inl (fun _ => 0))), (q5, .inl (c0, 30, .inl (fun _ => 0)))] H7 := hP
  have hD : va_D A [(h0, .inr (10, [.ref q1, .ref q5, .null, .null, .null, .null, .null, .int 0])), (q1, .inl (c0, 30, .inl (fun _ => 0))), (q5, .inl (c0, 30, .inl (fun _ => 0)))] := hD
  refine lv_aload_n hx hb dX10_init_20 rfl (lv_at hl 0 rfl) ?_
  refine lv_bipush (v := 14) hx hb dX10_init_21 (by decide) ?_
  refine va_newa (atype := .int) (ty := .int) (N' := 14) (a0 := (14, .inl (fun _ => 0))) hx hb (hw _ w_152) rfl hK hP hD hS hA (fun _ => rfl) (by decide) (by decide) (by decide) (Nat.le_of_ble_eq_true rfl) (Nat.le_of_ble_eq_true rfl) dX10_init_23 (fun q9 cA H10 hK hP hD hS => ?_)
  obtain rfl : c0 = cA := (ct_uni hK 0 5 rfl rfl (fun C => by simp)).symm
  have hK := hK.sub (tys' := tys) [0, 1, 2, 3, 4] rfl
  have hP : va_P D vwCl [(h0, .inr (10, [.ref q1, .ref q5, .null, .null, .null, .null, .null, .int 0])), (q1, .inl (c0, 30, .inl (fun _ => 0))), (q5, .inl (c0, 30, .inl (fun _ => 0))), (q9, .inl (c0, 14, .inl (fun _ => 0)))] H10 := hP
  have hD : va_D A [(h0, .inr (10, [.ref q1, .ref q5, .null, .null, .null, .null, .null, .int 0])), (q1, .inl (c0, 30, .inl (fun _ => 0))), (q5, .inl (c0, 30, .inl (fun _ => 0))), (q9, .inl (c0, 14, .inl (fun _ => 0)))] := hD
  refine W.widen (k := 3) (n := 74) (Nat.le_of_ble_eq_true rfl) (Nat.le_of_ble_eq_true rfl) ?_
  refine va_putF (D := D) (ci := 10) (v := .ref q9) (C := RX10) (T := TX10) (N := 8) hx hb hw li_in10 tyX10 tyX10_ok nmX10 hown hK hP hD hS 0 rfl rfl 2 (by decide) (hw _ w_337) (fun _ h9 => h9) rfl hin rfl rfl rfl rfl (Nat.le_of_ble_eq_true rfl) dX10_init_25 (fun H11 l12 hP hD hS => ?_)
  have hP : va_P D vwCl [(h0, .inr (10, [.ref q1, .ref q5, .ref q9, .null, .null, .null, .null, .int 0])), (q1, .inl (c0, 30, .inl (fun _ => 0))), (q5, .inl (c0, 30, .inl (fun _ => 0))), (q9, .inl (c0, 14, .inl (fun _ => 0)))] H11 := hP
  have hD : va_D A [(h0, .inr (10, [.ref q1, .ref q5, .ref q9, .null, .null, .null, .null, .int 0])), (q1, .inl (c0, 30, .inl (fun _ => 0))), (q5, .inl (c0, 30, .inl (fun _ => 0))), (q9, .inl (c0, 14, .inl (fun _ => 0)))] := hD
  refine lv_aload_n hx hb dX10_init_28 rfl (lv_at hl 0 rfl) ?_
  refine lv_sipush (v := 225) hx hb dX10_init_29 (by decide) ?_
  refine va_newa (atype := .int) (ty := .int) (N' := 225) (a0 := (225, .inl (fun _ => 0))) hx hb (hw _ w_152) rfl hK hP hD hS hA (fun _ => rfl) (by decide) (by decide) (by decide) (Nat.le_of_ble_eq_true rfl) (Nat.le_of_ble_eq_true rfl) dX10_init_32 (fun q13 cA H14 hK hP hD hS => ?_)
  obtain rfl : c0 = cA := (ct_uni hK 0 5 rfl rfl (fun C => by simp)).symm
  have hK := hK.sub (tys' := tys) [0, 1, 2, 3, 4] rfl
  have hP : va_P D vwCl [(h0, .inr (10, [.ref q1, .ref q5, .ref q9, .null, .null, .null, .null, .int 0])), (q1, .inl (c0, 30, .inl (fun _ => 0))), (q5, .inl (c0, 30, .inl (fun _ => 0))), (q9, .inl (c0, 14, .inl (fun _ => 0))), (q13, .inl (c0, 225, .inl (fun _ => 0)))] H14 := hP
  have hD : va_D A [(h0, .inr (10, [.ref q1, .ref q5, .ref q9, .null, .null, .null, .null, .int 0])), (q1, .inl (c0, 30, .inl (fun _ => 0))), (q5, .inl (c0, 30, .inl (fun _ => 0))), (q9, .inl (c0, 14, .inl (fun _ => 0))), (q13, .inl (c0, 225, .inl (fun _ => 0)))] := hD
  refine W.widen (k := 4) (n := 299) (Nat.le_of_ble_eq_true rfl) (Nat.le_of_ble_eq_true rfl) ?_
  refine va_putF (D := D) (ci := 10) (v := .ref q13) (C := RX10) (T := TX10) (N := 8) hx hb hw li_in10 tyX10 tyX10_ok nmX10 hown hK hP hD hS 0 rfl rfl 3 (by decide) (hw _ w_338) (fun _ h9 => h9) rfl hin rfl rfl rfl rfl (Nat.le_of_ble_eq_true rfl) dX10_init_34 (fun H15 l16 hP hD hS => ?_)
  have hP : va_P D vwCl [(h0, .inr (10, [.ref q1, .ref q5, .ref q9, .ref q13, .null, .null, .null, .int 0])), (q1, .inl (c0, 30, .inl (fun _ => 0))), (q5, .inl (c0, 30, .inl (fun _ => 0))), (q9, .inl (c0, 14, .inl (fun _ => 0))), (q13, .inl (c0, 225, .inl (fun _ => 0)))] H15 := hP
  have hD : va_D A [(h0, .inr (10, [.ref q1, .ref q5, .ref q9, .ref q13, .null, .null, .null, .int 0])), (q1, .inl (c0, 30, .inl (fun _ => 0))), (q5, .inl (c0, 30, .inl (fun _ => 0))), (q9, .inl (c0, 14, .inl (fun _ => 0))), (q13, .inl (c0, 225, .inl (fun _ => 0)))] := hD
  refine lv_aload_n hx hb dX10_init_37 rfl (lv_at hl 0 rfl) ?_
  refine lv_bipush (v := 15) hx hb dX10_init_38 (by decide) ?_
  refine va_newa (atype := .int) (ty := .int) (N' := 15) (a0 := (15, .inl (fun _ => 0))) hx hb (hw _ w_152) rfl hK hP hD hS hA (fun _ => rfl) (by decide) (by decide) (by decide) (Nat.le_of_ble_eq_true rfl) (Nat.le_of_ble_eq_true rfl) dX10_init_40 (fun q17 cA H18 hK hP hD hS => ?_)
  obtain rfl : c0 = cA := (ct_uni hK 0 5 rfl rfl (fun C => by simp)).symm
  have hK := hK.sub (tys' := tys) [0, 1, 2, 3, 4] rfl
  have hP : va_P D vwCl [(h0, .inr (10, [.ref q1, .ref q5, .ref q9, .ref q13, .null, .null, .null, .int 0])), (q1, .inl (c0, 30, .inl (fun _ => 0))), (q5, .inl (c0, 30, .inl (fun _ => 0))), (q9, .inl (c0, 14, .inl (fun _ => 0))), (q13, .inl (c0, 225, .inl (fun _ => 0))), (q17, .inl (c0, 15, .inl (fun _ => 0)))] H18 := hP
  have hD : va_D A [(h0, .inr (10, [.ref q1, .ref q5, .ref q9, .ref q13, .null, .null, .null, .int 0])), (q1, .inl (c0, 30, .inl (fun _ => 0))), (q5, .inl (c0, 30, .inl (fun _ => 0))), (q9, .inl (c0, 14, .inl (fun _ => 0))), (q13, .inl (c0, 225, .inl (fun _ => 0))), (q17, .inl (c0, 15, .inl (fun _ => 0)))] := hD
  refine W.widen (k := 5) (n := 314) (Nat.le_of_ble_eq_true rfl) (Nat.le_of_ble_eq_true rfl) ?_
  refine va_putF (D := D) (ci := 10) (v := .ref q17) (C := RX10) (T := TX10) (N := 8) hx hb hw li_in10 tyX10 tyX10_ok nmX10 hown hK hP hD hS 0 rfl rfl 4 (by decide) (hw _ w_339) (fun _ h9 => h9) rfl hin rfl rfl rfl rfl (Nat.le_of_ble_eq_true rfl) dX10_init_42 (fun H19 l20 hP hD hS => ?_)
  have hP : va_P D vwCl [(h0, .inr (10, [.ref q1, .ref q5, .ref q9, .ref q13, .ref q17, .null, .null, .int 0])), (q1, .inl (c0, 30, .inl (fun _ => 0))), (q5, .inl (c0, 30, .inl (fun _ => 0))), (q9, .inl (c0, 14, .inl (fun _ => 0))), (q13, .inl (c0, 225, .inl (fun _ => 0))), (q17, .inl (c0, 15, .inl (fun _ => 0)))] H19 := hP
  have hD : va_D A [(h0, .inr (10, [.ref q1, .ref q5, .ref q9, .ref q13, .ref q17, .null, .null, .int 0])), (q1, .inl (c0, 30, .inl (fun _ => 0))), (q5, .inl (c0, 30, .inl (fun _ => 0))), (q9, .inl (c0, 14, .inl (fun _ => 0))), (q13, .inl (c0, 225, .inl (fun _ => 0))), (q17, .inl (c0, 15, .inl (fun _ => 0)))] := hD
  refine lv_aload_n hx hb dX10_init_45 rfl (lv_at hl 0 rfl) ?_
  refine lv_sipush (v := 225) hx hb dX10_init_46 (by decide) ?_
  refine va_newa (atype := .int) (ty := .int) (N' := 225) (a0 := (225, .inl (fun _ => 0))) hx hb (hw _ w_152) rfl hK hP hD hS hA (fun _ => rfl) (by decide) (by decide) (by decide) (Nat.le_of_ble_eq_true rfl) (Nat.le_of_ble_eq_true rfl) dX10_init_49 (fun q21 cA H22 hK hP hD hS => ?_)
  obtain rfl : c0 = cA := (ct_uni hK 0 5 rfl rfl (fun C => by simp)).symm
  have hK := hK.sub (tys' := tys) [0, 1, 2, 3, 4] rfl
  have hP : va_P D vwCl [(h0, .inr (10, [.ref q1, .ref q5, .ref q9, .ref q13, .ref q17, .null, .null, .int 0])), (q1, .inl (c0, 30, .inl (fun _ => 0))), (q5, .inl (c0, 30, .inl (fun _ => 0))), (q9, .inl (c0, 14, .inl (fun _ => 0))), (q13, .inl (c0, 225, .inl (fun _ => 0))), (q17, .inl (c0, 15, .inl (fun _ => 0))), (q21, .inl (c0, 225, .inl (fun _ => 0)))] H22 := hP
  have hD : va_D A [(h0, .inr (10, [.ref q1, .ref q5, .ref q9, .ref q13, .ref q17, .null, .null, .int 0])), (q1, .inl (c0, 30, .inl (fun _ => 0))), (q5, .inl (c0, 30, .inl (fun _ => 0))), (q9, .inl (c0, 14, .inl (fun _ => 0))), (q13, .inl (c0, 225, .inl (fun _ => 0))), (q17, .inl (c0, 15, .inl (fun _ => 0))), (q21, .inl (c0, 225, .inl (fun _ => 0)))] := hD
  refine W.widen (k := 6) (n := 539) (Nat.le_of_ble_eq_true rfl) (Nat.le_of_ble_eq_true rfl) ?_
  refine va_putF (D := D) (ci := 10) (v := .ref q21) (C := RX10) (T := TX10) (N := 8) hx hb hw li_in10 tyX10 tyX10_ok nmX10 hown hK hP hD hS 0 rfl rfl 5 (by decide) (hw _ w_340) (fun _ h9 => h9) rfl hin rfl rfl rfl rfl (Nat.le_of_ble_eq_true rfl) dX10_init_51 (fun H23 l24 hP hD hS => ?_)
  have hP : va_P D vwCl [(h0, .inr (10, [.ref q1, .ref q5, .ref q9, .ref q13, .ref q17, .ref q21, .null, .int 0])), (q1, .inl (c0, 30, .inl (fun _ => 0))), (q5, .inl (c0, 30, .inl (fun _ => 0))), (q9, .inl (c0, 14, .inl (fun _ => 0))), (q13, .inl (c0, 225, .inl (fun _ => 0))), (q17, .inl (c0, 15, .inl (fun _ => 0))), (q21, .inl (c0, 225, .inl (fun _ => 0)))] H23 := hP
  have hD : va_D A [(h0, .inr (10, [.ref q1, .ref q5, .ref q9, .ref q13, .ref q17, .ref q21, .null, .int 0])), (q1, .inl (c0, 30, .inl (fun _ => 0))), (q5, .inl (c0, 30, .inl (fun _ => 0))), (q9, .inl (c0, 14, .inl (fun _ => 0))), (q13, .inl (c0, 225, .inl (fun _ => 0))), (q17, .inl (c0, 15, .inl (fun _ => 0))), (q21, .inl (c0, 225, .inl (fun _ => 0)))] := hD
  refine lv_aload_n hx hb dX10_init_54 rfl (lv_at hl 0 rfl) ?_
  refine lv_bipush (v := 15) hx hb dX10_init_55 (by decide) ?_
  refine va_newa (atype := .int) (ty := .int) (N' := 15) (a0 := (15, .inl (fun _ => 0))) hx hb (hw _ w_152) rfl hK hP hD hS hA (fun _ => rfl) (by decide) (by decide) (by decide) (Nat.le_of_ble_eq_true rfl) (Nat.le_of_ble_eq_true rfl) dX10_init_57 (fun q25 cA H26 hK hP hD hS => ?_)
  obtain rfl : c0 = cA := (ct_uni hK 0 5 rfl rfl (fun C => by simp)).symm
  have hK := hK.sub (tys' := tys) [0, 1, 2, 3, 4] rfl
  have hP : va_P D vwCl [(h0, .inr (10, [.ref q1, .ref q5, .ref q9, .ref q13, .ref q17, .ref q21, .null, .int 0])), (q1, .inl (c0, 30, .inl (fun _ => 0))), (q5, .inl (c0, 30, .inl (fun _ => 0))), (q9, .inl (c0, 14, .inl (fun _ => 0))), (q13, .inl (c0, 225, .inl (fun _ => 0))), (q17, .inl (c0, 15, .inl (fun _ => 0))), (q21, .inl (c0, 225, .inl (fun _ => 0))), (q25, .inl (c0, 15, .inl (fun _ => 0)))] H26 := hP
  have hD : va_D A [(h0, .inr (10, [.ref q1, .ref q5, .ref q9, .ref q13, .ref q17, .ref q21, .null, .int 0])), (q1, .inl (c0, 30, .inl (fun _ => 0))), (q5, .inl (c0, 30, .inl (fun _ => 0))), (q9, .inl (c0, 14, .inl (fun _ => 0))), (q13, .inl (c0, 225, .inl (fun _ => 0))), (q17, .inl (c0, 15, .inl (fun _ => 0))), (q21, .inl (c0, 225, .inl (fun _ => 0))), (q25, .inl (c0, 15, .inl (fun _ => 0)))] := hD
  refine W.widen (k := 7) (n := 554) (Nat.le_of_ble_eq_true rfl) (Nat.le_of_ble_eq_true rfl) ?_
  refine va_putF (D := D) (ci := 10) (v := .ref q25) (C := RX10) (T := TX10) (N := 8) hx hb hw li_in10 tyX10 tyX10_ok nmX10 hown hK hP hD hS 0 rfl rfl 6 (by decide) (hw _ w_342) (fun _ h9 => h9) rfl hin rfl rfl rfl rfl (Nat.le_of_ble_eq_true rfl) dX10_init_59 (fun H27 l28 hP hD hS => ?_)
  have hP : va_P D vwCl [(h0, .inr (10, [.ref q1, .ref q5, .ref q9, .ref q13, .ref q17, .ref q21, .ref q25, .int 0])), (q1, .inl (c0, 30, .inl (fun _ => 0))), (q5, .inl (c0, 30, .inl (fun _ => 0))), (q9, .inl (c0, 14, .inl (fun _ => 0))), (q13, .inl (c0, 225, .inl (fun _ => 0))), (q17, .inl (c0, 15, .inl (fun _ => 0))), (q21, .inl (c0, 225, .inl (fun _ => 0))), (q25, .inl (c0, 15, .inl (fun _ => 0)))] H27 := hP
  have hD : va_D A [(h0, .inr (10, [.ref q1, .ref q5, .ref q9, .ref q13, .ref q17, .ref q21, .ref q25, .int 0])), (q1, .inl (c0, 30, .inl (fun _ => 0))), (q5, .inl (c0, 30, .inl (fun _ => 0))), (q9, .inl (c0, 14, .inl (fun _ => 0))), (q13, .inl (c0, 225, .inl (fun _ => 0))), (q17, .inl (c0, 15, .inl (fun _ => 0))), (q21, .inl (c0, 225, .inl (fun _ => 0))), (q25, .inl (c0, 15, .inl (fun _ => 0)))] := hD
  refine W.widen (k := 7) (n := 554) (Nat.le_of_ble_eq_true rfl) (Nat.le_of_ble_eq_true rfl) ?_
  exact W.vret hx hb hr (fun t ht hW => ⟨⟨fun i => [q1, q5, q9, q13, q17, q21, q25].getD i 0, rfl, trivial, by rw [ht]; exact hP, hD⟩, hS.F ht⟩) hS.2.2 dX10_init_62
