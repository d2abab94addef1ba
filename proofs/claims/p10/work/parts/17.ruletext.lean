theorem w_580 : (Jvm.Cond.methodLink "ClockForTalk$Text" (30 : Nat) ({ cls := "java/lang/String", name := "length", desc := "()I" } : Jvm.MethodName)) ∈ li_ws := li_mem 580 (by decide +kernel) (by decide +kernel)
theorem w_581 : (Jvm.Cond.instanceMethod ({ cls := "java/lang/String", name := "length", desc := "()I" } : Jvm.MethodName)) ∈ li_ws := li_mem 581 (by decide +kernel) (by decide +kernel)
theorem w_582 : (Jvm.Cond.selects "java/lang/String" ({ cls := "java/lang/String", name := "length", desc := "()I" } : Jvm.MethodName) ({ cls := "java/lang/String", name := "length", desc := "()I" } : Jvm.MethodName)) ∈ li_ws := li_mem 582 (by decide +kernel) (by decide +kernel)
theorem w_583 : (Jvm.Cond.code ({ cls := "java/lang/String", name := "length", desc := "()I" } : Jvm.MethodName) prog_21_method_54_code (1 : Nat) (Option.some Jvm.ClassFile.FieldType.int)) ∈ li_ws := li_mem 583 (by decide +kernel) (by decide +kernel)
theorem w_590 : (Jvm.Cond.methodLink "ClockForTalk$Text" (35 : Nat) ({ cls := "java/lang/String", name := "charAt", desc := "(I)C" } : Jvm.MethodName)) ∈ li_ws := li_mem 590 (by decide +kernel) (by decide +kernel)
theorem w_591 : (Jvm.Cond.instanceMethod ({ cls := "java/lang/String", name := "charAt", desc := "(I)C" } : Jvm.MethodName)) ∈ li_ws := li_mem 591 (by decide +kernel) (by decide +kernel)
theorem w_592 : (Jvm.Cond.selects "java/lang/String" ({ cls := "java/lang/String", name := "charAt", desc := "(I)C" } : Jvm.MethodName) ({ cls := "java/lang/String", name := "charAt", desc := "(I)C" } : Jvm.MethodName)) ∈ li_ws := li_mem 592 (by decide +kernel) (by decide +kernel)
theorem w_593 : (Jvm.Cond.code ({ cls := "java/lang/String", name := "charAt", desc := "(I)C" } : Jvm.MethodName) prog_21_method_56_code (2 : Nat) (Option.some Jvm.ClassFile.FieldType.char)) ∈ li_ws := li_mem 593 (by decide +kernel) (by decide +kernel)
theorem w_628 : (Jvm.Cond.methodLink "ClockForTalk$Text" (39 : Nat) ({ cls := "ClockForTalk$Text", name := "skip", desc := "(I)Z" } : Jvm.MethodName)) ∈ li_ws := li_mem 628 (by decide +kernel) (by decide +kernel)
theorem dX7_takeAnyOf_0 : decode cX7_takeAnyOf 0 = .ok (.iconst 0, 1) := by decide +kernel
theorem dX7_takeAnyOf_1 : decode cX7_takeAnyOf 1 = .ok (.istore_n 2, 1) := by decide +kernel
theorem dX7_takeAnyOf_2 : decode cX7_takeAnyOf 2 = .ok (.iload_n 2, 1) := by decide +kernel
theorem dX7_takeAnyOf_3 : decode cX7_takeAnyOf 3 = .ok (.aload_n 1, 1) := by decide +kernel
theorem dX7_takeAnyOf_4 : decode cX7_takeAnyOf 4 = .ok (.invokevirtual 30, 3) := by decide +kernel
theorem dX7_takeAnyOf_7 : decode cX7_takeAnyOf 7 = .ok (.if_icmp .ge 23, 3) := by decide +kernel
theorem dX7_takeAnyOf_10 : decode cX7_takeAnyOf 10 = .ok (.aload_n 0, 1) := by decide +kernel
theorem dX7_takeAnyOf_11 : decode cX7_takeAnyOf 11 = .ok (.aload_n 1, 1) := by decide +kernel
theorem dX7_takeAnyOf_12 : decode cX7_takeAnyOf 12 = .ok (.iload_n 2, 1) := by decide +kernel
theorem dX7_takeAnyOf_13 : decode cX7_takeAnyOf 13 = .ok (.invokevirtual 35, 3) := by decide +kernel
theorem dX7_takeAnyOf_16 : decode cX7_takeAnyOf 16 = .ok (.invokevirtual 39, 3) := by decide +kernel
theorem dX7_takeAnyOf_19 : decode cX7_takeAnyOf 19 = .ok (.ifCond .eq 5, 3) := by decide +kernel
theorem dX7_takeAnyOf_22 : decode cX7_takeAnyOf 22 = .ok (.iload_n 2, 1) := by decide +kernel
theorem dX7_takeAnyOf_23 : decode cX7_takeAnyOf 23 = .ok (.ireturn, 1) := by decide +kernel
theorem dX7_takeAnyOf_24 : decode cX7_takeAnyOf 24 = .ok (.iinc 2 1, 3) := by decide +kernel
theorem dX7_takeAnyOf_27 : decode cX7_takeAnyOf 27 = .ok (.goto (-25), 3) := by decide +kernel
theorem dX7_takeAnyOf_30 : decode cX7_takeAnyOf 30 = .ok (.iconst (-1), 1) := by decide +kernel
theorem dX7_takeAnyOf_31 : decode cX7_takeAnyOf 31 = .ok (.ireturn, 1) := by decide +kernel
abbrev YX7_takeAnyOf : li_Y := (yX7_takeAnyOf, cX7_takeAnyOf, 3, (some .int))
set_option maxRecDepth 100000 in
set_option maxHeartbeats 4000000 in
theorem k_X7_takeAnyOf {l : Launch} {Z : li_Z} (d : Nat) (hd : 5 ≤ d) {s : Nat} (hs : s < 4) (M0 : li_M) : li_Met l Z YX7_takeAnyOf d [.ref (Z.2.2 1), .ref (Z.2.2 (2100 + s))] M0 (li_SI (fun i => i = 1) M0) := by
  refine li_enter (by decide +kernel) (Nat.le_of_ble_eq_true rfl) ?_
  show li_T l Z YX7_takeAnyOf d 0 [(0, .ref (Z.2.2 1)), (1, .ref (Z.2.2 (2100 + s)))] [] M0 _
  have hf : li_fr (fun i => i = 1) M0 M0 := li_fr_refl
  refine li_iconst 0 dX7_takeAnyOf_0 (by decide) ?_
  refine li_istore_n [(2, .int 0), (0, .ref (Z.2.2 1)), (1, .ref (Z.2.2 (2100 + s)))] dX7_takeAnyOf_1 (by decide) rfl ?_
  have L2 : ∀ (n : Nat) (x1 : Int32) (M2 : li_M), (2147483647 - (x1 : Int32).toInt).toNat < n → li_fr (fun i => i = 1) M0 M2 → 0 ≤ (x1 : Int32).toInt → li_T l Z YX7_takeAnyOf d 2 [(2, .int x1), (0, .ref (Z.2.2 1)), (1, .ref (Z.2.2 (2100 + s)))] [] M2 (li_SI (fun i => i = 1) M0) := by
    intro n
    induction n with
    | zero => intro x1 M2 hn; exact absurd hn (Nat.not_lt_zero _)
    | succ n ih2 =>
      intro x1 M2 hn hf hi
      have gx1 := tl_rg x1
      refine li_iload_n 0 dX7_takeAnyOf_2 rfl ?_
      refine li_aload_n 2 dX7_takeAnyOf_3 rfl ?_
      refine li_callT (n := 0) (As := []) hs dX7_takeAnyOf_4 (k_J0_length (d - 1) (by omega) hs M2) (by omega) (Nat.le_of_ble_eq_true rfl) rfl w_580 w_581 w_582 w_114 w_583 (by decide +kernel) rfl rfl (Nat.le_of_ble_eq_true rfl) (fun r M4 h5 => ?_)
      obtain ⟨⟨x3, rfl, qx3⟩, h5⟩ := h5
      have gx3 := tl_rg x3
      have hf := li_fr_trans hf h5 (fun i h => False.elim h)
      refine li_icmp_ge 30 dX7_takeAnyOf_7 (by decide) (fun c6 => ?_) (fun c6 => ?_)
      · have tc6 : x3.toInt ≤ x1.toInt := tl_le c6
        refine li_iconst (-1) dX7_takeAnyOf_30 (by decide) ?_
        exact li_iret dX7_takeAnyOf_31 rfl rfl ⟨⟨_, rfl⟩, hf⟩
      · have tc6 : x1.toInt < x3.toInt := tl_nle c6
        refine li_aload_n 1 dX7_takeAnyOf_10 rfl ?_
        refine li_aload_n 2 dX7_takeAnyOf_11 rfl ?_
        refine li_iload_n 0 dX7_takeAnyOf_12 rfl ?_
        refine li_callT (n := 1) (As := [.int x1]) hs dX7_takeAnyOf_13 (k_J0_charAt (d - 1) (by omega) hs x1 (by omega) (by omega) M4) (by omega) (Nat.le_of_ble_eq_true rfl) rfl w_590 w_591 w_592 w_114 w_593 (by decide +kernel) rfl rfl (Nat.le_of_ble_eq_true rfl) (fun r M8 h9 => ?_)
        obtain ⟨⟨x7, rfl⟩, h9⟩ := h9
        have gx7 := tl_rg x7
        have hf := li_fr_trans hf h9 (fun i h => False.elim h)
        refine li_callV (n := 1) (As := [.int x7]) dX7_takeAnyOf_16 (k_X7_skip (d - 1) (by omega) x7 M8) (by omega) (Nat.le_of_ble_eq_true rfl) w_628 w_565 w_566 w_102 w_567 (by decide +kernel) rfl (by decide) sh_1 rfl rfl (Nat.le_of_ble_eq_true rfl) (fun r M11 h12 => ?_)
        obtain ⟨⟨x10, rfl, bx10⟩, h12⟩ := h12
        have ux10 := tl_b bx10
        have hf := li_fr_trans hf h12 (fun i (h : i = 1) => (show i = 1 by omega))
        refine li_if_eq 24 dX7_takeAnyOf_19 (by decide) (fun c13 => ?_) (fun c13 => ?_)
        · have tc13 : x10.toInt = 0 := tl_eq c13
          obtain ⟨x14, ex14⟩ : ∃ y : Int32, y = x1 + 1 := ⟨_, rfl⟩
          have tx14 : (-2147483648 ≤ x1.toInt + 1 ∧ x1.toInt + 1 ≤ 2147483647) → x14.toInt = x1.toInt + 1 := tl_add ex14
          refine li_iinc 0 [(2, .int x14), (0, .ref (Z.2.2 1)), (1, .ref (Z.2.2 (2100 + s)))] x14 dX7_takeAnyOf_24 rfl (by rw [ex14]; rfl) (by decide) rfl ?_
          refine li_goto 2 dX7_takeAnyOf_27 (by decide) ?_
          refine li_pick [0, 1, 2] [(2, .int x14), (0, .ref (Z.2.2 1)), (1, .ref (Z.2.2 (2100 + s)))] rfl ?_
          exact ih2 x14 M11 (by omega) hf (by omega)
        · have tc13 : ¬ x10.toInt = 0 := tl_ne c13
          refine li_iload_n 0 dX7_takeAnyOf_22 rfl ?_
          exact li_iret dX7_takeAnyOf_23 rfl rfl ⟨⟨_, rfl⟩, hf⟩
  have z0 : (0 : Int32).toInt = 0 := rfl
  exact L2 _ 0 M0 (Nat.lt_succ_self _) hf (by omega)
