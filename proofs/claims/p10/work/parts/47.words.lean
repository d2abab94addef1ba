theorem w_341 : (Jvm.Cond.fieldLink "ClockForTalk" (378 : Nat) "ClockForTalk$Wordings" "rows" "[I") ∈ li_ws := li_mem 341 (by decide +kernel) (by decide +kernel)
theorem w_1125 : (Jvm.Cond.methodLink "ClockForTalk" (372 : Nat) ({ cls := "ClockForTalk$Wordings", name := "fillMasks", desc := "(I)V" } : Jvm.MethodName)) ∈ li_ws := li_mem 1125 (by decide +kernel) (by decide +kernel)
theorem w_1126 : (Jvm.Cond.instanceMethod ({ cls := "ClockForTalk$Wordings", name := "fillMasks", desc := "(I)V" } : Jvm.MethodName)) ∈ li_ws := li_mem 1126 (by decide +kernel) (by decide +kernel)
theorem w_1127 : (Jvm.Cond.selects "ClockForTalk$Wordings" ({ cls := "ClockForTalk$Wordings", name := "fillMasks", desc := "(I)V" } : Jvm.MethodName) ({ cls := "ClockForTalk$Wordings", name := "fillMasks", desc := "(I)V" } : Jvm.MethodName)) ∈ li_ws := li_mem 1127 (by decide +kernel) (by decide +kernel)
theorem w_1128 : (Jvm.Cond.code ({ cls := "ClockForTalk$Wordings", name := "fillMasks", desc := "(I)V" } : Jvm.MethodName) prog_11_method_6_code (4 : Nat) (Option.none : Option Jvm.ClassFile.FieldType)) ∈ li_ws := li_mem 1128 (by decide +kernel) (by decide +kernel)
theorem w_1139 : (Jvm.Cond.methodLink "ClockForTalk" (375 : Nat) ({ cls := "ClockForTalk$Wordings", name := "shorten", desc := "(I)I" } : Jvm.MethodName)) ∈ li_ws := li_mem 1139 (by decide +kernel) (by decide +kernel)
theorem w_1140 : (Jvm.Cond.instanceMethod ({ cls := "ClockForTalk$Wordings", name := "shorten", desc := "(I)I" } : Jvm.MethodName)) ∈ li_ws := li_mem 1140 (by decide +kernel) (by decide +kernel)
theorem w_1141 : (Jvm.Cond.selects "ClockForTalk$Wordings" ({ cls := "ClockForTalk$Wordings", name := "shorten", desc := "(I)I" } : Jvm.MethodName) ({ cls := "ClockForTalk$Wordings", name := "shorten", desc := "(I)I" } : Jvm.MethodName)) ∈ li_ws := li_mem 1141 (by decide +kernel) (by decide +kernel)
theorem w_1142 : (Jvm.Cond.code ({ cls := "ClockForTalk$Wordings", name := "shorten", desc := "(I)I" } : Jvm.MethodName) prog_11_method_8_code (4 : Nat) (Option.some Jvm.ClassFile.FieldType.int)) ∈ li_ws := li_mem 1142 (by decide +kernel) (by decide +kernel)
theorem w_1159 : (Jvm.Cond.methodLink "ClockForTalk" (381 : Nat) ({ cls := "ClockForTalk$Wordings", name := "mask", desc := "(II)I" } : Jvm.MethodName)) ∈ li_ws := li_mem 1159 (by decide +kernel) (by decide +kernel)
theorem dX11_shorter_0 : decode cX11_shorter 0 = .ok (.aload_n 0, 1) := by decide +kernel
theorem dX11_shorter_1 : decode cX11_shorter 1 = .ok (.iconst 5, 1) := by decide +kernel
theorem dX11_shorter_2 : decode cX11_shorter 2 = .ok (.bipush 14, 2) := by decide +kernel
theorem dX11_shorter_4 : decode cX11_shorter 4 = .ok (.bipush 14, 2) := by decide +kernel
theorem dX11_shorter_6 : decode cX11_shorter 6 = .ok (.invokevirtual 107, 3) := by decide +kernel
theorem dX11_shorter_9 : decode cX11_shorter 9 = .ok (.istore_n 1, 1) := by decide +kernel
theorem dX11_shorter_10 : decode cX11_shorter 10 = .ok (.iload_n 1, 1) := by decide +kernel
theorem dX11_shorter_11 : decode cX11_shorter 11 = .ok (.ifCond .ge 5, 3) := by decide +kernel
theorem dX11_shorter_14 : decode cX11_shorter 14 = .ok (.iload_n 1, 1) := by decide +kernel
theorem dX11_shorter_15 : decode cX11_shorter 15 = .ok (.ireturn, 1) := by decide +kernel
theorem dX11_shorter_16 : decode cX11_shorter 16 = .ok (.aload_n 0, 1) := by decide +kernel
theorem dX11_shorter_17 : decode cX11_shorter 17 = .ok (.getfield 57, 3) := by decide +kernel
theorem dX11_shorter_20 : decode cX11_shorter 20 = .ok (.iload_n 1, 1) := by decide +kernel
theorem dX11_shorter_21 : decode cX11_shorter 21 = .ok (.invokevirtual 372, 3) := by decide +kernel
theorem dX11_shorter_24 : decode cX11_shorter 24 = .ok (.aload_n 0, 1) := by decide +kernel
theorem dX11_shorter_25 : decode cX11_shorter 25 = .ok (.getfield 57, 3) := by decide +kernel
theorem dX11_shorter_28 : decode cX11_shorter 28 = .ok (.iload_n 1, 1) := by decide +kernel
theorem dX11_shorter_29 : decode cX11_shorter 29 = .ok (.invokevirtual 375, 3) := by decide +kernel
theorem dX11_shorter_32 : decode cX11_shorter 32 = .ok (.istore_n 2, 1) := by decide +kernel
theorem dX11_shorter_33 : decode cX11_shorter 33 = .ok (.aload_n 0, 1) := by decide +kernel
theorem dX11_shorter_34 : decode cX11_shorter 34 = .ok (.getfield 19, 3) := by decide +kernel
theorem dX11_shorter_37 : decode cX11_shorter 37 = .ok (.aload_n 0, 1) := by decide +kernel
theorem dX11_shorter_38 : decode cX11_shorter 38 = .ok (.getfield 57, 3) := by decide +kernel
theorem dX11_shorter_41 : decode cX11_shorter 41 = .ok (.getfield 378, 3) := by decide +kernel
theorem dX11_shorter_44 : decode cX11_shorter 44 = .ok (.iconst 0, 1) := by decide +kernel
theorem dX11_shorter_45 : decode cX11_shorter 45 = .ok (.iload_n 2, 1) := by decide +kernel
theorem dX11_shorter_46 : decode cX11_shorter 46 = .ok (.invokevirtual 360, 3) := by decide +kernel
theorem dX11_shorter_49 : decode cX11_shorter 49 = .ok (.iload_n 2, 1) := by decide +kernel
theorem dX11_shorter_50 : decode cX11_shorter 50 = .ok (.ireturn, 1) := by decide +kernel
abbrev YX11_shorter : li_Y := (yX11_shorter, cX11_shorter, 3, (some .int))
theorem dX11_becomes_0 : decode cX11_becomes 0 = .ok (.aload_n 0, 1) := by decide +kernel
theorem dX11_becomes_1 : decode cX11_becomes 1 = .ok (.iconst 5, 1) := by decide +kernel
theorem dX11_becomes_2 : decode cX11_becomes 2 = .ok (.bipush 14, 2) := by decide +kernel
theorem dX11_becomes_4 : decode cX11_becomes 4 = .ok (.bipush 14, 2) := by decide +kernel
theorem dX11_becomes_6 : decode cX11_becomes 6 = .ok (.invokevirtual 107, 3) := by decide +kernel
theorem dX11_becomes_9 : decode cX11_becomes 9 = .ok (.istore_n 1, 1) := by decide +kernel
theorem dX11_becomes_10 : decode cX11_becomes 10 = .ok (.iload_n 1, 1) := by decide +kernel
theorem dX11_becomes_11 : decode cX11_becomes 11 = .ok (.ifCond .ge 5, 3) := by decide +kernel
theorem dX11_becomes_14 : decode cX11_becomes 14 = .ok (.iload_n 1, 1) := by decide +kernel
theorem dX11_becomes_15 : decode cX11_becomes 15 = .ok (.ireturn, 1) := by decide +kernel
theorem dX11_becomes_16 : decode cX11_becomes 16 = .ok (.aload_n 0, 1) := by decide +kernel
theorem dX11_becomes_17 : decode cX11_becomes 17 = .ok (.getfield 57, 3) := by decide +kernel
theorem dX11_becomes_20 : decode cX11_becomes 20 = .ok (.iload_n 1, 1) := by decide +kernel
theorem dX11_becomes_21 : decode cX11_becomes 21 = .ok (.invokevirtual 372, 3) := by decide +kernel
theorem dX11_becomes_24 : decode cX11_becomes 24 = .ok (.aload_n 0, 1) := by decide +kernel
theorem dX11_becomes_25 : decode cX11_becomes 25 = .ok (.getfield 57, 3) := by decide +kernel
theorem dX11_becomes_28 : decode cX11_becomes 28 = .ok (.iconst 0, 1) := by decide +kernel
theorem dX11_becomes_29 : decode cX11_becomes 29 = .ok (.iload_n 1, 1) := by decide +kernel
theorem dX11_becomes_30 : decode cX11_becomes 30 = .ok (.invokevirtual 381, 3) := by decide +kernel
theorem dX11_becomes_33 : decode cX11_becomes 33 = .ok (.ireturn, 1) := by decide +kernel
abbrev YX11_becomes : li_Y := (yX11_becomes, cX11_becomes, 2, (some .int))
set_option maxRecDepth 100000 in
set_option maxHeartbeats 4000000 in
theorem k2_X7_takeOneOf {l : Launch} {Z : li_Z} (d : Nat) (hd : 2 ≤ d) (p1 : Int32) (p2 : Int32) (M0 : li_M) : li_Met l Z YX7_takeOneOf d [.ref (Z.2.2 1), .int p1, .int p2] M0 (fun r M' => (∃ x : Int32, r = some (.int x) ∧ ((M0.1 1 2).toInt ≤ (M'.1 1 2).toInt)) ∧ li_fr (fun i => i = 1) M0 M') := by
  refine li_enter (by decide +kernel) (Nat.le_of_ble_eq_true rfl) ?_
  show li_T l Z YX7_takeOneOf d 0 [(0, .ref (Z.2.2 1)), (1, .int p1), (2, .int p2)] [] M0 _
  have hf : li_fr (fun i => i = 1) M0 M0 := li_fr_refl
  have gp1 := tl_rg p1
  have gp2 := tl_rg p2
  refine li_aload_n 0 dX7_takeOneOf_0 rfl ?_
  refine li_geti (k := 2) (N := 3) (T := TX7) (C0 := RX7) dX7_takeOneOf_1 (by decide) sh_1 rfl rfl (by decide) li_in7 w_142 ?_
  refine li_top (fun x1 ex1 => ?_)
  have gx1 := tl_rg x1
  have vx1 : x1.toInt = (M0.1 1 2).toInt := tl_eq ex1
  refine li_aload_n 0 dX7_takeOneOf_4 rfl ?_
  refine li_geti (k := 1) (N := 3) (T := TX7) (C0 := RX7) dX7_takeOneOf_5 (by decide) sh_1 rfl rfl (by decide) li_in7 w_139 ?_
  refine li_top (fun x2 ex2 => ?_)
  have gx2 := tl_rg x2
  refine li_icmp_lt 13 dX7_takeOneOf_8 (by decide) (fun c3 => ?_) (fun c3 => ?_)
  · have tc3 : x1.toInt < x2.toInt := tl_lt c3
    refine li_aload_n 0 dX7_takeOneOf_13 rfl ?_
    refine li_getr (k := 0) (N := 3) (T := TX7) (C0 := RX7) dX7_takeOneOf_14 (by decide) sh_1 rfl rfl (by decide) (by decide) li_in7 w_138 ?_
    refine li_aload_n 0 dX7_takeOneOf_17 rfl ?_
    refine li_geti (k := 2) (N := 3) (T := TX7) (C0 := RX7) dX7_takeOneOf_18 (by decide) sh_1 rfl rfl (by decide) li_in7 w_142 ?_
    refine li_top (fun x4 ex4 => ?_)
    have gx4 := tl_rg x4
    have vx4 : x4.toInt = (M0.1 1 2).toInt := tl_eq ex4
    have tvx4 : x4.toInt = x1.toInt := tl_eq (ex4.trans ex1.symm)
    refine li_callN (n := 2) (As := [.ref (Z.2.2 2), .int x4]) dX7_takeOneOf_21 (k_X11_at (d - 1) (by omega) (by decide) sh_2 (by decide) x4 M0) (by omega) (Nat.le_of_ble_eq_true rfl) nw_8 w_569 w_101 w_570 (by decide +kernel) rfl rfl (Nat.le_of_ble_eq_true rfl) (fun r M6 h7 => ?_)
    obtain ⟨⟨x5, rfl⟩, h7⟩ := h7
    have gx5 := tl_rg x5
    have hf := li_fr_trans hf h7 (fun i h => False.elim h)
    have mM6_1_2 : (M6.1 1 2).toInt = (M0.1 1 2).toInt := by rw [h7.1 1 id]
    refine li_iload_n 1 dX7_takeOneOf_24 rfl ?_
    refine li_isub dX7_takeOneOf_25 ?_
    refine li_top (fun x8 ex8 => ?_)
    have tx8 : (-2147483648 ≤ x5.toInt - p1.toInt ∧ x5.toInt - p1.toInt ≤ 2147483647) → x8.toInt = x5.toInt - p1.toInt := tl_sub ex8
    refine li_istore_n [(3, .int x8), (0, .ref (Z.2.2 1)), (1, .int p1), (2, .int p2)] dX7_takeOneOf_26 (by decide) rfl ?_
    refine li_iload_n 0 dX7_takeOneOf_27 rfl ?_
    refine li_if_lt 36 dX7_takeOneOf_28 (by decide) (fun c9 => ?_) (fun c9 => ?_)
    · have tc9 : x8.toInt < 0 := tl_lt c9
      have z0 : (0 : Int32).toInt = 0 := rfl
      refine li_iconst (-1) dX7_takeOneOf_36 (by decide) ?_
      have zm1 : ((-1) : Int32).toInt = -1 := rfl
      exact li_iret dX7_takeOneOf_37 rfl rfl ⟨⟨_, rfl, (by first | omega | (intro _; omega) | (intro h; exact absurd h (by decide)))⟩, hf⟩
    · have tc9 : 0 ≤ x8.toInt := tl_nlt c9
      have z0 : (0 : Int32).toInt = 0 := rfl
      refine li_iload_n 0 dX7_takeOneOf_31 rfl ?_
      refine li_iload_n 3 dX7_takeOneOf_32 rfl ?_
      refine li_icmp_lt 38 dX7_takeOneOf_33 (by decide) (fun c10 => ?_) (fun c10 => ?_)
      · have tc10 : x8.toInt < p2.toInt := tl_lt c10
        refine li_aload_n 1 dX7_takeOneOf_38 rfl ?_
        refine li_dup dX7_takeOneOf_39 rfl ?_
        refine li_geti (k := 2) (N := 3) (T := TX7) (C0 := RX7) dX7_takeOneOf_40 (by decide) sh_1 rfl rfl (by decide) li_in7 w_142 ?_
        refine li_top (fun x11 ex11 => ?_)
        have gx11 := tl_rg x11
        have vx11 : x11.toInt = (M6.1 1 2).toInt := tl_eq ex11
        refine li_iconst 1 dX7_takeOneOf_43 (by decide) ?_
        refine li_iadd dX7_takeOneOf_44 ?_
        refine li_top (fun x12 ex12 => ?_)
        have tx12 : (-2147483648 ≤ x11.toInt + 1 ∧ x11.toInt + 1 ≤ 2147483647) → x12.toInt = x11.toInt + 1 := tl_add ex12
        refine li_puti (k := 2) (N := 3) (T := TX7) (C0 := RX7) dX7_takeOneOf_45 (by decide) sh_1 rfl rfl (by decide) li_in7 tyX7_ok nmX7 rfl rfl rfl rfl w_142 ?_
        refine li_nm (fun M13 eM13 => ?_)
        have hf := li_fr_ui hf (show 1 = 1 by omega) eM13
        have mM13_1_2 : (M13.1 1 2).toInt = x12.toInt := by rw [eM13, li_ui_at, if_pos rfl, if_pos rfl]
        have k14 : M13.1 1 2 = x12 := by rw [eM13, li_ui_at, if_pos rfl, if_pos rfl]
        refine li_iload_n 0 dX7_takeOneOf_48 rfl ?_
        exact li_iret dX7_takeOneOf_49 rfl rfl ⟨⟨_, rfl, (by first | omega | (intro _; omega) | (intro h; exact absurd h (by decide)))⟩, hf⟩
      · have tc10 : p2.toInt ≤ x8.toInt := tl_nlt c10
        refine li_iconst (-1) dX7_takeOneOf_36 (by decide) ?_
        have zm1 : ((-1) : Int32).toInt = -1 := rfl
        exact li_iret dX7_takeOneOf_37 rfl rfl ⟨⟨_, rfl, (by first | omega | (intro _; omega) | (intro h; exact absurd h (by decide)))⟩, hf⟩
  · have tc3 : x2.toInt ≤ x1.toInt := tl_nlt c3
    refine li_iconst (-1) dX7_takeOneOf_11 (by decide) ?_
    have zm1 : ((-1) : Int32).toInt = -1 := rfl
    exact li_iret dX7_takeOneOf_12 rfl rfl ⟨⟨_, rfl, (by first | omega | (intro _; omega) | (intro h; exact absurd h (by decide)))⟩, hf⟩
set_option maxRecDepth 100000 in
set_option maxHeartbeats 4000000 in
theorem k2_X7_atEnd {l : Launch} {Z : li_Z} (d : Nat) (hd : 1 ≤ d) (M0 : li_M) : li_Met l Z YX7_atEnd d [.ref (Z.2.2 1)] M0 (li_SZ (fun i => False) M0) := by
  refine li_enter (by decide +kernel) (Nat.le_of_ble_eq_true rfl) ?_
  show li_T l Z YX7_atEnd d 0 [(0, .ref (Z.2.2 1))] [] M0 _
  have hf : li_fr (fun i => False) M0 M0 := li_fr_refl
  refine li_aload_n 0 dX7_atEnd_0 rfl ?_
  refine li_geti (k := 2) (N := 3) (T := TX7) (C0 := RX7) dX7_atEnd_1 (by decide) sh_1 rfl rfl (by decide) li_in7 w_142 ?_
  refine li_top (fun x1 ex1 => ?_)
  have gx1 := tl_rg x1
  refine li_aload_n 0 dX7_atEnd_4 rfl ?_
  refine li_geti (k := 1) (N := 3) (T := TX7) (C0 := RX7) dX7_atEnd_5 (by decide) sh_1 rfl rfl (by decide) li_in7 w_139 ?_
  refine li_top (fun x2 ex2 => ?_)
  have gx2 := tl_rg x2
  refine li_icmp_lt 15 dX7_atEnd_8 (by decide) (fun c3 => ?_) (fun c3 => ?_)
  · have tc3 : x1.toInt < x2.toInt := tl_lt c3
    refine li_iconst 0 dX7_atEnd_15 (by decide) ?_
    exact li_iret dX7_atEnd_16 rfl (li_nz (Or.inl rfl)) ⟨⟨_, rfl, Or.inl rfl⟩, hf⟩
  · have tc3 : x2.toInt ≤ x1.toInt := tl_nlt c3
    refine li_iconst 1 dX7_atEnd_11 (by decide) ?_
    refine li_goto 16 dX7_atEnd_12 (by decide) ?_
    exact li_iret dX7_atEnd_16 rfl (li_nz (Or.inr rfl)) ⟨⟨_, rfl, Or.inr rfl⟩, hf⟩
set_option maxRecDepth 100000 in
set_option maxHeartbeats 4000000 in
theorem k2_X10_readWording {l : Launch} {Z : li_Z} (d : Nat) (hd : 3 ≤ d) (M0 : li_M) : li_Met l Z YX10_readWording d [.ref (Z.2.2 163), .ref (Z.2.2 1)] M0 (fun r M' => (∃ x : Int32, r = some (.int x) ∧ (x.toInt ≤ 80 ∧ ((M0.1 1 2).toInt ≤ (M'.1 1 2).toInt))) ∧ li_fr (fun i => i = 1 ∨ i = 166) M0 M') := by
  refine li_enter (by decide +kernel) (Nat.le_of_ble_eq_true rfl) ?_
  show li_T l Z YX10_readWording d 0 [(0, .ref (Z.2.2 163)), (1, .ref (Z.2.2 1))] [] M0 _
  have hf : li_fr (fun i => i = 1 ∨ i = 166) M0 M0 := li_fr_refl
  refine li_iconst 0 dX10_readWording_0 (by decide) ?_
  refine li_istore_n [(2, .int 0), (0, .ref (Z.2.2 163)), (1, .ref (Z.2.2 1))] dX10_readWording_1 (by decide) rfl ?_
  refine li_iconst 0 dX10_readWording_2 (by decide) ?_
  refine li_istore_n [(3, .int 0), (2, .int 0), (0, .ref (Z.2.2 163)), (1, .ref (Z.2.2 1))] dX10_readWording_3 (by decide) rfl ?_
  have L4 : ∀ (n : Nat) (x1 : Int32) (x2 : Int32) (M3 : li_M), (80 - (x1 : Int32).toInt).toNat < n → li_fr (fun i => i = 1 ∨ i = 166) M0 M3 → 0 ≤ (x1 : Int32).toInt ∧ (x1 : Int32).toInt ≤ 80 ∧ 0 ≤ (x2 : Int32).toInt ∧ (x2 : Int32).toInt ≤ (x1 : Int32).toInt ∧ (M0.1 1 2).toInt ≤ (M3.1 1 2).toInt → li_T l Z YX10_readWording d 4 [(3, .int x1), (2, .int x2), (0, .ref (Z.2.2 163)), (1, .ref (Z.2.2 1))] [] M3 (fun r M' => (∃ x : Int32, r = some (.int x) ∧ (x.toInt ≤ 80 ∧ ((M0.1 1 2).toInt ≤ (M'.1 1 2).toInt))) ∧ li_fr (fun i => i = 1 ∨ i = 166) M0 M') := by
    intro n
    induction n with
    | zero => intro x1 x2 M3 hn; exact absurd hn (Nat.not_lt_zero _)
    | succ n ih4 =>
      intro x1 x2 M3 hn hf hi
      have gx1 := tl_rg x1
      have gx2 := tl_rg x2
      refine li_iload_n 0 dX10_readWording_4 rfl ?_
      refine li_bipush 80 dX10_readWording_5 (by decide) ?_
      refine li_icmp_ge 53 dX10_readWording_7 (by decide) (fun c4 => ?_) (fun c4 => ?_)
      · have tc4 : 80 ≤ x1.toInt := tl_le c4
        have z80 : (80 : Int32).toInt = 80 := rfl
        refine li_iload_n 1 dX10_readWording_53 rfl ?_
        refine li_if_le 61 dX10_readWording_54 (by decide) (fun c5 => ?_) (fun c5 => ?_)
        · have tc5 : x2.toInt ≤ 0 := tl_le c5
          have z0 : (0 : Int32).toInt = 0 := rfl
          refine li_iconst (-1) dX10_readWording_61 (by decide) ?_
          have zm1 : ((-1) : Int32).toInt = -1 := rfl
          exact li_iret dX10_readWording_62 rfl rfl ⟨⟨_, rfl, (by first | omega | (intro _; omega) | (intro h; exact absurd h (by decide)))⟩, hf⟩
        · have tc5 : 0 < x2.toInt := tl_nle c5
          have z0 : (0 : Int32).toInt = 0 := rfl
          refine li_iload_n 1 dX10_readWording_57 rfl ?_
          refine li_goto 62 dX10_readWording_58 (by decide) ?_
          exact li_iret dX10_readWording_62 rfl rfl ⟨⟨_, rfl, (by first | omega | (intro _; omega) | (intro h; exact absurd h (by decide)))⟩, hf⟩
      · have tc4 : x1.toInt < 80 := tl_nle c4
        have z80 : (80 : Int32).toInt = 80 := rfl
        refine li_aload_n 3 dX10_readWording_10 rfl ?_
        refine li_callV (n := 0) (As := []) dX10_readWording_11 (k2_X7_atEnd (d - 1) (by omega)  M3) (by omega) (Nat.le_of_ble_eq_true rfl) w_657 w_545 w_546 w_102 w_547 (by decide +kernel) rfl (by decide) sh_1 rfl rfl (Nat.le_of_ble_eq_true rfl) (fun r M7 h8 => ?_)
        obtain ⟨⟨x6, rfl, bx6⟩, h8⟩ := h8
        have ux6 := tl_b bx6
        have hf := li_fr_trans hf h8 (fun i h => False.elim h)
        have mM7_1_2 : (M7.1 1 2).toInt = (M3.1 1 2).toInt := by rw [h8.1 1 id]
        refine li_if_ne 53 dX10_readWording_14 (by decide) (fun c9 => ?_) (fun c9 => ?_)
        · have tc9 : ¬ x6.toInt = 0 := tl_ne c9
          have z0 : (0 : Int32).toInt = 0 := rfl
          refine li_iload_n 1 dX10_readWording_53 rfl ?_
          refine li_if_le 61 dX10_readWording_54 (by decide) (fun c10 => ?_) (fun c10 => ?_)
          · have tc10 : x2.toInt ≤ 0 := tl_le c10
            have z0 : (0 : Int32).toInt = 0 := rfl
            refine li_iconst (-1) dX10_readWording_61 (by decide) ?_
            have zm1 : ((-1) : Int32).toInt = -1 := rfl
            exact li_iret dX10_readWording_62 rfl rfl ⟨⟨_, rfl, (by first | omega | (intro _; omega) | (intro h; exact absurd h (by decide)))⟩, hf⟩
          · have tc10 : 0 < x2.toInt := tl_nle c10
            have z0 : (0 : Int32).toInt = 0 := rfl
            refine li_iload_n 1 dX10_readWording_57 rfl ?_
            refine li_goto 62 dX10_readWording_58 (by decide) ?_
            exact li_iret dX10_readWording_62 rfl rfl ⟨⟨_, rfl, (by first | omega | (intro _; omega) | (intro h; exact absurd h (by decide)))⟩, hf⟩
        · have tc9 : x6.toInt = 0 := tl_eq c9
          have z0 : (0 : Int32).toInt = 0 := rfl
          refine li_aload_n 3 dX10_readWording_17 rfl ?_
          refine li_bipush 97 dX10_readWording_18 (by decide) ?_
          refine li_bipush 7 dX10_readWording_20 (by decide) ?_
          refine li_callV (n := 2) (As := [.int 97, .int 7]) dX10_readWording_22 (k2_X7_takeOneOf (d - 1) (by omega) 97 7 M7) (by omega) (Nat.le_of_ble_eq_true rfl) w_658 w_659 w_660 w_102 w_661 (by decide +kernel) rfl (by decide) sh_1 rfl rfl (Nat.le_of_ble_eq_true rfl) (fun r M12 h13 => ?_)
          have z97 : (97 : Int32).toInt = 97 := rfl
          have z7 : (7 : Int32).toInt = 7 := rfl
          obtain ⟨⟨x11, rfl, qx11⟩, h13⟩ := h13
          have gx11 := tl_rg x11
          have hf := li_fr_trans hf h13 (fun i (h : i = 1) => (show i = 1 ∨ i = 166 by omega))
          refine li_istore [(4, .int x11), (3, .int x1), (2, .int x2), (0, .ref (Z.2.2 163)), (1, .ref (Z.2.2 1))] dX10_readWording_25 (by decide) rfl ?_
          refine li_iload 0 dX10_readWording_27 rfl ?_
          refine li_if_ge 34 dX10_readWording_29 (by decide) (fun c14 => ?_) (fun c14 => ?_)
          · have tc14 : 0 ≤ x11.toInt := tl_le c14
            have z0 : (0 : Int32).toInt = 0 := rfl
            refine li_aload_n 3 dX10_readWording_34 rfl ?_
            refine li_getr (k := 2) (N := 8) (T := TX10) (C0 := RX10) dX10_readWording_35 (by decide) sh_163 rfl rfl (by decide) (by decide) li_in10 w_337 ?_
            refine li_iload_n 2 dX10_readWording_38 rfl ?_
            refine li_iload 0 dX10_readWording_39 rfl ?_
            refine li_callN (n := 3) (As := [.ref (Z.2.2 166), .int x2, .int x11]) dX10_readWording_41 (k_X11_put (d - 1) (by omega) (by decide) sh_166 (by decide) x2 x11 M12) (by omega) (Nat.le_of_ble_eq_true rfl) nw_11 w_522 w_101 w_523 (by decide +kernel) rfl rfl (Nat.le_of_ble_eq_true rfl) (fun r M16 h17 => ?_)
            obtain ⟨rfl, h17⟩ := h17
            have hf := li_fr_trans hf h17 (fun i (h : i = 166) => (show i = 1 ∨ i = 166 by omega))
            have mM16_1_2 : (M16.1 1 2).toInt = (M12.1 1 2).toInt := by rw [h17.1 1 (show ¬ (1 = 166) by omega)]
            obtain ⟨x18, ex18⟩ : ∃ y : Int32, y = x2 + 1 := ⟨_, rfl⟩
            have tx18 : (-2147483648 ≤ x2.toInt + 1 ∧ x2.toInt + 1 ≤ 2147483647) → x18.toInt = x2.toInt + 1 := tl_add ex18
            refine li_iinc 2 [(2, .int x18), (4, .int x11), (3, .int x1), (0, .ref (Z.2.2 163)), (1, .ref (Z.2.2 1))] x18 dX10_readWording_44 rfl (by rw [ex18]; rfl) (by decide) rfl ?_
            obtain ⟨x19, ex19⟩ : ∃ y : Int32, y = x1 + 1 := ⟨_, rfl⟩
            have tx19 : (-2147483648 ≤ x1.toInt + 1 ∧ x1.toInt + 1 ≤ 2147483647) → x19.toInt = x1.toInt + 1 := tl_add ex19
            refine li_iinc 2 [(3, .int x19), (2, .int x18), (4, .int x11), (0, .ref (Z.2.2 163)), (1, .ref (Z.2.2 1))] x19 dX10_readWording_47 rfl (by rw [ex19]; rfl) (by decide) rfl ?_
            refine li_goto 4 dX10_readWording_50 (by decide) ?_
            refine li_pick [0, 1, 3, 4] [(3, .int x19), (2, .int x18), (0, .ref (Z.2.2 163)), (1, .ref (Z.2.2 1))] rfl ?_
            exact ih4 x19 x18 M16 (by omega) hf (by omega)
          · have tc14 : x11.toInt < 0 := tl_nle c14
            have z0 : (0 : Int32).toInt = 0 := rfl
            refine li_iconst (-1) dX10_readWording_32 (by decide) ?_
            have zm1 : ((-1) : Int32).toInt = -1 := rfl
            exact li_iret dX10_readWording_33 rfl rfl ⟨⟨_, rfl, (by first | omega | (intro _; omega) | (intro h; exact absurd h (by decide)))⟩, hf⟩
  have z0 : (0 : Int32).toInt = 0 := rfl
  have z0 : (0 : Int32).toInt = 0 := rfl
  exact L4 _ 0 0 M0 (Nat.lt_succ_self _) hf (by omega)
set_option maxRecDepth 100000 in
set_option maxHeartbeats 4000000 in
theorem k2_X7_verdict {l : Launch} {Z : li_Z} (d : Nat) (hd : 1 ≤ d) (p1 : Int32) (p2 : Int32) (M0 : li_M) (h1 : 0 ≤ (M0.1 1 2).toInt) (h2 : 0 ≤ p2.toInt ∧ p2.toInt ≤ 100) : li_Met l Z YX7_verdict d [.ref (Z.2.2 1), .int p1, .int p2] M0 (fun r M' => (∃ x : Int32, r = some (.int x) ∧ (x.toInt < 0 ∨ x.toInt = p1.toInt)) ∧ li_fr (fun i => False) M0 M') := by
  refine li_enter (by decide +kernel) (Nat.le_of_ble_eq_true rfl) ?_
  show li_T l Z YX7_verdict d 0 [(0, .ref (Z.2.2 1)), (1, .int p1), (2, .int p2)] [] M0 _
  have hf : li_fr (fun i => False) M0 M0 := li_fr_refl
  have gp1 := tl_rg p1
  have gp2 := tl_rg p2
  refine li_iload_n 1 dX7_verdict_0 rfl ?_
  refine li_if_ge 15 dX7_verdict_1 (by decide) (fun c1 => ?_) (fun c1 => ?_)
  · have tc1 : 0 ≤ p1.toInt := tl_le c1
    have z0 : (0 : Int32).toInt = 0 := rfl
    refine li_aload_n 0 dX7_verdict_15 rfl ?_
    refine li_geti (k := 1) (N := 3) (T := TX7) (C0 := RX7) dX7_verdict_16 (by decide) sh_1 rfl rfl (by decide) li_in7 w_139 ?_
    refine li_top (fun x2 ex2 => ?_)
    have gx2 := tl_rg x2
    refine li_iload_n 2 dX7_verdict_19 rfl ?_
    refine li_icmp_le 29 dX7_verdict_20 (by decide) (fun c3 => ?_) (fun c3 => ?_)
    · have tc3 : x2.toInt ≤ p2.toInt := tl_le c3
      refine li_iload_n 1 dX7_verdict_29 rfl ?_
      exact li_iret dX7_verdict_30 rfl rfl ⟨⟨_, rfl, (by first | omega | (intro _; omega) | (intro h; exact absurd h (by decide)))⟩, hf⟩
    · have tc3 : p2.toInt < x2.toInt := tl_nle c3
      refine li_iconst (-1) dX7_verdict_23 (by decide) ?_
      refine li_iload_n 2 dX7_verdict_24 rfl ?_
      refine li_isub dX7_verdict_25 ?_
      refine li_top (fun x4 ex4 => ?_)
      have tx4 : (-2147483648 ≤ (-1) - p2.toInt ∧ (-1) - p2.toInt ≤ 2147483647) → x4.toInt = (-1) - p2.toInt := tl_sub ex4
      refine li_goto 30 dX7_verdict_26 (by decide) ?_
      exact li_iret dX7_verdict_30 rfl rfl ⟨⟨_, rfl, (by first | omega | (intro _; omega) | (intro h; exact absurd h (by decide)))⟩, hf⟩
  · have tc1 : p1.toInt < 0 := tl_nle c1
    have z0 : (0 : Int32).toInt = 0 := rfl
    refine li_iconst (-1) dX7_verdict_4 (by decide) ?_
    refine li_aload_n 0 dX7_verdict_5 rfl ?_
    refine li_geti (k := 2) (N := 3) (T := TX7) (C0 := RX7) dX7_verdict_6 (by decide) sh_1 rfl rfl (by decide) li_in7 w_142 ?_
    refine li_top (fun x5 ex5 => ?_)
    have gx5 := tl_rg x5
    have vx5 : x5.toInt = (M0.1 1 2).toInt := tl_eq ex5
    refine li_iload_n 2 dX7_verdict_9 rfl ?_
    refine li_mmin dX7_verdict_10 (by omega) w_725 w_726 w_113 w_727 (Nat.le_of_ble_eq_true rfl) ?_
    refine li_top (fun x6 ex6 => ?_)
    have tx6 : (p2.toInt < x5.toInt → x6.toInt = p2.toInt) ∧ (x5.toInt ≤ p2.toInt → x6.toInt = x5.toInt) := tl_min ex6
    refine li_isub dX7_verdict_13 ?_
    refine li_top (fun x7 ex7 => ?_)
    have tx7 : (-2147483648 ≤ (-1) - x6.toInt ∧ (-1) - x6.toInt ≤ 2147483647) → x7.toInt = (-1) - x6.toInt := tl_sub ex7
    exact li_iret dX7_verdict_14 rfl rfl ⟨⟨_, rfl, (by first | omega | (intro _; omega) | (intro h; exact absurd h (by decide)))⟩, hf⟩
