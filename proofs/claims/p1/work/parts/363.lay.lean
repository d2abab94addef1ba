theorem w_1426 : (Jvm.Cond.fieldLink "ClockForTalkModel" (41 : Nat) "ClockForTalkModel" "undos" "[I") ∈ li_ws := li_mem 1426 (by decide +kernel) (by decide +kernel)
theorem w_1749 : (Jvm.Cond.methodLink "ClockForTalkModel" (268 : Nat) ({ cls := "ClockForTalkModel", name := "lay", desc := "([I[II)V" } : Jvm.MethodName)) ∈ li_ws := li_mem 1749 (by decide +kernel) (by decide +kernel)
theorem w_1750 : (Jvm.Cond.static ({ cls := "ClockForTalkModel", name := "lay", desc := "([I[II)V" } : Jvm.MethodName)) ∈ li_ws := li_mem 1750 (by decide +kernel) (by decide +kernel)
theorem w_1751 : (Jvm.Cond.code ({ cls := "ClockForTalkModel", name := "lay", desc := "([I[II)V" } : Jvm.MethodName) prog_13_method_49_code (4 : Nat) (Option.none : Option Jvm.ClassFile.FieldType)) ∈ li_ws := li_mem 1751 (by decide +kernel) (by decide +kernel)
theorem dX12_lay_0 : decode cX12_lay 0 = .ok (.iconst 0, 1) := by decide +kernel
theorem dX12_lay_1 : decode cX12_lay 1 = .ok (.istore_n 3, 1) := by decide +kernel
theorem dX12_lay_2 : decode cX12_lay 2 = .ok (.iload_n 3, 1) := by decide +kernel
theorem dX12_lay_3 : decode cX12_lay 3 = .ok (.bipush 51, 2) := by decide +kernel
theorem dX12_lay_5 : decode cX12_lay 5 = .ok (.if_icmp .ge 17, 3) := by decide +kernel
theorem dX12_lay_8 : decode cX12_lay 8 = .ok (.aload_n 1, 1) := by decide +kernel
theorem dX12_lay_9 : decode cX12_lay 9 = .ok (.iload_n 2, 1) := by decide +kernel
theorem dX12_lay_10 : decode cX12_lay 10 = .ok (.iload_n 3, 1) := by decide +kernel
theorem dX12_lay_11 : decode cX12_lay 11 = .ok (.iadd, 1) := by decide +kernel
theorem dX12_lay_12 : decode cX12_lay 12 = .ok (.aload_n 0, 1) := by decide +kernel
theorem dX12_lay_13 : decode cX12_lay 13 = .ok (.iload_n 3, 1) := by decide +kernel
theorem dX12_lay_14 : decode cX12_lay 14 = .ok (.iaload, 1) := by decide +kernel
theorem dX12_lay_15 : decode cX12_lay 15 = .ok (.iastore, 1) := by decide +kernel
theorem dX12_lay_16 : decode cX12_lay 16 = .ok (.iinc 3 1, 3) := by decide +kernel
theorem dX12_lay_19 : decode cX12_lay 19 = .ok (.goto (-17), 3) := by decide +kernel
theorem dX12_lay_22 : decode cX12_lay 22 = .ok (.return_, 1) := by decide +kernel
abbrev YX12_lay : li_Y := (yX12_lay, cX12_lay, 4, none)
theorem dX12_remember_0 : decode cX12_remember 0 = .ok (.aload_n 0, 1) := by decide +kernel
theorem dX12_remember_1 : decode cX12_remember 1 = .ok (.getfield 174, 3) := by decide +kernel
theorem dX12_remember_4 : decode cX12_remember 4 = .ok (.bipush 12, 2) := by decide +kernel
theorem dX12_remember_6 : decode cX12_remember 6 = .ok (.if_icmp .ne 43, 3) := by decide +kernel
theorem dX12_remember_9 : decode cX12_remember 9 = .ok (.iconst 0, 1) := by decide +kernel
theorem dX12_remember_10 : decode cX12_remember 10 = .ok (.istore_n 2, 1) := by decide +kernel
theorem dX12_remember_11 : decode cX12_remember 11 = .ok (.iload_n 2, 1) := by decide +kernel
theorem dX12_remember_12 : decode cX12_remember 12 = .ok (.sipush 561, 3) := by decide +kernel
theorem dX12_remember_15 : decode cX12_remember 15 = .ok (.if_icmp .ge 24, 3) := by decide +kernel
theorem dX12_remember_18 : decode cX12_remember 18 = .ok (.aload_n 0, 1) := by decide +kernel
theorem dX12_remember_19 : decode cX12_remember 19 = .ok (.getfield 41, 3) := by decide +kernel
theorem dX12_remember_22 : decode cX12_remember 22 = .ok (.iload_n 2, 1) := by decide +kernel
theorem dX12_remember_23 : decode cX12_remember 23 = .ok (.aload_n 0, 1) := by decide +kernel
theorem dX12_remember_24 : decode cX12_remember 24 = .ok (.getfield 41, 3) := by decide +kernel
theorem dX12_remember_27 : decode cX12_remember 27 = .ok (.iload_n 2, 1) := by decide +kernel
theorem dX12_remember_28 : decode cX12_remember 28 = .ok (.bipush 51, 2) := by decide +kernel
theorem dX12_remember_30 : decode cX12_remember 30 = .ok (.iadd, 1) := by decide +kernel
theorem dX12_remember_31 : decode cX12_remember 31 = .ok (.iaload, 1) := by decide +kernel
theorem dX12_remember_32 : decode cX12_remember 32 = .ok (.iastore, 1) := by decide +kernel
theorem dX12_remember_33 : decode cX12_remember 33 = .ok (.iinc 2 1, 3) := by decide +kernel
theorem dX12_remember_36 : decode cX12_remember 36 = .ok (.goto (-25), 3) := by decide +kernel
theorem dX12_remember_39 : decode cX12_remember 39 = .ok (.aload_n 0, 1) := by decide +kernel
theorem dX12_remember_40 : decode cX12_remember 40 = .ok (.dup, 1) := by decide +kernel
theorem dX12_remember_41 : decode cX12_remember 41 = .ok (.getfield 174, 3) := by decide +kernel
theorem dX12_remember_44 : decode cX12_remember 44 = .ok (.iconst 1, 1) := by decide +kernel
theorem dX12_remember_45 : decode cX12_remember 45 = .ok (.isub, 1) := by decide +kernel
theorem dX12_remember_46 : decode cX12_remember 46 = .ok (.putfield 174, 3) := by decide +kernel
theorem dX12_remember_49 : decode cX12_remember 49 = .ok (.aload_n 1, 1) := by decide +kernel
theorem dX12_remember_50 : decode cX12_remember 50 = .ok (.aload_n 0, 1) := by decide +kernel
theorem dX12_remember_51 : decode cX12_remember 51 = .ok (.getfield 41, 3) := by decide +kernel
theorem dX12_remember_54 : decode cX12_remember 54 = .ok (.bipush 51, 2) := by decide +kernel
theorem dX12_remember_56 : decode cX12_remember 56 = .ok (.aload_n 0, 1) := by decide +kernel
theorem dX12_remember_57 : decode cX12_remember 57 = .ok (.getfield 174, 3) := by decide +kernel
theorem dX12_remember_60 : decode cX12_remember 60 = .ok (.imul, 1) := by decide +kernel
theorem dX12_remember_61 : decode cX12_remember 61 = .ok (.invokestatic 268, 3) := by decide +kernel
theorem dX12_remember_64 : decode cX12_remember 64 = .ok (.aload_n 0, 1) := by decide +kernel
theorem dX12_remember_65 : decode cX12_remember 65 = .ok (.dup, 1) := by decide +kernel
theorem dX12_remember_66 : decode cX12_remember 66 = .ok (.getfield 174, 3) := by decide +kernel
theorem dX12_remember_69 : decode cX12_remember 69 = .ok (.iconst 1, 1) := by decide +kernel
theorem dX12_remember_70 : decode cX12_remember 70 = .ok (.iadd, 1) := by decide +kernel
theorem dX12_remember_71 : decode cX12_remember 71 = .ok (.putfield 174, 3) := by decide +kernel
theorem dX12_remember_74 : decode cX12_remember 74 = .ok (.return_, 1) := by decide +kernel
abbrev YX12_remember : li_Y := (yX12_remember, cX12_remember, 3, none)
theorem dX12_sheet_0 : decode cX12_sheet 0 = .ok (.aload_n 0, 1) := by decide +kernel
theorem dX12_sheet_1 : decode cX12_sheet 1 = .ok (.iconst 0, 1) := by decide +kernel
theorem dX12_sheet_2 : decode cX12_sheet 2 = .ok (.putfield 103, 3) := by decide +kernel
theorem dX12_sheet_5 : decode cX12_sheet 5 = .ok (.iload_n 1, 1) := by decide +kernel
theorem dX12_sheet_6 : decode cX12_sheet 6 = .ok (.iconst 0, 1) := by decide +kernel
theorem dX12_sheet_7 : decode cX12_sheet 7 = .ok (.iconst 3, 1) := by decide +kernel
theorem dX12_sheet_8 : decode cX12_sheet 8 = .ok (.invokestatic 113, 3) := by decide +kernel
theorem dX12_sheet_11 : decode cX12_sheet 11 = .ok (.ifCond .eq 9, 3) := by decide +kernel
theorem dX12_sheet_14 : decode cX12_sheet 14 = .ok (.iload_n 2, 1) := by decide +kernel
theorem dX12_sheet_15 : decode cX12_sheet 15 = .ok (.bipush 6, 2) := by decide +kernel
theorem dX12_sheet_17 : decode cX12_sheet 17 = .ok (.if_icmp .le 5, 3) := by decide +kernel
theorem dX12_sheet_20 : decode cX12_sheet 20 = .ok (.iconst (-1), 1) := by decide +kernel
theorem dX12_sheet_21 : decode cX12_sheet 21 = .ok (.ireturn, 1) := by decide +kernel
theorem dX12_sheet_22 : decode cX12_sheet 22 = .ok (.iload_n 1, 1) := by decide +kernel
theorem dX12_sheet_23 : decode cX12_sheet 23 = .ok (.iconst 3, 1) := by decide +kernel
theorem dX12_sheet_24 : decode cX12_sheet 24 = .ok (.if_icmp .ge 10, 3) := by decide +kernel
theorem dX12_sheet_27 : decode cX12_sheet 27 = .ok (.iload_n 2, 1) := by decide +kernel
theorem dX12_sheet_28 : decode cX12_sheet 28 = .ok (.ifCond .ge 6, 3) := by decide +kernel
theorem dX12_sheet_31 : decode cX12_sheet 31 = .ok (.bipush (-2), 2) := by decide +kernel
theorem dX12_sheet_33 : decode cX12_sheet 33 = .ok (.ireturn, 1) := by decide +kernel
theorem dX12_sheet_34 : decode cX12_sheet 34 = .ok (.iconst 0, 1) := by decide +kernel
theorem dX12_sheet_35 : decode cX12_sheet 35 = .ok (.istore 5, 2) := by decide +kernel
theorem dX12_sheet_37 : decode cX12_sheet 37 = .ok (.iload_n 3, 1) := by decide +kernel
theorem dX12_sheet_38 : decode cX12_sheet 38 = .ok (.istore 6, 2) := by decide +kernel
theorem dX12_sheet_40 : decode cX12_sheet 40 = .ok (.iconst 0, 1) := by decide +kernel
theorem dX12_sheet_41 : decode cX12_sheet 41 = .ok (.istore 7, 2) := by decide +kernel
theorem dX12_sheet_43 : decode cX12_sheet 43 = .ok (.iload 7, 2) := by decide +kernel
theorem dX12_sheet_45 : decode cX12_sheet 45 = .ok (.aload_n 0, 1) := by decide +kernel
theorem dX12_sheet_46 : decode cX12_sheet 46 = .ok (.getfield 110, 3) := by decide +kernel
theorem dX12_sheet_49 : decode cX12_sheet 49 = .ok (.if_icmp .ge 87, 3) := by decide +kernel
theorem dX12_sheet_52 : decode cX12_sheet 52 = .ok (.iload_n 1, 1) := by decide +kernel
theorem dX12_sheet_53 : decode cX12_sheet 53 = .ok (.ifCond .ne 9, 3) := by decide +kernel
theorem dX12_sheet_56 : decode cX12_sheet 56 = .ok (.iload 6, 2) := by decide +kernel
theorem dX12_sheet_58 : decode cX12_sheet 58 = .ok (.i2b, 1) := by decide +kernel
theorem dX12_sheet_59 : decode cX12_sheet 59 = .ok (.goto 16, 3) := by decide +kernel
theorem dX12_sheet_62 : decode cX12_sheet 62 = .ok (.iload_n 1, 1) := by decide +kernel
theorem dX12_sheet_63 : decode cX12_sheet 63 = .ok (.iconst 1, 1) := by decide +kernel
theorem dX12_sheet_64 : decode cX12_sheet 64 = .ok (.if_icmp .ne 9, 3) := by decide +kernel
theorem dX12_sheet_67 : decode cX12_sheet 67 = .ok (.iload 6, 2) := by decide +kernel
theorem dX12_sheet_69 : decode cX12_sheet 69 = .ok (.i2s, 1) := by decide +kernel
theorem dX12_sheet_70 : decode cX12_sheet 70 = .ok (.goto 5, 3) := by decide +kernel
theorem dX12_sheet_73 : decode cX12_sheet 73 = .ok (.iload 6, 2) := by decide +kernel
theorem dX12_sheet_75 : decode cX12_sheet 75 = .ok (.istore 8, 2) := by decide +kernel
theorem dX12_sheet_77 : decode cX12_sheet 77 = .ok (.aload_n 0, 1) := by decide +kernel
theorem dX12_sheet_78 : decode cX12_sheet 78 = .ok (.getfield 9, 3) := by decide +kernel
theorem dX12_sheet_81 : decode cX12_sheet 81 = .ok (.iload 7, 2) := by decide +kernel
theorem dX12_sheet_83 : decode cX12_sheet 83 = .ok (.iload_n 1, 1) := by decide +kernel
theorem dX12_sheet_84 : decode cX12_sheet 84 = .ok (.iconst 3, 1) := by decide +kernel
theorem dX12_sheet_85 : decode cX12_sheet 85 = .ok (.if_icmp .eq 9, 3) := by decide +kernel
theorem dX12_sheet_88 : decode cX12_sheet 88 = .ok (.iload 7, 2) := by decide +kernel
theorem dX12_sheet_90 : decode cX12_sheet 90 = .ok (.iload_n 2, 1) := by decide +kernel
theorem dX12_sheet_91 : decode cX12_sheet 91 = .ok (.if_icmp .lt 7, 3) := by decide +kernel
theorem dX12_sheet_94 : decode cX12_sheet 94 = .ok (.iconst 0, 1) := by decide +kernel
theorem dX12_sheet_95 : decode cX12_sheet 95 = .ok (.goto 15, 3) := by decide +kernel
theorem dX12_sheet_98 : decode cX12_sheet 98 = .ok (.iconst 0, 1) := by decide +kernel
theorem dX12_sheet_99 : decode cX12_sheet 99 = .ok (.sipush 9999, 3) := by decide +kernel
theorem dX12_sheet_102 : decode cX12_sheet 102 = .ok (.iload 8, 2) := by decide +kernel
theorem dX12_sheet_104 : decode cX12_sheet 104 = .ok (.invokestatic 208, 3) := by decide +kernel
theorem dX12_sheet_107 : decode cX12_sheet 107 = .ok (.invokestatic 82, 3) := by decide +kernel
theorem dX12_sheet_110 : decode cX12_sheet 110 = .ok (.iastore, 1) := by decide +kernel
theorem dX12_sheet_111 : decode cX12_sheet 111 = .ok (.iload 5, 2) := by decide +kernel
theorem dX12_sheet_113 : decode cX12_sheet 113 = .ok (.aload_n 0, 1) := by decide +kernel
theorem dX12_sheet_114 : decode cX12_sheet 114 = .ok (.getfield 9, 3) := by decide +kernel
theorem dX12_sheet_117 : decode cX12_sheet 117 = .ok (.iload 7, 2) := by decide +kernel
theorem dX12_sheet_119 : decode cX12_sheet 119 = .ok (.iaload, 1) := by decide +kernel
theorem dX12_sheet_120 : decode cX12_sheet 120 = .ok (.iadd, 1) := by decide +kernel
theorem dX12_sheet_121 : decode cX12_sheet 121 = .ok (.istore 5, 2) := by decide +kernel
theorem dX12_sheet_123 : decode cX12_sheet 123 = .ok (.iload 6, 2) := by decide +kernel
theorem dX12_sheet_125 : decode cX12_sheet 125 = .ok (.iload 4, 2) := by decide +kernel
theorem dX12_sheet_127 : decode cX12_sheet 127 = .ok (.iadd, 1) := by decide +kernel
theorem dX12_sheet_128 : decode cX12_sheet 128 = .ok (.istore 6, 2) := by decide +kernel
theorem dX12_sheet_130 : decode cX12_sheet 130 = .ok (.iinc 7 1, 3) := by decide +kernel
theorem dX12_sheet_133 : decode cX12_sheet 133 = .ok (.goto (-90), 3) := by decide +kernel
theorem dX12_sheet_136 : decode cX12_sheet 136 = .ok (.iload_n 1, 1) := by decide +kernel
theorem dX12_sheet_137 : decode cX12_sheet 137 = .ok (.iconst 3, 1) := by decide +kernel
theorem dX12_sheet_138 : decode cX12_sheet 138 = .ok (.if_icmp .ne 8, 3) := by decide +kernel
theorem dX12_sheet_141 : decode cX12_sheet 141 = .ok (.bipush (-3), 2) := by decide +kernel
theorem dX12_sheet_143 : decode cX12_sheet 143 = .ok (.goto 5, 3) := by decide +kernel
theorem dX12_sheet_146 : decode cX12_sheet 146 = .ok (.iload 5, 2) := by decide +kernel
theorem dX12_sheet_148 : decode cX12_sheet 148 = .ok (.ireturn, 1) := by decide +kernel
abbrev YX12_sheet : li_Y := (yX12_sheet, cX12_sheet, 9, (some .int))
theorem dX12_cost_0 : decode cX12_cost 0 = .ok (.aload_n 0, 1) := by decide +kernel
theorem dX12_cost_1 : decode cX12_cost 1 = .ok (.iconst 0, 1) := by decide +kernel
theorem dX12_cost_2 : decode cX12_cost 2 = .ok (.putfield 103, 3) := by decide +kernel
theorem dX12_cost_5 : decode cX12_cost 5 = .ok (.aload_n 0, 1) := by decide +kernel
theorem dX12_cost_6 : decode cX12_cost 6 = .ok (.iload_n 1, 1) := by decide +kernel
theorem dX12_cost_7 : decode cX12_cost 7 = .ok (.invokevirtual 265, 3) := by decide +kernel
theorem dX12_cost_10 : decode cX12_cost 10 = .ok (.ifCond .eq 12, 3) := by decide +kernel
theorem dX12_cost_22 : decode cX12_cost 22 = .ok (.iconst (-1), 1) := by decide +kernel
theorem dX12_cost_23 : decode cX12_cost 23 = .ok (.ireturn, 1) := by decide +kernel
abbrev YX12_cost : li_Y := (yX12_cost, cX12_cost, 3, (some .int))
set_option maxRecDepth 100000 in
set_option maxHeartbeats 4000000 in
theorem k_X12_lay_na {l : Launch} {Z : li_Z} (d : Nat) (hd : 1 ≤ d) (p1 : Int32) (M0 : li_M) (hJ : li_J M0) (h1 : 0 ≤ p1.toInt ∧ p1.toInt ≤ 0 ∧ p1.toInt % 51 = 0) : li_Met l Z YX12_lay d [.ref (Z.2.2 176), .ref (Z.2.2 187), .int p1] M0 (fun r M' => r = none ∧ li_fs (fun i k => i = 187) M0 M' ∧ li_J M') := by
  refine li_enter (by decide +kernel) (Nat.le_of_ble_eq_true rfl) ?_
  show li_T l Z YX12_lay d 0 [(0, .ref (Z.2.2 176)), (1, .ref (Z.2.2 187)), (2, .int p1)] [] M0 _
  have hf : li_fs (fun i k => i = 187) M0 M0 := li_fs_refl
  have gp1 := tl_rg p1
  refine li_iconst 0 dX12_lay_0 (by decide) ?_
  refine li_istore_n [(3, .int 0), (0, .ref (Z.2.2 176)), (1, .ref (Z.2.2 187)), (2, .int p1)] dX12_lay_1 (by decide) rfl ?_
  have L2 : ∀ (n : Nat) (x1 : Int32) (M2 : li_M), (51 - (x1 : Int32).toInt).toNat < n → li_fs (fun i k => i = 187) M0 M2 → li_J M2 → 0 ≤ (x1 : Int32).toInt → li_T l Z YX12_lay d 2 [(3, .int x1), (0, .ref (Z.2.2 176)), (1, .ref (Z.2.2 187)), (2, .int p1)] [] M2 (fun r M' => r = none ∧ li_fs (fun i k => i = 187) M0 M' ∧ li_J M') := by
    intro n
    induction n with
    | zero => intro x1 M2 hn; exact absurd hn (Nat.not_lt_zero _)
    | succ n ih2 =>
      intro x1 M2 hn hf hJ hi
      have gx1 := tl_rg x1
      refine li_iload_n 0 dX12_lay_2 rfl ?_
      refine li_bipush 51 dX12_lay_3 (by decide) ?_
      refine li_icmp_ge 22 dX12_lay_5 (by decide) (fun c3 => ?_) (fun c3 => ?_)
      · have tc3 : 51 ≤ x1.toInt := tl_le c3
        exact li_vret dX12_lay_22 rfl ⟨rfl, hf, hJ⟩
      · have tc3 : x1.toInt < 51 := tl_nle c3
        refine li_aload_n 2 dX12_lay_8 rfl ?_
        refine li_iload_n 3 dX12_lay_9 rfl ?_
        refine li_iload_n 0 dX12_lay_10 rfl ?_
        refine li_iadd dX12_lay_11 ?_
        refine li_top (fun x4 ex4 => ?_)
        try (have tx4 : x4.toInt = (p1 : Int32).toInt + (x1 : Int32).toInt := tl_add ex4 (by omega))
        refine li_aload_n 1 dX12_lay_12 rfl ?_
        refine li_iload_n 0 dX12_lay_13 rfl ?_
        refine li_iald dX12_lay_14 (by decide) sh_176 (tl_in (by omega)) ?_
        refine li_top (fun x5 ex5 => ?_)
        have gx5 := tl_rg x5
        try (have ox5 : (x1 : Int32).toInt % 51 = (x1 : Int32).toInt := by omega)
        have lx5 : ((x1 : Int32).toInt % 51 = 20 → 0 ≤ x5.toInt ∧ x5.toInt ≤ 6) ∧ (21 ≤ (x1 : Int32).toInt % 51 → ((x1 : Int32).toInt % 51 - 21) % 5 < 2 → 0 ≤ x5.toInt ∧ x5.toInt ≤ 5) := hJ.ldLed (by unfold li_led; omega) ex5 (by omega)
        refine li_iast dX12_lay_15 (by decide) sh_187 (tl_in (by omega)) ?_
        refine li_nm (fun M6 eM6 => ?_)
        have hf := li_fs_ui hf (rfl) eM6
        try (have oM6 : (x4 : Int32).toInt % 51 = (x4 : Int32).toInt := by omega)
        have hJ := hJ.st (by decide) (li_el_led (by unfold li_led; omega) (by omega) (show ((x4 : Int32).toInt % 51 = 20 → 0 ≤ (x5 : Int32).toInt ∧ (x5 : Int32).toInt ≤ 6) ∧ (21 ≤ (x4 : Int32).toInt % 51 → ((x4 : Int32).toInt % 51 - 21) % 5 < 2 → 0 ≤ (x5 : Int32).toInt ∧ (x5 : Int32).toInt ≤ 5) by omega)) eM6
        obtain ⟨x7, ex7⟩ : ∃ y : Int32, y = x1 + 1 := ⟨_, rfl⟩
        have z1 : (1 : Int32).toInt = 1 := rfl
        try (have tx7 : x7.toInt = (x1 : Int32).toInt + (1 : Int32).toInt := tl_add ex7 (by omega))
        refine li_iinc 0 [(3, .int x7), (0, .ref (Z.2.2 176)), (1, .ref (Z.2.2 187)), (2, .int p1)] x7 dX12_lay_16 rfl (by rw [ex7]; rfl) (by decide) rfl ?_
        refine li_goto 2 dX12_lay_19 (by decide) ?_
        refine li_pick [0, 1, 2, 3] [(3, .int x7), (0, .ref (Z.2.2 176)), (1, .ref (Z.2.2 187)), (2, .int p1)] rfl ?_
        exact ih2 x7 M6 (by omega) hf hJ (by omega)
  have z0 : (0 : Int32).toInt = 0 := rfl
  exact L2 _ 0 M0 (Nat.lt_succ_self _) hf hJ (by omega)
set_option maxRecDepth 100000 in
set_option maxHeartbeats 4000000 in
theorem k_X12_lay_nu {l : Launch} {Z : li_Z} (d : Nat) (hd : 1 ≤ d) (p1 : Int32) (M0 : li_M) (hJ : li_J M0) (h1 : 0 ≤ p1.toInt ∧ p1.toInt ≤ 561 ∧ p1.toInt % 51 = 0) : li_Met l Z YX12_lay d [.ref (Z.2.2 176), .ref (Z.2.2 186), .int p1] M0 (fun r M' => r = none ∧ li_fs (fun i k => i = 186) M0 M' ∧ li_J M') := by
  refine li_enter (by decide +kernel) (Nat.le_of_ble_eq_true rfl) ?_
  show li_T l Z YX12_lay d 0 [(0, .ref (Z.2.2 176)), (1, .ref (Z.2.2 186)), (2, .int p1)] [] M0 _
  have hf : li_fs (fun i k => i = 186) M0 M0 := li_fs_refl
  have gp1 := tl_rg p1
  refine li_iconst 0 dX12_lay_0 (by decide) ?_
  refine li_istore_n [(3, .int 0), (0, .ref (Z.2.2 176)), (1, .ref (Z.2.2 186)), (2, .int p1)] dX12_lay_1 (by decide) rfl ?_
  have L2 : ∀ (n : Nat) (x1 : Int32) (M2 : li_M), (51 - (x1 : Int32).toInt).toNat < n → li_fs (fun i k => i = 186) M0 M2 → li_J M2 → 0 ≤ (x1 : Int32).toInt → li_T l Z YX12_lay d 2 [(3, .int x1), (0, .ref (Z.2.2 176)), (1, .ref (Z.2.2 186)), (2, .int p1)] [] M2 (fun r M' => r = none ∧ li_fs (fun i k => i = 186) M0 M' ∧ li_J M') := by
    intro n
    induction n with
    | zero => intro x1 M2 hn; exact absurd hn (Nat.not_lt_zero _)
    | succ n ih2 =>
      intro x1 M2 hn hf hJ hi
      have gx1 := tl_rg x1
      refine li_iload_n 0 dX12_lay_2 rfl ?_
      refine li_bipush 51 dX12_lay_3 (by decide) ?_
      refine li_icmp_ge 22 dX12_lay_5 (by decide) (fun c3 => ?_) (fun c3 => ?_)
      · have tc3 : 51 ≤ x1.toInt := tl_le c3
        exact li_vret dX12_lay_22 rfl ⟨rfl, hf, hJ⟩
      · have tc3 : x1.toInt < 51 := tl_nle c3
        refine li_aload_n 2 dX12_lay_8 rfl ?_
        refine li_iload_n 3 dX12_lay_9 rfl ?_
        refine li_iload_n 0 dX12_lay_10 rfl ?_
        refine li_iadd dX12_lay_11 ?_
        refine li_top (fun x4 ex4 => ?_)
        try (have tx4 : x4.toInt = (p1 : Int32).toInt + (x1 : Int32).toInt := tl_add ex4 (by omega))
        refine li_aload_n 1 dX12_lay_12 rfl ?_
        refine li_iload_n 0 dX12_lay_13 rfl ?_
        refine li_iald dX12_lay_14 (by decide) sh_176 (tl_in (by omega)) ?_
        refine li_top (fun x5 ex5 => ?_)
        have gx5 := tl_rg x5
        try (have ox5 : (x1 : Int32).toInt % 51 = (x1 : Int32).toInt := by omega)
        have lx5 : ((x1 : Int32).toInt % 51 = 20 → 0 ≤ x5.toInt ∧ x5.toInt ≤ 6) ∧ (21 ≤ (x1 : Int32).toInt % 51 → ((x1 : Int32).toInt % 51 - 21) % 5 < 2 → 0 ≤ x5.toInt ∧ x5.toInt ≤ 5) := hJ.ldLed (by unfold li_led; omega) ex5 (by omega)
        refine li_iast dX12_lay_15 (by decide) sh_186 (tl_in (by omega)) ?_
        refine li_nm (fun M6 eM6 => ?_)
        have hf := li_fs_ui hf (rfl) eM6
        try (have oM6 : (x4 : Int32).toInt % 51 = (x4 : Int32).toInt := by omega)
        have hJ := hJ.st (by decide) (li_el_led (by unfold li_led; omega) (by omega) (show ((x4 : Int32).toInt % 51 = 20 → 0 ≤ (x5 : Int32).toInt ∧ (x5 : Int32).toInt ≤ 6) ∧ (21 ≤ (x4 : Int32).toInt % 51 → ((x4 : Int32).toInt % 51 - 21) % 5 < 2 → 0 ≤ (x5 : Int32).toInt ∧ (x5 : Int32).toInt ≤ 5) by omega)) eM6
        obtain ⟨x7, ex7⟩ : ∃ y : Int32, y = x1 + 1 := ⟨_, rfl⟩
        have z1 : (1 : Int32).toInt = 1 := rfl
        try (have tx7 : x7.toInt = (x1 : Int32).toInt + (1 : Int32).toInt := tl_add ex7 (by omega))
        refine li_iinc 0 [(3, .int x7), (0, .ref (Z.2.2 176)), (1, .ref (Z.2.2 186)), (2, .int p1)] x7 dX12_lay_16 rfl (by rw [ex7]; rfl) (by decide) rfl ?_
        refine li_goto 2 dX12_lay_19 (by decide) ?_
        refine li_pick [0, 1, 2, 3] [(3, .int x7), (0, .ref (Z.2.2 176)), (1, .ref (Z.2.2 186)), (2, .int p1)] rfl ?_
        exact ih2 x7 M6 (by omega) hf hJ (by omega)
  have z0 : (0 : Int32).toInt = 0 := rfl
  exact L2 _ 0 M0 (Nat.lt_succ_self _) hf hJ (by omega)
set_option maxRecDepth 100000 in
set_option maxHeartbeats 4000000 in
theorem k_X12_lay_nt {l : Launch} {Z : li_Z} (d : Nat) (hd : 1 ≤ d) (p1 : Int32) (M0 : li_M) (hJ : li_J M0) (h1 : 0 ≤ p1.toInt ∧ p1.toInt ≤ 0 ∧ p1.toInt % 51 = 0) : li_Met l Z YX12_lay d [.ref (Z.2.2 176), .ref (Z.2.2 200), .int p1] M0 (fun r M' => r = none ∧ li_fs (fun i k => i = 200) M0 M' ∧ li_J M') := by
  refine li_enter (by decide +kernel) (Nat.le_of_ble_eq_true rfl) ?_
  show li_T l Z YX12_lay d 0 [(0, .ref (Z.2.2 176)), (1, .ref (Z.2.2 200)), (2, .int p1)] [] M0 _
  have hf : li_fs (fun i k => i = 200) M0 M0 := li_fs_refl
  have gp1 := tl_rg p1
  refine li_iconst 0 dX12_lay_0 (by decide) ?_
  refine li_istore_n [(3, .int 0), (0, .ref (Z.2.2 176)), (1, .ref (Z.2.2 200)), (2, .int p1)] dX12_lay_1 (by decide) rfl ?_
  have L2 : ∀ (n : Nat) (x1 : Int32) (M2 : li_M), (51 - (x1 : Int32).toInt).toNat < n → li_fs (fun i k => i = 200) M0 M2 → li_J M2 → 0 ≤ (x1 : Int32).toInt → li_T l Z YX12_lay d 2 [(3, .int x1), (0, .ref (Z.2.2 176)), (1, .ref (Z.2.2 200)), (2, .int p1)] [] M2 (fun r M' => r = none ∧ li_fs (fun i k => i = 200) M0 M' ∧ li_J M') := by
    intro n
    induction n with
    | zero => intro x1 M2 hn; exact absurd hn (Nat.not_lt_zero _)
    | succ n ih2 =>
      intro x1 M2 hn hf hJ hi
      have gx1 := tl_rg x1
      refine li_iload_n 0 dX12_lay_2 rfl ?_
      refine li_bipush 51 dX12_lay_3 (by decide) ?_
      refine li_icmp_ge 22 dX12_lay_5 (by decide) (fun c3 => ?_) (fun c3 => ?_)
      · have tc3 : 51 ≤ x1.toInt := tl_le c3
        exact li_vret dX12_lay_22 rfl ⟨rfl, hf, hJ⟩
      · have tc3 : x1.toInt < 51 := tl_nle c3
        refine li_aload_n 2 dX12_lay_8 rfl ?_
        refine li_iload_n 3 dX12_lay_9 rfl ?_
        refine li_iload_n 0 dX12_lay_10 rfl ?_
        refine li_iadd dX12_lay_11 ?_
        refine li_top (fun x4 ex4 => ?_)
        try (have tx4 : x4.toInt = (p1 : Int32).toInt + (x1 : Int32).toInt := tl_add ex4 (by omega))
        refine li_aload_n 1 dX12_lay_12 rfl ?_
        refine li_iload_n 0 dX12_lay_13 rfl ?_
        refine li_iald dX12_lay_14 (by decide) sh_176 (tl_in (by omega)) ?_
        refine li_top (fun x5 ex5 => ?_)
        have gx5 := tl_rg x5
        try (have ox5 : (x1 : Int32).toInt % 51 = (x1 : Int32).toInt := by omega)
        have lx5 : ((x1 : Int32).toInt % 51 = 20 → 0 ≤ x5.toInt ∧ x5.toInt ≤ 6) ∧ (21 ≤ (x1 : Int32).toInt % 51 → ((x1 : Int32).toInt % 51 - 21) % 5 < 2 → 0 ≤ x5.toInt ∧ x5.toInt ≤ 5) := hJ.ldLed (by unfold li_led; omega) ex5 (by omega)
        refine li_iast dX12_lay_15 (by decide) sh_200 (tl_in (by omega)) ?_
        refine li_nm (fun M6 eM6 => ?_)
        have hf := li_fs_ui hf (rfl) eM6
        try (have oM6 : (x4 : Int32).toInt % 51 = (x4 : Int32).toInt := by omega)
        have hJ := hJ.st (by decide) (li_el_led (by unfold li_led; omega) (by omega) (show ((x4 : Int32).toInt % 51 = 20 → 0 ≤ (x5 : Int32).toInt ∧ (x5 : Int32).toInt ≤ 6) ∧ (21 ≤ (x4 : Int32).toInt % 51 → ((x4 : Int32).toInt % 51 - 21) % 5 < 2 → 0 ≤ (x5 : Int32).toInt ∧ (x5 : Int32).toInt ≤ 5) by omega)) eM6
        obtain ⟨x7, ex7⟩ : ∃ y : Int32, y = x1 + 1 := ⟨_, rfl⟩
        have z1 : (1 : Int32).toInt = 1 := rfl
        try (have tx7 : x7.toInt = (x1 : Int32).toInt + (1 : Int32).toInt := tl_add ex7 (by omega))
        refine li_iinc 0 [(3, .int x7), (0, .ref (Z.2.2 176)), (1, .ref (Z.2.2 200)), (2, .int p1)] x7 dX12_lay_16 rfl (by rw [ex7]; rfl) (by decide) rfl ?_
        refine li_goto 2 dX12_lay_19 (by decide) ?_
        refine li_pick [0, 1, 2, 3] [(3, .int x7), (0, .ref (Z.2.2 176)), (1, .ref (Z.2.2 200)), (2, .int p1)] rfl ?_
        exact ih2 x7 M6 (by omega) hf hJ (by omega)
  have z0 : (0 : Int32).toInt = 0 := rfl
  exact L2 _ 0 M0 (Nat.lt_succ_self _) hf hJ (by omega)
set_option maxRecDepth 100000 in
set_option maxHeartbeats 4000000 in
theorem k_X12_lay_nk {l : Launch} {Z : li_Z} (d : Nat) (hd : 1 ≤ d) (p1 : Int32) (M0 : li_M) (hJ : li_J M0) (h1 : 0 ≤ p1.toInt ∧ p1.toInt ≤ 51 ∧ p1.toInt % 51 = 0) : li_Met l Z YX12_lay d [.ref (Z.2.2 176), .ref (Z.2.2 201), .int p1] M0 (fun r M' => r = none ∧ li_fs (fun i k => i = 201) M0 M' ∧ li_J M') := by
  refine li_enter (by decide +kernel) (Nat.le_of_ble_eq_true rfl) ?_
  show li_T l Z YX12_lay d 0 [(0, .ref (Z.2.2 176)), (1, .ref (Z.2.2 201)), (2, .int p1)] [] M0 _
  have hf : li_fs (fun i k => i = 201) M0 M0 := li_fs_refl
  have gp1 := tl_rg p1
  refine li_iconst 0 dX12_lay_0 (by decide) ?_
  refine li_istore_n [(3, .int 0), (0, .ref (Z.2.2 176)), (1, .ref (Z.2.2 201)), (2, .int p1)] dX12_lay_1 (by decide) rfl ?_
  have L2 : ∀ (n : Nat) (x1 : Int32) (M2 : li_M), (51 - (x1 : Int32).toInt).toNat < n → li_fs (fun i k => i = 201) M0 M2 → li_J M2 → 0 ≤ (x1 : Int32).toInt → li_T l Z YX12_lay d 2 [(3, .int x1), (0, .ref (Z.2.2 176)), (1, .ref (Z.2.2 201)), (2, .int p1)] [] M2 (fun r M' => r = none ∧ li_fs (fun i k => i = 201) M0 M' ∧ li_J M') := by
    intro n
    induction n with
    | zero => intro x1 M2 hn; exact absurd hn (Nat.not_lt_zero _)
    | succ n ih2 =>
      intro x1 M2 hn hf hJ hi
      have gx1 := tl_rg x1
      refine li_iload_n 0 dX12_lay_2 rfl ?_
      refine li_bipush 51 dX12_lay_3 (by decide) ?_
      refine li_icmp_ge 22 dX12_lay_5 (by decide) (fun c3 => ?_) (fun c3 => ?_)
      · have tc3 : 51 ≤ x1.toInt := tl_le c3
        exact li_vret dX12_lay_22 rfl ⟨rfl, hf, hJ⟩
      · have tc3 : x1.toInt < 51 := tl_nle c3
        refine li_aload_n 2 dX12_lay_8 rfl ?_
        refine li_iload_n 3 dX12_lay_9 rfl ?_
        refine li_iload_n 0 dX12_lay_10 rfl ?_
        refine li_iadd dX12_lay_11 ?_
        refine li_top (fun x4 ex4 => ?_)
        try (have tx4 : x4.toInt = (p1 : Int32).toInt + (x1 : Int32).toInt := tl_add ex4 (by omega))
        refine li_aload_n 1 dX12_lay_12 rfl ?_
        refine li_iload_n 0 dX12_lay_13 rfl ?_
        refine li_iald dX12_lay_14 (by decide) sh_176 (tl_in (by omega)) ?_
        refine li_top (fun x5 ex5 => ?_)
        have gx5 := tl_rg x5
        try (have ox5 : (x1 : Int32).toInt % 51 = (x1 : Int32).toInt := by omega)
        have lx5 : ((x1 : Int32).toInt % 51 = 20 → 0 ≤ x5.toInt ∧ x5.toInt ≤ 6) ∧ (21 ≤ (x1 : Int32).toInt % 51 → ((x1 : Int32).toInt % 51 - 21) % 5 < 2 → 0 ≤ x5.toInt ∧ x5.toInt ≤ 5) := hJ.ldLed (by unfold li_led; omega) ex5 (by omega)
        refine li_iast dX12_lay_15 (by decide) sh_201 (tl_in (by omega)) ?_
        refine li_nm (fun M6 eM6 => ?_)
        have hf := li_fs_ui hf (rfl) eM6
        try (have oM6 : (x4 : Int32).toInt % 51 = (x4 : Int32).toInt := by omega)
        have hJ := hJ.st (by decide) (li_el_led (by unfold li_led; omega) (by omega) (show ((x4 : Int32).toInt % 51 = 20 → 0 ≤ (x5 : Int32).toInt ∧ (x5 : Int32).toInt ≤ 6) ∧ (21 ≤ (x4 : Int32).toInt % 51 → ((x4 : Int32).toInt % 51 - 21) % 5 < 2 → 0 ≤ (x5 : Int32).toInt ∧ (x5 : Int32).toInt ≤ 5) by omega)) eM6
        obtain ⟨x7, ex7⟩ : ∃ y : Int32, y = x1 + 1 := ⟨_, rfl⟩
        have z1 : (1 : Int32).toInt = 1 := rfl
        try (have tx7 : x7.toInt = (x1 : Int32).toInt + (1 : Int32).toInt := tl_add ex7 (by omega))
        refine li_iinc 0 [(3, .int x7), (0, .ref (Z.2.2 176)), (1, .ref (Z.2.2 201)), (2, .int p1)] x7 dX12_lay_16 rfl (by rw [ex7]; rfl) (by decide) rfl ?_
        refine li_goto 2 dX12_lay_19 (by decide) ?_
        refine li_pick [0, 1, 2, 3] [(3, .int x7), (0, .ref (Z.2.2 176)), (1, .ref (Z.2.2 201)), (2, .int p1)] rfl ?_
        exact ih2 x7 M6 (by omega) hf hJ (by omega)
  have z0 : (0 : Int32).toInt = 0 := rfl
  exact L2 _ 0 M0 (Nat.lt_succ_self _) hf hJ (by omega)
set_option maxRecDepth 100000 in
set_option maxHeartbeats 4000000 in
theorem k_X12_remember_n {l : Launch} {Z : li_Z} (d : Nat) (hd : 2 ≤ d) (M0 : li_M) (hJ : li_J M0) : li_Met l Z YX12_remember d [.ref (Z.2.2 175), .ref (Z.2.2 176)] M0 (fun r M' => r = none ∧ li_fs (fun i k => i = 186 ∨ (i = 175 ∧ k = 23)) M0 M' ∧ li_J M') := by
  refine li_enter (by decide +kernel) (Nat.le_of_ble_eq_true rfl) ?_
  show li_T l Z YX12_remember d 0 [(0, .ref (Z.2.2 175)), (1, .ref (Z.2.2 176))] [] M0 _
  have hf : li_fs (fun i k => i = 186 ∨ (i = 175 ∧ k = 23)) M0 M0 := li_fs_refl
  have rM0_23 := J_sl23 (M := M0) hJ
  refine li_aload_n 0 dX12_remember_0 rfl ?_
  refine li_geti (k := 23) (N := 52) (T := TX12) (C0 := RX12) dX12_remember_1 (by decide) sh_175 rfl rfl (by decide) li_in12 w_1427 ?_
  refine li_top (fun x1 ex1 => ?_)
  have gx1 : 0 ≤ x1.toInt ∧ x1.toInt ≤ 12 := by rw [ex1]; exact J_sl23 hJ
  have mx1 : x1.toInt = (M0.1 175 23).toInt := tl_slot ex1
  refine li_bipush 12 dX12_remember_4 (by decide) ?_
  have J49 : ∀  (M3 : li_M), li_fs (fun i k => i = 186 ∨ (i = 175 ∧ k = 23)) M0 M3 → li_J M3 → 0 ≤ (M3.1 175 23).toInt ∧ (M3.1 175 23).toInt ≤ 11 → li_T l Z YX12_remember d 49 [(0, .ref (Z.2.2 175)), (1, .ref (Z.2.2 176))] [] M3 (fun r M' => r = none ∧ li_fs (fun i k => i = 186 ∨ (i = 175 ∧ k = 23)) M0 M' ∧ li_J M') := by
    intro  M3 hf hJ hi
    have rM3_23 := J_sl23 (M := M3) hJ
    refine li_aload_n 1 dX12_remember_49 rfl ?_
    refine li_aload_n 0 dX12_remember_50 rfl ?_
    refine li_getr (k := 22) (N := 52) (T := TX12) (C0 := RX12) dX12_remember_51 (by decide) sh_175 rfl rfl (by decide) (by decide) li_in12 w_1426 ?_
    refine li_bipush 51 dX12_remember_54 (by decide) ?_
    refine li_aload_n 0 dX12_remember_56 rfl ?_
    refine li_geti (k := 23) (N := 52) (T := TX12) (C0 := RX12) dX12_remember_57 (by decide) sh_175 rfl rfl (by decide) li_in12 w_1427 ?_
    refine li_top (fun x4 ex4 => ?_)
    have gx4 : 0 ≤ x4.toInt ∧ x4.toInt ≤ 12 := by rw [ex4]; exact J_sl23 hJ
    have mx4 : x4.toInt = (M3.1 175 23).toInt := tl_slot ex4
    refine li_imul dX12_remember_60 ?_
    refine li_top (fun x5 ex5 => ?_)
    have z51 : (51 : Int32).toInt = 51 := rfl
    try (have tx5 : x5.toInt = 51 * (x4 : Int32).toInt := tl_mul ex5 (show -2147483648 ≤ 51 * (x4 : Int32).toInt ∧ 51 * (x4 : Int32).toInt ≤ 2147483647 by omega))
    refine li_callS (n := 3) (As := [.ref (Z.2.2 176), .ref (Z.2.2 186), .int x5]) dX12_remember_61 (k_X12_lay_nu (d - 1) (by omega) x5 M3 hJ (by omega)) (by omega) (Nat.le_of_ble_eq_true rfl) w_1749 w_1750 w_112 w_1751 (by decide +kernel) rfl rfl (Nat.le_of_ble_eq_true rfl) (fun r M7 h8 => ?_)
    obtain ⟨rfl, h8, jM7⟩ := h8
    have hf := li_fs_trans hf h8 (fun i k => fun h => Or.inl h)
    have hJ := jM7
    have rM7_23 := J_sl23 (M := M7) hJ
    have mM7_23 : (M7.1 175 23).toInt = (M3.1 175 23).toInt := tl_slot (h8.1 175 23 (show ¬ (175 = 186) by decide))
    refine li_aload_n 0 dX12_remember_64 rfl ?_
    refine li_dup dX12_remember_65 rfl ?_
    refine li_geti (k := 23) (N := 52) (T := TX12) (C0 := RX12) dX12_remember_66 (by decide) sh_175 rfl rfl (by decide) li_in12 w_1427 ?_
    refine li_top (fun x9 ex9 => ?_)
    have gx9 : 0 ≤ x9.toInt ∧ x9.toInt ≤ 12 := by rw [ex9]; exact J_sl23 hJ
    have mx9 : x9.toInt = (M7.1 175 23).toInt := tl_slot ex9
    refine li_iconst 1 dX12_remember_69 (by decide) ?_
    refine li_iadd dX12_remember_70 ?_
    refine li_top (fun x10 ex10 => ?_)
    have z1 : (1 : Int32).toInt = 1 := rfl
    try (have tx10 : x10.toInt = (x9 : Int32).toInt + (1 : Int32).toInt := tl_add ex10 (by omega))
    refine li_puti (k := 23) (N := 52) (T := TX12) (C0 := RX12) dX12_remember_71 (by decide) sh_175 rfl rfl (by decide) li_in12 tyX12_ok nmX12 rfl rfl rfl rfl w_1427 ?_
    refine li_nm (fun M11 eM11 => ?_)
    have hf := li_fs_ui hf (Or.inr (⟨rfl, rfl⟩)) eM11
    have hJ := J_pt23 hJ (show 0 ≤ (x10 : Int32).toInt ∧ (x10 : Int32).toInt ≤ 12 by omega) eM11
    have rM11_23 := J_sl23 (M := M11) hJ
    have mM11_23 : (M11.1 175 23).toInt = x10.toInt := by rw [eM11, li_ui_at, if_pos rfl, if_pos rfl]
    exact li_vret dX12_remember_74 rfl ⟨rfl, hf, hJ⟩
  refine li_icmp_ne 49 dX12_remember_6 (by decide) (fun c2 => ?_) (fun c2 => ?_)
  · have tc2 : ¬ x1.toInt = 12 := tl_ne c2
    refine li_pick [0, 1] [(0, .ref (Z.2.2 175)), (1, .ref (Z.2.2 176))] rfl ?_
    exact J49  M0 hf hJ (by omega)
  · have tc2 : x1.toInt = 12 := tl_eq c2
    refine li_iconst 0 dX12_remember_9 (by decide) ?_
    refine li_istore_n [(2, .int 0), (0, .ref (Z.2.2 175)), (1, .ref (Z.2.2 176))] dX12_remember_10 (by decide) rfl ?_
    have L11 : ∀ (n : Nat) (x12 : Int32) (M13 : li_M), (561 - (x12 : Int32).toInt).toNat < n → li_fs (fun i k => i = 186 ∨ (i = 175 ∧ k = 23)) M0 M13 → li_J M13 → 0 ≤ (x12 : Int32).toInt ∧ (M13.1 175 23).toInt = 12 → li_T l Z YX12_remember d 11 [(2, .int x12), (0, .ref (Z.2.2 175)), (1, .ref (Z.2.2 176))] [] M13 (fun r M' => r = none ∧ li_fs (fun i k => i = 186 ∨ (i = 175 ∧ k = 23)) M0 M' ∧ li_J M') := by
      intro n
      induction n with
      | zero => intro x12 M13 hn; exact absurd hn (Nat.not_lt_zero _)
      | succ n ih11 =>
        intro x12 M13 hn hf hJ hi
        have gx12 := tl_rg x12
        have rM13_23 := J_sl23 (M := M13) hJ
        refine li_iload_n 0 dX12_remember_11 rfl ?_
        refine li_sipush 561 dX12_remember_12 (by decide) ?_
        refine li_icmp_ge 39 dX12_remember_15 (by decide) (fun c14 => ?_) (fun c14 => ?_)
        · have tc14 : 561 ≤ x12.toInt := tl_le c14
          refine li_aload_n 1 dX12_remember_39 rfl ?_
          refine li_dup dX12_remember_40 rfl ?_
          refine li_geti (k := 23) (N := 52) (T := TX12) (C0 := RX12) dX12_remember_41 (by decide) sh_175 rfl rfl (by decide) li_in12 w_1427 ?_
          refine li_top (fun x15 ex15 => ?_)
          have gx15 : 0 ≤ x15.toInt ∧ x15.toInt ≤ 12 := by rw [ex15]; exact J_sl23 hJ
          have mx15 : x15.toInt = (M13.1 175 23).toInt := tl_slot ex15
          refine li_iconst 1 dX12_remember_44 (by decide) ?_
          refine li_isub dX12_remember_45 ?_
          refine li_top (fun x16 ex16 => ?_)
          have z1 : (1 : Int32).toInt = 1 := rfl
          try (have tx16 : x16.toInt = (x15 : Int32).toInt - (1 : Int32).toInt := tl_sub ex16 (by omega))
          refine li_puti (k := 23) (N := 52) (T := TX12) (C0 := RX12) dX12_remember_46 (by decide) sh_175 rfl rfl (by decide) li_in12 tyX12_ok nmX12 rfl rfl rfl rfl w_1427 ?_
          refine li_nm (fun M17 eM17 => ?_)
          have hf := li_fs_ui hf (Or.inr (⟨rfl, rfl⟩)) eM17
          have hJ := J_pt23 hJ (show 0 ≤ (x16 : Int32).toInt ∧ (x16 : Int32).toInt ≤ 12 by omega) eM17
          have rM17_23 := J_sl23 (M := M17) hJ
          have mM17_23 : (M17.1 175 23).toInt = x16.toInt := by rw [eM17, li_ui_at, if_pos rfl, if_pos rfl]
          refine li_pick [1, 2] [(0, .ref (Z.2.2 175)), (1, .ref (Z.2.2 176))] rfl ?_
          exact J49  M17 hf hJ (by omega)
        · have tc14 : x12.toInt < 561 := tl_nle c14
          refine li_aload_n 1 dX12_remember_18 rfl ?_
          refine li_getr (k := 22) (N := 52) (T := TX12) (C0 := RX12) dX12_remember_19 (by decide) sh_175 rfl rfl (by decide) (by decide) li_in12 w_1426 ?_
          refine li_iload_n 0 dX12_remember_22 rfl ?_
          refine li_aload_n 1 dX12_remember_23 rfl ?_
          refine li_getr (k := 22) (N := 52) (T := TX12) (C0 := RX12) dX12_remember_24 (by decide) sh_175 rfl rfl (by decide) (by decide) li_in12 w_1426 ?_
          refine li_iload_n 0 dX12_remember_27 rfl ?_
          refine li_bipush 51 dX12_remember_28 (by decide) ?_
          refine li_iadd dX12_remember_30 ?_
          refine li_top (fun x18 ex18 => ?_)
          have z51 : (51 : Int32).toInt = 51 := rfl
          try (have tx18 : x18.toInt = (x12 : Int32).toInt + (51 : Int32).toInt := tl_add ex18 (by omega))
          refine li_iald dX12_remember_31 (by decide) sh_186 (tl_in (by omega)) ?_
          refine li_top (fun x19 ex19 => ?_)
          have gx19 := tl_rg x19
          try (have ox19 : (x18 : Int32).toInt % 51 = (x18 : Int32).toInt := by omega)
          have lx19 : ((x18 : Int32).toInt % 51 = 20 → 0 ≤ x19.toInt ∧ x19.toInt ≤ 6) ∧ (21 ≤ (x18 : Int32).toInt % 51 → ((x18 : Int32).toInt % 51 - 21) % 5 < 2 → 0 ≤ x19.toInt ∧ x19.toInt ≤ 5) := hJ.ldLed (by unfold li_led; omega) ex19 (by omega)
          refine li_iast dX12_remember_32 (by decide) sh_186 (tl_in (by omega)) ?_
          refine li_nm (fun M20 eM20 => ?_)
          have hf := li_fs_ui hf (Or.inl rfl) eM20
          try (have oM20 : (x12 : Int32).toInt % 51 = (x12 : Int32).toInt := by omega)
          have hJ := hJ.st (by decide) (li_el_led (by unfold li_led; omega) (by omega) (show ((x12 : Int32).toInt % 51 = 20 → 0 ≤ (x19 : Int32).toInt ∧ (x19 : Int32).toInt ≤ 6) ∧ (21 ≤ (x12 : Int32).toInt % 51 → ((x12 : Int32).toInt % 51 - 21) % 5 < 2 → 0 ≤ (x19 : Int32).toInt ∧ (x19 : Int32).toInt ≤ 5) by omega)) eM20
          have rM20_23 := J_sl23 (M := M20) hJ
          have mM20_23 : (M20.1 175 23).toInt = (M13.1 175 23).toInt := by rw [eM20, li_ui_at, if_neg (by decide)]
          obtain ⟨x21, ex21⟩ : ∃ y : Int32, y = x12 + 1 := ⟨_, rfl⟩
          have z1 : (1 : Int32).toInt = 1 := rfl
          try (have tx21 : x21.toInt = (x12 : Int32).toInt + (1 : Int32).toInt := tl_add ex21 (by omega))
          refine li_iinc 0 [(2, .int x21), (0, .ref (Z.2.2 175)), (1, .ref (Z.2.2 176))] x21 dX12_remember_33 rfl (by rw [ex21]; rfl) (by decide) rfl ?_
          refine li_goto 11 dX12_remember_36 (by decide) ?_
          refine li_pick [0, 1, 2] [(2, .int x21), (0, .ref (Z.2.2 175)), (1, .ref (Z.2.2 176))] rfl ?_
          exact ih11 x21 M20 (by omega) hf hJ (by omega)
    have z0 : (0 : Int32).toInt = 0 := rfl
    exact L11 _ 0 M0 (Nat.lt_succ_self _) hf hJ (by omega)
