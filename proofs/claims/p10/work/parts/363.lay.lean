theorem w_67 : (Jvm.Cond.selects "ClockForTalkModel" ({ cls := "ClockForTalkModel", name := "isHeard", desc := "(II)Z" } : Jvm.MethodName) ({ cls := "ClockForTalkModel", name := "isHeard", desc := "(II)Z" } : Jvm.MethodName)) ∈ li_ws := li_mem 67 (by decide +kernel) (by decide +kernel)
theorem w_1426 : (Jvm.Cond.fieldLink "ClockForTalkModel" (41 : Nat) "ClockForTalkModel" "undos" "[I") ∈ li_ws := li_mem 1426 (by decide +kernel) (by decide +kernel)
theorem w_1718 : (Jvm.Cond.methodLink "ClockForTalkModel" (272 : Nat) ({ cls := "ClockForTalkModel", name := "isHeard", desc := "(II)Z" } : Jvm.MethodName)) ∈ li_ws := li_mem 1718 (by decide +kernel) (by decide +kernel)
theorem w_1720 : (Jvm.Cond.instanceMethod ({ cls := "ClockForTalkModel", name := "isHeard", desc := "(II)Z" } : Jvm.MethodName)) ∈ li_ws := li_mem 1720 (by decide +kernel) (by decide +kernel)
theorem w_1721 : (Jvm.Cond.code ({ cls := "ClockForTalkModel", name := "isHeard", desc := "(II)Z" } : Jvm.MethodName) prog_13_method_35_code (3 : Nat) (Option.some Jvm.ClassFile.FieldType.boolean)) ∈ li_ws := li_mem 1721 (by decide +kernel) (by decide +kernel)
theorem w_1745 : (Jvm.Cond.methodLink "ClockForTalkModel" (268 : Nat) ({ cls := "ClockForTalkModel", name := "lay", desc := "([I[II)V" } : Jvm.MethodName)) ∈ li_ws := li_mem 1745 (by decide +kernel) (by decide +kernel)
theorem w_1746 : (Jvm.Cond.static ({ cls := "ClockForTalkModel", name := "lay", desc := "([I[II)V" } : Jvm.MethodName)) ∈ li_ws := li_mem 1746 (by decide +kernel) (by decide +kernel)
theorem w_1747 : (Jvm.Cond.code ({ cls := "ClockForTalkModel", name := "lay", desc := "([I[II)V" } : Jvm.MethodName) prog_13_method_49_code (4 : Nat) (Option.none : Option Jvm.ClassFile.FieldType)) ∈ li_ws := li_mem 1747 (by decide +kernel) (by decide +kernel)
theorem dX12_lay_0 : decode cX12_lay 0 = .ok (.iconst 0, 1) := by decide +kernel
theorem dX12_lay_1 : decode cX12_lay 1 = .ok (.istore_n 3, 1) := by decide +kernel
theorem dX12_lay_2 : decode cX12_lay 2 = .ok (.iload_n 3, 1) := by decide +kernel
theorem dX12_lay_3 : decode cX12_lay 3 = .ok (.bipush 51, 2) := by decide +kernel
theorem dX12_lay_5 : decode cX12_lay 5 = .ok (.if_icmp .ge 17, 3) := by decide +kernel
theorem dX12_lay_8 : decode cX12_lay 8 = .ok (.aload_n 1, 1) := by decide +kernel
theorem dX12_lay_9 : decode cX12_lay 9 = .ok (.iload_n 2, 1) := by decide +kernel
theorem dX12_lay_10 : decode cX12_lay 10 = .ok (.iload_n 3, 1) := by decide +kernel
theorem dX12_lay_11 : decode cX12_lay 11 = .ok (.iadd, 1) := by decide +kernel
theorem dX12_lay_12 : decode cX12_lay 12 = .ok (.aload_n 0, 1) := by decide +kernel
theorem dX12_lay_13 : decode cX12_lay 13 = .ok (.iload_n 3, 1) := by decide +kernel
theorem dX12_lay_14 : decode cX12_lay 14 = .ok (.iaload, 1) := by decide +kernel
theorem dX12_lay_15 : decode cX12_lay 15 = .ok (.iastore, 1) := by decide +kernel
theorem dX12_lay_16 : decode cX12_lay 16 = .ok (.iinc 3 1, 3) := by decide +kernel
theorem dX12_lay_19 : decode cX12_lay 19 = .ok (.goto (-17), 3) := by decide +kernel
theorem dX12_lay_22 : decode cX12_lay 22 = .ok (.return_, 1) := by decide +kernel
abbrev YX12_lay : li_Y := (yX12_lay, cX12_lay, 4, none)
theorem dX12_remember_0 : decode cX12_remember 0 = .ok (.aload_n 0, 1) := by decide +kernel
theorem dX12_remember_1 : decode cX12_remember 1 = .ok (.getfield 174, 3) := by decide +kernel
theorem dX12_remember_4 : decode cX12_remember 4 = .ok (.bipush 12, 2) := by decide +kernel
theorem dX12_remember_6 : decode cX12_remember 6 = .ok (.if_icmp .ne 43, 3) := by decide +kernel
theorem dX12_remember_9 : decode cX12_remember 9 = .ok (.iconst 0, 1) := by decide +kernel
theorem dX12_remember_10 : decode cX12_remember 10 = .ok (.istore_n 2, 1) := by decide +kernel
theorem dX12_remember_11 : decode cX12_remember 11 = .ok (.iload_n 2, 1) := by decide +kernel
theorem dX12_remember_12 : decode cX12_remember 12 = .ok (.sipush 561, 3) := by decide +kernel
theorem dX12_remember_15 : decode cX12_remember 15 = .ok (.if_icmp .ge 24, 3) := by decide +kernel
theorem dX12_remember_18 : decode cX12_remember 18 = .ok (.aload_n 0, 1) := by decide +kernel
theorem dX12_remember_19 : decode cX12_remember 19 = .ok (.getfield 41, 3) := by decide +kernel
theorem dX12_remember_22 : decode cX12_remember 22 = .ok (.iload_n 2, 1) := by decide +kernel
theorem dX12_remember_23 : decode cX12_remember 23 = .ok (.aload_n 0, 1) := by decide +kernel
theorem dX12_remember_24 : decode cX12_remember 24 = .ok (.getfield 41, 3) := by decide +kernel
theorem dX12_remember_27 : decode cX12_remember 27 = .ok (.iload_n 2, 1) := by decide +kernel
theorem dX12_remember_28 : decode cX12_remember 28 = .ok (.bipush 51, 2) := by decide +kernel
theorem dX12_remember_30 : decode cX12_remember 30 = .ok (.iadd, 1) := by decide +kernel
theorem dX12_remember_31 : decode cX12_remember 31 = .ok (.iaload, 1) := by decide +kernel
theorem dX12_remember_32 : decode cX12_remember 32 = .ok (.iastore, 1) := by decide +kernel
theorem dX12_remember_33 : decode cX12_remember 33 = .ok (.iinc 2 1, 3) := by decide +kernel
theorem dX12_remember_36 : decode cX12_remember 36 = .ok (.goto (-25), 3) := by decide +kernel
theorem dX12_remember_39 : decode cX12_remember 39 = .ok (.aload_n 0, 1) := by decide +kernel
theorem dX12_remember_40 : decode cX12_remember 40 = .ok (.dup, 1) := by decide +kernel
theorem dX12_remember_41 : decode cX12_remember 41 = .ok (.getfield 174, 3) := by decide +kernel
theorem dX12_remember_44 : decode cX12_remember 44 = .ok (.iconst 1, 1) := by decide +kernel
theorem dX12_remember_45 : decode cX12_remember 45 = .ok (.isub, 1) := by decide +kernel
theorem dX12_remember_46 : decode cX12_remember 46 = .ok (.putfield 174, 3) := by decide +kernel
theorem dX12_remember_49 : decode cX12_remember 49 = .ok (.aload_n 1, 1) := by decide +kernel
theorem dX12_remember_50 : decode cX12_remember 50 = .ok (.aload_n 0, 1) := by decide +kernel
theorem dX12_remember_51 : decode cX12_remember 51 = .ok (.getfield 41, 3) := by decide +kernel
theorem dX12_remember_54 : decode cX12_remember 54 = .ok (.bipush 51, 2) := by decide +kernel
theorem dX12_remember_56 : decode cX12_remember 56 = .ok (.aload_n 0, 1) := by decide +kernel
theorem dX12_remember_57 : decode cX12_remember 57 = .ok (.getfield 174, 3) := by decide +kernel
theorem dX12_remember_60 : decode cX12_remember 60 = .ok (.imul, 1) := by decide +kernel
theorem dX12_remember_61 : decode cX12_remember 61 = .ok (.invokestatic 268, 3) := by decide +kernel
theorem dX12_remember_64 : decode cX12_remember 64 = .ok (.aload_n 0, 1) := by decide +kernel
theorem dX12_remember_65 : decode cX12_remember 65 = .ok (.dup, 1) := by decide +kernel
theorem dX12_remember_66 : decode cX12_remember 66 = .ok (.getfield 174, 3) := by decide +kernel
theorem dX12_remember_69 : decode cX12_remember 69 = .ok (.iconst 1, 1) := by decide +kernel
theorem dX12_remember_70 : decode cX12_remember 70 = .ok (.iadd, 1) := by decide +kernel
theorem dX12_remember_71 : decode cX12_remember 71 = .ok (.putfield 174, 3) := by decide +kernel
theorem dX12_remember_74 : decode cX12_remember 74 = .ok (.return_, 1) := by decide +kernel
abbrev YX12_remember : li_Y := (yX12_remember, cX12_remember, 3, none)
theorem dX12_sheet_0 : decode cX12_sheet 0 = .ok (.aload_n 0, 1) := by decide +kernel
theorem dX12_sheet_1 : decode cX12_sheet 1 = .ok (.iconst 0, 1) := by decide +kernel
theorem dX12_sheet_2 : decode cX12_sheet 2 = .ok (.putfield 103, 3) := by decide +kernel
theorem dX12_sheet_5 : decode cX12_sheet 5 = .ok (.iload_n 1, 1) := by decide +kernel
theorem dX12_sheet_6 : decode cX12_sheet 6 = .ok (.iconst 0, 1) := by decide +kernel
theorem dX12_sheet_7 : decode cX12_sheet 7 = .ok (.iconst 3, 1) := by decide +kernel
theorem dX12_sheet_8 : decode cX12_sheet 8 = .ok (.invokestatic 113, 3) := by decide +kernel
theorem dX12_sheet_11 : decode cX12_sheet 11 = .ok (.ifCond .eq 9, 3) := by decide +kernel
theorem dX12_sheet_14 : decode cX12_sheet 14 = .ok (.iload_n 2, 1) := by decide +kernel
theorem dX12_sheet_15 : decode cX12_sheet 15 = .ok (.bipush 6, 2) := by decide +kernel
theorem dX12_sheet_17 : decode cX12_sheet 17 = .ok (.if_icmp .le 5, 3) := by decide +kernel
theorem dX12_sheet_20 : decode cX12_sheet 20 = .ok (.iconst (-1), 1) := by decide +kernel
theorem dX12_sheet_21 : decode cX12_sheet 21 = .ok (.ireturn, 1) := by decide +kernel
theorem dX12_sheet_22 : decode cX12_sheet 22 = .ok (.iload_n 1, 1) := by decide +kernel
theorem dX12_sheet_23 : decode cX12_sheet 23 = .ok (.iconst 3, 1) := by decide +kernel
theorem dX12_sheet_24 : decode cX12_sheet 24 = .ok (.if_icmp .ge 10, 3) := by decide +kernel
theorem dX12_sheet_27 : decode cX12_sheet 27 = .ok (.iload_n 2, 1) := by decide +kernel
theorem dX12_sheet_28 : decode cX12_sheet 28 = .ok (.ifCond .ge 6, 3) := by decide +kernel
theorem dX12_sheet_31 : decode cX12_sheet 31 = .ok (.bipush (-2), 2) := by decide +kernel
theorem dX12_sheet_33 : decode cX12_sheet 33 = .ok (.ireturn, 1) := by decide +kernel
theorem dX12_sheet_34 : decode cX12_sheet 34 = .ok (.iconst 0, 1) := by decide +kernel
theorem dX12_sheet_35 : decode cX12_sheet 35 = .ok (.istore 5, 2) := by decide +kernel
theorem dX12_sheet_37 : decode cX12_sheet 37 = .ok (.iload_n 3, 1) := by decide +kernel
theorem dX12_sheet_38 : decode cX12_sheet 38 = .ok (.istore 6, 2) := by decide +kernel
theorem dX12_sheet_40 : decode cX12_sheet 40 = .ok (.iconst 0, 1) := by decide +kernel
theorem dX12_sheet_41 : decode cX12_sheet 41 = .ok (.istore 7, 2) := by decide +kernel
theorem dX12_sheet_43 : decode cX12_sheet 43 = .ok (.iload 7, 2) := by decide +kernel
theorem dX12_sheet_45 : decode cX12_sheet 45 = .ok (.aload_n 0, 1) := by decide +kernel
theorem dX12_sheet_46 : decode cX12_sheet 46 = .ok (.getfield 110, 3) := by decide +kernel
theorem dX12_sheet_49 : decode cX12_sheet 49 = .ok (.if_icmp .ge 87, 3) := by decide +kernel
theorem dX12_sheet_52 : decode cX12_sheet 52 = .ok (.iload_n 1, 1) := by decide +kernel
theorem dX12_sheet_53 : decode cX12_sheet 53 = .ok (.ifCond .ne 9, 3) := by decide +kernel
theorem dX12_sheet_56 : decode cX12_sheet 56 = .ok (.iload 6, 2) := by decide +kernel
theorem dX12_sheet_58 : decode cX12_sheet 58 = .ok (.i2b, 1) := by decide +kernel
theorem dX12_sheet_59 : decode cX12_sheet 59 = .ok (.goto 16, 3) := by decide +kernel
theorem dX12_sheet_62 : decode cX12_sheet 62 = .ok (.iload_n 1, 1) := by decide +kernel
theorem dX12_sheet_63 : decode cX12_sheet 63 = .ok (.iconst 1, 1) := by decide +kernel
theorem dX12_sheet_64 : decode cX12_sheet 64 = .ok (.if_icmp .ne 9, 3) := by decide +kernel
theorem dX12_sheet_67 : decode cX12_sheet 67 = .ok (.iload 6, 2) := by decide +kernel
theorem dX12_sheet_69 : decode cX12_sheet 69 = .ok (.i2s, 1) := by decide +kernel
theorem dX12_sheet_70 : decode cX12_sheet 70 = .ok (.goto 5, 3) := by decide +kernel
theorem dX12_sheet_73 : decode cX12_sheet 73 = .ok (.iload 6, 2) := by decide +kernel
theorem dX12_sheet_75 : decode cX12_sheet 75 = .ok (.istore 8, 2) := by decide +kernel
theorem dX12_sheet_77 : decode cX12_sheet 77 = .ok (.aload_n 0, 1) := by decide +kernel
theorem dX12_sheet_78 : decode cX12_sheet 78 = .ok (.getfield 9, 3) := by decide +kernel
theorem dX12_sheet_81 : decode cX12_sheet 81 = .ok (.iload 7, 2) := by decide +kernel
theorem dX12_sheet_83 : decode cX12_sheet 83 = .ok (.iload_n 1, 1) := by decide +kernel
theorem dX12_sheet_84 : decode cX12_sheet 84 = .ok (.iconst 3, 1) := by decide +kernel
theorem dX12_sheet_85 : decode cX12_sheet 85 = .ok (.if_icmp .eq 9, 3) := by decide +kernel
theorem dX12_sheet_88 : decode cX12_sheet 88 = .ok (.iload 7, 2) := by decide +kernel
theorem dX12_sheet_90 : decode cX12_sheet 90 = .ok (.iload_n 2, 1) := by decide +kernel
theorem dX12_sheet_91 : decode cX12_sheet 91 = .ok (.if_icmp .lt 7, 3) := by decide +kernel
theorem dX12_sheet_94 : decode cX12_sheet 94 = .ok (.iconst 0, 1) := by decide +kernel
theorem dX12_sheet_95 : decode cX12_sheet 95 = .ok (.goto 15, 3) := by decide +kernel
theorem dX12_sheet_98 : decode cX12_sheet 98 = .ok (.iconst 0, 1) := by decide +kernel
theorem dX12_sheet_99 : decode cX12_sheet 99 = .ok (.sipush 9999, 3) := by decide +kernel
theorem dX12_sheet_102 : decode cX12_sheet 102 = .ok (.iload 8, 2) := by decide +kernel
theorem dX12_sheet_104 : decode cX12_sheet 104 = .ok (.invokestatic 208, 3) := by decide +kernel
theorem dX12_sheet_107 : decode cX12_sheet 107 = .ok (.invokestatic 82, 3) := by decide +kernel
theorem dX12_sheet_110 : decode cX12_sheet 110 = .ok (.iastore, 1) := by decide +kernel
theorem dX12_sheet_111 : decode cX12_sheet 111 = .ok (.iload 5, 2) := by decide +kernel
theorem dX12_sheet_113 : decode cX12_sheet 113 = .ok (.aload_n 0, 1) := by decide +kernel
theorem dX12_sheet_114 : decode cX12_sheet 114 = .ok (.getfield 9, 3) := by decide +kernel
theorem dX12_sheet_117 : decode cX12_sheet 117 = .ok (.iload 7, 2) := by decide +kernel
theorem dX12_sheet_119 : decode cX12_sheet 119 = .ok (.iaload, 1) := by decide +kernel
theorem dX12_sheet_120 : decode cX12_sheet 120 = .ok (.iadd, 1) := by decide +kernel
theorem dX12_sheet_121 : decode cX12_sheet 121 = .ok (.istore 5, 2) := by decide +kernel
theorem dX12_sheet_123 : decode cX12_sheet 123 = .ok (.iload 6, 2) := by decide +kernel
theorem dX12_sheet_125 : decode cX12_sheet 125 = .ok (.iload 4, 2) := by decide +kernel
theorem dX12_sheet_127 : decode cX12_sheet 127 = .ok (.iadd, 1) := by decide +kernel
theorem dX12_sheet_128 : decode cX12_sheet 128 = .ok (.istore 6, 2) := by decide +kernel
theorem dX12_sheet_130 : decode cX12_sheet 130 = .ok (.iinc 7 1, 3) := by decide +kernel
theorem dX12_sheet_133 : decode cX12_sheet 133 = .ok (.goto (-90), 3) := by decide +kernel
theorem dX12_sheet_136 : decode cX12_sheet 136 = .ok (.iload_n 1, 1) := by decide +kernel
theorem dX12_sheet_137 : decode cX12_sheet 137 = .ok (.iconst 3, 1) := by decide +kernel
theorem dX12_sheet_138 : decode cX12_sheet 138 = .ok (.if_icmp .ne 8, 3) := by decide +kernel
theorem dX12_sheet_141 : decode cX12_sheet 141 = .ok (.bipush (-3), 2) := by decide +kernel
theorem dX12_sheet_143 : decode cX12_sheet 143 = .ok (.goto 5, 3) := by decide +kernel
theorem dX12_sheet_146 : decode cX12_sheet 146 = .ok (.iload 5, 2) := by decide +kernel
theorem dX12_sheet_148 : decode cX12_sheet 148 = .ok (.ireturn, 1) := by decide +kernel
abbrev YX12_sheet : li_Y := (yX12_sheet, cX12_sheet, 9, (some .int))
theorem dX12_cost_0 : decode cX12_cost 0 = .ok (.aload_n 0, 1) := by decide +kernel
theorem dX12_cost_1 : decode cX12_cost 1 = .ok (.iconst 0, 1) := by decide +kernel
theorem dX12_cost_2 : decode cX12_cost 2 = .ok (.putfield 103, 3) := by decide +kernel
theorem dX12_cost_5 : decode cX12_cost 5 = .ok (.aload_n 0, 1) := by decide +kernel
theorem dX12_cost_6 : decode cX12_cost 6 = .ok (.iload_n 1, 1) := by decide +kernel
theorem dX12_cost_7 : decode cX12_cost 7 = .ok (.invokevirtual 265, 3) := by decide +kernel
theorem dX12_cost_10 : decode cX12_cost 10 = .ok (.ifCond .eq 12, 3) := by decide +kernel
theorem dX12_cost_13 : decode cX12_cost 13 = .ok (.iload_n 2, 1) := by decide +kernel
theorem dX12_cost_14 : decode cX12_cost 14 = .ok (.iconst 0, 1) := by decide +kernel
theorem dX12_cost_15 : decode cX12_cost 15 = .ok (.iconst 3, 1) := by decide +kernel
theorem dX12_cost_16 : decode cX12_cost 16 = .ok (.invokestatic 113, 3) := by decide +kernel
theorem dX12_cost_19 : decode cX12_cost 19 = .ok (.ifCond .ne 5, 3) := by decide +kernel
theorem dX12_cost_22 : decode cX12_cost 22 = .ok (.iconst (-1), 1) := by decide +kernel
theorem dX12_cost_23 : decode cX12_cost 23 = .ok (.ireturn, 1) := by decide +kernel
theorem dX12_cost_24 : decode cX12_cost 24 = .ok (.aload_n 0, 1) := by decide +kernel
theorem dX12_cost_25 : decode cX12_cost 25 = .ok (.iload_n 1, 1) := by decide +kernel
theorem dX12_cost_26 : decode cX12_cost 26 = .ok (.iload_n 2, 1) := by decide +kernel
theorem dX12_cost_27 : decode cX12_cost 27 = .ok (.invokevirtual 272, 3) := by decide +kernel
theorem dX12_cost_30 : decode cX12_cost 30 = .ok (.ifCond .eq 16, 3) := by decide +kernel
theorem dX12_cost_33 : decode cX12_cost 33 = .ok (.aload_n 0, 1) := by decide +kernel
theorem dX12_cost_34 : decode cX12_cost 34 = .ok (.aload_n 0, 1) := by decide +kernel
theorem dX12_cost_35 : decode cX12_cost 35 = .ok (.getfield 9, 3) := by decide +kernel
theorem dX12_cost_38 : decode cX12_cost 38 = .ok (.iload_n 1, 1) := by decide +kernel
theorem dX12_cost_39 : decode cX12_cost 39 = .ok (.iload_n 2, 1) := by decide +kernel
theorem dX12_cost_40 : decode cX12_cost 40 = .ok (.invokevirtual 247, 3) := by decide +kernel
theorem dX12_cost_43 : decode cX12_cost 43 = .ok (.goto 5, 3) := by decide +kernel
theorem dX12_cost_46 : decode cX12_cost 46 = .ok (.bipush (-2), 2) := by decide +kernel
theorem dX12_cost_48 : decode cX12_cost 48 = .ok (.ireturn, 1) := by decide +kernel
abbrev YX12_cost : li_Y := (yX12_cost, cX12_cost, 3, (some .int))
set_option maxRecDepth 100000 in
set_option maxHeartbeats 4000000 in
theorem k_X12_lay_na {l : Launch} {Z : li_Z} (d : Nat) (hd : 1 ≤ d) (p1 : Int32) (M0 : li_M) (hJ : li_J M0) (h1 : 0 ≤ p1.toInt ∧ p1.toInt ≤ 0 ∧ p1.toInt % 51 = 0) : li_Met l Z YX12_lay d [.ref (Z.2.2 176), .ref (Z.2.2 187), .int p1] M0 (fun r M' => r = none ∧ li_fs (fun i k => i = 187) M0 M' ∧ li_J M') := by
  refine li_enter (by decide +kernel) (Nat.le_of_ble_eq_true rfl) ?_
  show li_T l Z YX12_lay d 0 [(0, .ref (Z.2.2 176)), (1, .ref (Z.2.2 187)), (2, .int p1)] [] M0 _
  have hf : li_fs (fun i k => i = 187) M0 M0 := li_fs_refl
  have gp1 := tl_rg p1
  refine li_iconst 0 dX12_lay_0 (by decide) ?_
  refine li_istore_n [(3, .int 0), (0, .ref (Z.2.2 176)), (1, .ref (Z.2.2 187)), (2, .int p1)] dX12_lay_1 (by decide) rfl ?_
  have L2 : ∀ (n : Nat) (x1 : Int32) (M2 : li_M), (51 - (x1 : Int32).toInt).toNat < n → li_fs (fun i k => i = 187) M0 M2 → li_J M2 → 0 ≤ (x1 : Int32).toInt → li_T l Z YX12_lay d 2 [(3, .int x1), (0, .ref (Z.2.2 176)), (1, .ref (Z.2.2 187)), (2, .int p1)] [] M2 (fun r M' => r = none ∧ li_fs (fun i k => i = 187) M0 M' ∧ li_J M') := by
    intro n
    induction n with
    | zero => intro x1 M2 hn; exact absurd hn (Nat.not_lt_zero _)
    | succ n ih2 =>
      intro x1 M2 hn hf hJ hi
      have gx1 := tl_rg x1
      refine li_iload_n 0 dX12_lay_2 rfl ?_
      refine li_bipush 51 dX12_lay_3 (by decide) ?_
      refine li_icmp_ge 22 dX12_lay_5 (by decide) (fun c3 => ?_) (fun c3 => ?_)
      · have tc3 : 51 ≤ x1.toInt := tl_le c3
        exact li_vret dX12_lay_22 rfl ⟨rfl, hf, hJ⟩
      · have tc3 : x1.toInt < 51 := tl_nle c3
        refine li_aload_n 2 dX12_lay_8 rfl ?_
        refine li_iload_n 3 dX12_lay_9 rfl ?_
        refine li_iload_n 0 dX12_lay_10 rfl ?_
        refine li_iadd dX12_lay_11 ?_
        refine li_top (fun x4 ex4 => ?_)
        try (have tx4 : x4.toInt = (p1 : Int32).toInt + (x1 : Int32).toInt := tl_add ex4 (by omega))
        refine li_aload_n 1 dX12_lay_12 rfl ?_
        refine li_iload_n 0 dX12_lay_13 rfl ?_
        refine li_iald dX12_lay_14 (by decide) sh_176 (tl_in (by omega)) ?_
        refine li_top (fun x5 ex5 => ?_)
        have gx5 := tl_rg x5
        try (have ox5 : (x1 : Int32).toInt % 51 = (x1 : Int32).toInt := by omega)
        have lx5 : ((x1 : Int32).toInt % 51 = 20 → 0 ≤ x5.toInt ∧ x5.toInt ≤ 6) ∧ (21 ≤ (x1 : Int32).toInt % 51 → ((x1 : Int32).toInt % 51 - 21) % 5 < 2 → 0 ≤ x5.toInt ∧ x5.toInt ≤ 5) := hJ.ldLed (by unfold li_led; omega) ex5 (by omega)
        refine li_iast dX12_lay_15 (by decide) sh_187 (tl_in (by omega)) ?_
        refine li_nm (fun M6 eM6 => ?_)
        have hf := li_fs_ui hf (rfl) eM6
        try (have oM6 : (x4 : Int32).toInt % 51 = (x4 : Int32).toInt := by omega)
        have hJ := hJ.st (by decide) (li_el_led (by unfold li_led; omega) (by omega) (show ((x4 : Int32).toInt % 51 = 20 → 0 ≤ (x5 : Int32).toInt ∧ (x5 : Int32).toInt ≤ 6) ∧ (21 ≤ (x4 : Int32).toInt % 51 → ((x4 : Int32).toInt % 51 - 21) % 5 < 2 → 0 ≤ (x5 : Int32).toInt ∧ (x5 : Int32).toInt ≤ 5) by omega)) eM6
        obtain ⟨x7, ex7⟩ : ∃ y : Int32, y = x1 + 1 := ⟨_, rfl⟩
        have z1 : (1 : Int32).toInt = 1 := rfl
        try (have tx7 : x7.toInt = (x1 : Int32).toInt + (1 : Int32).toInt := tl_add ex7 (by omega))
        refine li_iinc 0 [(3, .int x7), (0, .ref (Z.2.2 176)), (1, .ref (Z.2.2 187)), (2, .int p1)] x7 dX12_lay_16 rfl (by rw [ex7]; rfl) (by decide) rfl ?_
        refine li_goto 2 dX12_lay_19 (by decide) ?_
        refine li_pick [0, 1, 2, 3] [(3, .int x7), (0, .ref (Z.2.2 176)), (1, .ref (Z.2.2 187)), (2, .int p1)] rfl ?_
        exact ih2 x7 M6 (by omega) hf hJ (by omega)
  have z0 : (0 : Int32).toInt = 0 := rfl
  exact L2 _ 0 M0 (Nat.lt_succ_self _) hf hJ (by omega)
set_option maxRecDepth 100000 in
set_option maxHeartbeats 4000000 in
theorem k_X12_lay_nu {l : Launch} {Z : li_Z} (d : Nat) (hd : 1 ≤ d) (p1 : Int32) (M0 : li_M) (hJ : li_J M0) (h1 : 0 ≤ p1.toInt ∧ p1.toInt ≤ 561 ∧ p1.toInt % 51 = 0) : li_Met l Z YX12_lay d [.ref (Z.2.2 176), .ref (Z.2.2 186), .int p1] M0 (fun r M' => r = none ∧ li_fs (fun i k => i = 186) M0 M' ∧ li_J M') := by
  refine li_enter (by decide +kernel) (Nat.le_of_ble_eq_true rfl) ?_
  show li_T l Z YX12_lay d 0 [(0, .ref (Z.2.2 176)), (1, .ref (Z.2.2 186)), (2, .int p1)] [] M0 _
  have hf : li_fs (fun i k => i = 186) M0 M0 := li_fs_refl
  have gp1 := tl_rg p1
  refine li_iconst 0 dX12_lay_0 (by decide) ?_
  refine li_istore_n [(3, .int 0), (0, .ref (Z.2.2 176)), (1, .ref (Z.2.2 186)), (2, .int p1)] dX12_lay_1 (by decide) rfl ?_
  have L2 : ∀ (n : Nat) (x1 : Int32) (M2 : li_M), (51 - (x1 : Int32).toInt).toNat < n → li_fs (fun i k => i = 186) M0 M2 → li_J M2 → 0 ≤ (x1 : Int32).toInt → li_T l Z YX12_lay d 2 [(3, .int x1), (0, .ref (Z.2.2 176)), (1, .ref (Z.2.2 186)), (2, .int p1)] [] M2 (fun r M' => r = none ∧ li_fs (fun i k => i = 186) M0 M' ∧ li_J M') := by
    intro n
    induction n with
    | zero => intro x1 M2 hn; exact absurd hn (Nat.not_lt_zero _)
    | succ n ih2 =>
      intro x1 M2 hn hf hJ hi
      have gx1 := tl_rg x1
      refine li_iload_n 0 dX12_lay_2 rfl ?_
      refine li_bipush 51 dX12_lay_3 (by decide) ?_
      refine li_icmp_ge 22 dX12_lay_5 (by decide) (fun c3 => ?_) (fun c3 => ?_)
      · have tc3 : 51 ≤ x1.toInt := tl_le c3
        exact li_vret dX12_lay_22 rfl ⟨rfl, hf, hJ⟩
      · have tc3 : x1.toInt < 51 := tl_nle c3
        refine li_aload_n 2 dX12_lay_8 rfl ?_
        refine li_iload_n 3 dX12_lay_9 rfl ?_
        refine li_iload_n 0 dX12_lay_10 rfl ?_
        refine li_iadd dX12_lay_11 ?_
        refine li_top (fun x4 ex4 => ?_)
        try (have tx4 : x4.toInt = (p1 : Int32).toInt + (x1 : Int32).toInt := tl_add ex4 (by omega))
        refine li_aload_n 1 dX12_lay_12 rfl ?_
        refine li_iload_n 0 dX12_lay_13 rfl ?_
        refine li_iald dX12_lay_14 (by decide) sh_176 (tl_in (by omega)) ?_
        refine li_top (fun x5 ex5 => ?_)
        have gx5 := tl_rg x5
        try (have ox5 : (x1 : Int32).toInt % 51 = (x1 : Int32).toInt := by omega)
        have lx5 : ((x1 : Int32).toInt % 51 = 20 → 0 ≤ x5.toInt ∧ x5.toInt ≤ 6) ∧ (21 ≤ (x1 : Int32).toInt % 51 → ((x1 : Int32).toInt % 51 - 21) % 5 < 2 → 0 ≤ x5.toInt ∧ x5.toInt ≤ 5) := hJ.ldLed (by unfold li_led; omega) ex5 (by omega)
        refine li_iast dX12_lay_15 (by decide) sh_186 (tl_in (by omega)) ?_
        refine li_nm (fun M6 eM6 => ?_)
        have hf := li_fs_ui hf (rfl) eM6
        try (have oM6 : (x4 : Int32).toInt % 51 = (x4 : Int32).toInt := by omega)
        have hJ := hJ.st (by decide) (li_el_led (by unfold li_led; omega) (by omega) (show ((x4 : Int32).toInt % 51 = 20 → 0 ≤ (x5 : Int32).toInt ∧ (x5 : Int32).toInt ≤ 6) ∧ (21 ≤ (x4 : Int32).toInt % 51 → ((x4 : Int32).toInt % 51 - 21) % 5 < 2 → 0 ≤ (x5 : Int32).toInt ∧ (x5 : Int32).toInt ≤ 5) by omega)) eM6
        obtain ⟨x7, ex7⟩ : ∃ y : Int32, y = x1 + 1 := ⟨_, rfl⟩
        have z1 : (1 : Int32).toInt = 1 := rfl
        try (have tx7 : x7.toInt = (x1 : Int32).toInt + (1 : Int32).toInt := tl_add ex7 (by omega))
        refine li_iinc 0 [(3, .int x7), (0, .ref (Z.2.2 176)), (1, .ref (Z.2.2 186)), (2, .int p1)] x7 dX12_lay_16 rfl (by rw [ex7]; rfl) (by decide) rfl ?_
        refine li_goto 2 dX12_lay_19 (by decide) ?_
        refine li_pick [0, 1, 2, 3] [(3, .int x7), (0, .ref (Z.2.2 176)), (1, .ref (Z.2.2 186)), (2, .int p1)] rfl ?_
        exact ih2 x7 M6 (by omega) hf hJ (by omega)
  have z0 : (0 : Int32).toInt = 0 := rfl
  exact L2 _ 0 M0 (Nat.lt_succ_self _) hf hJ (by omega)
set_option maxRecDepth 100000 in
set_option maxHeartbeats 4000000 in
theorem k_X12_lay_au {l : Launch} {Z : li_Z} (d : Nat) (hd : 1 ≤ d) (p1 : Int32) (M0 : li_M) (hJ : li_J M0) (h1 : 0 ≤ p1.toInt ∧ p1.toInt ≤ 561 ∧ p1.toInt % 51 = 0) : li_Met l Z YX12_lay d [.ref (Z.2.2 187), .ref (Z.2.2 186), .int p1] M0 (fun r M' => r = none ∧ li_fs (fun i k => i = 186) M0 M' ∧ li_J M') := by
  refine li_enter (by decide +kernel) (Nat.le_of_ble_eq_true rfl) ?_
  show li_T l Z YX12_lay d 0 [(0, .ref (Z.2.2 187)), (1, .ref (Z.2.2 186)), (2, .int p1)] [] M0 _
  have hf : li_fs (fun i k => i = 186) M0 M0 := li_fs_refl
  have gp1 := tl_rg p1
  refine li_iconst 0 dX12_lay_0 (by decide) ?_
  refine li_istore_n [(3, .int 0), (0, .ref (Z.2.2 187)), (1, .ref (Z.2.2 186)), (2, .int p1)] dX12_lay_1 (by decide) rfl ?_
  have L2 : ∀ (n : Nat) (x1 : Int32) (M2 : li_M), (51 - (x1 : Int32).toInt).toNat < n → li_fs (fun i k => i = 186) M0 M2 → li_J M2 → 0 ≤ (x1 : Int32).toInt → li_T l Z YX12_lay d 2 [(3, .int x1), (0, .ref (Z.2.2 187)), (1, .ref (Z.2.2 186)), (2, .int p1)] [] M2 (fun r M' => r = none ∧ li_fs (fun i k => i = 186) M0 M' ∧ li_J M') := by
    intro n
    induction n with
    | zero => intro x1 M2 hn; exact absurd hn (Nat.not_lt_zero _)
    | succ n ih2 =>
      intro x1 M2 hn hf hJ hi
      have gx1 := tl_rg x1
      refine li_iload_n 0 dX12_lay_2 rfl ?_
      refine li_bipush 51 dX12_lay_3 (by decide) ?_
      refine li_icmp_ge 22 dX12_lay_5 (by decide) (fun c3 => ?_) (fun c3 => ?_)
      · have tc3 : 51 ≤ x1.toInt := tl_le c3
        exact li_vret dX12_lay_22 rfl ⟨rfl, hf, hJ⟩
      · have tc3 : x1.toInt < 51 := tl_nle c3
        refine li_aload_n 2 dX12_lay_8 rfl ?_
        refine li_iload_n 3 dX12_lay_9 rfl ?_
        refine li_iload_n 0 dX12_lay_10 rfl ?_
        refine li_iadd dX12_lay_11 ?_
        refine li_top (fun x4 ex4 => ?_)
        try (have tx4 : x4.toInt = (p1 : Int32).toInt + (x1 : Int32).toInt := tl_add ex4 (by omega))
        refine li_aload_n 1 dX12_lay_12 rfl ?_
        refine li_iload_n 0 dX12_lay_13 rfl ?_
        refine li_iald dX12_lay_14 (by decide) sh_187 (tl_in (by omega)) ?_
        refine li_top (fun x5 ex5 => ?_)
        have gx5 := tl_rg x5
        try (have ox5 : (x1 : Int32).toInt % 51 = (x1 : Int32).toInt := by omega)
        have lx5 : ((x1 : Int32).toInt % 51 = 20 → 0 ≤ x5.toInt ∧ x5.toInt ≤ 6) ∧ (21 ≤ (x1 : Int32).toInt % 51 → ((x1 : Int32).toInt % 51 - 21) % 5 < 2 → 0 ≤ x5.toInt ∧ x5.toInt ≤ 5) := hJ.ldLed (by unfold li_led; omega) ex5 (by omega)
        refine li_iast dX12_lay_15 (by decide) sh_186 (tl_in (by omega)) ?_
        refine li_nm (fun M6 eM6 => ?_)
        have hf := li_fs_ui hf (rfl) eM6
        try (have oM6 : (x4 : Int32).toInt % 51 = (x4 : Int32).toInt := by omega)
        have hJ := hJ.st (by decide) (li_el_led (by unfold li_led; omega) (by omega) (show ((x4 : Int32).toInt % 51 = 20 → 0 ≤ (x5 : Int32).toInt ∧ (x5 : Int32).toInt ≤ 6) ∧ (21 ≤ (x4 : Int32).toInt % 51 → ((x4 : Int32).toInt % 51 - 21) % 5 < 2 → 0 ≤ (x5 : Int32).toInt ∧ (x5 : Int32).toInt ≤ 5) by omega)) eM6
        obtain ⟨x7, ex7⟩ : ∃ y : Int32, y = x1 + 1 := ⟨_, rfl⟩
        have z1 : (1 : Int32).toInt = 1 := rfl
        try (have tx7 : x7.toInt = (x1 : Int32).toInt + (1 : Int32).toInt := tl_add ex7 (by omega))
        refine li_iinc 0 [(3, .int x7), (0, .ref (Z.2.2 187)), (1, .ref (Z.2.2 186)), (2, .int p1)] x7 dX12_lay_16 rfl (by rw [ex7]; rfl) (by decide) rfl ?_
        refine li_goto 2 dX12_lay_19 (by decide) ?_
        refine li_pick [0, 1, 2, 3] [(3, .int x7), (0, .ref (Z.2.2 187)), (1, .ref (Z.2.2 186)), (2, .int p1)] rfl ?_
        exact ih2 x7 M6 (by omega) hf hJ (by omega)
  have z0 : (0 : Int32).toInt = 0 := rfl
  exact L2 _ 0 M0 (Nat.lt_succ_self _) hf hJ (by omega)
set_option maxRecDepth 100000 in
set_option maxHeartbeats 4000000 in
theorem k_X12_lay_nt {l : Launch} {Z : li_Z} (d : Nat) (hd : 1 ≤ d) (p1 : Int32) (M0 : li_M) (hJ : li_J M0) (h1 : 0 ≤ p1.toInt ∧ p1.toInt ≤ 0 ∧ p1.toInt % 51 = 0) : li_Met l Z YX12_lay d [.ref (Z.2.2 176), .ref (Z.2.2 200), .int p1] M0 (fun r M' => r = none ∧ li_fs (fun i k => i = 200) M0 M' ∧ li_J M') := by
  refine li_enter (by decide +kernel) (Nat.le_of_ble_eq_true rfl) ?_
  show li_T l Z YX12_lay d 0 [(0, .ref (Z.2.2 176)), (1, .ref (Z.2.2 200)), (2, .int p1)] [] M0 _
  have hf : li_fs (fun i k => i = 200) M0 M0 := li_fs_refl
  have gp1 := tl_rg p1
  refine li_iconst 0 dX12_lay_0 (by decide) ?_
  refine li_istore_n [(3, .int 0), (0, .ref (Z.2.2 176)), (1, .ref (Z.2.2 200)), (2, .int p1)] dX12_lay_1 (by decide) rfl ?_
  have L2 : ∀ (n : Nat) (x1 : Int32) (M2 : li_M), (51 - (x1 : Int32).toInt).toNat < n → li_fs (fun i k => i = 200) M0 M2 → li_J M2 → 0 ≤ (x1 : Int32).toInt → li_T l Z YX12_lay d 2 [(3, .int x1), (0, .ref (Z.2.2 176)), (1, .ref (Z.2.2 200)), (2, .int p1)] [] M2 (fun r M' => r = none ∧ li_fs (fun i k => i = 200) M0 M' ∧ li_J M') := by
    intro n
    induction n with
    | zero => intro x1 M2 hn; exact absurd hn (Nat.not_lt_zero _)
    | succ n ih2 =>
      intro x1 M2 hn hf hJ hi
      have gx1 := tl_rg x1
      refine li_iload_n 0 dX12_lay_2 rfl ?_
      refine li_bipush 51 dX12_lay_3 (by decide) ?_
      refine li_icmp_ge 22 dX12_lay_5 (by decide) (fun c3 => ?_) (fun c3 => ?_)
      · have tc3 : 51 ≤ x1.toInt := tl_le c3
        exact li_vret dX12_lay_22 rfl ⟨rfl, hf, hJ⟩
      · have tc3 : x1.toInt < 51 := tl_nle c3
        refine li_aload_n 2 dX12_lay_8 rfl ?_
        refine li_iload_n 3 dX12_lay_9 rfl ?_
        refine li_iload_n 0 dX12_lay_10 rfl ?_
        refine li_iadd dX12_lay_11 ?_
        refine li_top (fun x4 ex4 => ?_)
        try (have tx4 : x4.toInt = (p1 : Int32).toInt + (x1 : Int32).toInt := tl_add ex4 (by omega))
        refine li_aload_n 1 dX12_lay_12 rfl ?_
        refine li_iload_n 0 dX12_lay_13 rfl ?_
        refine li_iald dX12_lay_14 (by decide) sh_176 (tl_in (by omega)) ?_
        refine li_top (fun x5 ex5 => ?_)
        have gx5 := tl_rg x5
        try (have ox5 : (x1 : Int32).toInt % 51 = (x1 : Int32).toInt := by omega)
        have lx5 : ((x1 : Int32).toInt % 51 = 20 → 0 ≤ x5.toInt ∧ x5.toInt ≤ 6) ∧ (21 ≤ (x1 : Int32).toInt % 51 → ((x1 : Int32).toInt % 51 - 21) % 5 < 2 → 0 ≤ x5.toInt ∧ x5.toInt ≤ 5) := hJ.ldLed (by unfold li_led; omega) ex5 (by omega)
        refine li_iast dX12_lay_15 (by decide) sh_200 (tl_in (by omega)) ?_
        refine li_nm (fun M6 eM6 => ?_)
        have hf := li_fs_ui hf (rfl) eM6
        try (have oM6 : (x4 : Int32).toInt % 51 = (x4 : Int32).toInt := by omega)
        have hJ := hJ.st (by decide) (li_el_led (by unfold li_led; omega) (by omega) (show ((x4 : Int32).toInt % 51 = 20 → 0 ≤ (x5 : Int32).toInt ∧ (x5 : Int32).toInt ≤ 6) ∧ (21 ≤ (x4 : Int32).toInt % 51 → ((x4 : Int32).toInt % 51 - 21) % 5 < 2 → 0 ≤ (x5 : Int32).toInt ∧ (x5 : Int32).toInt ≤ 5) by omega)) eM6
        obtain ⟨x7, ex7⟩ : ∃ y : Int32, y = x1 + 1 := ⟨_, rfl⟩
        have z1 : (1 : Int32).toInt = 1 := rfl
        try (have tx7 : x7.toInt = (x1 : Int32).toInt + (1 : Int32).toInt := tl_add ex7 (by omega))
        refine li_iinc 0 [(3, .int x7), (0, .ref (Z.2.2 176)), (1, .ref (Z.2.2 200)), (2, .int p1)] x7 dX12_lay_16 rfl (by rw [ex7]; rfl) (by decide) rfl ?_
        refine li_goto 2 dX12_lay_19 (by decide) ?_
        refine li_pick [0, 1, 2, 3] [(3, .int x7), (0, .ref (Z.2.2 176)), (1, .ref (Z.2.2 200)), (2, .int p1)] rfl ?_
        exact ih2 x7 M6 (by omega) hf hJ (by omega)
  have z0 : (0 : Int32).toInt = 0 := rfl
  exact L2 _ 0 M0 (Nat.lt_succ_self _) hf hJ (by omega)
set_option maxRecDepth 100000 in
set_option maxHeartbeats 4000000 in
theorem k_X12_lay_nk {l : Launch} {Z : li_Z} (d : Nat) (hd : 1 ≤ d) (p1 : Int32) (M0 : li_M) (hJ : li_J M0) (h1 : 0 ≤ p1.toInt ∧ p1.toInt ≤ 51 ∧ p1.toInt % 51 = 0) : li_Met l Z YX12_lay d [.ref (Z.2.2 176), .ref (Z.2.2 201), .int p1] M0 (fun r M' => r = none ∧ li_fs (fun i k => i = 201) M0 M' ∧ li_J M') := by
  refine li_enter (by decide +kernel) (Nat.le_of_ble_eq_true rfl) ?_
  show li_T l Z YX12_lay d 0 [(0, .ref (Z.2.2 176)), (1, .ref (Z.2.2 201)), (2, .int p1)] [] M0 _
  have hf : li_fs (fun i k => i = 201) M0 M0 := li_fs_refl
  have gp1 := tl_rg p1
  refine li_iconst 0 dX12_lay_0 (by decide) ?_
  refine li_istore_n [(3, .int 0), (0, .ref (Z.2.2 176)), (1, .ref (Z.2.2 201)), (2, .int p1)] dX12_lay_1 (by decide) rfl ?_
  have L2 : ∀ (n : Nat) (x1 : Int32) (M2 : li_M), (51 - (x1 : Int32).toInt).toNat < n → li_fs (fun i k => i = 201) M0 M2 → li_J M2 → 0 ≤ (x1 : Int32).toInt → li_T l Z YX12_lay d 2 [(3, .int x1), (0, .ref (Z.2.2 176)), (1, .ref (Z.2.2 201)), (2, .int p1)] [] M2 (fun r M' => r = none ∧ li_fs (fun i k => i = 201) M0 M' ∧ li_J M') := by
    intro n
    induction n with
    | zero => intro x1 M2 hn; exact absurd hn (Nat.not_lt_zero _)
    | succ n ih2 =>
      intro x1 M2 hn hf hJ hi
      have gx1 := tl_rg x1
      refine li_iload_n 0 dX12_lay_2 rfl ?_
      refine li_bipush 51 dX12_lay_3 (by decide) ?_
      refine li_icmp_ge 22 dX12_lay_5 (by decide) (fun c3 => ?_) (fun c3 => ?_)
      · have tc3 : 51 ≤ x1.toInt := tl_le c3
        exact li_vret dX12_lay_22 rfl ⟨rfl, hf, hJ⟩
      · have tc3 : x1.toInt < 51 := tl_nle c3
        refine li_aload_n 2 dX12_lay_8 rfl ?_
        refine li_iload_n 3 dX12_lay_9 rfl ?_
        refine li_iload_n 0 dX12_lay_10 rfl ?_
        refine li_iadd dX12_lay_11 ?_
        refine li_top (fun x4 ex4 => ?_)
        try (have tx4 : x4.toInt = (p1 : Int32).toInt + (x1 : Int32).toInt := tl_add ex4 (by omega))
        refine li_aload_n 1 dX12_lay_12 rfl ?_
        refine li_iload_n 0 dX12_lay_13 rfl ?_
        refine li_iald dX12_lay_14 (by decide) sh_176 (tl_in (by omega)) ?_
        refine li_top (fun x5 ex5 => ?_)
        have gx5 := tl_rg x5
        try (have ox5 : (x1 : Int32).toInt % 51 = (x1 : Int32).toInt := by omega)
        have lx5 : ((x1 : Int32).toInt % 51 = 20 → 0 ≤ x5.toInt ∧ x5.toInt ≤ 6) ∧ (21 ≤ (x1 : Int32).toInt % 51 → ((x1 : Int32).toInt % 51 - 21) % 5 < 2 → 0 ≤ x5.toInt ∧ x5.toInt ≤ 5) := hJ.ldLed (by unfold li_led; omega) ex5 (by omega)
        refine li_iast dX12_lay_15 (by decide) sh_201 (tl_in (by omega)) ?_
        refine li_nm (fun M6 eM6 => ?_)
        have hf := li_fs_ui hf (rfl) eM6
        try (have oM6 : (x4 : Int32).toInt % 51 = (x4 : Int32).toInt := by omega)
        have hJ := hJ.st (by decide) (li_el_led (by unfold li_led; omega) (by omega) (show ((x4 : Int32).toInt % 51 = 20 → 0 ≤ (x5 : Int32).toInt ∧ (x5 : Int32).toInt ≤ 6) ∧ (21 ≤ (x4 : Int32).toInt % 51 → ((x4 : Int32).toInt % 51 - 21) % 5 < 2 → 0 ≤ (x5 : Int32).toInt ∧ (x5 : Int32).toInt ≤ 5) by omega)) eM6
        obtain ⟨x7, ex7⟩ : ∃ y : Int32, y = x1 + 1 := ⟨_, rfl⟩
        have z1 : (1 : Int32).toInt = 1 := rfl
        try (have tx7 : x7.toInt = (x1 : Int32).toInt + (1 : Int32).toInt := tl_add ex7 (by omega))
        refine li_iinc 0 [(3, .int x7), (0, .ref (Z.2.2 176)), (1, .ref (Z.2.2 201)), (2, .int p1)] x7 dX12_lay_16 rfl (by rw [ex7]; rfl) (by decide) rfl ?_
        refine li_goto 2 dX12_lay_19 (by decide) ?_
        refine li_pick [0, 1, 2, 3] [(3, .int x7), (0, .ref (Z.2.2 176)), (1, .ref (Z.2.2 201)), (2, .int p1)] rfl ?_
        exact ih2 x7 M6 (by omega) hf hJ (by omega)
  have z0 : (0 : Int32).toInt = 0 := rfl
  exact L2 _ 0 M0 (Nat.lt_succ_self _) hf hJ (by omega)
set_option maxRecDepth 100000 in
set_option maxHeartbeats 4000000 in
theorem k_X12_remember_n {l : Launch} {Z : li_Z} (d : Nat) (hd : 2 ≤ d) (M0 : li_M) (hJ : li_J M0) : li_Met l Z YX12_remember d [.ref (Z.2.2 175), .ref (Z.2.2 176)] M0 (fun r M' => r = none ∧ li_fs (fun i k => i = 186 ∨ (i = 175 ∧ k = 23)) M0 M' ∧ li_J M') := by
  refine li_enter (by decide +kernel) (Nat.le_of_ble_eq_true rfl) ?_
  show li_T l Z YX12_remember d 0 [(0, .ref (Z.2.2 175)), (1, .ref (Z.2.2 176))] [] M0 _
  have hf : li_fs (fun i k => i = 186 ∨ (i = 175 ∧ k = 23)) M0 M0 := li_fs_refl
  have rM0_23 := J_sl23 (M := M0) hJ
  refine li_aload_n 0 dX12_remember_0 rfl ?_
  refine li_geti (k := 23) (N := 52) (T := TX12) (C0 := RX12) dX12_remember_1 (by decide) sh_175 rfl rfl (by decide) li_in12 w_1427 ?_
  refine li_top (fun x1 ex1 => ?_)
  have gx1 : 0 ≤ x1.toInt ∧ x1.toInt ≤ 12 := by rw [ex1]; exact J_sl23 hJ
  have mx1 : x1.toInt = (M0.1 175 23).toInt := tl_slot ex1
  refine li_bipush 12 dX12_remember_4 (by decide) ?_
  have J49 : ∀  (M3 : li_M), li_fs (fun i k => i = 186 ∨ (i = 175 ∧ k = 23)) M0 M3 → li_J M3 → 0 ≤ (M3.1 175 23).toInt ∧ (M3.1 175 23).toInt ≤ 11 → li_T l Z YX12_remember d 49 [(0, .ref (Z.2.2 175)), (1, .ref (Z.2.2 176))] [] M3 (fun r M' => r = none ∧ li_fs (fun i k => i = 186 ∨ (i = 175 ∧ k = 23)) M0 M' ∧ li_J M') := by
    intro  M3 hf hJ hi
    have rM3_23 := J_sl23 (M := M3) hJ
    refine li_aload_n 1 dX12_remember_49 rfl ?_
    refine li_aload_n 0 dX12_remember_50 rfl ?_
    refine li_getr (k := 22) (N := 52) (T := TX12) (C0 := RX12) dX12_remember_51 (by decide) sh_175 rfl rfl (by decide) (by decide) li_in12 w_1426 ?_
    refine li_bipush 51 dX12_remember_54 (by decide) ?_
    refine li_aload_n 0 dX12_remember_56 rfl ?_
    refine li_geti (k := 23) (N := 52) (T := TX12) (C0 := RX12) dX12_remember_57 (by decide) sh_175 rfl rfl (by decide) li_in12 w_1427 ?_
    refine li_top (fun x4 ex4 => ?_)
    have gx4 : 0 ≤ x4.toInt ∧ x4.toInt ≤ 12 := by rw [ex4]; exact J_sl23 hJ
    have mx4 : x4.toInt = (M3.1 175 23).toInt := tl_slot ex4
    refine li_imul dX12_remember_60 ?_
    refine li_top (fun x5 ex5 => ?_)
    have z51 : (51 : Int32).toInt = 51 := rfl
    try (have tx5 : x5.toInt = 51 * (x4 : Int32).toInt := tl_mul ex5 (show -2147483648 ≤ 51 * (x4 : Int32).toInt ∧ 51 * (x4 : Int32).toInt ≤ 2147483647 by omega))
    refine li_callS (n := 3) (As := [.ref (Z.2.2 176), .ref (Z.2.2 186), .int x5]) dX12_remember_61 (k_X12_lay_nu (d - 1) (by omega) x5 M3 hJ (by omega)) (by omega) (Nat.le_of_ble_eq_true rfl) w_1745 w_1746 w_112 w_1747 (by decide +kernel) rfl rfl (Nat.le_of_ble_eq_true rfl) (fun r M7 h8 => ?_)
    obtain ⟨rfl, h8, jM7⟩ := h8
    have hf := li_fs_trans hf h8 (fun i k => fun h => Or.inl h)
    have hJ := jM7
    have rM7_23 := J_sl23 (M := M7) hJ
    have mM7_23 : (M7.1 175 23).toInt = (M3.1 175 23).toInt := tl_slot (h8.1 175 23 (show ¬ (175 = 186) by decide))
    refine li_aload_n 0 dX12_remember_64 rfl ?_
    refine li_dup dX12_remember_65 rfl ?_
    refine li_geti (k := 23) (N := 52) (T := TX12) (C0 := RX12) dX12_remember_66 (by decide) sh_175 rfl rfl (by decide) li_in12 w_1427 ?_
    refine li_top (fun x9 ex9 => ?_)
    have gx9 : 0 ≤ x9.toInt ∧ x9.toInt ≤ 12 := by rw [ex9]; exact J_sl23 hJ
    have mx9 : x9.toInt = (M7.1 175 23).toInt := tl_slot ex9
    refine li_iconst 1 dX12_remember_69 (by decide) ?_
    refine li_iadd dX12_remember_70 ?_
    refine li_top (fun x10 ex10 => ?_)
    have z1 : (1 : Int32).toInt = 1 := rfl
    try (have tx10 : x10.toInt = (x9 : Int32).toInt + (1 : Int32).toInt := tl_add ex10 (by omega))
    refine li_puti (k := 23) (N := 52) (T := TX12) (C0 := RX12) dX12_remember_71 (by decide) sh_175 rfl rfl (by decide) li_in12 tyX12_ok nmX12 rfl rfl rfl rfl w_1427 ?_
    refine li_nm (fun M11 eM11 => ?_)
    have hf := li_fs_ui hf (Or.inr (⟨rfl, rfl⟩)) eM11
    have hJ := J_pt23 hJ (show 0 ≤ (x10 : Int32).toInt ∧ (x10 : Int32).toInt ≤ 12 by omega) eM11
    have rM11_23 := J_sl23 (M := M11) hJ
    have mM11_23 : (M11.1 175 23).toInt = x10.toInt := by rw [eM11, li_ui_at, if_pos rfl, if_pos rfl]
    exact li_vret dX12_remember_74 rfl ⟨rfl, hf, hJ⟩
  refine li_icmp_ne 49 dX12_remember_6 (by decide) (fun c2 => ?_) (fun c2 => ?_)
  · have tc2 : ¬ x1.toInt = 12 := tl_ne c2
    refine li_pick [0, 1] [(0, .ref (Z.2.2 175)), (1, .ref (Z.2.2 176))] rfl ?_
    exact J49  M0 hf hJ (by omega)
  · have tc2 : x1.toInt = 12 := tl_eq c2
    refine li_iconst 0 dX12_remember_9 (by decide) ?_
    refine li_istore_n [(2, .int 0), (0, .ref (Z.2.2 175)), (1, .ref (Z.2.2 176))] dX12_remember_10 (by decide) rfl ?_
    have L11 : ∀ (n : Nat) (x12 : Int32) (M13 : li_M), (561 - (x12 : Int32).toInt).toNat < n → li_fs (fun i k => i = 186 ∨ (i = 175 ∧ k = 23)) M0 M13 → li_J M13 → 0 ≤ (x12 : Int32).toInt ∧ (M13.1 175 23).toInt = 12 → li_T l Z YX12_remember d 11 [(2, .int x12), (0, .ref (Z.2.2 175)), (1, .ref (Z.2.2 176))] [] M13 (fun r M' => r = none ∧ li_fs (fun i k => i = 186 ∨ (i = 175 ∧ k = 23)) M0 M' ∧ li_J M') := by
      intro n
      induction n with
      | zero => intro x12 M13 hn; exact absurd hn (Nat.not_lt_zero _)
      | succ n ih11 =>
        intro x12 M13 hn hf hJ hi
        have gx12 := tl_rg x12
        have rM13_23 := J_sl23 (M := M13) hJ
        refine li_iload_n 0 dX12_remember_11 rfl ?_
        refine li_sipush 561 dX12_remember_12 (by decide) ?_
        refine li_icmp_ge 39 dX12_remember_15 (by decide) (fun c14 => ?_) (fun c14 => ?_)
        · have tc14 : 561 ≤ x12.toInt := tl_le c14
          refine li_aload_n 1 dX12_remember_39 rfl ?_
          refine li_dup dX12_remember_40 rfl ?_
          refine li_geti (k := 23) (N := 52) (T := TX12) (C0 := RX12) dX12_remember_41 (by decide) sh_175 rfl rfl (by decide) li_in12 w_1427 ?_
          refine li_top (fun x15 ex15 => ?_)
          have gx15 : 0 ≤ x15.toInt ∧ x15.toInt ≤ 12 := by rw [ex15]; exact J_sl23 hJ
          have mx15 : x15.toInt = (M13.1 175 23).toInt := tl_slot ex15
          refine li_iconst 1 dX12_remember_44 (by decide) ?_
          refine li_isub dX12_remember_45 ?_
          refine li_top (fun x16 ex16 => ?_)
          have z1 : (1 : Int32).toInt = 1 := rfl
          try (have tx16 : x16.toInt = (x15 : Int32).toInt - (1 : Int32).toInt := tl_sub ex16 (by omega))
          refine li_puti (k := 23) (N := 52) (T := TX12) (C0 := RX12) dX12_remember_46 (by decide) sh_175 rfl rfl (by decide) li_in12 tyX12_ok nmX12 rfl rfl rfl rfl w_1427 ?_
          refine li_nm (fun M17 eM17 => ?_)
          have hf := li_fs_ui hf (Or.inr (⟨rfl, rfl⟩)) eM17
          have hJ := J_pt23 hJ (show 0 ≤ (x16 : Int32).toInt ∧ (x16 : Int32).toInt ≤ 12 by omega) eM17
          have rM17_23 := J_sl23 (M := M17) hJ
          have mM17_23 : (M17.1 175 23).toInt = x16.toInt := by rw [eM17, li_ui_at, if_pos rfl, if_pos rfl]
          refine li_pick [1, 2] [(0, .ref (Z.2.2 175)), (1, .ref (Z.2.2 176))] rfl ?_
          exact J49  M17 hf hJ (by omega)
        · have tc14 : x12.toInt < 561 := tl_nle c14
          refine li_aload_n 1 dX12_remember_18 rfl ?_
          refine li_getr (k := 22) (N := 52) (T := TX12) (C0 := RX12) dX12_remember_19 (by decide) sh_175 rfl rfl (by decide) (by decide) li_in12 w_1426 ?_
          refine li_iload_n 0 dX12_remember_22 rfl ?_
          refine li_aload_n 1 dX12_remember_23 rfl ?_
          refine li_getr (k := 22) (N := 52) (T := TX12) (C0 := RX12) dX12_remember_24 (by decide) sh_175 rfl rfl (by decide) (by decide) li_in12 w_1426 ?_
          refine li_iload_n 0 dX12_remember_27 rfl ?_
          refine li_bipush 51 dX12_remember_28 (by decide) ?_
          refine li_iadd dX12_remember_30 ?_
          refine li_top (fun x18 ex18 => ?_)
          have z51 : (51 : Int32).toInt = 51 := rfl
          try (have tx18 : x18.toInt = (x12 : Int32).toInt + (51 : Int32).toInt := tl_add ex18 (by omega))
          refine li_iald dX12_remember_31 (by decide) sh_186 (tl_in (by omega)) ?_
          refine li_top (fun x19 ex19 => ?_)
          have gx19 := tl_rg x19
          try (have ox19 : (x18 : Int32).toInt % 51 = (x18 : Int32).toInt := by omega)
          have lx19 : ((x18 : Int32).toInt % 51 = 20 → 0 ≤ x19.toInt ∧ x19.toInt ≤ 6) ∧ (21 ≤ (x18 : Int32).toInt % 51 → ((x18 : Int32).toInt % 51 - 21) % 5 < 2 → 0 ≤ x19.toInt ∧ x19.toInt ≤ 5) := hJ.ldLed (by unfold li_led; omega) ex19 (by omega)
          refine li_iast dX12_remember_32 (by decide) sh_186 (tl_in (by omega)) ?_
          refine li_nm (fun M20 eM20 => ?_)
          have hf := li_fs_ui hf (Or.inl rfl) eM20
          try (have oM20 : (x12 : Int32).toInt % 51 = (x12 : Int32).toInt := by omega)
          have hJ := hJ.st (by decide) (li_el_led (by unfold li_led; omega) (by omega) (show ((x12 : Int32).toInt % 51 = 20 → 0 ≤ (x19 : Int32).toInt ∧ (x19 : Int32).toInt ≤ 6) ∧ (21 ≤ (x12 : Int32).toInt % 51 → ((x12 : Int32).toInt % 51 - 21) % 5 < 2 → 0 ≤ (x19 : Int32).toInt ∧ (x19 : Int32).toInt ≤ 5) by omega)) eM20
          have rM20_23 := J_sl23 (M := M20) hJ
          have mM20_23 : (M20.1 175 23).toInt = (M13.1 175 23).toInt := by rw [eM20, li_ui_at, if_neg (by decide)]
          obtain ⟨x21, ex21⟩ : ∃ y : Int32, y = x12 + 1 := ⟨_, rfl⟩
          have z1 : (1 : Int32).toInt = 1 := rfl
          try (have tx21 : x21.toInt = (x12 : Int32).toInt + (1 : Int32).toInt := tl_add ex21 (by omega))
          refine li_iinc 0 [(2, .int x21), (0, .ref (Z.2.2 175)), (1, .ref (Z.2.2 176))] x21 dX12_remember_33 rfl (by rw [ex21]; rfl) (by decide) rfl ?_
          refine li_goto 11 dX12_remember_36 (by decide) ?_
          refine li_pick [0, 1, 2] [(2, .int x21), (0, .ref (Z.2.2 175)), (1, .ref (Z.2.2 176))] rfl ?_
          exact ih11 x21 M20 (by omega) hf hJ (by omega)
    have z0 : (0 : Int32).toInt = 0 := rfl
    exact L11 _ 0 M0 (Nat.lt_succ_self _) hf hJ (by omega)
set_option maxRecDepth 100000 in
set_option maxHeartbeats 4000000 in
theorem k_X12_remember_a {l : Launch} {Z : li_Z} (d : Nat) (hd : 2 ≤ d) (M0 : li_M) (hJ : li_J M0) : li_Met l Z YX12_remember d [.ref (Z.2.2 175), .ref (Z.2.2 187)] M0 (fun r M' => r = none ∧ li_fs (fun i k => i = 186 ∨ (i = 175 ∧ k = 23)) M0 M' ∧ li_J M') := by
  refine li_enter (by decide +kernel) (Nat.le_of_ble_eq_true rfl) ?_
  show li_T l Z YX12_remember d 0 [(0, .ref (Z.2.2 175)), (1, .ref (Z.2.2 187))] [] M0 _
  have hf : li_fs (fun i k => i = 186 ∨ (i = 175 ∧ k = 23)) M0 M0 := li_fs_refl
  have rM0_23 := J_sl23 (M := M0) hJ
  refine li_aload_n 0 dX12_remember_0 rfl ?_
  refine li_geti (k := 23) (N := 52) (T := TX12) (C0 := RX12) dX12_remember_1 (by decide) sh_175 rfl rfl (by decide) li_in12 w_1427 ?_
  refine li_top (fun x1 ex1 => ?_)
  have gx1 : 0 ≤ x1.toInt ∧ x1.toInt ≤ 12 := by rw [ex1]; exact J_sl23 hJ
  have mx1 : x1.toInt = (M0.1 175 23).toInt := tl_slot ex1
  refine li_bipush 12 dX12_remember_4 (by decide) ?_
  have J49 : ∀  (M3 : li_M), li_fs (fun i k => i = 186 ∨ (i = 175 ∧ k = 23)) M0 M3 → li_J M3 → 0 ≤ (M3.1 175 23).toInt ∧ (M3.1 175 23).toInt ≤ 11 → li_T l Z YX12_remember d 49 [(0, .ref (Z.2.2 175)), (1, .ref (Z.2.2 187))] [] M3 (fun r M' => r = none ∧ li_fs (fun i k => i = 186 ∨ (i = 175 ∧ k = 23)) M0 M' ∧ li_J M') := by
    intro  M3 hf hJ hi
    have rM3_23 := J_sl23 (M := M3) hJ
    refine li_aload_n 1 dX12_remember_49 rfl ?_
    refine li_aload_n 0 dX12_remember_50 rfl ?_
    refine li_getr (k := 22) (N := 52) (T := TX12) (C0 := RX12) dX12_remember_51 (by decide) sh_175 rfl rfl (by decide) (by decide) li_in12 w_1426 ?_
    refine li_bipush 51 dX12_remember_54 (by decide) ?_
    refine li_aload_n 0 dX12_remember_56 rfl ?_
    refine li_geti (k := 23) (N := 52) (T := TX12) (C0 := RX12) dX12_remember_57 (by decide) sh_175 rfl rfl (by decide) li_in12 w_1427 ?_
    refine li_top (fun x4 ex4 => ?_)
    have gx4 : 0 ≤ x4.toInt ∧ x4.toInt ≤ 12 := by rw [ex4]; exact J_sl23 hJ
    have mx4 : x4.toInt = (M3.1 175 23).toInt := tl_slot ex4
    refine li_imul dX12_remember_60 ?_
    refine li_top (fun x5 ex5 => ?_)
    have z51 : (51 : Int32).toInt = 51 := rfl
    try (have tx5 : x5.toInt = 51 * (x4 : Int32).toInt := tl_mul ex5 (show -2147483648 ≤ 51 * (x4 : Int32).toInt ∧ 51 * (x4 : Int32).toInt ≤ 2147483647 by omega))
    refine li_callS (n := 3) (As := [.ref (Z.2.2 187), .ref (Z.2.2 186), .int x5]) dX12_remember_61 (k_X12_lay_au (d - 1) (by omega) x5 M3 hJ (by omega)) (by omega) (Nat.le_of_ble_eq_true rfl) w_1745 w_1746 w_112 w_1747 (by decide +kernel) rfl rfl (Nat.le_of_ble_eq_true rfl) (fun r M7 h8 => ?_)
    obtain ⟨rfl, h8, jM7⟩ := h8
    have hf := li_fs_trans hf h8 (fun i k => fun h => Or.inl h)
    have hJ := jM7
    have rM7_23 := J_sl23 (M := M7) hJ
    have mM7_23 : (M7.1 175 23).toInt = (M3.1 175 23).toInt := tl_slot (h8.1 175 23 (show ¬ (175 = 186) by decide))
    refine li_aload_n 0 dX12_remember_64 rfl ?_
    refine li_dup dX12_remember_65 rfl ?_
    refine li_geti (k := 23) (N := 52) (T := TX12) (C0 := RX12) dX12_remember_66 (by decide) sh_175 rfl rfl (by decide) li_in12 w_1427 ?_
    refine li_top (fun x9 ex9 => ?_)
    have gx9 : 0 ≤ x9.toInt ∧ x9.toInt ≤ 12 := by rw [ex9]; exact J_sl23 hJ
    have mx9 : x9.toInt = (M7.1 175 23).toInt := tl_slot ex9
    refine li_iconst 1 dX12_remember_69 (by decide) ?_
    refine li_iadd dX12_remember_70 ?_
    refine li_top (fun x10 ex10 => ?_)
    have z1 : (1 : Int32).toInt = 1 := rfl
    try (have tx10 : x10.toInt = (x9 : Int32).toInt + (1 : Int32).toInt := tl_add ex10 (by omega))
    refine li_puti (k := 23) (N := 52) (T := TX12) (C0 := RX12) dX12_remember_71 (by decide) sh_175 rfl rfl (by decide) li_in12 tyX12_ok nmX12 rfl rfl rfl rfl w_1427 ?_
    refine li_nm (fun M11 eM11 => ?_)
    have hf := li_fs_ui hf (Or.inr (⟨rfl, rfl⟩)) eM11
    have hJ := J_pt23 hJ (show 0 ≤ (x10 : Int32).toInt ∧ (x10 : Int32).toInt ≤ 12 by omega) eM11
    have rM11_23 := J_sl23 (M := M11) hJ
    have mM11_23 : (M11.1 175 23).toInt = x10.toInt := by rw [eM11, li_ui_at, if_pos rfl, if_pos rfl]
    exact li_vret dX12_remember_74 rfl ⟨rfl, hf, hJ⟩
  refine li_icmp_ne 49 dX12_remember_6 (by decide) (fun c2 => ?_) (fun c2 => ?_)
  · have tc2 : ¬ x1.toInt = 12 := tl_ne c2
    refine li_pick [0, 1] [(0, .ref (Z.2.2 175)), (1, .ref (Z.2.2 187))] rfl ?_
    exact J49  M0 hf hJ (by omega)
  · have tc2 : x1.toInt = 12 := tl_eq c2
    refine li_iconst 0 dX12_remember_9 (by decide) ?_
    refine li_istore_n [(2, .int 0), (0, .ref (Z.2.2 175)), (1, .ref (Z.2.2 187))] dX12_remember_10 (by decide) rfl ?_
    have L11 : ∀ (n : Nat) (x12 : Int32) (M13 : li_M), (561 - (x12 : Int32).toInt).toNat < n → li_fs (fun i k => i = 186 ∨ (i = 175 ∧ k = 23)) M0 M13 → li_J M13 → 0 ≤ (x12 : Int32).toInt ∧ (M13.1 175 23).toInt = 12 → li_T l Z YX12_remember d 11 [(2, .int x12), (0, .ref (Z.2.2 175)), (1, .ref (Z.2.2 187))] [] M13 (fun r M' => r = none ∧ li_fs (fun i k => i = 186 ∨ (i = 175 ∧ k = 23)) M0 M' ∧ li_J M') := by
      intro n
      induction n with
      | zero => intro x12 M13 hn; exact absurd hn (Nat.not_lt_zero _)
      | succ n ih11 =>
        intro x12 M13 hn hf hJ hi
        have gx12 := tl_rg x12
        have rM13_23 := J_sl23 (M := M13) hJ
        refine li_iload_n 0 dX12_remember_11 rfl ?_
        refine li_sipush 561 dX12_remember_12 (by decide) ?_
        refine li_icmp_ge 39 dX12_remember_15 (by decide) (fun c14 => ?_) (fun c14 => ?_)
        · have tc14 : 561 ≤ x12.toInt := tl_le c14
          refine li_aload_n 1 dX12_remember_39 rfl ?_
          refine li_dup dX12_remember_40 rfl ?_
          refine li_geti (k := 23) (N := 52) (T := TX12) (C0 := RX12) dX12_remember_41 (by decide) sh_175 rfl rfl (by decide) li_in12 w_1427 ?_
          refine li_top (fun x15 ex15 => ?_)
          have gx15 : 0 ≤ x15.toInt ∧ x15.toInt ≤ 12 := by rw [ex15]; exact J_sl23 hJ
          have mx15 : x15.toInt = (M13.1 175 23).toInt := tl_slot ex15
          refine li_iconst 1 dX12_remember_44 (by decide) ?_
          refine li_isub dX12_remember_45 ?_
          refine li_top (fun x16 ex16 => ?_)
          have z1 : (1 : Int32).toInt = 1 := rfl
          try (have tx16 : x16.toInt = (x15 : Int32).toInt - (1 : Int32).toInt := tl_sub ex16 (by omega))
          refine li_puti (k := 23) (N := 52) (T := TX12) (C0 := RX12) dX12_remember_46 (by decide) sh_175 rfl rfl (by decide) li_in12 tyX12_ok nmX12 rfl rfl rfl rfl w_1427 ?_
          refine li_nm (fun M17 eM17 => ?_)
          have hf := li_fs_ui hf (Or.inr (⟨rfl, rfl⟩)) eM17
          have hJ := J_pt23 hJ (show 0 ≤ (x16 : Int32).toInt ∧ (x16 : Int32).toInt ≤ 12 by omega) eM17
          have rM17_23 := J_sl23 (M := M17) hJ
          have mM17_23 : (M17.1 175 23).toInt = x16.toInt := by rw [eM17, li_ui_at, if_pos rfl, if_pos rfl]
          refine li_pick [1, 2] [(0, .ref (Z.2.2 175)), (1, .ref (Z.2.2 187))] rfl ?_
          exact J49  M17 hf hJ (by omega)
        · have tc14 : x12.toInt < 561 := tl_nle c14
          refine li_aload_n 1 dX12_remember_18 rfl ?_
          refine li_getr (k := 22) (N := 52) (T := TX12) (C0 := RX12) dX12_remember_19 (by decide) sh_175 rfl rfl (by decide) (by decide) li_in12 w_1426 ?_
          refine li_iload_n 0 dX12_remember_22 rfl ?_
          refine li_aload_n 1 dX12_remember_23 rfl ?_
          refine li_getr (k := 22) (N := 52) (T := TX12) (C0 := RX12) dX12_remember_24 (by decide) sh_175 rfl rfl (by decide) (by decide) li_in12 w_1426 ?_
          refine li_iload_n 0 dX12_remember_27 rfl ?_
          refine li_bipush 51 dX12_remember_28 (by decide) ?_
          refine li_iadd dX12_remember_30 ?_
          refine li_top (fun x18 ex18 => ?_)
          have z51 : (51 : Int32).toInt = 51 := rfl
          try (have tx18 : x18.toInt = (x12 : Int32).toInt + (51 : Int32).toInt := tl_add ex18 (by omega))
          refine li_iald dX12_remember_31 (by decide) sh_186 (tl_in (by omega)) ?_
          refine li_top (fun x19 ex19 => ?_)
          have gx19 := tl_rg x19
          try (have ox19 : (x18 : Int32).toInt % 51 = (x18 : Int32).toInt := by omega)
          have lx19 : ((x18 : Int32).toInt % 51 = 20 → 0 ≤ x19.toInt ∧ x19.toInt ≤ 6) ∧ (21 ≤ (x18 : Int32).toInt % 51 → ((x18 : Int32).toInt % 51 - 21) % 5 < 2 → 0 ≤ x19.toInt ∧ x19.toInt ≤ 5) := hJ.ldLed (by unfold li_led; omega) ex19 (by omega)
          refine li_iast dX12_remember_32 (by decide) sh_186 (tl_in (by omega)) ?_
          refine li_nm (fun M20 eM20 => ?_)
          have hf := li_fs_ui hf (Or.inl rfl) eM20
          try (have oM20 : (x12 : Int32).toInt % 51 = (x12 : Int32).toInt := by omega)
          have hJ := hJ.st (by decide) (li_el_led (by unfold li_led; omega) (by omega) (show ((x12 : Int32).toInt % 51 = 20 → 0 ≤ (x19 : Int32).toInt ∧ (x19 : Int32).toInt ≤ 6) ∧ (21 ≤ (x12 : Int32).toInt % 51 → ((x12 : Int32).toInt % 51 - 21) % 5 < 2 → 0 ≤ (x19 : Int32).toInt ∧ (x19 : Int32).toInt ≤ 5) by omega)) eM20
          have rM20_23 := J_sl23 (M := M20) hJ
          have mM20_23 : (M20.1 175 23).toInt = (M13.1 175 23).toInt := by rw [eM20, li_ui_at, if_neg (by decide)]
          obtain ⟨x21, ex21⟩ : ∃ y : Int32, y = x12 + 1 := ⟨_, rfl⟩
          have z1 : (1 : Int32).toInt = 1 := rfl
          try (have tx21 : x21.toInt = (x12 : Int32).toInt + (1 : Int32).toInt := tl_add ex21 (by omega))
          refine li_iinc 0 [(2, .int x21), (0, .ref (Z.2.2 175)), (1, .ref (Z.2.2 187))] x21 dX12_remember_33 rfl (by rw [ex21]; rfl) (by decide) rfl ?_
          refine li_goto 11 dX12_remember_36 (by decide) ?_
          refine li_pick [0, 1, 2] [(2, .int x21), (0, .ref (Z.2.2 175)), (1, .ref (Z.2.2 187))] rfl ?_
          exact ih11 x21 M20 (by omega) hf hJ (by omega)
    have z0 : (0 : Int32).toInt = 0 := rfl
    exact L11 _ 0 M0 (Nat.lt_succ_self _) hf hJ (by omega)
set_option maxRecDepth 100000 in
set_option maxHeartbeats 4000000 in
theorem k_X12_sheet {l : Launch} {Z : li_Z} (d : Nat) (hd : 2 ≤ d) (p1 p2 p3 p4 : Int32) (M0 : li_M) (hJ : li_J M0) : li_Met l Z YX12_sheet d [.ref (Z.2.2 175), .int p1, .int p2, .int p3, .int p4] M0 (fun r M' => (∃ x : Int32, r = some (.int x)) ∧ li_fs (fun i k => i = 176 ∨ (i = 175 ∧ k = 10)) M0 M' ∧ li_J M') := by
  refine li_enter (by decide +kernel) (Nat.le_of_ble_eq_true rfl) ?_
  show li_T l Z YX12_sheet d 0 [(0, .ref (Z.2.2 175)), (1, .int p1), (2, .int p2), (3, .int p3), (4, .int p4)] [] M0 _
  have hf : li_fs (fun i k => i = 176 ∨ (i = 175 ∧ k = 10)) M0 M0 := li_fs_refl
  have gp1 := tl_rg p1
  have gp2 := tl_rg p2
  have gp3 := tl_rg p3
  have gp4 := tl_rg p4
  refine li_aload_n 0 dX12_sheet_0 rfl ?_
  refine li_iconst 0 dX12_sheet_1 (by decide) ?_
  refine li_puti (k := 10) (N := 52) (T := TX12) (C0 := RX12) dX12_sheet_2 (by decide) sh_175 rfl rfl (by decide) li_in12 tyX12_ok nmX12 rfl rfl rfl rfl w_1414 ?_
  refine li_nm (fun M1 eM1 => ?_)
  have hf := li_fs_ui hf (Or.inr (⟨rfl, rfl⟩)) eM1
  have z0 : (0 : Int32).toInt = 0 := rfl
  have hJ := hJ.put (k := 10) (by decide) (rg_free rfl) eM1
  refine li_iload_n 1 dX12_sheet_5 rfl ?_
  refine li_iconst 0 dX12_sheet_6 (by decide) ?_
  refine li_iconst 3 dX12_sheet_7 (by decide) ?_
  have z0 : (0 : Int32).toInt = 0 := rfl
  have z3 : (3 : Int32).toInt = 3 := rfl
  refine li_callS (n := 3) (As := [.int p1, .int 0, .int 3]) dX12_sheet_8 (k_X12_in (d - 1) (by omega) p1 0 3 M1 hJ ) (by omega) (Nat.le_of_ble_eq_true rfl) w_1570 w_1571 w_112 w_1572 (by decide +kernel) rfl rfl (Nat.le_of_ble_eq_true rfl) (fun r M3 h4 => ?_)
  obtain ⟨qx2, h4, jM3⟩ := h4
  have hf := li_fs_trans hf h4 (fun i k h => False.elim h)
  have hJ := jM3
  rcases qx2 with ⟨rfl, qx2⟩ | ⟨rfl, qx2⟩
  · skip
    refine li_if_eq 20 dX12_sheet_11 (by decide) (fun c => absurd c (by decide)) (fun c => ?_)
    refine li_iload_n 2 dX12_sheet_14 rfl ?_
    refine li_bipush 6 dX12_sheet_15 (by decide) ?_
    refine li_icmp_le 22 dX12_sheet_17 (by decide) (fun c6 => ?_) (fun c6 => ?_)
    · have tc6 : p2.toInt ≤ 6 := tl_le c6
      refine li_iload_n 1 dX12_sheet_22 rfl ?_
      refine li_iconst 3 dX12_sheet_23 (by decide) ?_
      refine li_icmp_ge 34 dX12_sheet_24 (by decide) (fun c7 => ?_) (fun c7 => ?_)
      · have tc7 : 3 ≤ p1.toInt := tl_le c7
        refine li_iconst 0 dX12_sheet_34 (by decide) ?_
        refine li_istore [(5, .int 0), (0, .ref (Z.2.2 175)), (1, .int p1), (2, .int p2), (3, .int p3), (4, .int p4)] dX12_sheet_35 (by decide) rfl ?_
        refine li_iload_n 4 dX12_sheet_37 rfl ?_
        refine li_istore [(6, .int p3), (5, .int 0), (0, .ref (Z.2.2 175)), (1, .int p1), (2, .int p2), (3, .int p3), (4, .int p4)] dX12_sheet_38 (by decide) rfl ?_
        refine li_iconst 0 dX12_sheet_40 (by decide) ?_
        refine li_istore [(7, .int 0), (6, .int p3), (5, .int 0), (0, .ref (Z.2.2 175)), (1, .int p1), (2, .int p2), (3, .int p3), (4, .int p4)] dX12_sheet_41 (by decide) rfl ?_
        have L43 : ∀ (n : Nat) (x8 : Int32) (x9 : Int32) (x10 : Int32) (M11 : li_M), (6 - (x8 : Int32).toInt).toNat < n → li_fs (fun i k => i = 176 ∨ (i = 175 ∧ k = 10)) M0 M11 → li_J M11 → 0 ≤ (x8 : Int32).toInt → li_T l Z YX12_sheet d 43 [(7, .int x8), (6, .int x9), (5, .int x10), (0, .ref (Z.2.2 175)), (1, .int p1), (2, .int p2), (3, .int p3), (4, .int p4)] [] M11 (fun r M' => (∃ x : Int32, r = some (.int x)) ∧ li_fs (fun i k => i = 176 ∨ (i = 175 ∧ k = 10)) M0 M' ∧ li_J M') := by
          intro n
          induction n with
          | zero => intro x8 x9 x10 M11 hn; exact absurd hn (Nat.not_lt_zero _)
          | succ n ih43 =>
            intro x8 x9 x10 M11 hn hf hJ hi
            have gx8 := tl_rg x8
            have gx9 := tl_rg x9
            have gx10 := tl_rg x10
            refine li_iload 0 dX12_sheet_43 rfl ?_
            refine li_aload_n 3 dX12_sheet_45 rfl ?_
            refine li_geti (k := 1) (N := 52) (T := TX12) (C0 := RX12) dX12_sheet_46 (by decide) sh_175 rfl rfl (by decide) li_in12 w_1405 ?_
            refine li_top (fun x12 ex12 => ?_)
            have gx12 : 0 ≤ x12.toInt ∧ x12.toInt ≤ 6 := by rw [ex12]; exact J_sl1 hJ
            have sx12 : x12.toInt = (M0.1 175 1).toInt := tl_slot (ex12.trans (hf.1 175 1 (show ¬ (175 = 176 ∨ (175 = 175 ∧ 1 = 10)) by decide)))
            refine li_icmp_ge 136 dX12_sheet_49 (by decide) (fun c13 => ?_) (fun c13 => ?_)
            · have tc13 : x12.toInt ≤ x8.toInt := tl_le c13
              refine li_iload_n 4 dX12_sheet_136 rfl ?_
              refine li_iconst 3 dX12_sheet_137 (by decide) ?_
              refine li_icmp_ne 146 dX12_sheet_138 (by decide) (fun c14 => ?_) (fun c14 => ?_)
              · have tc14 : ¬ p1.toInt = 3 := tl_ne c14
                refine li_iload 2 dX12_sheet_146 rfl ?_
                exact li_iret dX12_sheet_148 rfl rfl ⟨⟨_, rfl⟩, hf, hJ⟩
              · have tc14 : p1.toInt = 3 := tl_eq c14
                refine li_bipush (-3) dX12_sheet_141 (by decide) ?_
                refine li_goto 148 dX12_sheet_143 (by decide) ?_
                have zm3 : ((-3) : Int32).toInt = -3 := rfl
                exact li_iret dX12_sheet_148 rfl rfl ⟨⟨_, rfl⟩, hf, hJ⟩
            · have tc13 : x8.toInt < x12.toInt := tl_nle c13
              refine li_iload_n 4 dX12_sheet_52 rfl ?_
              have J75 : ∀ (x16 : Int32) (M17 : li_M), li_fs (fun i k => i = 176 ∨ (i = 175 ∧ k = 10)) M0 M17 → li_J M17 → li_T l Z YX12_sheet d 75 [(7, .int x8), (6, .int x9), (5, .int x10), (0, .ref (Z.2.2 175)), (1, .int p1), (2, .int p2), (3, .int p3), (4, .int p4)] [.int x16] M17 (fun r M' => (∃ x : Int32, r = some (.int x)) ∧ li_fs (fun i k => i = 176 ∨ (i = 175 ∧ k = 10)) M0 M' ∧ li_J M') := by
                intro x16 M17 hf hJ
                have gx16 := tl_rg x16
                refine li_istore [(8, .int x16), (7, .int x8), (6, .int x9), (5, .int x10), (0, .ref (Z.2.2 175)), (1, .int p1), (2, .int p2), (3, .int p3), (4, .int p4)] dX12_sheet_75 (by decide) rfl ?_
                refine li_aload_n 4 dX12_sheet_77 rfl ?_
                refine li_getr (k := 0) (N := 52) (T := TX12) (C0 := RX12) dX12_sheet_78 (by decide) sh_175 rfl rfl (by decide) (by decide) li_in12 w_1404 ?_
                refine li_iload 1 dX12_sheet_81 rfl ?_
                refine li_iload_n 5 dX12_sheet_83 rfl ?_
                refine li_iconst 3 dX12_sheet_84 (by decide) ?_
                have J110 : ∀ (x19 : Int32) (M20 : li_M), li_fs (fun i k => i = 176 ∨ (i = 175 ∧ k = 10)) M0 M20 → li_J M20 → li_T l Z YX12_sheet d 110 [(8, .int x16), (7, .int x8), (6, .int x9), (5, .int x10), (0, .ref (Z.2.2 175)), (1, .int p1), (2, .int p2), (3, .int p3), (4, .int p4)] [.int x19, .int x8, .ref (Z.2.2 176)] M20 (fun r M' => (∃ x : Int32, r = some (.int x)) ∧ li_fs (fun i k => i = 176 ∨ (i = 175 ∧ k = 10)) M0 M' ∧ li_J M') := by
                  intro x19 M20 hf hJ
                  have gx19 := tl_rg x19
                  refine li_iast dX12_sheet_110 (by decide) sh_176 (tl_in (by omega)) ?_
                  refine li_nm (fun M21 eM21 => ?_)
                  have hf := li_fs_ui hf (Or.inl rfl) eM21
                  try (have oM21 : (x8 : Int32).toInt % 51 = (x8 : Int32).toInt := by omega)
                  have hJ := hJ.st (by decide) (li_el_led (by unfold li_led; omega) (by omega) (show ((x8 : Int32).toInt % 51 = 20 → 0 ≤ (x19 : Int32).toInt ∧ (x19 : Int32).toInt ≤ 6) ∧ (21 ≤ (x8 : Int32).toInt % 51 → ((x8 : Int32).toInt % 51 - 21) % 5 < 2 → 0 ≤ (x19 : Int32).toInt ∧ (x19 : Int32).toInt ≤ 5) by omega)) eM21
                  refine li_iload 3 dX12_sheet_111 rfl ?_
                  refine li_aload_n 4 dX12_sheet_113 rfl ?_
                  refine li_getr (k := 0) (N := 52) (T := TX12) (C0 := RX12) dX12_sheet_114 (by decide) sh_175 rfl rfl (by decide) (by decide) li_in12 w_1404 ?_
                  refine li_iload 1 dX12_sheet_117 rfl ?_
                  refine li_iald dX12_sheet_119 (by decide) sh_176 (tl_in (by omega)) ?_
                  refine li_top (fun x22 ex22 => ?_)
                  have gx22 := tl_rg x22
                  try (have ox22 : (x8 : Int32).toInt % 51 = (x8 : Int32).toInt := by omega)
                  have lx22 : ((x8 : Int32).toInt % 51 = 20 → 0 ≤ x22.toInt ∧ x22.toInt ≤ 6) ∧ (21 ≤ (x8 : Int32).toInt % 51 → ((x8 : Int32).toInt % 51 - 21) % 5 < 2 → 0 ≤ x22.toInt ∧ x22.toInt ≤ 5) := hJ.ldLed (by unfold li_led; omega) ex22 (by omega)
                  refine li_iadd dX12_sheet_120 ?_
                  refine li_top (fun x23 ex23 => ?_)
                  try (have tx23 : x23.toInt = (x10 : Int32).toInt + (x22 : Int32).toInt := tl_add ex23 (by omega))
                  refine li_istore [(5, .int x23), (8, .int x16), (7, .int x8), (6, .int x9), (0, .ref (Z.2.2 175)), (1, .int p1), (2, .int p2), (3, .int p3), (4, .int p4)] dX12_sheet_121 (by decide) rfl ?_
                  refine li_iload 3 dX12_sheet_123 rfl ?_
                  refine li_iload 8 dX12_sheet_125 rfl ?_
                  refine li_iadd dX12_sheet_127 ?_
                  refine li_top (fun x24 ex24 => ?_)
                  try (have tx24 : x24.toInt = (x9 : Int32).toInt + (p4 : Int32).toInt := tl_add ex24 (by omega))
                  refine li_istore [(6, .int x24), (5, .int x23), (8, .int x16), (7, .int x8), (0, .ref (Z.2.2 175)), (1, .int p1), (2, .int p2), (3, .int p3), (4, .int p4)] dX12_sheet_128 (by decide) rfl ?_
                  obtain ⟨x25, ex25⟩ : ∃ y : Int32, y = x8 + 1 := ⟨_, rfl⟩
                  have z1 : (1 : Int32).toInt = 1 := rfl
                  try (have tx25 : x25.toInt = (x8 : Int32).toInt + (1 : Int32).toInt := tl_add ex25 (by omega))
                  refine li_iinc 3 [(7, .int x25), (6, .int x24), (5, .int x23), (8, .int x16), (0, .ref (Z.2.2 175)), (1, .int p1), (2, .int p2), (3, .int p3), (4, .int p4)] x25 dX12_sheet_130 rfl (by rw [ex25]; rfl) (by decide) rfl ?_
                  refine li_goto 43 dX12_sheet_133 (by decide) ?_
                  refine li_pick [0, 1, 2, 4, 5, 6, 7, 8] [(7, .int x25), (6, .int x24), (5, .int x23), (0, .ref (Z.2.2 175)), (1, .int p1), (2, .int p2), (3, .int p3), (4, .int p4)] rfl ?_
                  exact ih43 x25 x24 x23 M21 (by omega) hf hJ (by omega)
                refine li_icmp_eq 94 dX12_sheet_85 (by decide) (fun c18 => ?_) (fun c18 => ?_)
                · have tc18 : p1.toInt = 3 := tl_eq c18
                  refine li_iconst 0 dX12_sheet_94 (by decide) ?_
                  refine li_goto 110 dX12_sheet_95 (by decide) ?_
                  refine li_pick [0, 1, 2, 3, 4, 5, 6, 7, 8] [(8, .int x16), (7, .int x8), (6, .int x9), (5, .int x10), (0, .ref (Z.2.2 175)), (1, .int p1), (2, .int p2), (3, .int p3), (4, .int p4)] rfl ?_
                  have z0 : (0 : Int32).toInt = 0 := rfl
                  exact J110 0 M17 hf hJ
                · have tc18 : ¬ p1.toInt = 3 := tl_ne c18
                  refine li_iload 1 dX12_sheet_88 rfl ?_
                  refine li_iload_n 6 dX12_sheet_90 rfl ?_
                  refine li_icmp_lt 98 dX12_sheet_91 (by decide) (fun c26 => ?_) (fun c26 => ?_)
                  · have tc26 : x8.toInt < p2.toInt := tl_lt c26
                    refine li_iconst 0 dX12_sheet_98 (by decide) ?_
                    refine li_sipush 9999 dX12_sheet_99 (by decide) ?_
                    refine li_iload 0 dX12_sheet_102 rfl ?_
                    refine li_mmin dX12_sheet_104 (by omega) w_1701 w_726 w_113 w_727 (Nat.le_of_ble_eq_true rfl) ?_
                    refine li_top (fun x27 ex27 => ?_)
                    have z9999 : (9999 : Int32).toInt = 9999 := rfl
                    have tx27 := tl_min2 ex27
                    refine li_mmax dX12_sheet_107 (by omega) w_1403 w_642 w_113 w_643 (Nat.le_of_ble_eq_true rfl) ?_
                    refine li_top (fun x28 ex28 => ?_)
                    have z0 : (0 : Int32).toInt = 0 := rfl
                    have tx28 := tl_max2 ex28
                    refine li_pick [0, 1, 2, 3, 4, 5, 6, 7, 8] [(8, .int x16), (7, .int x8), (6, .int x9), (5, .int x10), (0, .ref (Z.2.2 175)), (1, .int p1), (2, .int p2), (3, .int p3), (4, .int p4)] rfl ?_
                    exact J110 x28 M17 hf hJ
                  · have tc26 : p2.toInt ≤ x8.toInt := tl_nlt c26
                    refine li_iconst 0 dX12_sheet_94 (by decide) ?_
                    refine li_goto 110 dX12_sheet_95 (by decide) ?_
                    refine li_pick [0, 1, 2, 3, 4, 5, 6, 7, 8] [(8, .int x16), (7, .int x8), (6, .int x9), (5, .int x10), (0, .ref (Z.2.2 175)), (1, .int p1), (2, .int p2), (3, .int p3), (4, .int p4)] rfl ?_
                    have z0 : (0 : Int32).toInt = 0 := rfl
                    exact J110 0 M17 hf hJ
              refine li_if_ne 62 dX12_sheet_53 (by decide) (fun c15 => ?_) (fun c15 => ?_)
              · have tc15 : ¬ p1.toInt = 0 := tl_ne c15
                refine li_iload_n 4 dX12_sheet_62 rfl ?_
                refine li_iconst 1 dX12_sheet_63 (by decide) ?_
                refine li_icmp_ne 73 dX12_sheet_64 (by decide) (fun c29 => ?_) (fun c29 => ?_)
                · have tc29 : ¬ p1.toInt = 1 := tl_ne c29
                  refine li_iload 1 dX12_sheet_73 rfl ?_
                  refine li_pick [0, 1, 2, 3, 4, 5, 6, 7] [(7, .int x8), (6, .int x9), (5, .int x10), (0, .ref (Z.2.2 175)), (1, .int p1), (2, .int p2), (3, .int p3), (4, .int p4)] rfl ?_
                  exact J75 x9 M11 hf hJ
                · have tc29 : p1.toInt = 1 := tl_eq c29
                  refine li_iload 1 dX12_sheet_67 rfl ?_
                  refine li_i2s dX12_sheet_69 ?_
                  refine li_top (fun x30 ex30 => ?_)
                  refine li_goto 75 dX12_sheet_70 (by decide) ?_
                  refine li_pick [0, 1, 2, 3, 4, 5, 6, 7] [(7, .int x8), (6, .int x9), (5, .int x10), (0, .ref (Z.2.2 175)), (1, .int p1), (2, .int p2), (3, .int p3), (4, .int p4)] rfl ?_
                  exact J75 x30 M11 hf hJ
              · have tc15 : p1.toInt = 0 := tl_eq c15
                refine li_iload 1 dX12_sheet_56 rfl ?_
                refine li_i2b dX12_sheet_58 ?_
                refine li_top (fun x31 ex31 => ?_)
                refine li_goto 75 dX12_sheet_59 (by decide) ?_
                refine li_pick [0, 1, 2, 3, 4, 5, 6, 7] [(7, .int x8), (6, .int x9), (5, .int x10), (0, .ref (Z.2.2 175)), (1, .int p1), (2, .int p2), (3, .int p3), (4, .int p4)] rfl ?_
                exact J75 x31 M11 hf hJ
        have z0 : (0 : Int32).toInt = 0 := rfl
        have z0 : (0 : Int32).toInt = 0 := rfl
        exact L43 _ 0 p3 0 M3 (Nat.lt_succ_self _) hf hJ (by omega)
      · have tc7 : p1.toInt < 3 := tl_nle c7
        refine li_iload_n 2 dX12_sheet_27 rfl ?_
        refine li_if_ge 34 dX12_sheet_28 (by decide) (fun c32 => ?_) (fun c32 => ?_)
        · have tc32 : 0 ≤ p2.toInt := tl_le c32
          refine li_iconst 0 dX12_sheet_34 (by decide) ?_
          refine li_istore [(5, .int 0), (0, .ref (Z.2.2 175)), (1, .int p1), (2, .int p2), (3, .int p3), (4, .int p4)] dX12_sheet_35 (by decide) rfl ?_
          refine li_iload_n 4 dX12_sheet_37 rfl ?_
          refine li_istore [(6, .int p3), (5, .int 0), (0, .ref (Z.2.2 175)), (1, .int p1), (2, .int p2), (3, .int p3), (4, .int p4)] dX12_sheet_38 (by decide) rfl ?_
          refine li_iconst 0 dX12_sheet_40 (by decide) ?_
          refine li_istore [(7, .int 0), (6, .int p3), (5, .int 0), (0, .ref (Z.2.2 175)), (1, .int p1), (2, .int p2), (3, .int p3), (4, .int p4)] dX12_sheet_41 (by decide) rfl ?_
          have L43 : ∀ (n : Nat) (x33 : Int32) (x34 : Int32) (x35 : Int32) (M36 : li_M), (6 - (x33 : Int32).toInt).toNat < n → li_fs (fun i k => i = 176 ∨ (i = 175 ∧ k = 10)) M0 M36 → li_J M36 → 0 ≤ (x33 : Int32).toInt → li_T l Z YX12_sheet d 43 [(7, .int x33), (6, .int x34), (5, .int x35), (0, .ref (Z.2.2 175)), (1, .int p1), (2, .int p2), (3, .int p3), (4, .int p4)] [] M36 (fun r M' => (∃ x : Int32, r = some (.int x)) ∧ li_fs (fun i k => i = 176 ∨ (i = 175 ∧ k = 10)) M0 M' ∧ li_J M') := by
            intro n
            induction n with
            | zero => intro x33 x34 x35 M36 hn; exact absurd hn (Nat.not_lt_zero _)
            | succ n ih43 =>
              intro x33 x34 x35 M36 hn hf hJ hi
              have gx33 := tl_rg x33
              have gx34 := tl_rg x34
              have gx35 := tl_rg x35
              refine li_iload 0 dX12_sheet_43 rfl ?_
              refine li_aload_n 3 dX12_sheet_45 rfl ?_
              refine li_geti (k := 1) (N := 52) (T := TX12) (C0 := RX12) dX12_sheet_46 (by decide) sh_175 rfl rfl (by decide) li_in12 w_1405 ?_
              refine li_top (fun x37 ex37 => ?_)
              have gx37 : 0 ≤ x37.toInt ∧ x37.toInt ≤ 6 := by rw [ex37]; exact J_sl1 hJ
              have sx37 : x37.toInt = (M0.1 175 1).toInt := tl_slot (ex37.trans (hf.1 175 1 (show ¬ (175 = 176 ∨ (175 = 175 ∧ 1 = 10)) by decide)))
              refine li_icmp_ge 136 dX12_sheet_49 (by decide) (fun c38 => ?_) (fun c38 => ?_)
              · have tc38 : x37.toInt ≤ x33.toInt := tl_le c38
                refine li_iload_n 4 dX12_sheet_136 rfl ?_
                refine li_iconst 3 dX12_sheet_137 (by decide) ?_
                refine li_icmp_ne 146 dX12_sheet_138 (by decide) (fun c39 => ?_) (fun c39 => ?_)
                · have tc39 : ¬ p1.toInt = 3 := tl_ne c39
                  refine li_iload 2 dX12_sheet_146 rfl ?_
                  exact li_iret dX12_sheet_148 rfl rfl ⟨⟨_, rfl⟩, hf, hJ⟩
                · have tc39 : p1.toInt = 3 := tl_eq c39
                  refine li_bipush (-3) dX12_sheet_141 (by decide) ?_
                  refine li_goto 148 dX12_sheet_143 (by decide) ?_
                  have zm3 : ((-3) : Int32).toInt = -3 := rfl
                  exact li_iret dX12_sheet_148 rfl rfl ⟨⟨_, rfl⟩, hf, hJ⟩
              · have tc38 : x33.toInt < x37.toInt := tl_nle c38
                refine li_iload_n 4 dX12_sheet_52 rfl ?_
                have J75 : ∀ (x41 : Int32) (M42 : li_M), li_fs (fun i k => i = 176 ∨ (i = 175 ∧ k = 10)) M0 M42 → li_J M42 → li_T l Z YX12_sheet d 75 [(7, .int x33), (6, .int x34), (5, .int x35), (0, .ref (Z.2.2 175)), (1, .int p1), (2, .int p2), (3, .int p3), (4, .int p4)] [.int x41] M42 (fun r M' => (∃ x : Int32, r = some (.int x)) ∧ li_fs (fun i k => i = 176 ∨ (i = 175 ∧ k = 10)) M0 M' ∧ li_J M') := by
                  intro x41 M42 hf hJ
                  have gx41 := tl_rg x41
                  refine li_istore [(8, .int x41), (7, .int x33), (6, .int x34), (5, .int x35), (0, .ref (Z.2.2 175)), (1, .int p1), (2, .int p2), (3, .int p3), (4, .int p4)] dX12_sheet_75 (by decide) rfl ?_
                  refine li_aload_n 4 dX12_sheet_77 rfl ?_
                  refine li_getr (k := 0) (N := 52) (T := TX12) (C0 := RX12) dX12_sheet_78 (by decide) sh_175 rfl rfl (by decide) (by decide) li_in12 w_1404 ?_
                  refine li_iload 1 dX12_sheet_81 rfl ?_
                  refine li_iload_n 5 dX12_sheet_83 rfl ?_
                  refine li_iconst 3 dX12_sheet_84 (by decide) ?_
                  have J110 : ∀ (x44 : Int32) (M45 : li_M), li_fs (fun i k => i = 176 ∨ (i = 175 ∧ k = 10)) M0 M45 → li_J M45 → li_T l Z YX12_sheet d 110 [(8, .int x41), (7, .int x33), (6, .int x34), (5, .int x35), (0, .ref (Z.2.2 175)), (1, .int p1), (2, .int p2), (3, .int p3), (4, .int p4)] [.int x44, .int x33, .ref (Z.2.2 176)] M45 (fun r M' => (∃ x : Int32, r = some (.int x)) ∧ li_fs (fun i k => i = 176 ∨ (i = 175 ∧ k = 10)) M0 M' ∧ li_J M') := by
                    intro x44 M45 hf hJ
                    have gx44 := tl_rg x44
                    refine li_iast dX12_sheet_110 (by decide) sh_176 (tl_in (by omega)) ?_
                    refine li_nm (fun M46 eM46 => ?_)
                    have hf := li_fs_ui hf (Or.inl rfl) eM46
                    try (have oM46 : (x33 : Int32).toInt % 51 = (x33 : Int32).toInt := by omega)
                    have hJ := hJ.st (by decide) (li_el_led (by unfold li_led; omega) (by omega) (show ((x33 : Int32).toInt % 51 = 20 → 0 ≤ (x44 : Int32).toInt ∧ (x44 : Int32).toInt ≤ 6) ∧ (21 ≤ (x33 : Int32).toInt % 51 → ((x33 : Int32).toInt % 51 - 21) % 5 < 2 → 0 ≤ (x44 : Int32).toInt ∧ (x44 : Int32).toInt ≤ 5) by omega)) eM46
                    refine li_iload 3 dX12_sheet_111 rfl ?_
                    refine li_aload_n 4 dX12_sheet_113 rfl ?_
                    refine li_getr (k := 0) (N := 52) (T := TX12) (C0 := RX12) dX12_sheet_114 (by decide) sh_175 rfl rfl (by decide) (by decide) li_in12 w_1404 ?_
                    refine li_iload 1 dX12_sheet_117 rfl ?_
                    refine li_iald dX12_sheet_119 (by decide) sh_176 (tl_in (by omega)) ?_
                    refine li_top (fun x47 ex47 => ?_)
                    have gx47 := tl_rg x47
                    try (have ox47 : (x33 : Int32).toInt % 51 = (x33 : Int32).toInt := by omega)
                    have lx47 : ((x33 : Int32).toInt % 51 = 20 → 0 ≤ x47.toInt ∧ x47.toInt ≤ 6) ∧ (21 ≤ (x33 : Int32).toInt % 51 → ((x33 : Int32).toInt % 51 - 21) % 5 < 2 → 0 ≤ x47.toInt ∧ x47.toInt ≤ 5) := hJ.ldLed (by unfold li_led; omega) ex47 (by omega)
                    refine li_iadd dX12_sheet_120 ?_
                    refine li_top (fun x48 ex48 => ?_)
                    try (have tx48 : x48.toInt = (x35 : Int32).toInt + (x47 : Int32).toInt := tl_add ex48 (by omega))
                    refine li_istore [(5, .int x48), (8, .int x41), (7, .int x33), (6, .int x34), (0, .ref (Z.2.2 175)), (1, .int p1), (2, .int p2), (3, .int p3), (4, .int p4)] dX12_sheet_121 (by decide) rfl ?_
                    refine li_iload 3 dX12_sheet_123 rfl ?_
                    refine li_iload 8 dX12_sheet_125 rfl ?_
                    refine li_iadd dX12_sheet_127 ?_
                    refine li_top (fun x49 ex49 => ?_)
                    try (have tx49 : x49.toInt = (x34 : Int32).toInt + (p4 : Int32).toInt := tl_add ex49 (by omega))
                    refine li_istore [(6, .int x49), (5, .int x48), (8, .int x41), (7, .int x33), (0, .ref (Z.2.2 175)), (1, .int p1), (2, .int p2), (3, .int p3), (4, .int p4)] dX12_sheet_128 (by decide) rfl ?_
                    obtain ⟨x50, ex50⟩ : ∃ y : Int32, y = x33 + 1 := ⟨_, rfl⟩
                    have z1 : (1 : Int32).toInt = 1 := rfl
                    try (have tx50 : x50.toInt = (x33 : Int32).toInt + (1 : Int32).toInt := tl_add ex50 (by omega))
                    refine li_iinc 3 [(7, .int x50), (6, .int x49), (5, .int x48), (8, .int x41), (0, .ref (Z.2.2 175)), (1, .int p1), (2, .int p2), (3, .int p3), (4, .int p4)] x50 dX12_sheet_130 rfl (by rw [ex50]; rfl) (by decide) rfl ?_
                    refine li_goto 43 dX12_sheet_133 (by decide) ?_
                    refine li_pick [0, 1, 2, 4, 5, 6, 7, 8] [(7, .int x50), (6, .int x49), (5, .int x48), (0, .ref (Z.2.2 175)), (1, .int p1), (2, .int p2), (3, .int p3), (4, .int p4)] rfl ?_
                    exact ih43 x50 x49 x48 M46 (by omega) hf hJ (by omega)
                  refine li_icmp_eq 94 dX12_sheet_85 (by decide) (fun c43 => ?_) (fun c43 => ?_)
                  · have tc43 : p1.toInt = 3 := tl_eq c43
                    refine li_iconst 0 dX12_sheet_94 (by decide) ?_
                    refine li_goto 110 dX12_sheet_95 (by decide) ?_
                    refine li_pick [0, 1, 2, 3, 4, 5, 6, 7, 8] [(8, .int x41), (7, .int x33), (6, .int x34), (5, .int x35), (0, .ref (Z.2.2 175)), (1, .int p1), (2, .int p2), (3, .int p3), (4, .int p4)] rfl ?_
                    have z0 : (0 : Int32).toInt = 0 := rfl
                    exact J110 0 M42 hf hJ
                  · have tc43 : ¬ p1.toInt = 3 := tl_ne c43
                    refine li_iload 1 dX12_sheet_88 rfl ?_
                    refine li_iload_n 6 dX12_sheet_90 rfl ?_
                    refine li_icmp_lt 98 dX12_sheet_91 (by decide) (fun c51 => ?_) (fun c51 => ?_)
                    · have tc51 : x33.toInt < p2.toInt := tl_lt c51
                      refine li_iconst 0 dX12_sheet_98 (by decide) ?_
                      refine li_sipush 9999 dX12_sheet_99 (by decide) ?_
                      refine li_iload 0 dX12_sheet_102 rfl ?_
                      refine li_mmin dX12_sheet_104 (by omega) w_1701 w_726 w_113 w_727 (Nat.le_of_ble_eq_true rfl) ?_
                      refine li_top (fun x52 ex52 => ?_)
                      have z9999 : (9999 : Int32).toInt = 9999 := rfl
                      have tx52 := tl_min2 ex52
                      refine li_mmax dX12_sheet_107 (by omega) w_1403 w_642 w_113 w_643 (Nat.le_of_ble_eq_true rfl) ?_
                      refine li_top (fun x53 ex53 => ?_)
                      have z0 : (0 : Int32).toInt = 0 := rfl
                      have tx53 := tl_max2 ex53
                      refine li_pick [0, 1, 2, 3, 4, 5, 6, 7, 8] [(8, .int x41), (7, .int x33), (6, .int x34), (5, .int x35), (0, .ref (Z.2.2 175)), (1, .int p1), (2, .int p2), (3, .int p3), (4, .int p4)] rfl ?_
                      exact J110 x53 M42 hf hJ
                    · have tc51 : p2.toInt ≤ x33.toInt := tl_nlt c51
                      refine li_iconst 0 dX12_sheet_94 (by decide) ?_
                      refine li_goto 110 dX12_sheet_95 (by decide) ?_
                      refine li_pick [0, 1, 2, 3, 4, 5, 6, 7, 8] [(8, .int x41), (7, .int x33), (6, .int x34), (5, .int x35), (0, .ref (Z.2.2 175)), (1, .int p1), (2, .int p2), (3, .int p3), (4, .int p4)] rfl ?_
                      have z0 : (0 : Int32).toInt = 0 := rfl
                      exact J110 0 M42 hf hJ
                refine li_if_ne 62 dX12_sheet_53 (by decide) (fun c40 => ?_) (fun c40 => ?_)
                · have tc40 : ¬ p1.toInt = 0 := tl_ne c40
                  refine li_iload_n 4 dX12_sheet_62 rfl ?_
                  refine li_iconst 1 dX12_sheet_63 (by decide) ?_
                  refine li_icmp_ne 73 dX12_sheet_64 (by decide) (fun c54 => ?_) (fun c54 => ?_)
                  · have tc54 : ¬ p1.toInt = 1 := tl_ne c54
                    refine li_iload 1 dX12_sheet_73 rfl ?_
                    refine li_pick [0, 1, 2, 3, 4, 5, 6, 7] [(7, .int x33), (6, .int x34), (5, .int x35), (0, .ref (Z.2.2 175)), (1, .int p1), (2, .int p2), (3, .int p3), (4, .int p4)] rfl ?_
                    exact J75 x34 M36 hf hJ
                  · have tc54 : p1.toInt = 1 := tl_eq c54
                    refine li_iload 1 dX12_sheet_67 rfl ?_
                    refine li_i2s dX12_sheet_69 ?_
                    refine li_top (fun x55 ex55 => ?_)
                    refine li_goto 75 dX12_sheet_70 (by decide) ?_
                    refine li_pick [0, 1, 2, 3, 4, 5, 6, 7] [(7, .int x33), (6, .int x34), (5, .int x35), (0, .ref (Z.2.2 175)), (1, .int p1), (2, .int p2), (3, .int p3), (4, .int p4)] rfl ?_
                    exact J75 x55 M36 hf hJ
                · have tc40 : p1.toInt = 0 := tl_eq c40
                  refine li_iload 1 dX12_sheet_56 rfl ?_
                  refine li_i2b dX12_sheet_58 ?_
                  refine li_top (fun x56 ex56 => ?_)
                  refine li_goto 75 dX12_sheet_59 (by decide) ?_
                  refine li_pick [0, 1, 2, 3, 4, 5, 6, 7] [(7, .int x33), (6, .int x34), (5, .int x35), (0, .ref (Z.2.2 175)), (1, .int p1), (2, .int p2), (3, .int p3), (4, .int p4)] rfl ?_
                  exact J75 x56 M36 hf hJ
          have z0 : (0 : Int32).toInt = 0 := rfl
          have z0 : (0 : Int32).toInt = 0 := rfl
          exact L43 _ 0 p3 0 M3 (Nat.lt_succ_self _) hf hJ (by omega)
        · have tc32 : p2.toInt < 0 := tl_nle c32
          refine li_bipush (-2) dX12_sheet_31 (by decide) ?_
          have zm2 : ((-2) : Int32).toInt = -2 := rfl
          exact li_iret dX12_sheet_33 rfl rfl ⟨⟨_, rfl⟩, hf, hJ⟩
    · have tc6 : 6 < p2.toInt := tl_nle c6
      refine li_iconst (-1) dX12_sheet_20 (by decide) ?_
      have zm1 : ((-1) : Int32).toInt = -1 := rfl
      exact li_iret dX12_sheet_21 rfl rfl ⟨⟨_, rfl⟩, hf, hJ⟩
  · skip
    refine li_if_eq 20 dX12_sheet_11 (by decide) (fun c => ?_) (fun c => absurd rfl c)
    refine li_iconst (-1) dX12_sheet_20 (by decide) ?_
    have zm1 : ((-1) : Int32).toInt = -1 := rfl
    exact li_iret dX12_sheet_21 rfl rfl ⟨⟨_, rfl⟩, hf, hJ⟩
set_option maxRecDepth 100000 in
set_option maxHeartbeats 4000000 in
theorem k_X12_cost {l : Launch} {Z : li_Z} (d : Nat) (hd : 341 ≤ d) (p1 p2 : Int32) (M0 : li_M) (hJ : li_J M0) : li_Met l Z YX12_cost d [.ref (Z.2.2 175), .int p1, .int p2] M0 (fun r M' => (∃ x : Int32, r = some (.int x)) ∧ li_fs (fun i k => i = 185 ∨ i = 1000 ∨ (i = 175 ∧ k = 10) ∨ (i = 175 ∧ k = 12) ∨ (i = 175 ∧ k = 13) ∨ (i = 175 ∧ k = 14) ∨ (i = 175 ∧ k = 15) ∨ (i = 175 ∧ k = 20)) M0 M' ∧ li_J M') := by
  refine li_enter (by decide +kernel) (Nat.le_of_ble_eq_true rfl) ?_
  show li_T l Z YX12_cost d 0 [(0, .ref (Z.2.2 175)), (1, .int p1), (2, .int p2)] [] M0 _
  have hf : li_fs (fun i k => i = 185 ∨ i = 1000 ∨ (i = 175 ∧ k = 10) ∨ (i = 175 ∧ k = 12) ∨ (i = 175 ∧ k = 13) ∨ (i = 175 ∧ k = 14) ∨ (i = 175 ∧ k = 15) ∨ (i = 175 ∧ k = 20)) M0 M0 := li_fs_refl
  have gp1 := tl_rg p1
  have gp2 := tl_rg p2
  have rM0_4 := J_sl4 (M := M0) hJ
  refine li_aload_n 0 dX12_cost_0 rfl ?_
  refine li_iconst 0 dX12_cost_1 (by decide) ?_
  refine li_puti (k := 10) (N := 52) (T := TX12) (C0 := RX12) dX12_cost_2 (by decide) sh_175 rfl rfl (by decide) li_in12 tyX12_ok nmX12 rfl rfl rfl rfl w_1414 ?_
  refine li_nm (fun M1 eM1 => ?_)
  have hf := li_fs_ui hf (Or.inr (Or.inr (Or.inl ⟨rfl, rfl⟩))) eM1
  have z0 : (0 : Int32).toInt = 0 := rfl
  have hJ := hJ.put (k := 10) (by decide) (rg_free rfl) eM1
  have rM1_4 := J_sl4 (M := M1) hJ
  have mM1_4 : (M1.1 175 4).toInt = (M0.1 175 4).toInt := by rw [eM1, li_ui_at, if_pos rfl, if_neg (by decide)]
  refine li_aload_n 0 dX12_cost_5 rfl ?_
  refine li_iload_n 1 dX12_cost_6 rfl ?_
  refine li_callV (n := 1) (As := [.int p1]) dX12_cost_7 (k_X12_isThing (d - 1) (by omega) p1 M1 hJ ) (by omega) (Nat.le_of_ble_eq_true rfl) w_1664 w_1666 w_59 w_112 w_1667 (by decide +kernel) rfl (by decide) sh_175 rfl rfl (Nat.le_of_ble_eq_true rfl) (fun r M3 h4 => ?_)
  obtain ⟨qx2, h4, jM3⟩ := h4
  have hf := li_fs_trans hf h4 (fun i k h => False.elim h)
  have hJ := jM3
  have rM3_4 := J_sl4 (M := M3) hJ
  have mM3_4 : (M3.1 175 4).toInt = (M1.1 175 4).toInt := tl_slot (h4.1 175 4 id)
  rcases qx2 with ⟨rfl, qx2⟩ | ⟨rfl, qx2⟩
  · skip
    refine li_if_eq 22 dX12_cost_10 (by decide) (fun c => absurd c (by decide)) (fun c => ?_)
    refine li_iload_n 2 dX12_cost_13 rfl ?_
    refine li_iconst 0 dX12_cost_14 (by decide) ?_
    refine li_iconst 3 dX12_cost_15 (by decide) ?_
    have z0 : (0 : Int32).toInt = 0 := rfl
    have z3 : (3 : Int32).toInt = 3 := rfl
    refine li_callS (n := 3) (As := [.int p2, .int 0, .int 3]) dX12_cost_16 (k_X12_in (d - 1) (by omega) p2 0 3 M3 hJ ) (by omega) (Nat.le_of_ble_eq_true rfl) w_1570 w_1571 w_112 w_1572 (by decide +kernel) rfl rfl (Nat.le_of_ble_eq_true rfl) (fun r M7 h8 => ?_)
    obtain ⟨qx6, h8, jM7⟩ := h8
    have hf := li_fs_trans hf h8 (fun i k h => False.elim h)
    have hJ := jM7
    have rM7_4 := J_sl4 (M := M7) hJ
    have mM7_4 : (M7.1 175 4).toInt = (M3.1 175 4).toInt := tl_slot (h8.1 175 4 id)
    rcases qx6 with ⟨rfl, qx6⟩ | ⟨rfl, qx6⟩
    · skip
      refine li_if_ne 24 dX12_cost_19 (by decide) (fun c => ?_) (fun c => absurd c (by decide))
      refine li_aload_n 0 dX12_cost_24 rfl ?_
      refine li_iload_n 1 dX12_cost_25 rfl ?_
      refine li_iload_n 2 dX12_cost_26 rfl ?_
      refine li_callV (n := 2) (As := [.int p1, .int p2]) dX12_cost_27 (k_X12_isHeard (d - 1) (by omega) p1 p2 M7 hJ (by omega)) (by omega) (Nat.le_of_ble_eq_true rfl) w_1718 w_1720 w_67 w_112 w_1721 (by decide +kernel) rfl (by decide) sh_175 rfl rfl (Nat.le_of_ble_eq_true rfl) (fun r M11 h12 => ?_)
      obtain ⟨qx10, h12, jM11⟩ := h12
      have hf := li_fs_trans hf h12 (fun i k h => False.elim h)
      have hJ := jM11
      have rM11_4 := J_sl4 (M := M11) hJ
      have mM11_4 : (M11.1 175 4).toInt = (M7.1 175 4).toInt := tl_slot (h12.1 175 4 id)
      rcases qx10 with ⟨rfl, qx10⟩ | ⟨rfl, qx10⟩
      · skip
        refine li_if_eq 46 dX12_cost_30 (by decide) (fun c => absurd c (by decide)) (fun c => ?_)
        refine li_aload_n 0 dX12_cost_33 rfl ?_
        refine li_aload_n 0 dX12_cost_34 rfl ?_
        refine li_getr (k := 0) (N := 52) (T := TX12) (C0 := RX12) dX12_cost_35 (by decide) sh_175 rfl rfl (by decide) (by decide) li_in12 w_1404 ?_
        refine li_iload_n 1 dX12_cost_38 rfl ?_
        refine li_iload_n 2 dX12_cost_39 rfl ?_
        refine li_callV (n := 3) (As := [.ref (Z.2.2 176), .int p1, .int p2]) dX12_cost_40 (k_X12_costOfThing (d - 1) (by omega) la_176 p1 p2 M11 hJ (by omega)) (by omega) (Nat.le_of_ble_eq_true rfl) w_1722 w_1724 w_68 w_112 w_1725 (by decide +kernel) rfl (by decide) sh_175 rfl rfl (Nat.le_of_ble_eq_true rfl) (fun r M15 h16 => ?_)
        obtain ⟨⟨x14, rfl, qx14⟩, h16, jM15⟩ := h16
        have gx14 := tl_rg x14
        have hf := li_fs_trans hf h16 (fun i k => fun h => Or.elim h (fun h => Or.inl h) (fun h => Or.elim h (fun h => Or.inr (Or.inl h)) (fun h => Or.elim h (fun h => Or.inr (Or.inr (Or.inr (Or.inl h)))) (fun h => Or.elim h (fun h => Or.inr (Or.inr (Or.inr (Or.inr (Or.inl h))))) (fun h => Or.elim h (fun h => Or.inr (Or.inr (Or.inr (Or.inr (Or.inr (Or.inl h)))))) (fun h => Or.elim h (fun h => Or.inr (Or.inr (Or.inr (Or.inr (Or.inr (Or.inr (Or.inl h))))))) (fun h => Or.inr (Or.inr (Or.inr (Or.inr (Or.inr (Or.inr (Or.inr h)))))))))))))
        have hJ := jM15
        have rM15_4 := J_sl4 (M := M15) hJ
        have mM15_4 : (M15.1 175 4).toInt = (M11.1 175 4).toInt := tl_slot (h16.1 175 4 (show ¬ (175 = 185 ∨ 175 = 1000 ∨ (175 = 175 ∧ 4 = 12) ∨ (175 = 175 ∧ 4 = 13) ∨ (175 = 175 ∧ 4 = 14) ∨ (175 = 175 ∧ 4 = 15) ∨ (175 = 175 ∧ 4 = 20)) by decide))
        refine li_goto 48 dX12_cost_43 (by decide) ?_
        exact li_iret dX12_cost_48 rfl rfl ⟨⟨_, rfl⟩, hf, hJ⟩
      · skip
        refine li_if_eq 46 dX12_cost_30 (by decide) (fun c => ?_) (fun c => absurd rfl c)
        refine li_bipush (-2) dX12_cost_46 (by decide) ?_
        have zm2 : ((-2) : Int32).toInt = -2 := rfl
        exact li_iret dX12_cost_48 rfl rfl ⟨⟨_, rfl⟩, hf, hJ⟩
    · skip
      refine li_if_ne 24 dX12_cost_19 (by decide) (fun c => absurd rfl c) (fun c => ?_)
      refine li_iconst (-1) dX12_cost_22 (by decide) ?_
      have zm1 : ((-1) : Int32).toInt = -1 := rfl
      exact li_iret dX12_cost_23 rfl rfl ⟨⟨_, rfl⟩, hf, hJ⟩
  · skip
    refine li_if_eq 22 dX12_cost_10 (by decide) (fun c => ?_) (fun c => absurd rfl c)
    refine li_iconst (-1) dX12_cost_22 (by decide) ?_
    have zm1 : ((-1) : Int32).toInt = -1 := rfl
    exact li_iret dX12_cost_23 rfl rfl ⟨⟨_, rfl⟩, hf, hJ⟩
