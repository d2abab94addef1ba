theorem w_88 : (Jvm.Cond.selects "ClockForTalkModel" ({ cls := "ClockForTalkModel", name := "goRelay", desc := "(IIIIII)V" } : Jvm.MethodName) ({ cls := "ClockForTalkModel", name := "goRelay", desc := "(IIIIII)V" } : Jvm.MethodName)) ∈ li_ws := li_mem 88 (by decide +kernel) (by decide +kernel)
theorem w_89 : (Jvm.Cond.selects "ClockForTalkModel" ({ cls := "ClockForTalkModel", name := "isBefore", desc := "(I)Z" } : Jvm.MethodName) ({ cls := "ClockForTalkModel", name := "isBefore", desc := "(I)Z" } : Jvm.MethodName)) ∈ li_ws := li_mem 89 (by decide +kernel) (by decide +kernel)
theorem w_1437 : (Jvm.Cond.fieldLink "ClockForTalkModel" (348 : Nat) "ClockForTalkModel" "cheapest" "I") ∈ li_ws := li_mem 1437 (by decide +kernel) (by decide +kernel)
theorem w_1859 : (Jvm.Cond.constant "ClockForTalkModel" (358 : Nat) (1000000 : Int32)) ∈ li_ws := li_mem 1859 (by decide +kernel) (by decide +kernel)
theorem w_1860 : (Jvm.Cond.methodLink "ClockForTalkModel" (354 : Nat) ({ cls := "ClockForTalkModel", name := "goRelay", desc := "(IIIIII)V" } : Jvm.MethodName)) ∈ li_ws := li_mem 1860 (by decide +kernel) (by decide +kernel)
theorem w_1862 : (Jvm.Cond.instanceMethod ({ cls := "ClockForTalkModel", name := "goRelay", desc := "(IIIIII)V" } : Jvm.MethodName)) ∈ li_ws := li_mem 1862 (by decide +kernel) (by decide +kernel)
theorem w_1863 : (Jvm.Cond.code ({ cls := "ClockForTalkModel", name := "goRelay", desc := "(IIIIII)V" } : Jvm.MethodName) prog_13_method_78_code (9 : Nat) (Option.none : Option Jvm.ClassFile.FieldType)) ∈ li_ws := li_mem 1863 (by decide +kernel) (by decide +kernel)
theorem w_1864 : (Jvm.Cond.methodLink "ClockForTalkModel" (351 : Nat) ({ cls := "ClockForTalkModel", name := "isBefore", desc := "(I)Z" } : Jvm.MethodName)) ∈ li_ws := li_mem 1864 (by decide +kernel) (by decide +kernel)
theorem w_1866 : (Jvm.Cond.instanceMethod ({ cls := "ClockForTalkModel", name := "isBefore", desc := "(I)Z" } : Jvm.MethodName)) ∈ li_ws := li_mem 1866 (by decide +kernel) (by decide +kernel)
theorem w_1867 : (Jvm.Cond.code ({ cls := "ClockForTalkModel", name := "isBefore", desc := "(I)Z" } : Jvm.MethodName) prog_13_method_77_code (3 : Nat) (Option.some Jvm.ClassFile.FieldType.boolean)) ∈ li_ws := li_mem 1867 (by decide +kernel) (by decide +kernel)
theorem dX12_goRelay_0 : decode cX12_goRelay 0 = .ok (.aload_n 0, 1) := by decide +kernel
theorem dX12_goRelay_1 : decode cX12_goRelay 1 = .ok (.getfield 53, 3) := by decide +kernel
theorem dX12_goRelay_4 : decode cX12_goRelay 4 = .ok (.iload 4, 2) := by decide +kernel
theorem dX12_goRelay_6 : decode cX12_goRelay 6 = .ok (.iload_n 1, 1) := by decide +kernel
theorem dX12_goRelay_7 : decode cX12_goRelay 7 = .ok (.iastore, 1) := by decide +kernel
theorem dX12_goRelay_8 : decode cX12_goRelay 8 = .ok (.iload_n 1, 1) := by decide +kernel
theorem dX12_goRelay_9 : decode cX12_goRelay 9 = .ok (.iload_n 2, 1) := by decide +kernel
theorem dX12_goRelay_10 : decode cX12_goRelay 10 = .ok (.if_icmp .ne 78, 3) := by decide +kernel
theorem dX12_goRelay_13 : decode cX12_goRelay 13 = .ok (.iload 6, 2) := by decide +kernel
theorem dX12_goRelay_15 : decode cX12_goRelay 15 = .ok (.aload_n 0, 1) := by decide +kernel
theorem dX12_goRelay_16 : decode cX12_goRelay 16 = .ok (.getfield 348, 3) := by decide +kernel
theorem dX12_goRelay_19 : decode cX12_goRelay 19 = .ok (.if_icmp .gt 23, 3) := by decide +kernel
theorem dX12_goRelay_22 : decode cX12_goRelay 22 = .ok (.iload 6, 2) := by decide +kernel
theorem dX12_goRelay_24 : decode cX12_goRelay 24 = .ok (.aload_n 0, 1) := by decide +kernel
theorem dX12_goRelay_25 : decode cX12_goRelay 25 = .ok (.getfield 348, 3) := by decide +kernel
theorem dX12_goRelay_28 : decode cX12_goRelay 28 = .ok (.if_icmp .ne 15, 3) := by decide +kernel
theorem dX12_goRelay_31 : decode cX12_goRelay 31 = .ok (.aload_n 0, 1) := by decide +kernel
theorem dX12_goRelay_32 : decode cX12_goRelay 32 = .ok (.iload 4, 2) := by decide +kernel
theorem dX12_goRelay_34 : decode cX12_goRelay 34 = .ok (.iconst 1, 1) := by decide +kernel
theorem dX12_goRelay_35 : decode cX12_goRelay 35 = .ok (.iadd, 1) := by decide +kernel
theorem dX12_goRelay_36 : decode cX12_goRelay 36 = .ok (.invokevirtual 351, 3) := by decide +kernel
theorem dX12_goRelay_39 : decode cX12_goRelay 39 = .ok (.ifCond .ne 4, 3) := by decide +kernel
theorem dX12_goRelay_42 : decode cX12_goRelay 42 = .ok (.return_, 1) := by decide +kernel
theorem dX12_goRelay_43 : decode cX12_goRelay 43 = .ok (.aload_n 0, 1) := by decide +kernel
theorem dX12_goRelay_44 : decode cX12_goRelay 44 = .ok (.iload 6, 2) := by decide +kernel
theorem dX12_goRelay_46 : decode cX12_goRelay 46 = .ok (.putfield 348, 3) := by decide +kernel
theorem dX12_goRelay_49 : decode cX12_goRelay 49 = .ok (.aload_n 0, 1) := by decide +kernel
theorem dX12_goRelay_50 : decode cX12_goRelay 50 = .ok (.iload 4, 2) := by decide +kernel
theorem dX12_goRelay_52 : decode cX12_goRelay 52 = .ok (.iconst 1, 1) := by decide +kernel
theorem dX12_goRelay_53 : decode cX12_goRelay 53 = .ok (.iadd, 1) := by decide +kernel
theorem dX12_goRelay_54 : decode cX12_goRelay 54 = .ok (.putfield 345, 3) := by decide +kernel
theorem dX12_goRelay_57 : decode cX12_goRelay 57 = .ok (.iconst 0, 1) := by decide +kernel
theorem dX12_goRelay_58 : decode cX12_goRelay 58 = .ok (.istore 7, 2) := by decide +kernel
theorem dX12_goRelay_60 : decode cX12_goRelay 60 = .ok (.iload 7, 2) := by decide +kernel
theorem dX12_goRelay_62 : decode cX12_goRelay 62 = .ok (.iload 4, 2) := by decide +kernel
theorem dX12_goRelay_64 : decode cX12_goRelay 64 = .ok (.if_icmp .gt 23, 3) := by decide +kernel
theorem dX12_goRelay_67 : decode cX12_goRelay 67 = .ok (.aload_n 0, 1) := by decide +kernel
theorem dX12_goRelay_68 : decode cX12_goRelay 68 = .ok (.getfield 56, 3) := by decide +kernel
theorem dX12_goRelay_71 : decode cX12_goRelay 71 = .ok (.iload 7, 2) := by decide +kernel
theorem dX12_goRelay_73 : decode cX12_goRelay 73 = .ok (.aload_n 0, 1) := by decide +kernel
theorem dX12_goRelay_74 : decode cX12_goRelay 74 = .ok (.getfield 53, 3) := by decide +kernel
theorem dX12_goRelay_77 : decode cX12_goRelay 77 = .ok (.iload 7, 2) := by decide +kernel
theorem dX12_goRelay_79 : decode cX12_goRelay 79 = .ok (.iaload, 1) := by decide +kernel
theorem dX12_goRelay_80 : decode cX12_goRelay 80 = .ok (.iastore, 1) := by decide +kernel
theorem dX12_goRelay_81 : decode cX12_goRelay 81 = .ok (.iinc 7 1, 3) := by decide +kernel
theorem dX12_goRelay_84 : decode cX12_goRelay 84 = .ok (.goto (-24), 3) := by decide +kernel
theorem dX12_goRelay_87 : decode cX12_goRelay 87 = .ok (.return_, 1) := by decide +kernel
theorem dX12_goRelay_88 : decode cX12_goRelay 88 = .ok (.iconst 0, 1) := by decide +kernel
theorem dX12_goRelay_89 : decode cX12_goRelay 89 = .ok (.istore 7, 2) := by decide +kernel
theorem dX12_goRelay_91 : decode cX12_goRelay 91 = .ok (.iload 7, 2) := by decide +kernel
theorem dX12_goRelay_93 : decode cX12_goRelay 93 = .ok (.aload_n 0, 1) := by decide +kernel
theorem dX12_goRelay_94 : decode cX12_goRelay 94 = .ok (.getfield 110, 3) := by decide +kernel
theorem dX12_goRelay_97 : decode cX12_goRelay 97 = .ok (.if_icmp .ge 83, 3) := by decide +kernel
theorem dX12_goRelay_100 : decode cX12_goRelay 100 = .ok (.iload 5, 2) := by decide +kernel
theorem dX12_goRelay_102 : decode cX12_goRelay 102 = .ok (.iload 7, 2) := by decide +kernel
theorem dX12_goRelay_104 : decode cX12_goRelay 104 = .ok (.invokestatic 251, 3) := by decide +kernel
theorem dX12_goRelay_107 : decode cX12_goRelay 107 = .ok (.ifCond .eq 6, 3) := by decide +kernel
theorem dX12_goRelay_110 : decode cX12_goRelay 110 = .ok (.goto 64, 3) := by decide +kernel
theorem dX12_goRelay_113 : decode cX12_goRelay 113 = .ok (.aload_n 0, 1) := by decide +kernel
theorem dX12_goRelay_114 : decode cX12_goRelay 114 = .ok (.aload_n 0, 1) := by decide +kernel
theorem dX12_goRelay_115 : decode cX12_goRelay 115 = .ok (.getfield 9, 3) := by decide +kernel
theorem dX12_goRelay_118 : decode cX12_goRelay 118 = .ok (.iload_n 1, 1) := by decide +kernel
theorem dX12_goRelay_119 : decode cX12_goRelay 119 = .ok (.iload 7, 2) := by decide +kernel
theorem dX12_goRelay_121 : decode cX12_goRelay 121 = .ok (.iload_n 3, 1) := by decide +kernel
theorem dX12_goRelay_122 : decode cX12_goRelay 122 = .ok (.aload_n 0, 1) := by decide +kernel
theorem dX12_goRelay_123 : decode cX12_goRelay 123 = .ok (.aload_n 0, 1) := by decide +kernel
theorem dX12_goRelay_124 : decode cX12_goRelay 124 = .ok (.getfield 9, 3) := by decide +kernel
theorem dX12_goRelay_127 : decode cX12_goRelay 127 = .ok (.iload_n 1, 1) := by decide +kernel
theorem dX12_goRelay_128 : decode cX12_goRelay 128 = .ok (.iload 7, 2) := by decide +kernel
theorem dX12_goRelay_130 : decode cX12_goRelay 130 = .ok (.iload_n 3, 1) := by decide +kernel
theorem dX12_goRelay_131 : decode cX12_goRelay 131 = .ok (.invokevirtual 239, 3) := by decide +kernel
theorem dX12_goRelay_134 : decode cX12_goRelay 134 = .ok (.invokevirtual 235, 3) := by decide +kernel
theorem dX12_goRelay_137 : decode cX12_goRelay 137 = .ok (.istore 8, 2) := by decide +kernel
theorem dX12_goRelay_139 : decode cX12_goRelay 139 = .ok (.iload 8, 2) := by decide +kernel
theorem dX12_goRelay_141 : decode cX12_goRelay 141 = .ok (.aload_n 0, 1) := by decide +kernel
theorem dX12_goRelay_142 : decode cX12_goRelay 142 = .ok (.getfield 9, 3) := by decide +kernel
theorem dX12_goRelay_145 : decode cX12_goRelay 145 = .ok (.iload_n 1, 1) := by decide +kernel
theorem dX12_goRelay_146 : decode cX12_goRelay 146 = .ok (.iaload, 1) := by decide +kernel
theorem dX12_goRelay_147 : decode cX12_goRelay 147 = .ok (.if_icmp .gt 27, 3) := by decide +kernel
theorem dX12_goRelay_150 : decode cX12_goRelay 150 = .ok (.aload_n 0, 1) := by decide +kernel
theorem dX12_goRelay_151 : decode cX12_goRelay 151 = .ok (.iload 7, 2) := by decide +kernel
theorem dX12_goRelay_153 : decode cX12_goRelay 153 = .ok (.iload_n 2, 1) := by decide +kernel
theorem dX12_goRelay_154 : decode cX12_goRelay 154 = .ok (.iload_n 3, 1) := by decide +kernel
theorem dX12_goRelay_155 : decode cX12_goRelay 155 = .ok (.iload 4, 2) := by decide +kernel
theorem dX12_goRelay_157 : decode cX12_goRelay 157 = .ok (.iconst 1, 1) := by decide +kernel
theorem dX12_goRelay_158 : decode cX12_goRelay 158 = .ok (.iadd, 1) := by decide +kernel
theorem dX12_goRelay_159 : decode cX12_goRelay 159 = .ok (.iload 5, 2) := by decide +kernel
theorem dX12_goRelay_161 : decode cX12_goRelay 161 = .ok (.iconst 1, 1) := by decide +kernel
theorem dX12_goRelay_162 : decode cX12_goRelay 162 = .ok (.iload 7, 2) := by decide +kernel
theorem dX12_goRelay_164 : decode cX12_goRelay 164 = .ok (.ishl, 1) := by decide +kernel
theorem dX12_goRelay_165 : decode cX12_goRelay 165 = .ok (.ior, 1) := by decide +kernel
theorem dX12_goRelay_166 : decode cX12_goRelay 166 = .ok (.iload 6, 2) := by decide +kernel
theorem dX12_goRelay_168 : decode cX12_goRelay 168 = .ok (.iload 8, 2) := by decide +kernel
theorem dX12_goRelay_170 : decode cX12_goRelay 170 = .ok (.iadd, 1) := by decide +kernel
theorem dX12_goRelay_171 : decode cX12_goRelay 171 = .ok (.invokevirtual 354, 3) := by decide +kernel
theorem dX12_goRelay_174 : decode cX12_goRelay 174 = .ok (.iinc 7 1, 3) := by decide +kernel
theorem dX12_goRelay_177 : decode cX12_goRelay 177 = .ok (.goto (-86), 3) := by decide +kernel
theorem dX12_goRelay_180 : decode cX12_goRelay 180 = .ok (.return_, 1) := by decide +kernel
abbrev YX12_goRelay : li_Y := (yX12_goRelay, cX12_goRelay, 9, none)
theorem dX12_relay_0 : decode cX12_relay 0 = .ok (.aload_n 0, 1) := by decide +kernel
theorem dX12_relay_1 : decode cX12_relay 1 = .ok (.iconst 0, 1) := by decide +kernel
theorem dX12_relay_2 : decode cX12_relay 2 = .ok (.putfield 103, 3) := by decide +kernel
theorem dX12_relay_5 : decode cX12_relay 5 = .ok (.aload_n 0, 1) := by decide +kernel
theorem dX12_relay_6 : decode cX12_relay 6 = .ok (.iload_n 1, 1) := by decide +kernel
theorem dX12_relay_7 : decode cX12_relay 7 = .ok (.invokevirtual 117, 3) := by decide +kernel
theorem dX12_relay_10 : decode cX12_relay 10 = .ok (.ifCond .eq 21, 3) := by decide +kernel
theorem dX12_relay_13 : decode cX12_relay 13 = .ok (.aload_n 0, 1) := by decide +kernel
theorem dX12_relay_14 : decode cX12_relay 14 = .ok (.iload_n 2, 1) := by decide +kernel
theorem dX12_relay_15 : decode cX12_relay 15 = .ok (.invokevirtual 117, 3) := by decide +kernel
theorem dX12_relay_18 : decode cX12_relay 18 = .ok (.ifCond .eq 13, 3) := by decide +kernel
theorem dX12_relay_21 : decode cX12_relay 21 = .ok (.iload_n 3, 1) := by decide +kernel
theorem dX12_relay_22 : decode cX12_relay 22 = .ok (.iconst 1, 1) := by decide +kernel
theorem dX12_relay_23 : decode cX12_relay 23 = .ok (.bipush 99, 2) := by decide +kernel
theorem dX12_relay_25 : decode cX12_relay 25 = .ok (.invokestatic 113, 3) := by decide +kernel
theorem dX12_relay_28 : decode cX12_relay 28 = .ok (.ifCond .ne 5, 3) := by decide +kernel
theorem dX12_relay_31 : decode cX12_relay 31 = .ok (.iconst (-1), 1) := by decide +kernel
theorem dX12_relay_32 : decode cX12_relay 32 = .ok (.ireturn, 1) := by decide +kernel
theorem dX12_relay_33 : decode cX12_relay 33 = .ok (.aload_n 0, 1) := by decide +kernel
theorem dX12_relay_34 : decode cX12_relay 34 = .ok (.ldc_w 358, 3) := by decide +kernel
theorem dX12_relay_37 : decode cX12_relay 37 = .ok (.putfield 348, 3) := by decide +kernel
theorem dX12_relay_40 : decode cX12_relay 40 = .ok (.aload_n 0, 1) := by decide +kernel
theorem dX12_relay_41 : decode cX12_relay 41 = .ok (.iconst 0, 1) := by decide +kernel
theorem dX12_relay_42 : decode cX12_relay 42 = .ok (.putfield 345, 3) := by decide +kernel
theorem dX12_relay_45 : decode cX12_relay 45 = .ok (.aload_n 0, 1) := by decide +kernel
theorem dX12_relay_46 : decode cX12_relay 46 = .ok (.iload_n 1, 1) := by decide +kernel
theorem dX12_relay_47 : decode cX12_relay 47 = .ok (.iload_n 2, 1) := by decide +kernel
theorem dX12_relay_48 : decode cX12_relay 48 = .ok (.iload_n 3, 1) := by decide +kernel
theorem dX12_relay_49 : decode cX12_relay 49 = .ok (.iconst 0, 1) := by decide +kernel
theorem dX12_relay_50 : decode cX12_relay 50 = .ok (.iconst 1, 1) := by decide +kernel
theorem dX12_relay_51 : decode cX12_relay 51 = .ok (.iload_n 1, 1) := by decide +kernel
theorem dX12_relay_52 : decode cX12_relay 52 = .ok (.ishl, 1) := by decide +kernel
theorem dX12_relay_53 : decode cX12_relay 53 = .ok (.iconst 0, 1) := by decide +kernel
theorem dX12_relay_54 : decode cX12_relay 54 = .ok (.invokevirtual 354, 3) := by decide +kernel
theorem dX12_relay_57 : decode cX12_relay 57 = .ok (.aload_n 0, 1) := by decide +kernel
theorem dX12_relay_58 : decode cX12_relay 58 = .ok (.getfield 348, 3) := by decide +kernel
theorem dX12_relay_61 : decode cX12_relay 61 = .ok (.ldc_w 358, 3) := by decide +kernel
theorem dX12_relay_64 : decode cX12_relay 64 = .ok (.if_icmp .ne 6, 3) := by decide +kernel
theorem dX12_relay_67 : decode cX12_relay 67 = .ok (.bipush (-2), 2) := by decide +kernel
theorem dX12_relay_69 : decode cX12_relay 69 = .ok (.ireturn, 1) := by decide +kernel
theorem dX12_relay_70 : decode cX12_relay 70 = .ok (.aload_n 0, 1) := by decide +kernel
theorem dX12_relay_71 : decode cX12_relay 71 = .ok (.iconst 0, 1) := by decide +kernel
theorem dX12_relay_72 : decode cX12_relay 72 = .ok (.putfield 107, 3) := by decide +kernel
theorem dX12_relay_75 : decode cX12_relay 75 = .ok (.iconst 0, 1) := by decide +kernel
theorem dX12_relay_76 : decode cX12_relay 76 = .ok (.istore 4, 2) := by decide +kernel
theorem dX12_relay_78 : decode cX12_relay 78 = .ok (.iload 4, 2) := by decide +kernel
theorem dX12_relay_80 : decode cX12_relay 80 = .ok (.aload_n 0, 1) := by decide +kernel
theorem dX12_relay_81 : decode cX12_relay 81 = .ok (.getfield 345, 3) := by decide +kernel
theorem dX12_relay_84 : decode cX12_relay 84 = .ok (.if_icmp .ge 20, 3) := by decide +kernel
theorem dX12_relay_87 : decode cX12_relay 87 = .ok (.aload_n 0, 1) := by decide +kernel
theorem dX12_relay_88 : decode cX12_relay 88 = .ok (.aload_n 0, 1) := by decide +kernel
theorem dX12_relay_89 : decode cX12_relay 89 = .ok (.getfield 56, 3) := by decide +kernel
theorem dX12_relay_92 : decode cX12_relay 92 = .ok (.iload 4, 2) := by decide +kernel
theorem dX12_relay_94 : decode cX12_relay 94 = .ok (.iaload, 1) := by decide +kernel
theorem dX12_relay_95 : decode cX12_relay 95 = .ok (.invokevirtual 308, 3) := by decide +kernel
theorem dX12_relay_98 : decode cX12_relay 98 = .ok (.iinc 4 1, 3) := by decide +kernel
theorem dX12_relay_101 : decode cX12_relay 101 = .ok (.goto (-23), 3) := by decide +kernel
theorem dX12_relay_104 : decode cX12_relay 104 = .ok (.aload_n 0, 1) := by decide +kernel
theorem dX12_relay_105 : decode cX12_relay 105 = .ok (.getfield 348, 3) := by decide +kernel
theorem dX12_relay_108 : decode cX12_relay 108 = .ok (.ireturn, 1) := by decide +kernel
abbrev YX12_relay : li_Y := (yX12_relay, cX12_relay, 5, (some .int))
set_option maxRecDepth 100000 in
set_option maxHeartbeats 4000000 in
theorem k_X12_hasB {l : Launch} {Z : li_Z} (d : Nat) (hd : 1 ≤ d) (p1 p2 : Int32) (M0 : li_M) (hJ : li_J M0) (h1 : 0 ≤ p2.toInt ∧ p2.toInt ≤ 31) : li_Met l Z YX12_has d [.int p1, .int p2] M0 (fun r M' => ((r = some (.int 1) ∧ lb_bit p1 p2.toInt.toNat = true) ∨ (r = some (.int 0) ∧ ¬ lb_bit p1 p2.toInt.toNat = true)) ∧ li_fs (fun i k => False) M0 M' ∧ li_J M') := by
  refine li_enter (by decide +kernel) (Nat.le_of_ble_eq_true rfl) ?_
  show li_T l Z YX12_has d 0 [(0, .int p1), (1, .int p2)] [] M0 _
  have hf : li_fs (fun i k => False) M0 M0 := li_fs_refl
  have gp1 := tl_rg p1
  have gp2 := tl_rg p2
  refine li_iload_n 0 dX12_has_0 rfl ?_
  refine li_iload_n 1 dX12_has_1 rfl ?_
  refine li_ishr dX12_has_2 ?_
  refine li_top (fun x1 ex1 => ?_)
  refine li_iconst 1 dX12_has_3 (by decide) ?_
  refine li_iand dX12_has_4 ?_
  refine li_top (fun x2 ex2 => ?_)
  have z1 : (1 : Int32).toInt = 1 := rfl
  have tx2 := tl_and1 ex2
  refine li_iconst 1 dX12_has_5 (by decide) ?_
  refine li_icmp_ne 13 dX12_has_6 (by decide) (fun c3 => ?_) (fun c3 => ?_)
  · have tc3 : ¬ x2.toInt = 1 := tl_ne c3
    refine li_iconst 0 dX12_has_13 (by decide) ?_
    have z0 : (0 : Int32).toInt = 0 := rfl
    exact li_iret dX12_has_14 rfl (li_nz (Or.inl rfl)) ⟨Or.inr ⟨rfl, by first | exact lb_has (by omega) ex1 ex2 c3 | exact lb_hasnt (by omega) ex1 ex2 c3⟩, hf, hJ⟩
  · have tc3 : x2.toInt = 1 := tl_eq c3
    refine li_iconst 1 dX12_has_9 (by decide) ?_
    refine li_goto 14 dX12_has_10 (by decide) ?_
    have z1 : (1 : Int32).toInt = 1 := rfl
    exact li_iret dX12_has_14 rfl (li_nz (Or.inr rfl)) ⟨Or.inl ⟨rfl, by first | exact lb_has (by omega) ex1 ex2 c3 | exact lb_hasnt (by omega) ex1 ex2 c3⟩, hf, hJ⟩
set_option maxRecDepth 100000 in
set_option maxHeartbeats 4000000 in
theorem k_X12_goRelay {l : Launch} {Z : li_Z} (d : Nat) (hd : 341 ≤ d) (p1 p2 p3 p4 p5 p6 : Int32) (dE : Nat) (IH : ∀ (q1 q2 q3 q4 q5 q6 : Int32) (M : li_M), li_J M → (0 ≤ q1.toInt ∧ q1.toInt ≤ 5) → q4.toInt = p4.toInt + 1 → (lb_pc q5 : Int) = q4.toInt + 1 → li_Met l Z YX12_goRelay dE [.ref (Z.2.2 175), .int q1, .int q2, .int q3, .int q4, .int q5, .int q6] M (fun r M' => r = none ∧ li_fs (fun i k => i = 185 ∨ i = 190 ∨ i = 191 ∨ i = 1000 ∨ (i = 175 ∧ k = 12) ∨ (i = 175 ∧ k = 13) ∨ (i = 175 ∧ k = 14) ∨ (i = 175 ∧ k = 15) ∨ (i = 175 ∧ k = 20) ∨ (i = 175 ∧ k = 32) ∨ (i = 175 ∧ k = 33)) M M' ∧ li_J M')) (hE : dE + 1 ≤ d) (M0 : li_M) (hJ : li_J M0) (h1 : 0 ≤ p1.toInt ∧ p1.toInt ≤ 5) (h4 : 0 ≤ p4.toInt ∧ p4.toInt ≤ 5) (h5 : (lb_pc p5 : Int) = p4.toInt + 1) : li_Met l Z YX12_goRelay d [.ref (Z.2.2 175), .int p1, .int p2, .int p3, .int p4, .int p5, .int p6] M0 (fun r M' => r = none ∧ li_fs (fun i k => i = 185 ∨ i = 190 ∨ i = 191 ∨ i = 1000 ∨ (i = 175 ∧ k = 12) ∨ (i = 175 ∧ k = 13) ∨ (i = 175 ∧ k = 14) ∨ (i = 175 ∧ k = 15) ∨ (i = 175 ∧ k = 20) ∨ (i = 175 ∧ k = 32) ∨ (i = 175 ∧ k = 33)) M0 M' ∧ li_J M') := by
  refine li_enter (by decide +kernel) (Nat.le_of_ble_eq_true rfl) ?_
  show li_T l Z YX12_goRelay d 0 [(0, .ref (Z.2.2 175)), (1, .int p1), (2, .int p2), (3, .int p3), (4, .int p4), (5, .int p5), (6, .int p6)] [] M0 _
  have hf : li_fs (fun i k => i = 185 ∨ i = 190 ∨ i = 191 ∨ i = 1000 ∨ (i = 175 ∧ k = 12) ∨ (i = 175 ∧ k = 13) ∨ (i = 175 ∧ k = 14) ∨ (i = 175 ∧ k = 15) ∨ (i = 175 ∧ k = 20) ∨ (i = 175 ∧ k = 32) ∨ (i = 175 ∧ k = 33)) M0 M0 := li_fs_refl
  have gp1 := tl_rg p1
  have gp2 := tl_rg p2
  have gp3 := tl_rg p3
  have gp4 := tl_rg p4
  have gp5 := tl_rg p5
  have gp6 := tl_rg p6
  have rM0_1 := J_sl1 (M := M0) hJ
  have rM0_32 := J_sl32 (M := M0) hJ
  refine li_aload_n 0 dX12_goRelay_0 rfl ?_
  refine li_getr (k := 30) (N := 52) (T := TX12) (C0 := RX12) dX12_goRelay_1 (by decide) sh_175 rfl rfl (by decide) (by decide) li_in12 w_1434 ?_
  refine li_iload 4 dX12_goRelay_4 rfl ?_
  refine li_iload_n 1 dX12_goRelay_6 rfl ?_
  refine li_iast dX12_goRelay_7 (by decide) sh_190 (tl_in (by omega)) ?_
  refine li_nm (fun M1 eM1 => ?_)
  have hf := li_fs_ui hf (Or.inr (Or.inl rfl)) eM1
  have hJ := hJ.st (by decide) (li_el_free (by unfold li_led; omega) (by decide) (by decide) (by unfold li_rq; omega)) eM1
  have rM1_1 := J_sl1 (M := M1) hJ
  have rM1_32 := J_sl32 (M := M1) hJ
  have mM1_1 : (M1.1 175 1).toInt = (M0.1 175 1).toInt := by rw [eM1, li_ui_at, if_neg (by decide)]
  have mM1_32 : (M1.1 175 32).toInt = (M0.1 175 32).toInt := by rw [eM1, li_ui_at, if_neg (by decide)]
  refine li_iload_n 1 dX12_goRelay_8 rfl ?_
  refine li_iload_n 2 dX12_goRelay_9 rfl ?_
  refine li_icmp_ne 88 dX12_goRelay_10 (by decide) (fun c2 => ?_) (fun c2 => ?_)
  · have tc2 : ¬ p1.toInt = p2.toInt := tl_ne c2
    refine li_iconst 0 dX12_goRelay_88 (by decide) ?_
    refine li_istore [(7, .int 0), (0, .ref (Z.2.2 175)), (1, .int p1), (2, .int p2), (3, .int p3), (4, .int p4), (5, .int p5), (6, .int p6)] dX12_goRelay_89 (by decide) rfl ?_
    have L91 : ∀ (n : Nat) (x3 : Int32) (M4 : li_M), (6 - (x3 : Int32).toInt).toNat < n → li_fs (fun i k => i = 185 ∨ i = 190 ∨ i = 191 ∨ i = 1000 ∨ (i = 175 ∧ k = 12) ∨ (i = 175 ∧ k = 13) ∨ (i = 175 ∧ k = 14) ∨ (i = 175 ∧ k = 15) ∨ (i = 175 ∧ k = 20) ∨ (i = 175 ∧ k = 32) ∨ (i = 175 ∧ k = 33)) M0 M4 → li_J M4 → 0 ≤ (x3 : Int32).toInt → li_T l Z YX12_goRelay d 91 [(7, .int x3), (0, .ref (Z.2.2 175)), (1, .int p1), (2, .int p2), (3, .int p3), (4, .int p4), (5, .int p5), (6, .int p6)] [] M4 (fun r M' => r = none ∧ li_fs (fun i k => i = 185 ∨ i = 190 ∨ i = 191 ∨ i = 1000 ∨ (i = 175 ∧ k = 12) ∨ (i = 175 ∧ k = 13) ∨ (i = 175 ∧ k = 14) ∨ (i = 175 ∧ k = 15) ∨ (i = 175 ∧ k = 20) ∨ (i = 175 ∧ k = 32) ∨ (i = 175 ∧ k = 33)) M0 M' ∧ li_J M') := by
      intro n
      induction n with
      | zero => intro x3 M4 hn; exact absurd hn (Nat.not_lt_zero _)
      | succ n ih91 =>
        intro x3 M4 hn hf hJ hi
        have gx3 := tl_rg x3
        have rM4_1 := J_sl1 (M := M4) hJ
        have rM4_32 := J_sl32 (M := M4) hJ
        have mM4_1 : (M4.1 175 1).toInt = (M0.1 175 1).toInt := tl_slot (hf.1 175 1 (show ¬ (175 = 185 ∨ 175 = 190 ∨ 175 = 191 ∨ 175 = 1000 ∨ (175 = 175 ∧ 1 = 12) ∨ (175 = 175 ∧ 1 = 13) ∨ (175 = 175 ∧ 1 = 14) ∨ (175 = 175 ∧ 1 = 15) ∨ (175 = 175 ∧ 1 = 20) ∨ (175 = 175 ∧ 1 = 32) ∨ (175 = 175 ∧ 1 = 33)) by decide))
        refine li_iload 0 dX12_goRelay_91 rfl ?_
        refine li_aload_n 1 dX12_goRelay_93 rfl ?_
        refine li_geti (k := 1) (N := 52) (T := TX12) (C0 := RX12) dX12_goRelay_94 (by decide) sh_175 rfl rfl (by decide) li_in12 w_1405 ?_
        refine li_top (fun x5 ex5 => ?_)
        have gx5 : 0 ≤ x5.toInt ∧ x5.toInt ≤ 6 := by rw [ex5]; exact J_sl1 hJ
        have mx5 : x5.toInt = (M4.1 175 1).toInt := tl_slot ex5
        have sx5 : x5.toInt = (M0.1 175 1).toInt := tl_slot (ex5.trans (hf.1 175 1 (show ¬ (175 = 185 ∨ 175 = 190 ∨ 175 = 191 ∨ 175 = 1000 ∨ (175 = 175 ∧ 1 = 12) ∨ (175 = 175 ∧ 1 = 13) ∨ (175 = 175 ∧ 1 = 14) ∨ (175 = 175 ∧ 1 = 15) ∨ (175 = 175 ∧ 1 = 20) ∨ (175 = 175 ∧ 1 = 32) ∨ (175 = 175 ∧ 1 = 33)) by decide)))
        refine li_icmp_ge 180 dX12_goRelay_97 (by decide) (fun c6 => ?_) (fun c6 => ?_)
        · have tc6 : x5.toInt ≤ x3.toInt := tl_le c6
          exact li_vret dX12_goRelay_180 rfl ⟨rfl, hf, hJ⟩
        · have tc6 : x3.toInt < x5.toInt := tl_nle c6
          refine li_iload 6 dX12_goRelay_100 rfl ?_
          refine li_iload 0 dX12_goRelay_102 rfl ?_
          refine li_callS (n := 2) (As := [.int p5, .int x3]) dX12_goRelay_104 (k_X12_hasB (d - 1) (by omega) p5 x3 M4 hJ (by omega)) (by omega) (Nat.le_of_ble_eq_true rfl) w_1734 w_1735 w_112 w_1736 (by decide +kernel) rfl rfl (Nat.le_of_ble_eq_true rfl) (fun r M8 h9 => ?_)
          obtain ⟨qx7, h9, jM8⟩ := h9
          have hf := li_fs_trans hf h9 (fun i k h => False.elim h)
          have hJ := jM8
          have rM8_1 := J_sl1 (M := M8) hJ
          have rM8_32 := J_sl32 (M := M8) hJ
          have mM8_1 : (M8.1 175 1).toInt = (M4.1 175 1).toInt := tl_slot (h9.1 175 1 id)
          have mM8_32 : (M8.1 175 32).toInt = (M4.1 175 32).toInt := tl_slot (h9.1 175 32 id)
          rcases qx7 with ⟨rfl, qx7⟩ | ⟨rfl, qx7⟩
          · skip
            refine li_if_eq 113 dX12_goRelay_107 (by decide) (fun c => absurd c (by decide)) (fun c => ?_)
            refine li_goto 174 dX12_goRelay_110 (by decide) ?_
            obtain ⟨x11, ex11⟩ : ∃ y : Int32, y = x3 + 1 := ⟨_, rfl⟩
            have z1 : (1 : Int32).toInt = 1 := rfl
            try (have tx11 : x11.toInt = (x3 : Int32).toInt + (1 : Int32).toInt := tl_add ex11 (by omega))
            refine li_iinc 0 [(7, .int x11), (0, .ref (Z.2.2 175)), (1, .int p1), (2, .int p2), (3, .int p3), (4, .int p4), (5, .int p5), (6, .int p6)] x11 dX12_goRelay_174 rfl (by rw [ex11]; rfl) (by decide) rfl ?_
            refine li_goto 91 dX12_goRelay_177 (by decide) ?_
            refine li_pick [0, 1, 2, 3, 4, 5, 6, 7] [(7, .int x11), (0, .ref (Z.2.2 175)), (1, .int p1), (2, .int p2), (3, .int p3), (4, .int p4), (5, .int p5), (6, .int p6)] rfl ?_
            exact ih91 x11 M8 (by omega) hf hJ (by omega)
          · skip
            refine li_if_eq 113 dX12_goRelay_107 (by decide) (fun c => ?_) (fun c => absurd rfl c)
            refine li_aload_n 1 dX12_goRelay_113 rfl ?_
            refine li_aload_n 1 dX12_goRelay_114 rfl ?_
            refine li_getr (k := 0) (N := 52) (T := TX12) (C0 := RX12) dX12_goRelay_115 (by decide) sh_175 rfl rfl (by decide) (by decide) li_in12 w_1404 ?_
            refine li_iload_n 2 dX12_goRelay_118 rfl ?_
            refine li_iload 0 dX12_goRelay_119 rfl ?_
            refine li_iload_n 4 dX12_goRelay_121 rfl ?_
            refine li_aload_n 1 dX12_goRelay_122 rfl ?_
            refine li_aload_n 1 dX12_goRelay_123 rfl ?_
            refine li_getr (k := 0) (N := 52) (T := TX12) (C0 := RX12) dX12_goRelay_124 (by decide) sh_175 rfl rfl (by decide) (by decide) li_in12 w_1404 ?_
            refine li_iload_n 2 dX12_goRelay_127 rfl ?_
            refine li_iload 0 dX12_goRelay_128 rfl ?_
            refine li_iload_n 4 dX12_goRelay_130 rfl ?_
            refine li_callV (n := 4) (As := [.ref (Z.2.2 176), .int p1, .int x3, .int p3]) dX12_goRelay_131 (k_X12_bestWay (d - 1) (by omega) la_176 p1 x3 p3 M8 hJ (by omega) (by omega)) (by omega) (Nat.le_of_ble_eq_true rfl) w_1681 w_1683 w_63 w_112 w_1684 (by decide +kernel) rfl (by decide) sh_175 rfl rfl (Nat.le_of_ble_eq_true rfl) (fun r M14 h15 => ?_)
            obtain ⟨⟨x13, rfl⟩, h15, jM14⟩ := h15
            have gx13 := tl_rg x13
            have hf := li_fs_trans hf h15 (fun i k => fun h => Or.elim h (fun h => Or.inl h) (fun h => Or.elim h (fun h => Or.inr (Or.inr (Or.inr (Or.inl h)))) (fun h => Or.elim h (fun h => Or.inr (Or.inr (Or.inr (Or.inr (Or.inl h))))) (fun h => Or.elim h (fun h => Or.inr (Or.inr (Or.inr (Or.inr (Or.inr (Or.inl h)))))) (fun h => Or.elim h (fun h => Or.inr (Or.inr (Or.inr (Or.inr (Or.inr (Or.inr (Or.inl h))))))) (fun h => Or.elim h (fun h => Or.inr (Or.inr (Or.inr (Or.inr (Or.inr (Or.inr (Or.inr (Or.inl h)))))))) (fun h => Or.inr (Or.inr (Or.inr (Or.inr (Or.inr (Or.inr (Or.inr (Or.inr (Or.inl h)))))))))))))))
            have hJ := jM14
            have rM14_1 := J_sl1 (M := M14) hJ
            have rM14_32 := J_sl32 (M := M14) hJ
            have mM14_1 : (M14.1 175 1).toInt = (M8.1 175 1).toInt := tl_slot (h15.1 175 1 (show ¬ (175 = 185 ∨ 175 = 1000 ∨ (175 = 175 ∧ 1 = 12) ∨ (175 = 175 ∧ 1 = 13) ∨ (175 = 175 ∧ 1 = 14) ∨ (175 = 175 ∧ 1 = 15) ∨ (175 = 175 ∧ 1 = 20)) by decide))
            have mM14_32 : (M14.1 175 32).toInt = (M8.1 175 32).toInt := tl_slot (h15.1 175 32 (show ¬ (175 = 185 ∨ 175 = 1000 ∨ (175 = 175 ∧ 32 = 12) ∨ (175 = 175 ∧ 32 = 13) ∨ (175 = 175 ∧ 32 = 14) ∨ (175 = 175 ∧ 32 = 15) ∨ (175 = 175 ∧ 32 = 20)) by decide))
            refine li_callV (n := 5) (As := [.ref (Z.2.2 176), .int p1, .int x3, .int p3, .int x13]) dX12_goRelay_134 (k_X12_costOf (d - 1) (by omega) la_176 p1 x3 p3 x13 M14 hJ (by omega) (by omega)) (by omega) (Nat.le_of_ble_eq_true rfl) w_1688 w_1690 w_64 w_112 w_1691 (by decide +kernel) rfl (by decide) sh_175 rfl rfl (Nat.le_of_ble_eq_true rfl) (fun r M17 h18 => ?_)
            obtain ⟨⟨x16, rfl, qx16⟩, h18, jM17⟩ := h18
            have gx16 := tl_rg x16
            have hf := li_fs_trans hf h18 (fun i k => fun h => Or.elim h (fun h => Or.inl h) (fun h => Or.elim h (fun h => Or.inr (Or.inr (Or.inr (Or.inl h)))) (fun h => Or.elim h (fun h => Or.inr (Or.inr (Or.inr (Or.inr (Or.inl h))))) (fun h => Or.elim h (fun h => Or.inr (Or.inr (Or.inr (Or.inr (Or.inr (Or.inl h)))))) (fun h => Or.elim h (fun h => Or.inr (Or.inr (Or.inr (Or.inr (Or.inr (Or.inr (Or.inl h))))))) (fun h => Or.elim h (fun h => Or.inr (Or.inr (Or.inr (Or.inr (Or.inr (Or.inr (Or.inr (Or.inl h)))))))) (fun h => Or.inr (Or.inr (Or.inr (Or.inr (Or.inr (Or.inr (Or.inr (Or.inr (Or.inl h)))))))))))))))
            have hJ := jM17
            have rM17_1 := J_sl1 (M := M17) hJ
            have rM17_32 := J_sl32 (M := M17) hJ
            have mM17_1 : (M17.1 175 1).toInt = (M14.1 175 1).toInt := tl_slot (h18.1 175 1 (show ¬ (175 = 185 ∨ 175 = 1000 ∨ (175 = 175 ∧ 1 = 12) ∨ (175 = 175 ∧ 1 = 13) ∨ (175 = 175 ∧ 1 = 14) ∨ (175 = 175 ∧ 1 = 15) ∨ (175 = 175 ∧ 1 = 20)) by decide))
            have mM17_32 : (M17.1 175 32).toInt = (M14.1 175 32).toInt := tl_slot (h18.1 175 32 (show ¬ (175 = 185 ∨ 175 = 1000 ∨ (175 = 175 ∧ 32 = 12) ∨ (175 = 175 ∧ 32 = 13) ∨ (175 = 175 ∧ 32 = 14) ∨ (175 = 175 ∧ 32 = 15) ∨ (175 = 175 ∧ 32 = 20)) by decide))
            refine li_istore [(8, .int x16), (7, .int x3), (0, .ref (Z.2.2 175)), (1, .int p1), (2, .int p2), (3, .int p3), (4, .int p4), (5, .int p5), (6, .int p6)] dX12_goRelay_137 (by decide) rfl ?_
            refine li_iload 0 dX12_goRelay_139 rfl ?_
            refine li_aload_n 2 dX12_goRelay_141 rfl ?_
            refine li_getr (k := 0) (N := 52) (T := TX12) (C0 := RX12) dX12_goRelay_142 (by decide) sh_175 rfl rfl (by decide) (by decide) li_in12 w_1404 ?_
            refine li_iload_n 3 dX12_goRelay_145 rfl ?_
            refine li_iald dX12_goRelay_146 (by decide) sh_176 (tl_in (by omega)) ?_
            refine li_top (fun x19 ex19 => ?_)
            have gx19 := tl_rg x19
            try (have ox19 : (p1 : Int32).toInt % 51 = (p1 : Int32).toInt := by omega)
            have lx19 : ((p1 : Int32).toInt % 51 = 20 → 0 ≤ x19.toInt ∧ x19.toInt ≤ 6) ∧ (21 ≤ (p1 : Int32).toInt % 51 → ((p1 : Int32).toInt % 51 - 21) % 5 < 2 → 0 ≤ x19.toInt ∧ x19.toInt ≤ 5) := hJ.ldLed (by unfold li_led; omega) ex19 (by omega)
            have J174 : ∀  (M21 : li_M), li_fs (fun i k => i = 185 ∨ i = 190 ∨ i = 191 ∨ i = 1000 ∨ (i = 175 ∧ k = 12) ∨ (i = 175 ∧ k = 13) ∨ (i = 175 ∧ k = 14) ∨ (i = 175 ∧ k = 15) ∨ (i = 175 ∧ k = 20) ∨ (i = 175 ∧ k = 32) ∨ (i = 175 ∧ k = 33)) M0 M21 → li_J M21 → li_T l Z YX12_goRelay d 174 [(8, .int x16), (7, .int x3), (0, .ref (Z.2.2 175)), (1, .int p1), (2, .int p2), (3, .int p3), (4, .int p4), (5, .int p5), (6, .int p6)] [] M21 (fun r M' => r = none ∧ li_fs (fun i k => i = 185 ∨ i = 190 ∨ i = 191 ∨ i = 1000 ∨ (i = 175 ∧ k = 12) ∨ (i = 175 ∧ k = 13) ∨ (i = 175 ∧ k = 14) ∨ (i = 175 ∧ k = 15) ∨ (i = 175 ∧ k = 20) ∨ (i = 175 ∧ k = 32) ∨ (i = 175 ∧ k = 33)) M0 M' ∧ li_J M') := by
              intro  M21 hf hJ
              have rM21_1 := J_sl1 (M := M21) hJ
              have rM21_32 := J_sl32 (M := M21) hJ
              have mM21_1 : (M21.1 175 1).toInt = (M0.1 175 1).toInt := tl_slot (hf.1 175 1 (show ¬ (175 = 185 ∨ 175 = 190 ∨ 175 = 191 ∨ 175 = 1000 ∨ (175 = 175 ∧ 1 = 12) ∨ (175 = 175 ∧ 1 = 13) ∨ (175 = 175 ∧ 1 = 14) ∨ (175 = 175 ∧ 1 = 15) ∨ (175 = 175 ∧ 1 = 20) ∨ (175 = 175 ∧ 1 = 32) ∨ (175 = 175 ∧ 1 = 33)) by decide))
              obtain ⟨x22, ex22⟩ : ∃ y : Int32, y = x3 + 1 := ⟨_, rfl⟩
              have z1 : (1 : Int32).toInt = 1 := rfl
              try (have tx22 : x22.toInt = (x3 : Int32).toInt + (1 : Int32).toInt := tl_add ex22 (by omega))
              refine li_iinc 1 [(7, .int x22), (8, .int x16), (0, .ref (Z.2.2 175)), (1, .int p1), (2, .int p2), (3, .int p3), (4, .int p4), (5, .int p5), (6, .int p6)] x22 dX12_goRelay_174 rfl (by rw [ex22]; rfl) (by decide) rfl ?_
              refine li_goto 91 dX12_goRelay_177 (by decide) ?_
              refine li_pick [0, 2, 3, 4, 5, 6, 7, 8] [(7, .int x22), (0, .ref (Z.2.2 175)), (1, .int p1), (2, .int p2), (3, .int p3), (4, .int p4), (5, .int p5), (6, .int p6)] rfl ?_
              exact ih91 x22 M21 (by omega) hf hJ (by omega)
            refine li_icmp_gt 174 dX12_goRelay_147 (by decide) (fun c20 => ?_) (fun c20 => ?_)
            · have tc20 : x19.toInt < x16.toInt := tl_lt c20
              refine li_pick [0, 1, 2, 3, 4, 5, 6, 7, 8] [(8, .int x16), (7, .int x3), (0, .ref (Z.2.2 175)), (1, .int p1), (2, .int p2), (3, .int p3), (4, .int p4), (5, .int p5), (6, .int p6)] rfl ?_
              exact J174  M17 hf hJ
            · have tc20 : x16.toInt ≤ x19.toInt := tl_nlt c20
              refine li_aload_n 2 dX12_goRelay_150 rfl ?_
              refine li_iload 1 dX12_goRelay_151 rfl ?_
              refine li_iload_n 4 dX12_goRelay_153 rfl ?_
              refine li_iload_n 5 dX12_goRelay_154 rfl ?_
              refine li_iload 6 dX12_goRelay_155 rfl ?_
              refine li_iconst 1 dX12_goRelay_157 (by decide) ?_
              refine li_iadd dX12_goRelay_158 ?_
              refine li_top (fun x23 ex23 => ?_)
              have z1 : (1 : Int32).toInt = 1 := rfl
              try (have tx23 : x23.toInt = (p4 : Int32).toInt + (1 : Int32).toInt := tl_add ex23 (by omega))
              refine li_iload 7 dX12_goRelay_159 rfl ?_
              refine li_iconst 1 dX12_goRelay_161 (by decide) ?_
              refine li_iload 1 dX12_goRelay_162 rfl ?_
              refine li_ishl dX12_goRelay_164 ?_
              refine li_top (fun x24 ex24 => ?_)
              have z1 : (1 : Int32).toInt = 1 := rfl
              try (have tx24 := tl_shl255 ex24 (by omega))
              refine li_ior dX12_goRelay_165 ?_
              refine li_top (fun x25 ex25 => ?_)
              try (have tx25 := tl_or255 ex25 (by omega) (by omega))
              refine li_iload 8 dX12_goRelay_166 rfl ?_
              refine li_iload 0 dX12_goRelay_168 rfl ?_
              refine li_iadd dX12_goRelay_170 ?_
              refine li_top (fun x26 ex26 => ?_)
              try (have tx26 : x26.toInt = (p6 : Int32).toInt + (x16 : Int32).toInt := tl_add ex26 (by omega))
              refine li_callV (n := 6) (As := [.int x3, .int p2, .int p3, .int x23, .int x25, .int x26]) dX12_goRelay_171 (IH x3 p2 p3 x23 x25 x26 M17 hJ (by omega) (by omega) (by have h8 := lb_pc_or (by omega) ex24 ex25 qx7; omega)) (by omega) (Nat.le_of_ble_eq_true rfl) w_1860 w_1862 w_88 w_112 w_1863 (by decide +kernel) rfl (by decide) sh_175 rfl rfl (Nat.le_of_ble_eq_true rfl) (fun r M28 h29 => ?_)
              obtain ⟨rfl, h29, jM28⟩ := h29
              have hf := li_fs_trans hf h29 (fun i k => fun h => Or.elim h (fun h => Or.inl h) (fun h => Or.elim h (fun h => Or.inr (Or.inl h)) (fun h => Or.elim h (fun h => Or.inr (Or.inr (Or.inl h))) (fun h => Or.elim h (fun h => Or.inr (Or.inr (Or.inr (Or.inl h)))) (fun h => Or.elim h (fun h => Or.inr (Or.inr (Or.inr (Or.inr (Or.inl h))))) (fun h => Or.elim h (fun h => Or.inr (Or.inr (Or.inr (Or.inr (Or.inr (Or.inl h)))))) (fun h => Or.elim h (fun h => Or.inr (Or.inr (Or.inr (Or.inr (Or.inr (Or.inr (Or.inl h))))))) (fun h => Or.elim h (fun h => Or.inr (Or.inr (Or.inr (Or.inr (Or.inr (Or.inr (Or.inr (Or.inl h)))))))) (fun h => Or.elim h (fun h => Or.inr (Or.inr (Or.inr (Or.inr (Or.inr (Or.inr (Or.inr (Or.inr (Or.inl h))))))))) (fun h => Or.elim h (fun h => Or.inr (Or.inr (Or.inr (Or.inr (Or.inr (Or.inr (Or.inr (Or.inr (Or.inr (Or.inl h)))))))))) (fun h => Or.inr (Or.inr (Or.inr (Or.inr (Or.inr (Or.inr (Or.inr (Or.inr (Or.inr (Or.inr h))))))))))))))))))))
              have hJ := jM28
              have rM28_1 := J_sl1 (M := M28) hJ
              have rM28_32 := J_sl32 (M := M28) hJ
              have mM28_1 : (M28.1 175 1).toInt = (M17.1 175 1).toInt := tl_slot (h29.1 175 1 (show ¬ (175 = 185 ∨ 175 = 190 ∨ 175 = 191 ∨ 175 = 1000 ∨ (175 = 175 ∧ 1 = 12) ∨ (175 = 175 ∧ 1 = 13) ∨ (175 = 175 ∧ 1 = 14) ∨ (175 = 175 ∧ 1 = 15) ∨ (175 = 175 ∧ 1 = 20) ∨ (175 = 175 ∧ 1 = 32) ∨ (175 = 175 ∧ 1 = 33)) by decide))
              refine li_pick [0, 1, 2, 3, 4, 5, 6, 7, 8] [(8, .int x16), (7, .int x3), (0, .ref (Z.2.2 175)), (1, .int p1), (2, .int p2), (3, .int p3), (4, .int p4), (5, .int p5), (6, .int p6)] rfl ?_
              exact J174  M28 hf hJ
    have z0 : (0 : Int32).toInt = 0 := rfl
    exact L91 _ 0 M1 (Nat.lt_succ_self _) hf hJ (by omega)
  · have tc2 : p1.toInt = p2.toInt := tl_eq c2
    refine li_iload 6 dX12_goRelay_13 rfl ?_
    refine li_aload_n 0 dX12_goRelay_15 rfl ?_
    refine li_geti (k := 33) (N := 52) (T := TX12) (C0 := RX12) dX12_goRelay_16 (by decide) sh_175 rfl rfl (by decide) li_in12 w_1437 ?_
    refine li_top (fun x30 ex30 => ?_)
    have gx30 := tl_rg x30
    have mx30 : x30.toInt = (M1.1 175 33).toInt := tl_slot ex30
    refine li_icmp_gt 42 dX12_goRelay_19 (by decide) (fun c31 => ?_) (fun c31 => ?_)
    · have tc31 : x30.toInt < p6.toInt := tl_lt c31
      exact li_vret dX12_goRelay_42 rfl ⟨rfl, hf, hJ⟩
    · have tc31 : p6.toInt ≤ x30.toInt := tl_nlt c31
      refine li_iload 6 dX12_goRelay_22 rfl ?_
      refine li_aload_n 0 dX12_goRelay_24 rfl ?_
      refine li_geti (k := 33) (N := 52) (T := TX12) (C0 := RX12) dX12_goRelay_25 (by decide) sh_175 rfl rfl (by decide) li_in12 w_1437 ?_
      refine li_top (fun x32 ex32 => ?_)
      have gx32 := tl_rg x32
      have mx32 : x32.toInt = (M1.1 175 33).toInt := tl_slot ex32
      refine li_icmp_ne 43 dX12_goRelay_28 (by decide) (fun c33 => ?_) (fun c33 => ?_)
      · have tc33 : ¬ p6.toInt = x32.toInt := tl_ne c33
        refine li_aload_n 0 dX12_goRelay_43 rfl ?_
        refine li_iload 6 dX12_goRelay_44 rfl ?_
        refine li_puti (k := 33) (N := 52) (T := TX12) (C0 := RX12) dX12_goRelay_46 (by decide) sh_175 rfl rfl (by decide) li_in12 tyX12_ok nmX12 rfl rfl rfl rfl w_1437 ?_
        refine li_nm (fun M34 eM34 => ?_)
        have hf := li_fs_ui hf (Or.inr (Or.inr (Or.inr (Or.inr (Or.inr (Or.inr (Or.inr (Or.inr (Or.inr (Or.inr (⟨rfl, rfl⟩))))))))))) eM34
        have hJ := hJ.put (k := 33) (by decide) (rg_free rfl) eM34
        have rM34_1 := J_sl1 (M := M34) hJ
        have rM34_32 := J_sl32 (M := M34) hJ
        have mM34_1 : (M34.1 175 1).toInt = (M1.1 175 1).toInt := by rw [eM34, li_ui_at, if_pos rfl, if_neg (by decide)]
        have mM34_32 : (M34.1 175 32).toInt = (M1.1 175 32).toInt := by rw [eM34, li_ui_at, if_pos rfl, if_neg (by decide)]
        refine li_aload_n 0 dX12_goRelay_49 rfl ?_
        refine li_iload 4 dX12_goRelay_50 rfl ?_
        refine li_iconst 1 dX12_goRelay_52 (by decide) ?_
        refine li_iadd dX12_goRelay_53 ?_
        refine li_top (fun x35 ex35 => ?_)
        have z1 : (1 : Int32).toInt = 1 := rfl
        try (have tx35 : x35.toInt = (p4 : Int32).toInt + (1 : Int32).toInt := tl_add ex35 (by omega))
        refine li_puti (k := 32) (N := 52) (T := TX12) (C0 := RX12) dX12_goRelay_54 (by decide) sh_175 rfl rfl (by decide) li_in12 tyX12_ok nmX12 rfl rfl rfl rfl w_1436 ?_
        refine li_nm (fun M36 eM36 => ?_)
        have hf := li_fs_ui hf (Or.inr (Or.inr (Or.inr (Or.inr (Or.inr (Or.inr (Or.inr (Or.inr (Or.inr (Or.inl ⟨rfl, rfl⟩)))))))))) eM36
        have hJ := J_pt32 hJ (show 0 ≤ (x35 : Int32).toInt ∧ (x35 : Int32).toInt ≤ 6 by omega) eM36
        have rM36_1 := J_sl1 (M := M36) hJ
        have rM36_32 := J_sl32 (M := M36) hJ
        have mM36_1 : (M36.1 175 1).toInt = (M34.1 175 1).toInt := by rw [eM36, li_ui_at, if_pos rfl, if_neg (by decide)]
        have mM36_32 : (M36.1 175 32).toInt = x35.toInt := by rw [eM36, li_ui_at, if_pos rfl, if_pos rfl]
        refine li_iconst 0 dX12_goRelay_57 (by decide) ?_
        refine li_istore [(7, .int 0), (0, .ref (Z.2.2 175)), (1, .int p1), (2, .int p2), (3, .int p3), (4, .int p4), (5, .int p5), (6, .int p6)] dX12_goRelay_58 (by decide) rfl ?_
        have L60 : ∀ (n : Nat) (x37 : Int32) (M38 : li_M), (6 - (x37 : Int32).toInt).toNat < n → li_fs (fun i k => i = 185 ∨ i = 190 ∨ i = 191 ∨ i = 1000 ∨ (i = 175 ∧ k = 12) ∨ (i = 175 ∧ k = 13) ∨ (i = 175 ∧ k = 14) ∨ (i = 175 ∧ k = 15) ∨ (i = 175 ∧ k = 20) ∨ (i = 175 ∧ k = 32) ∨ (i = 175 ∧ k = 33)) M0 M38 → li_J M38 → 0 ≤ (x37 : Int32).toInt → li_T l Z YX12_goRelay d 60 [(7, .int x37), (0, .ref (Z.2.2 175)), (1, .int p1), (2, .int p2), (3, .int p3), (4, .int p4), (5, .int p5), (6, .int p6)] [] M38 (fun r M' => r = none ∧ li_fs (fun i k => i = 185 ∨ i = 190 ∨ i = 191 ∨ i = 1000 ∨ (i = 175 ∧ k = 12) ∨ (i = 175 ∧ k = 13) ∨ (i = 175 ∧ k = 14) ∨ (i = 175 ∧ k = 15) ∨ (i = 175 ∧ k = 20) ∨ (i = 175 ∧ k = 32) ∨ (i = 175 ∧ k = 33)) M0 M' ∧ li_J M') := by
          intro n
          induction n with
          | zero => intro x37 M38 hn; exact absurd hn (Nat.not_lt_zero _)
          | succ n ih60 =>
            intro x37 M38 hn hf hJ hi
            have gx37 := tl_rg x37
            have rM38_1 := J_sl1 (M := M38) hJ
            have rM38_32 := J_sl32 (M := M38) hJ
            have mM38_1 : (M38.1 175 1).toInt = (M0.1 175 1).toInt := tl_slot (hf.1 175 1 (show ¬ (175 = 185 ∨ 175 = 190 ∨ 175 = 191 ∨ 175 = 1000 ∨ (175 = 175 ∧ 1 = 12) ∨ (175 = 175 ∧ 1 = 13) ∨ (175 = 175 ∧ 1 = 14) ∨ (175 = 175 ∧ 1 = 15) ∨ (175 = 175 ∧ 1 = 20) ∨ (175 = 175 ∧ 1 = 32) ∨ (175 = 175 ∧ 1 = 33)) by decide))
            refine li_iload 0 dX12_goRelay_60 rfl ?_
            refine li_iload 5 dX12_goRelay_62 rfl ?_
            refine li_icmp_gt 87 dX12_goRelay_64 (by decide) (fun c39 => ?_) (fun c39 => ?_)
            · have tc39 : p4.toInt < x37.toInt := tl_lt c39
              exact li_vret dX12_goRelay_87 rfl ⟨rfl, hf, hJ⟩
            · have tc39 : x37.toInt ≤ p4.toInt := tl_nlt c39
              refine li_aload_n 1 dX12_goRelay_67 rfl ?_
              refine li_getr (k := 31) (N := 52) (T := TX12) (C0 := RX12) dX12_goRelay_68 (by decide) sh_175 rfl rfl (by decide) (by decide) li_in12 w_1435 ?_
              refine li_iload 0 dX12_goRelay_71 rfl ?_
              refine li_aload_n 1 dX12_goRelay_73 rfl ?_
              refine li_getr (k := 30) (N := 52) (T := TX12) (C0 := RX12) dX12_goRelay_74 (by decide) sh_175 rfl rfl (by decide) (by decide) li_in12 w_1434 ?_
              refine li_iload 0 dX12_goRelay_77 rfl ?_
              refine li_iald dX12_goRelay_79 (by decide) sh_190 (tl_in (by omega)) ?_
              refine li_top (fun x40 ex40 => ?_)
              have gx40 := tl_rg x40
              refine li_iast dX12_goRelay_80 (by decide) sh_191 (tl_in (by omega)) ?_
              refine li_nm (fun M41 eM41 => ?_)
              have hf := li_fs_ui hf (Or.inr (Or.inr (Or.inl rfl))) eM41
              have hJ := hJ.st (by decide) (li_el_free (by unfold li_led; omega) (by decide) (by decide) (by unfold li_rq; omega)) eM41
              have rM41_1 := J_sl1 (M := M41) hJ
              have rM41_32 := J_sl32 (M := M41) hJ
              have mM41_1 : (M41.1 175 1).toInt = (M38.1 175 1).toInt := by rw [eM41, li_ui_at, if_neg (by decide)]
              have mM41_32 : (M41.1 175 32).toInt = (M38.1 175 32).toInt := by rw [eM41, li_ui_at, if_neg (by decide)]
              obtain ⟨x42, ex42⟩ : ∃ y : Int32, y = x37 + 1 := ⟨_, rfl⟩
              have z1 : (1 : Int32).toInt = 1 := rfl
              try (have tx42 : x42.toInt = (x37 : Int32).toInt + (1 : Int32).toInt := tl_add ex42 (by omega))
              refine li_iinc 0 [(7, .int x42), (0, .ref (Z.2.2 175)), (1, .int p1), (2, .int p2), (3, .int p3), (4, .int p4), (5, .int p5), (6, .int p6)] x42 dX12_goRelay_81 rfl (by rw [ex42]; rfl) (by decide) rfl ?_
              refine li_goto 60 dX12_goRelay_84 (by decide) ?_
              refine li_pick [0, 1, 2, 3, 4, 5, 6, 7] [(7, .int x42), (0, .ref (Z.2.2 175)), (1, .int p1), (2, .int p2), (3, .int p3), (4, .int p4), (5, .int p5), (6, .int p6)] rfl ?_
              exact ih60 x42 M41 (by omega) hf hJ (by omega)
        have z0 : (0 : Int32).toInt = 0 := rfl
        exact L60 _ 0 M36 (Nat.lt_succ_self _) hf hJ (by omega)
      · have tc33 : p6.toInt = x32.toInt := tl_eq c33
        refine li_aload_n 0 dX12_goRelay_31 rfl ?_
        refine li_iload 4 dX12_goRelay_32 rfl ?_
        refine li_iconst 1 dX12_goRelay_34 (by decide) ?_
        refine li_iadd dX12_goRelay_35 ?_
        refine li_top (fun x43 ex43 => ?_)
        have z1 : (1 : Int32).toInt = 1 := rfl
        try (have tx43 : x43.toInt = (p4 : Int32).toInt + (1 : Int32).toInt := tl_add ex43 (by omega))
        refine li_callV (n := 1) (As := [.int x43]) dX12_goRelay_36 (k_X12_isBefore (d - 1) (by omega) x43 M1 hJ (by omega)) (by omega) (Nat.le_of_ble_eq_true rfl) w_1864 w_1866 w_89 w_112 w_1867 (by decide +kernel) rfl (by decide) sh_175 rfl rfl (Nat.le_of_ble_eq_true rfl) (fun r M45 h46 => ?_)
        obtain ⟨qx44, h46, jM45⟩ := h46
        have hf := li_fs_trans hf h46 (fun i k h => False.elim h)
        have hJ := jM45
        have rM45_1 := J_sl1 (M := M45) hJ
        have rM45_32 := J_sl32 (M := M45) hJ
        have mM45_1 : (M45.1 175 1).toInt = (M1.1 175 1).toInt := tl_slot (h46.1 175 1 id)
        have mM45_32 : (M45.1 175 32).toInt = (M1.1 175 32).toInt := tl_slot (h46.1 175 32 id)
        rcases qx44 with ⟨rfl, qx44⟩ | ⟨rfl, qx44⟩
        · skip
          refine li_if_ne 43 dX12_goRelay_39 (by decide) (fun c => ?_) (fun c => absurd c (by decide))
          refine li_aload_n 0 dX12_goRelay_43 rfl ?_
          refine li_iload 6 dX12_goRelay_44 rfl ?_
          refine li_puti (k := 33) (N := 52) (T := TX12) (C0 := RX12) dX12_goRelay_46 (by decide) sh_175 rfl rfl (by decide) li_in12 tyX12_ok nmX12 rfl rfl rfl rfl w_1437 ?_
          refine li_nm (fun M48 eM48 => ?_)
          have hf := li_fs_ui hf (Or.inr (Or.inr (Or.inr (Or.inr (Or.inr (Or.inr (Or.inr (Or.inr (Or.inr (Or.inr (⟨rfl, rfl⟩))))))))))) eM48
          have hJ := hJ.put (k := 33) (by decide) (rg_free rfl) eM48
          have rM48_1 := J_sl1 (M := M48) hJ
          have rM48_32 := J_sl32 (M := M48) hJ
          have mM48_1 : (M48.1 175 1).toInt = (M45.1 175 1).toInt := by rw [eM48, li_ui_at, if_pos rfl, if_neg (by decide)]
          have mM48_32 : (M48.1 175 32).toInt = (M45.1 175 32).toInt := by rw [eM48, li_ui_at, if_pos rfl, if_neg (by decide)]
          refine li_aload_n 0 dX12_goRelay_49 rfl ?_
          refine li_iload 4 dX12_goRelay_50 rfl ?_
          refine li_iconst 1 dX12_goRelay_52 (by decide) ?_
          refine li_iadd dX12_goRelay_53 ?_
          refine li_top (fun x49 ex49 => ?_)
          have z1 : (1 : Int32).toInt = 1 := rfl
          try (have tx49 : x49.toInt = (p4 : Int32).toInt + (1 : Int32).toInt := tl_add ex49 (by omega))
          refine li_puti (k := 32) (N := 52) (T := TX12) (C0 := RX12) dX12_goRelay_54 (by decide) sh_175 rfl rfl (by decide) li_in12 tyX12_ok nmX12 rfl rfl rfl rfl w_1436 ?_
          refine li_nm (fun M50 eM50 => ?_)
          have hf := li_fs_ui hf (Or.inr (Or.inr (Or.inr (Or.inr (Or.inr (Or.inr (Or.inr (Or.inr (Or.inr (Or.inl ⟨rfl, rfl⟩)))))))))) eM50
          have hJ := J_pt32 hJ (show 0 ≤ (x49 : Int32).toInt ∧ (x49 : Int32).toInt ≤ 6 by omega) eM50
          have rM50_1 := J_sl1 (M := M50) hJ
          have rM50_32 := J_sl32 (M := M50) hJ
          have mM50_1 : (M50.1 175 1).toInt = (M48.1 175 1).toInt := by rw [eM50, li_ui_at, if_pos rfl, if_neg (by decide)]
          have mM50_32 : (M50.1 175 32).toInt = x49.toInt := by rw [eM50, li_ui_at, if_pos rfl, if_pos rfl]
          refine li_iconst 0 dX12_goRelay_57 (by decide) ?_
          refine li_istore [(7, .int 0), (0, .ref (Z.2.2 175)), (1, .int p1), (2, .int p2), (3, .int p3), (4, .int p4), (5, .int p5), (6, .int p6)] dX12_goRelay_58 (by decide) rfl ?_
          have L60 : ∀ (n : Nat) (x51 : Int32) (M52 : li_M), (6 - (x51 : Int32).toInt).toNat < n → li_fs (fun i k => i = 185 ∨ i = 190 ∨ i = 191 ∨ i = 1000 ∨ (i = 175 ∧ k = 12) ∨ (i = 175 ∧ k = 13) ∨ (i = 175 ∧ k = 14) ∨ (i = 175 ∧ k = 15) ∨ (i = 175 ∧ k = 20) ∨ (i = 175 ∧ k = 32) ∨ (i = 175 ∧ k = 33)) M0 M52 → li_J M52 → 0 ≤ (x51 : Int32).toInt → li_T l Z YX12_goRelay d 60 [(7, .int x51), (0, .ref (Z.2.2 175)), (1, .int p1), (2, .int p2), (3, .int p3), (4, .int p4), (5, .int p5), (6, .int p6)] [] M52 (fun r M' => r = none ∧ li_fs (fun i k => i = 185 ∨ i = 190 ∨ i = 191 ∨ i = 1000 ∨ (i = 175 ∧ k = 12) ∨ (i = 175 ∧ k = 13) ∨ (i = 175 ∧ k = 14) ∨ (i = 175 ∧ k = 15) ∨ (i = 175 ∧ k = 20) ∨ (i = 175 ∧ k = 32) ∨ (i = 175 ∧ k = 33)) M0 M' ∧ li_J M') := by
            intro n
            induction n with
            | zero => intro x51 M52 hn; exact absurd hn (Nat.not_lt_zero _)
            | succ n ih60 =>
              intro x51 M52 hn hf hJ hi
              have gx51 := tl_rg x51
              have rM52_1 := J_sl1 (M := M52) hJ
              have rM52_32 := J_sl32 (M := M52) hJ
              have mM52_1 : (M52.1 175 1).toInt = (M0.1 175 1).toInt := tl_slot (hf.1 175 1 (show ¬ (175 = 185 ∨ 175 = 190 ∨ 175 = 191 ∨ 175 = 1000 ∨ (175 = 175 ∧ 1 = 12) ∨ (175 = 175 ∧ 1 = 13) ∨ (175 = 175 ∧ 1 = 14) ∨ (175 = 175 ∧ 1 = 15) ∨ (175 = 175 ∧ 1 = 20) ∨ (175 = 175 ∧ 1 = 32) ∨ (175 = 175 ∧ 1 = 33)) by decide))
              refine li_iload 0 dX12_goRelay_60 rfl ?_
              refine li_iload 5 dX12_goRelay_62 rfl ?_
              refine li_icmp_gt 87 dX12_goRelay_64 (by decide) (fun c53 => ?_) (fun c53 => ?_)
              · have tc53 : p4.toInt < x51.toInt := tl_lt c53
                exact li_vret dX12_goRelay_87 rfl ⟨rfl, hf, hJ⟩
              · have tc53 : x51.toInt ≤ p4.toInt := tl_nlt c53
                refine li_aload_n 1 dX12_goRelay_67 rfl ?_
                refine li_getr (k := 31) (N := 52) (T := TX12) (C0 := RX12) dX12_goRelay_68 (by decide) sh_175 rfl rfl (by decide) (by decide) li_in12 w_1435 ?_
                refine li_iload 0 dX12_goRelay_71 rfl ?_
                refine li_aload_n 1 dX12_goRelay_73 rfl ?_
                refine li_getr (k := 30) (N := 52) (T := TX12) (C0 := RX12) dX12_goRelay_74 (by decide) sh_175 rfl rfl (by decide) (by decide) li_in12 w_1434 ?_
                refine li_iload 0 dX12_goRelay_77 rfl ?_
                refine li_iald dX12_goRelay_79 (by decide) sh_190 (tl_in (by omega)) ?_
                refine li_top (fun x54 ex54 => ?_)
                have gx54 := tl_rg x54
                refine li_iast dX12_goRelay_80 (by decide) sh_191 (tl_in (by omega)) ?_
                refine li_nm (fun M55 eM55 => ?_)
                have hf := li_fs_ui hf (Or.inr (Or.inr (Or.inl rfl))) eM55
                have hJ := hJ.st (by decide) (li_el_free (by unfold li_led; omega) (by decide) (by decide) (by unfold li_rq; omega)) eM55
                have rM55_1 := J_sl1 (M := M55) hJ
                have rM55_32 := J_sl32 (M := M55) hJ
                have mM55_1 : (M55.1 175 1).toInt = (M52.1 175 1).toInt := by rw [eM55, li_ui_at, if_neg (by decide)]
                have mM55_32 : (M55.1 175 32).toInt = (M52.1 175 32).toInt := by rw [eM55, li_ui_at, if_neg (by decide)]
                obtain ⟨x56, ex56⟩ : ∃ y : Int32, y = x51 + 1 := ⟨_, rfl⟩
                have z1 : (1 : Int32).toInt = 1 := rfl
                try (have tx56 : x56.toInt = (x51 : Int32).toInt + (1 : Int32).toInt := tl_add ex56 (by omega))
                refine li_iinc 0 [(7, .int x56), (0, .ref (Z.2.2 175)), (1, .int p1), (2, .int p2), (3, .int p3), (4, .int p4), (5, .int p5), (6, .int p6)] x56 dX12_goRelay_81 rfl (by rw [ex56]; rfl) (by decide) rfl ?_
                refine li_goto 60 dX12_goRelay_84 (by decide) ?_
                refine li_pick [0, 1, 2, 3, 4, 5, 6, 7] [(7, .int x56), (0, .ref (Z.2.2 175)), (1, .int p1), (2, .int p2), (3, .int p3), (4, .int p4), (5, .int p5), (6, .int p6)] rfl ?_
                exact ih60 x56 M55 (by omega) hf hJ (by omega)
          have z0 : (0 : Int32).toInt = 0 := rfl
          exact L60 _ 0 M50 (Nat.lt_succ_self _) hf hJ (by omega)
        · skip
          refine li_if_ne 43 dX12_goRelay_39 (by decide) (fun c => absurd rfl c) (fun c => ?_)
          exact li_vret dX12_goRelay_42 rfl ⟨rfl, hf, hJ⟩
theorem kk_X12_goRelay {l : Launch} {Z : li_Z} : ∀ (n d : Nat) (p1 p2 p3 p4 p5 p6 : Int32) (M : li_M), li_J M → (0 ≤ p1.toInt ∧ p1.toInt ≤ 5) → 0 ≤ p4.toInt → (lb_pc p5 : Int) = p4.toInt + 1 → (6 - p4.toInt).toNat ≤ n → n + 345 ≤ d → li_Met l Z YX12_goRelay d [.ref (Z.2.2 175), .int p1, .int p2, .int p3, .int p4, .int p5, .int p6] M (fun r M' => r = none ∧ li_fs (fun i k => i = 185 ∨ i = 190 ∨ i = 191 ∨ i = 1000 ∨ (i = 175 ∧ k = 12) ∨ (i = 175 ∧ k = 13) ∨ (i = 175 ∧ k = 14) ∨ (i = 175 ∧ k = 15) ∨ (i = 175 ∧ k = 20) ∨ (i = 175 ∧ k = 32) ∨ (i = 175 ∧ k = 33)) M M' ∧ li_J M') := by
  intro n
  induction n with
  | zero =>
    intro d p1 p2 p3 p4 p5 p6 M hJ h1 h4 h5 hn hd
    have h6 := lb_pc_le p5
    exact absurd hn (by omega)
  | succ n ih =>
    intro d p1 p2 p3 p4 p5 p6 M hJ h1 h4 h5 hn hd
    have h6 := lb_pc_le p5
    exact k_X12_goRelay d (by omega) p1 p2 p3 p4 p5 p6 (n + 345) (fun q1 q2 q3 q4 q5 q6 M2 hJ2 a1 a4 a5 => ih (n + 345) q1 q2 q3 q4 q5 q6 M2 hJ2 a1 (by omega) a5 (by omega) (by omega)) (by omega) M hJ h1 (by omega) h5
theorem lb_pc_1 {o x : Int32} (ho : 0 ≤ o.toInt ∧ o.toInt ≤ 5) (ex : x = 1 <<< (o &&& 31)) : lb_pc x = 1 := by
  have e : ∀ k : Int32, o.toInt = k.toInt → o = k := fun k q => Int32.toInt_inj.mp q
  rcases (show o.toInt = 0 ∨ o.toInt = 1 ∨ o.toInt = 2 ∨ o.toInt = 3 ∨ o.toInt = 4 ∨ o.toInt = 5 by omega) with q | q | q | q | q | q
  · have := e 0 q; subst this; subst ex; decide
  · have := e 1 q; subst this; subst ex; decide
  · have := e 2 q; subst this; subst ex; decide
  · have := e 3 q; subst this; subst ex; decide
  · have := e 4 q; subst this; subst ex; decide
  · have := e 5 q; subst this; subst ex; decide
set_option maxRecDepth 100000 in
set_option maxHeartbeats 4000000 in
theorem k_X12_relay {l : Launch} {Z : li_Z} (d : Nat) (hd : 352 ≤ d) (p1 p2 p3 : Int32) (M0 : li_M) (hJ : li_J M0) : li_Met l Z YX12_relay d [.ref (Z.2.2 175), .int p1, .int p2, .int p3] M0 (fun r M' => (∃ x : Int32, r = some (.int x)) ∧ li_fs (fun i k => i = 181 ∨ i = 185 ∨ i = 190 ∨ i = 191 ∨ i = 1000 ∨ (i = 175 ∧ k = 10) ∨ (i = 175 ∧ k = 12) ∨ (i = 175 ∧ k = 13) ∨ (i = 175 ∧ k = 14) ∨ (i = 175 ∧ k = 15) ∨ (i = 175 ∧ k = 20) ∨ (i = 175 ∧ k = 32) ∨ (i = 175 ∧ k = 33) ∨ (i = 175 ∧ k = 9)) M0 M' ∧ li_J M') := by
  refine li_enter (by decide +kernel) (Nat.le_of_ble_eq_true rfl) ?_
  show li_T l Z YX12_relay d 0 [(0, .ref (Z.2.2 175)), (1, .int p1), (2, .int p2), (3, .int p3)] [] M0 _
  have hf : li_fs (fun i k => i = 181 ∨ i = 185 ∨ i = 190 ∨ i = 191 ∨ i = 1000 ∨ (i = 175 ∧ k = 10) ∨ (i = 175 ∧ k = 12) ∨ (i = 175 ∧ k = 13) ∨ (i = 175 ∧ k = 14) ∨ (i = 175 ∧ k = 15) ∨ (i = 175 ∧ k = 20) ∨ (i = 175 ∧ k = 32) ∨ (i = 175 ∧ k = 33) ∨ (i = 175 ∧ k = 9)) M0 M0 := li_fs_refl
  have gp1 := tl_rg p1
  have gp2 := tl_rg p2
  have gp3 := tl_rg p3
  have rM0_1 := J_sl1 (M := M0) hJ
  have rM0_9 := J_sl9 (M := M0) hJ
  have rM0_32 := J_sl32 (M := M0) hJ
  refine li_aload_n 0 dX12_relay_0 rfl ?_
  refine li_iconst 0 dX12_relay_1 (by decide) ?_
  refine li_puti (k := 10) (N := 52) (T := TX12) (C0 := RX12) dX12_relay_2 (by decide) sh_175 rfl rfl (by decide) li_in12 tyX12_ok nmX12 rfl rfl rfl rfl w_1414 ?_
  refine li_nm (fun M1 eM1 => ?_)
  have hf := li_fs_ui hf (Or.inr (Or.inr (Or.inr (Or.inr (Or.inr (Or.inl ⟨rfl, rfl⟩)))))) eM1
  have z0 : (0 : Int32).toInt = 0 := rfl
  have hJ := hJ.put (k := 10) (by decide) (rg_free rfl) eM1
  have rM1_1 := J_sl1 (M := M1) hJ
  have rM1_9 := J_sl9 (M := M1) hJ
  have rM1_32 := J_sl32 (M := M1) hJ
  have mM1_1 : (M1.1 175 1).toInt = (M0.1 175 1).toInt := by rw [eM1, li_ui_at, if_pos rfl, if_neg (by decide)]
  have mM1_9 : (M1.1 175 9).toInt = (M0.1 175 9).toInt := by rw [eM1, li_ui_at, if_pos rfl, if_neg (by decide)]
  have mM1_32 : (M1.1 175 32).toInt = (M0.1 175 32).toInt := by rw [eM1, li_ui_at, if_pos rfl, if_neg (by decide)]
  refine li_aload_n 0 dX12_relay_5 rfl ?_
  refine li_iload_n 1 dX12_relay_6 rfl ?_
  refine li_callV (n := 1) (As := [.int p1]) dX12_relay_7 (k_X12_isOne (d - 1) (by omega) p1 M1 hJ ) (by omega) (Nat.le_of_ble_eq_true rfl) w_1648 w_1650 w_56 w_112 w_1651 (by decide +kernel) rfl (by decide) sh_175 rfl rfl (Nat.le_of_ble_eq_true rfl) (fun r M3 h4 => ?_)
  obtain ⟨qx2, h4, jM3⟩ := h4
  have hf := li_fs_trans hf h4 (fun i k h => False.elim h)
  have hJ := jM3
  have rM3_1 := J_sl1 (M := M3) hJ
  have rM3_9 := J_sl9 (M := M3) hJ
  have rM3_32 := J_sl32 (M := M3) hJ
  have mM3_1 : (M3.1 175 1).toInt = (M1.1 175 1).toInt := tl_slot (h4.1 175 1 id)
  have mM3_9 : (M3.1 175 9).toInt = (M1.1 175 9).toInt := tl_slot (h4.1 175 9 id)
  have mM3_32 : (M3.1 175 32).toInt = (M1.1 175 32).toInt := tl_slot (h4.1 175 32 id)
  rcases qx2 with ⟨rfl, qx2⟩ | ⟨rfl, qx2⟩
  · skip
    refine li_if_eq 31 dX12_relay_10 (by decide) (fun c => absurd c (by decide)) (fun c => ?_)
    refine li_aload_n 0 dX12_relay_13 rfl ?_
    refine li_iload_n 2 dX12_relay_14 rfl ?_
    refine li_callV (n := 1) (As := [.int p2]) dX12_relay_15 (k_X12_isOne (d - 1) (by omega) p2 M3 hJ ) (by omega) (Nat.le_of_ble_eq_true rfl) w_1648 w_1650 w_56 w_112 w_1651 (by decide +kernel) rfl (by decide) sh_175 rfl rfl (Nat.le_of_ble_eq_true rfl) (fun r M7 h8 => ?_)
    obtain ⟨qx6, h8, jM7⟩ := h8
    have hf := li_fs_trans hf h8 (fun i k h => False.elim h)
    have hJ := jM7
    have rM7_1 := J_sl1 (M := M7) hJ
    have rM7_9 := J_sl9 (M := M7) hJ
    have rM7_32 := J_sl32 (M := M7) hJ
    have mM7_1 : (M7.1 175 1).toInt = (M3.1 175 1).toInt := tl_slot (h8.1 175 1 id)
    have mM7_9 : (M7.1 175 9).toInt = (M3.1 175 9).toInt := tl_slot (h8.1 175 9 id)
    have mM7_32 : (M7.1 175 32).toInt = (M3.1 175 32).toInt := tl_slot (h8.1 175 32 id)
    rcases qx6 with ⟨rfl, qx6⟩ | ⟨rfl, qx6⟩
    · skip
      refine li_if_eq 31 dX12_relay_18 (by decide) (fun c => absurd c (by decide)) (fun c => ?_)
      refine li_iload_n 3 dX12_relay_21 rfl ?_
      refine li_iconst 1 dX12_relay_22 (by decide) ?_
      refine li_bipush 99 dX12_relay_23 (by decide) ?_
      have z1 : (1 : Int32).toInt = 1 := rfl
      have z99 : (99 : Int32).toInt = 99 := rfl
      refine li_callS (n := 3) (As := [.int p3, .int 1, .int 99]) dX12_relay_25 (k_X12_in (d - 1) (by omega) p3 1 99 M7 hJ ) (by omega) (Nat.le_of_ble_eq_true rfl) w_1570 w_1571 w_112 w_1572 (by decide +kernel) rfl rfl (Nat.le_of_ble_eq_true rfl) (fun r M11 h12 => ?_)
      obtain ⟨qx10, h12, jM11⟩ := h12
      have hf := li_fs_trans hf h12 (fun i k h => False.elim h)
      have hJ := jM11
      have rM11_1 := J_sl1 (M := M11) hJ
      have rM11_9 := J_sl9 (M := M11) hJ
      have rM11_32 := J_sl32 (M := M11) hJ
      have mM11_1 : (M11.1 175 1).toInt = (M7.1 175 1).toInt := tl_slot (h12.1 175 1 id)
      have mM11_9 : (M11.1 175 9).toInt = (M7.1 175 9).toInt := tl_slot (h12.1 175 9 id)
      have mM11_32 : (M11.1 175 32).toInt = (M7.1 175 32).toInt := tl_slot (h12.1 175 32 id)
      rcases qx10 with ⟨rfl, qx10⟩ | ⟨rfl, qx10⟩
      · skip
        refine li_if_ne 33 dX12_relay_28 (by decide) (fun c => ?_) (fun c => absurd c (by decide))
        refine li_aload_n 0 dX12_relay_33 rfl ?_
        refine li_ldcw 1000000 dX12_relay_34 w_1859 ?_
        refine li_puti (k := 33) (N := 52) (T := TX12) (C0 := RX12) dX12_relay_37 (by decide) sh_175 rfl rfl (by decide) li_in12 tyX12_ok nmX12 rfl rfl rfl rfl w_1437 ?_
        refine li_nm (fun M14 eM14 => ?_)
        have hf := li_fs_ui hf (Or.inr (Or.inr (Or.inr (Or.inr (Or.inr (Or.inr (Or.inr (Or.inr (Or.inr (Or.inr (Or.inr (Or.inr (Or.inl ⟨rfl, rfl⟩))))))))))))) eM14
        have z1000000 : (1000000 : Int32).toInt = 1000000 := rfl
        have hJ := hJ.put (k := 33) (by decide) (rg_free rfl) eM14
        have rM14_1 := J_sl1 (M := M14) hJ
        have rM14_9 := J_sl9 (M := M14) hJ
        have rM14_32 := J_sl32 (M := M14) hJ
        have mM14_1 : (M14.1 175 1).toInt = (M11.1 175 1).toInt := by rw [eM14, li_ui_at, if_pos rfl, if_neg (by decide)]
        have mM14_9 : (M14.1 175 9).toInt = (M11.1 175 9).toInt := by rw [eM14, li_ui_at, if_pos rfl, if_neg (by decide)]
        have mM14_32 : (M14.1 175 32).toInt = (M11.1 175 32).toInt := by rw [eM14, li_ui_at, if_pos rfl, if_neg (by decide)]
        refine li_aload_n 0 dX12_relay_40 rfl ?_
        refine li_iconst 0 dX12_relay_41 (by decide) ?_
        refine li_puti (k := 32) (N := 52) (T := TX12) (C0 := RX12) dX12_relay_42 (by decide) sh_175 rfl rfl (by decide) li_in12 tyX12_ok nmX12 rfl rfl rfl rfl w_1436 ?_
        refine li_nm (fun M15 eM15 => ?_)
        have hf := li_fs_ui hf (Or.inr (Or.inr (Or.inr (Or.inr (Or.inr (Or.inr (Or.inr (Or.inr (Or.inr (Or.inr (Or.inr (Or.inl ⟨rfl, rfl⟩)))))))))))) eM15
        have z0 : (0 : Int32).toInt = 0 := rfl
        have hJ := J_pt32 hJ (show 0 ≤ (0 : Int32).toInt ∧ (0 : Int32).toInt ≤ 6 by omega) eM15
        have rM15_1 := J_sl1 (M := M15) hJ
        have rM15_9 := J_sl9 (M := M15) hJ
        have rM15_32 := J_sl32 (M := M15) hJ
        have mM15_1 : (M15.1 175 1).toInt = (M14.1 175 1).toInt := by rw [eM15, li_ui_at, if_pos rfl, if_neg (by decide)]
        have mM15_9 : (M15.1 175 9).toInt = (M14.1 175 9).toInt := by rw [eM15, li_ui_at, if_pos rfl, if_neg (by decide)]
        have mM15_32 : (M15.1 175 32).toInt = 0 := by rw [eM15, li_ui_at, if_pos rfl, if_pos rfl]; rfl
        refine li_aload_n 0 dX12_relay_45 rfl ?_
        refine li_iload_n 1 dX12_relay_46 rfl ?_
        refine li_iload_n 2 dX12_relay_47 rfl ?_
        refine li_iload_n 3 dX12_relay_48 rfl ?_
        refine li_iconst 0 dX12_relay_49 (by decide) ?_
        refine li_iconst 1 dX12_relay_50 (by decide) ?_
        refine li_iload_n 1 dX12_relay_51 rfl ?_
        refine li_ishl dX12_relay_52 ?_
        refine li_top (fun x16 ex16 => ?_)
        have z1 : (1 : Int32).toInt = 1 := rfl
        try (have tx16 := tl_shl255 ex16 (by omega))
        refine li_iconst 0 dX12_relay_53 (by decide) ?_
        have z0 : (0 : Int32).toInt = 0 := rfl
        have z0 : (0 : Int32).toInt = 0 := rfl
        refine li_callV (n := 6) (As := [.int p1, .int p2, .int p3, .int 0, .int x16, .int 0]) dX12_relay_54 (kk_X12_goRelay 6 (d - 1) p1 p2 p3 0 x16 0 M15 hJ (by omega) (by omega) (by have h8 := lb_pc_1 (by omega) ex16; omega) (by omega) (by omega)) (by omega) (Nat.le_of_ble_eq_true rfl) w_1860 w_1862 w_88 w_112 w_1863 (by decide +kernel) rfl (by decide) sh_175 rfl rfl (Nat.le_of_ble_eq_true rfl) (fun r M18 h19 => ?_)
        obtain ⟨rfl, h19, jM18⟩ := h19
        have hf := li_fs_trans hf h19 (fun i k => fun h => Or.elim h (fun h => Or.inr (Or.inl h)) (fun h => Or.elim h (fun h => Or.inr (Or.inr (Or.inl h))) (fun h => Or.elim h (fun h => Or.inr (Or.inr (Or.inr (Or.inl h)))) (fun h => Or.elim h (fun h => Or.inr (Or.inr (Or.inr (Or.inr (Or.inl h))))) (fun h => Or.elim h (fun h => Or.inr (Or.inr (Or.inr (Or.inr (Or.inr (Or.inr (Or.inl h))))))) (fun h => Or.elim h (fun h => Or.inr (Or.inr (Or.inr (Or.inr (Or.inr (Or.inr (Or.inr (Or.inl h)))))))) (fun h => Or.elim h (fun h => Or.inr (Or.inr (Or.inr (Or.inr (Or.inr (Or.inr (Or.inr (Or.inr (Or.inl h))))))))) (fun h => Or.elim h (fun h => Or.inr (Or.inr (Or.inr (Or.inr (Or.inr (Or.inr (Or.inr (Or.inr (Or.inr (Or.inl h)))))))))) (fun h => Or.elim h (fun h => Or.inr (Or.inr (Or.inr (Or.inr (Or.inr (Or.inr (Or.inr (Or.inr (Or.inr (Or.inr (Or.inl h))))))))))) (fun h => Or.elim h (fun h => Or.inr (Or.inr (Or.inr (Or.inr (Or.inr (Or.inr (Or.inr (Or.inr (Or.inr (Or.inr (Or.inr (Or.inl h)))))))))))) (fun h => Or.inr (Or.inr (Or.inr (Or.inr (Or.inr (Or.inr (Or.inr (Or.inr (Or.inr (Or.inr (Or.inr (Or.inr (Or.inl h)))))))))))))))))))))))
        have hJ := jM18
        have rM18_1 := J_sl1 (M := M18) hJ
        have rM18_9 := J_sl9 (M := M18) hJ
        have rM18_32 := J_sl32 (M := M18) hJ
        have mM18_1 : (M18.1 175 1).toInt = (M15.1 175 1).toInt := tl_slot (h19.1 175 1 (show ¬ (175 = 185 ∨ 175 = 190 ∨ 175 = 191 ∨ 175 = 1000 ∨ (175 = 175 ∧ 1 = 12) ∨ (175 = 175 ∧ 1 = 13) ∨ (175 = 175 ∧ 1 = 14) ∨ (175 = 175 ∧ 1 = 15) ∨ (175 = 175 ∧ 1 = 20) ∨ (175 = 175 ∧ 1 = 32) ∨ (175 = 175 ∧ 1 = 33)) by decide))
        have mM18_9 : (M18.1 175 9).toInt = (M15.1 175 9).toInt := tl_slot (h19.1 175 9 (show ¬ (175 = 185 ∨ 175 = 190 ∨ 175 = 191 ∨ 175 = 1000 ∨ (175 = 175 ∧ 9 = 12) ∨ (175 = 175 ∧ 9 = 13) ∨ (175 = 175 ∧ 9 = 14) ∨ (175 = 175 ∧ 9 = 15) ∨ (175 = 175 ∧ 9 = 20) ∨ (175 = 175 ∧ 9 = 32) ∨ (175 = 175 ∧ 9 = 33)) by decide))
        refine li_aload_n 0 dX12_relay_57 rfl ?_
        refine li_geti (k := 33) (N := 52) (T := TX12) (C0 := RX12) dX12_relay_58 (by decide) sh_175 rfl rfl (by decide) li_in12 w_1437 ?_
        refine li_top (fun x20 ex20 => ?_)
        have gx20 := tl_rg x20
        have mx20 : x20.toInt = (M18.1 175 33).toInt := tl_slot ex20
        refine li_ldcw 1000000 dX12_relay_61 w_1859 ?_
        refine li_icmp_ne 70 dX12_relay_64 (by decide) (fun c21 => ?_) (fun c21 => ?_)
        · have tc21 : ¬ x20.toInt = 1000000 := tl_ne c21
          refine li_aload_n 0 dX12_relay_70 rfl ?_
          refine li_iconst 0 dX12_relay_71 (by decide) ?_
          refine li_puti (k := 9) (N := 52) (T := TX12) (C0 := RX12) dX12_relay_72 (by decide) sh_175 rfl rfl (by decide) li_in12 tyX12_ok nmX12 rfl rfl rfl rfl w_1413 ?_
          refine li_nm (fun M22 eM22 => ?_)
          have hf := li_fs_ui hf (Or.inr (Or.inr (Or.inr (Or.inr (Or.inr (Or.inr (Or.inr (Or.inr (Or.inr (Or.inr (Or.inr (Or.inr (Or.inr (⟨rfl, rfl⟩)))))))))))))) eM22
          have z0 : (0 : Int32).toInt = 0 := rfl
          have hJ := J_pt9 hJ (show 0 ≤ (0 : Int32).toInt ∧ (0 : Int32).toInt ≤ 20 by omega) eM22
          have rM22_1 := J_sl1 (M := M22) hJ
          have rM22_9 := J_sl9 (M := M22) hJ
          have rM22_32 := J_sl32 (M := M22) hJ
          have mM22_1 : (M22.1 175 1).toInt = (M18.1 175 1).toInt := by rw [eM22, li_ui_at, if_pos rfl, if_neg (by decide)]
          have mM22_9 : (M22.1 175 9).toInt = 0 := by rw [eM22, li_ui_at, if_pos rfl, if_pos rfl]; rfl
          have mM22_32 : (M22.1 175 32).toInt = (M18.1 175 32).toInt := by rw [eM22, li_ui_at, if_pos rfl, if_neg (by decide)]
          refine li_iconst 0 dX12_relay_75 (by decide) ?_
          refine li_istore [(4, .int 0), (0, .ref (Z.2.2 175)), (1, .int p1), (2, .int p2), (3, .int p3)] dX12_relay_76 (by decide) rfl ?_
          have L78 : ∀ (n : Nat) (x23 : Int32) (M24 : li_M), (6 - (x23 : Int32).toInt).toNat < n → li_fs (fun i k => i = 181 ∨ i = 185 ∨ i = 190 ∨ i = 191 ∨ i = 1000 ∨ (i = 175 ∧ k = 10) ∨ (i = 175 ∧ k = 12) ∨ (i = 175 ∧ k = 13) ∨ (i = 175 ∧ k = 14) ∨ (i = 175 ∧ k = 15) ∨ (i = 175 ∧ k = 20) ∨ (i = 175 ∧ k = 32) ∨ (i = 175 ∧ k = 33) ∨ (i = 175 ∧ k = 9)) M0 M24 → li_J M24 → 0 ≤ (x23 : Int32).toInt ∧ (M24.1 175 9).toInt = (x23 : Int32).toInt → li_T l Z YX12_relay d 78 [(4, .int x23), (0, .ref (Z.2.2 175)), (1, .int p1), (2, .int p2), (3, .int p3)] [] M24 (fun r M' => (∃ x : Int32, r = some (.int x)) ∧ li_fs (fun i k => i = 181 ∨ i = 185 ∨ i = 190 ∨ i = 191 ∨ i = 1000 ∨ (i = 175 ∧ k = 10) ∨ (i = 175 ∧ k = 12) ∨ (i = 175 ∧ k = 13) ∨ (i = 175 ∧ k = 14) ∨ (i = 175 ∧ k = 15) ∨ (i = 175 ∧ k = 20) ∨ (i = 175 ∧ k = 32) ∨ (i = 175 ∧ k = 33) ∨ (i = 175 ∧ k = 9)) M0 M' ∧ li_J M') := by
            intro n
            induction n with
            | zero => intro x23 M24 hn; exact absurd hn (Nat.not_lt_zero _)
            | succ n ih78 =>
              intro x23 M24 hn hf hJ hi
              have gx23 := tl_rg x23
              have rM24_1 := J_sl1 (M := M24) hJ
              have rM24_9 := J_sl9 (M := M24) hJ
              have rM24_32 := J_sl32 (M := M24) hJ
              have mM24_1 : (M24.1 175 1).toInt = (M0.1 175 1).toInt := tl_slot (hf.1 175 1 (show ¬ (175 = 181 ∨ 175 = 185 ∨ 175 = 190 ∨ 175 = 191 ∨ 175 = 1000 ∨ (175 = 175 ∧ 1 = 10) ∨ (175 = 175 ∧ 1 = 12) ∨ (175 = 175 ∧ 1 = 13) ∨ (175 = 175 ∧ 1 = 14) ∨ (175 = 175 ∧ 1 = 15) ∨ (175 = 175 ∧ 1 = 20) ∨ (175 = 175 ∧ 1 = 32) ∨ (175 = 175 ∧ 1 = 33) ∨ (175 = 175 ∧ 1 = 9)) by decide))
              refine li_iload 0 dX12_relay_78 rfl ?_
              refine li_aload_n 1 dX12_relay_80 rfl ?_
              refine li_geti (k := 32) (N := 52) (T := TX12) (C0 := RX12) dX12_relay_81 (by decide) sh_175 rfl rfl (by decide) li_in12 w_1436 ?_
              refine li_top (fun x25 ex25 => ?_)
              have gx25 : 0 ≤ x25.toInt ∧ x25.toInt ≤ 6 := by rw [ex25]; exact J_sl32 hJ
              have mx25 : x25.toInt = (M24.1 175 32).toInt := tl_slot ex25
              refine li_icmp_ge 104 dX12_relay_84 (by decide) (fun c26 => ?_) (fun c26 => ?_)
              · have tc26 : x25.toInt ≤ x23.toInt := tl_le c26
                refine li_aload_n 1 dX12_relay_104 rfl ?_
                refine li_geti (k := 33) (N := 52) (T := TX12) (C0 := RX12) dX12_relay_105 (by decide) sh_175 rfl rfl (by decide) li_in12 w_1437 ?_
                refine li_top (fun x27 ex27 => ?_)
                have gx27 := tl_rg x27
                have mx27 : x27.toInt = (M24.1 175 33).toInt := tl_slot ex27
                exact li_iret dX12_relay_108 rfl rfl ⟨⟨_, rfl⟩, hf, hJ⟩
              · have tc26 : x23.toInt < x25.toInt := tl_nle c26
                refine li_aload_n 1 dX12_relay_87 rfl ?_
                refine li_aload_n 1 dX12_relay_88 rfl ?_
                refine li_getr (k := 31) (N := 52) (T := TX12) (C0 := RX12) dX12_relay_89 (by decide) sh_175 rfl rfl (by decide) (by decide) li_in12 w_1435 ?_
                refine li_iload 0 dX12_relay_92 rfl ?_
                refine li_iald dX12_relay_94 (by decide) sh_191 (tl_in (by omega)) ?_
                refine li_top (fun x28 ex28 => ?_)
                have gx28 := tl_rg x28
                refine li_callV (n := 1) (As := [.int x28]) dX12_relay_95 (k_X12_tell (d - 1) (by omega) x28 M24 hJ (by omega)) (by omega) (Nat.le_of_ble_eq_true rfl) w_1783 w_1785 w_77 w_112 w_1786 (by decide +kernel) rfl (by decide) sh_175 rfl rfl (Nat.le_of_ble_eq_true rfl) (fun r M30 h31 => ?_)
                obtain ⟨rfl, h31, jM30, nM30⟩ := h31
                have hf := li_fs_trans hf h31 (fun i k => fun h => Or.elim h (fun h => Or.inl h) (fun h => Or.inr (Or.inr (Or.inr (Or.inr (Or.inr (Or.inr (Or.inr (Or.inr (Or.inr (Or.inr (Or.inr (Or.inr (Or.inr h))))))))))))))
                have hJ := jM30
                have rM30_1 := J_sl1 (M := M30) hJ
                have rM30_9 := J_sl9 (M := M30) hJ
                have rM30_32 := J_sl32 (M := M30) hJ
                have mM30_1 : (M30.1 175 1).toInt = (M24.1 175 1).toInt := tl_slot (h31.1 175 1 (show ¬ (175 = 181 ∨ (175 = 175 ∧ 1 = 9)) by decide))
                have mM30_32 : (M30.1 175 32).toInt = (M24.1 175 32).toInt := tl_slot (h31.1 175 32 (show ¬ (175 = 181 ∨ (175 = 175 ∧ 32 = 9)) by decide))
                obtain ⟨x32, ex32⟩ : ∃ y : Int32, y = x23 + 1 := ⟨_, rfl⟩
                have z1 : (1 : Int32).toInt = 1 := rfl
                try (have tx32 : x32.toInt = (x23 : Int32).toInt + (1 : Int32).toInt := tl_add ex32 (by omega))
                refine li_iinc 0 [(4, .int x32), (0, .ref (Z.2.2 175)), (1, .int p1), (2, .int p2), (3, .int p3)] x32 dX12_relay_98 rfl (by rw [ex32]; rfl) (by decide) rfl ?_
                refine li_goto 78 dX12_relay_101 (by decide) ?_
                refine li_pick [0, 1, 2, 3, 4] [(4, .int x32), (0, .ref (Z.2.2 175)), (1, .int p1), (2, .int p2), (3, .int p3)] rfl ?_
                exact ih78 x32 M30 (by omega) hf hJ (by omega)
          have z0 : (0 : Int32).toInt = 0 := rfl
          exact L78 _ 0 M22 (Nat.lt_succ_self _) hf hJ (by omega)
        · have tc21 : x20.toInt = 1000000 := tl_eq c21
          refine li_bipush (-2) dX12_relay_67 (by decide) ?_
          have zm2 : ((-2) : Int32).toInt = -2 := rfl
          exact li_iret dX12_relay_69 rfl rfl ⟨⟨_, rfl⟩, hf, hJ⟩
      · skip
        refine li_if_ne 33 dX12_relay_28 (by decide) (fun c => absurd rfl c) (fun c => ?_)
        refine li_iconst (-1) dX12_relay_31 (by decide) ?_
        have zm1 : ((-1) : Int32).toInt = -1 := rfl
        exact li_iret dX12_relay_32 rfl rfl ⟨⟨_, rfl⟩, hf, hJ⟩
    · skip
      refine li_if_eq 31 dX12_relay_18 (by decide) (fun c => ?_) (fun c => absurd rfl c)
      refine li_iconst (-1) dX12_relay_31 (by decide) ?_
      have zm1 : ((-1) : Int32).toInt = -1 := rfl
      exact li_iret dX12_relay_32 rfl rfl ⟨⟨_, rfl⟩, hf, hJ⟩
  · skip
    refine li_if_eq 31 dX12_relay_10 (by decide) (fun c => ?_) (fun c => absurd rfl c)
    refine li_iconst (-1) dX12_relay_31 (by decide) ?_
    have zm1 : ((-1) : Int32).toInt = -1 := rfl
    exact li_iret dX12_relay_32 rfl rfl ⟨⟨_, rfl⟩, hf, hJ⟩
