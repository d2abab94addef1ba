theorem w_90 : (Jvm.Cond.selects "ClockForTalkModel" ({ cls := "ClockForTalkModel", name := "known", desc := "(III)I" } : Jvm.MethodName) ({ cls := "ClockForTalkModel", name := "known", desc := "(III)I" } : Jvm.MethodName)) ∈ li_ws := li_mem 90 (by decide +kernel) (by decide +kernel)
theorem w_91 : (Jvm.Cond.selects "ClockForTalkModel" ({ cls := "ClockForTalkModel", name := "cried", desc := "(II)I" } : Jvm.MethodName) ({ cls := "ClockForTalkModel", name := "cried", desc := "(II)I" } : Jvm.MethodName)) ∈ li_ws := li_mem 91 (by decide +kernel) (by decide +kernel)
theorem w_1872 : (Jvm.Cond.methodLink "ClockForTalkModel" (362 : Nat) ({ cls := "ClockForTalkModel", name := "known", desc := "(III)I" } : Jvm.MethodName)) ∈ li_ws := li_mem 1872 (by decide +kernel) (by decide +kernel)
theorem w_1874 : (Jvm.Cond.instanceMethod ({ cls := "ClockForTalkModel", name := "known", desc := "(III)I" } : Jvm.MethodName)) ∈ li_ws := li_mem 1874 (by decide +kernel) (by decide +kernel)
theorem w_1875 : (Jvm.Cond.code ({ cls := "ClockForTalkModel", name := "known", desc := "(III)I" } : Jvm.MethodName) prog_13_method_80_code (7 : Nat) (Option.some Jvm.ClassFile.FieldType.int)) ∈ li_ws := li_mem 1875 (by decide +kernel) (by decide +kernel)
theorem w_1876 : (Jvm.Cond.methodLink "ClockForTalkModel" (359 : Nat) ({ cls := "ClockForTalkModel", name := "cried", desc := "(II)I" } : Jvm.MethodName)) ∈ li_ws := li_mem 1876 (by decide +kernel) (by decide +kernel)
theorem w_1878 : (Jvm.Cond.instanceMethod ({ cls := "ClockForTalkModel", name := "cried", desc := "(II)I" } : Jvm.MethodName)) ∈ li_ws := li_mem 1878 (by decide +kernel) (by decide +kernel)
theorem w_1879 : (Jvm.Cond.code ({ cls := "ClockForTalkModel", name := "cried", desc := "(II)I" } : Jvm.MethodName) prog_13_method_81_code (5 : Nat) (Option.some Jvm.ClassFile.FieldType.int)) ∈ li_ws := li_mem 1879 (by decide +kernel) (by decide +kernel)
theorem dX12_cried_0 : decode cX12_cried 0 = .ok (.iconst 0, 1) := by decide +kernel
theorem dX12_cried_1 : decode cX12_cried 1 = .ok (.istore_n 3, 1) := by decide +kernel
theorem dX12_cried_2 : decode cX12_cried 2 = .ok (.iconst 0, 1) := by decide +kernel
theorem dX12_cried_3 : decode cX12_cried 3 = .ok (.istore 4, 2) := by decide +kernel
theorem dX12_cried_5 : decode cX12_cried 5 = .ok (.iload 4, 2) := by decide +kernel
theorem dX12_cried_7 : decode cX12_cried 7 = .ok (.iconst 4, 1) := by decide +kernel
theorem dX12_cried_8 : decode cX12_cried 8 = .ok (.if_icmp .ge 57, 3) := by decide +kernel
theorem dX12_cried_11 : decode cX12_cried 11 = .ok (.aload_n 0, 1) := by decide +kernel
theorem dX12_cried_12 : decode cX12_cried 12 = .ok (.aload_n 0, 1) := by decide +kernel
theorem dX12_cried_13 : decode cX12_cried 13 = .ok (.getfield 9, 3) := by decide +kernel
theorem dX12_cried_16 : decode cX12_cried 16 = .ok (.bipush 19, 2) := by decide +kernel
theorem dX12_cried_18 : decode cX12_cried 18 = .ok (.iaload, 1) := by decide +kernel
theorem dX12_cried_19 : decode cX12_cried 19 = .ok (.iload_n 2, 1) := by decide +kernel
theorem dX12_cried_20 : decode cX12_cried 20 = .ok (.iload 4, 2) := by decide +kernel
theorem dX12_cried_22 : decode cX12_cried 22 = .ok (.iconst 0, 1) := by decide +kernel
theorem dX12_cried_23 : decode cX12_cried 23 = .ok (.aload_n 0, 1) := by decide +kernel
theorem dX12_cried_24 : decode cX12_cried 24 = .ok (.getfield 9, 3) := by decide +kernel
theorem dX12_cried_27 : decode cX12_cried 27 = .ok (.iload_n 1, 1) := by decide +kernel
theorem dX12_cried_28 : decode cX12_cried 28 = .ok (.iaload, 1) := by decide +kernel
theorem dX12_cried_29 : decode cX12_cried 29 = .ok (.aload_n 0, 1) := by decide +kernel
theorem dX12_cried_30 : decode cX12_cried 30 = .ok (.iload_n 1, 1) := by decide +kernel
theorem dX12_cried_31 : decode cX12_cried 31 = .ok (.iload 4, 2) := by decide +kernel
theorem dX12_cried_33 : decode cX12_cried 33 = .ok (.invokevirtual 223, 3) := by decide +kernel
theorem dX12_cried_36 : decode cX12_cried 36 = .ok (.invokestatic 226, 3) := by decide +kernel
theorem dX12_cried_39 : decode cX12_cried 39 = .ok (.invokevirtual 231, 3) := by decide +kernel
theorem dX12_cried_42 : decode cX12_cried 42 = .ok (.aload_n 0, 1) := by decide +kernel
theorem dX12_cried_43 : decode cX12_cried 43 = .ok (.getfield 9, 3) := by decide +kernel
theorem dX12_cried_46 : decode cX12_cried 46 = .ok (.iload_n 1, 1) := by decide +kernel
theorem dX12_cried_47 : decode cX12_cried 47 = .ok (.iaload, 1) := by decide +kernel
theorem dX12_cried_48 : decode cX12_cried 48 = .ok (.if_icmp .gt 11, 3) := by decide +kernel
theorem dX12_cried_51 : decode cX12_cried 51 = .ok (.aload_n 0, 1) := by decide +kernel
theorem dX12_cried_52 : decode cX12_cried 52 = .ok (.iload_n 1, 1) := by decide +kernel
theorem dX12_cried_53 : decode cX12_cried 53 = .ok (.iload 4, 2) := by decide +kernel
theorem dX12_cried_55 : decode cX12_cried 55 = .ok (.invokevirtual 223, 3) := by decide +kernel
theorem dX12_cried_58 : decode cX12_cried 58 = .ok (.istore_n 3, 1) := by decide +kernel
theorem dX12_cried_59 : decode cX12_cried 59 = .ok (.iinc 4 1, 3) := by decide +kernel
theorem dX12_cried_62 : decode cX12_cried 62 = .ok (.goto (-57), 3) := by decide +kernel
theorem dX12_cried_65 : decode cX12_cried 65 = .ok (.iload_n 3, 1) := by decide +kernel
theorem dX12_cried_66 : decode cX12_cried 66 = .ok (.ireturn, 1) := by decide +kernel
abbrev YX12_cried : li_Y := (yX12_cried, cX12_cried, 5, (some .int))
theorem dX12_known_0 : decode cX12_known 0 = .ok (.iconst 1, 1) := by decide +kernel
theorem dX12_known_1 : decode cX12_known 1 = .ok (.iload_n 1, 1) := by decide +kernel
theorem dX12_known_2 : decode cX12_known 2 = .ok (.ishl, 1) := by decide +kernel
theorem dX12_known_3 : decode cX12_known 3 = .ok (.istore 4, 2) := by decide +kernel
theorem dX12_known_5 : decode cX12_known 5 = .ok (.iconst 0, 1) := by decide +kernel
theorem dX12_known_6 : decode cX12_known 6 = .ok (.istore 5, 2) := by decide +kernel
theorem dX12_known_8 : decode cX12_known 8 = .ok (.iload 5, 2) := by decide +kernel
theorem dX12_known_10 : decode cX12_known 10 = .ok (.aload_n 0, 1) := by decide +kernel
theorem dX12_known_11 : decode cX12_known 11 = .ok (.getfield 110, 3) := by decide +kernel
theorem dX12_known_14 : decode cX12_known 14 = .ok (.if_icmp .ge 58, 3) := by decide +kernel
theorem dX12_known_17 : decode cX12_known 17 = .ok (.iconst 0, 1) := by decide +kernel
theorem dX12_known_18 : decode cX12_known 18 = .ok (.istore 6, 2) := by decide +kernel
theorem dX12_known_20 : decode cX12_known 20 = .ok (.iload 6, 2) := by decide +kernel
theorem dX12_known_22 : decode cX12_known 22 = .ok (.aload_n 0, 1) := by decide +kernel
theorem dX12_known_23 : decode cX12_known 23 = .ok (.getfield 110, 3) := by decide +kernel
theorem dX12_known_26 : decode cX12_known 26 = .ok (.if_icmp .ge 40, 3) := by decide +kernel
theorem dX12_known_29 : decode cX12_known 29 = .ok (.iload 4, 2) := by decide +kernel
theorem dX12_known_31 : decode cX12_known 31 = .ok (.iload 6, 2) := by decide +kernel
theorem dX12_known_33 : decode cX12_known 33 = .ok (.invokestatic 251, 3) := by decide +kernel
theorem dX12_known_36 : decode cX12_known 36 = .ok (.ifCond .eq 24, 3) := by decide +kernel
theorem dX12_known_39 : decode cX12_known 39 = .ok (.iload_n 2, 1) := by decide +kernel
theorem dX12_known_40 : decode cX12_known 40 = .ok (.iload 6, 2) := by decide +kernel
theorem dX12_known_42 : decode cX12_known 42 = .ok (.invokestatic 251, 3) := by decide +kernel
theorem dX12_known_45 : decode cX12_known 45 = .ok (.ifCond .eq 15, 3) := by decide +kernel
theorem dX12_known_48 : decode cX12_known 48 = .ok (.iload 4, 2) := by decide +kernel
theorem dX12_known_50 : decode cX12_known 50 = .ok (.aload_n 0, 1) := by decide +kernel
theorem dX12_known_51 : decode cX12_known 51 = .ok (.iload 6, 2) := by decide +kernel
theorem dX12_known_53 : decode cX12_known 53 = .ok (.iload_n 3, 1) := by decide +kernel
theorem dX12_known_54 : decode cX12_known 54 = .ok (.invokevirtual 359, 3) := by decide +kernel
theorem dX12_known_57 : decode cX12_known 57 = .ok (.ior, 1) := by decide +kernel
theorem dX12_known_58 : decode cX12_known 58 = .ok (.istore 4, 2) := by decide +kernel
theorem dX12_known_60 : decode cX12_known 60 = .ok (.iinc 6 1, 3) := by decide +kernel
theorem dX12_known_63 : decode cX12_known 63 = .ok (.goto (-43), 3) := by decide +kernel
theorem dX12_known_66 : decode cX12_known 66 = .ok (.iinc 5 1, 3) := by decide +kernel
theorem dX12_known_69 : decode cX12_known 69 = .ok (.goto (-61), 3) := by decide +kernel
theorem dX12_known_72 : decode cX12_known 72 = .ok (.iload 4, 2) := by decide +kernel
theorem dX12_known_74 : decode cX12_known 74 = .ok (.ireturn, 1) := by decide +kernel
abbrev YX12_known : li_Y := (yX12_known, cX12_known, 7, (some .int))
theorem dX12_criers_0 : decode cX12_criers 0 = .ok (.aload_n 0, 1) := by decide +kernel
theorem dX12_criers_1 : decode cX12_criers 1 = .ok (.iconst 0, 1) := by decide +kernel
theorem dX12_criers_2 : decode cX12_criers 2 = .ok (.putfield 103, 3) := by decide +kernel
theorem dX12_criers_5 : decode cX12_criers 5 = .ok (.aload_n 0, 1) := by decide +kernel
theorem dX12_criers_6 : decode cX12_criers 6 = .ok (.iload_n 1, 1) := by decide +kernel
theorem dX12_criers_7 : decode cX12_criers 7 = .ok (.invokevirtual 117, 3) := by decide +kernel
theorem dX12_criers_10 : decode cX12_criers 10 = .ok (.ifCond .eq 29, 3) := by decide +kernel
theorem dX12_criers_13 : decode cX12_criers 13 = .ok (.iload_n 2, 1) := by decide +kernel
theorem dX12_criers_14 : decode cX12_criers 14 = .ok (.iconst 0, 1) := by decide +kernel
theorem dX12_criers_15 : decode cX12_criers 15 = .ok (.iconst 1, 1) := by decide +kernel
theorem dX12_criers_16 : decode cX12_criers 16 = .ok (.aload_n 0, 1) := by decide +kernel
theorem dX12_criers_17 : decode cX12_criers 17 = .ok (.getfield 110, 3) := by decide +kernel
theorem dX12_criers_20 : decode cX12_criers 20 = .ok (.ishl, 1) := by decide +kernel
theorem dX12_criers_21 : decode cX12_criers 21 = .ok (.iconst 1, 1) := by decide +kernel
theorem dX12_criers_22 : decode cX12_criers 22 = .ok (.isub, 1) := by decide +kernel
theorem dX12_criers_23 : decode cX12_criers 23 = .ok (.invokestatic 113, 3) := by decide +kernel
theorem dX12_criers_26 : decode cX12_criers 26 = .ok (.ifCond .eq 13, 3) := by decide +kernel
theorem dX12_criers_29 : decode cX12_criers 29 = .ok (.iload_n 3, 1) := by decide +kernel
theorem dX12_criers_30 : decode cX12_criers 30 = .ok (.iconst 1, 1) := by decide +kernel
theorem dX12_criers_31 : decode cX12_criers 31 = .ok (.bipush 99, 2) := by decide +kernel
theorem dX12_criers_33 : decode cX12_criers 33 = .ok (.invokestatic 113, 3) := by decide +kernel
theorem dX12_criers_36 : decode cX12_criers 36 = .ok (.ifCond .ne 5, 3) := by decide +kernel
theorem dX12_criers_39 : decode cX12_criers 39 = .ok (.iconst (-1), 1) := by decide +kernel
theorem dX12_criers_40 : decode cX12_criers 40 = .ok (.ireturn, 1) := by decide +kernel
theorem dX12_criers_41 : decode cX12_criers 41 = .ok (.iconst (-1), 1) := by decide +kernel
theorem dX12_criers_42 : decode cX12_criers 42 = .ok (.istore 4, 2) := by decide +kernel
theorem dX12_criers_44 : decode cX12_criers 44 = .ok (.iconst 0, 1) := by decide +kernel
theorem dX12_criers_45 : decode cX12_criers 45 = .ok (.istore 5, 2) := by decide +kernel
theorem dX12_criers_47 : decode cX12_criers 47 = .ok (.iload 5, 2) := by decide +kernel
theorem dX12_criers_49 : decode cX12_criers 49 = .ok (.iconst 1, 1) := by decide +kernel
theorem dX12_criers_50 : decode cX12_criers 50 = .ok (.aload_n 0, 1) := by decide +kernel
theorem dX12_criers_51 : decode cX12_criers 51 = .ok (.getfield 110, 3) := by decide +kernel
theorem dX12_criers_54 : decode cX12_criers 54 = .ok (.ishl, 1) := by decide +kernel
theorem dX12_criers_55 : decode cX12_criers 55 = .ok (.if_icmp .ge 50, 3) := by decide +kernel
theorem dX12_criers_58 : decode cX12_criers 58 = .ok (.iload 4, 2) := by decide +kernel
theorem dX12_criers_60 : decode cX12_criers 60 = .ok (.iconst (-1), 1) := by decide +kernel
theorem dX12_criers_61 : decode cX12_criers 61 = .ok (.if_icmp .eq 19, 3) := by decide +kernel
theorem dX12_criers_64 : decode cX12_criers 64 = .ok (.iload 5, 2) := by decide +kernel
theorem dX12_criers_66 : decode cX12_criers 66 = .ok (.invokestatic 226, 3) := by decide +kernel
theorem dX12_criers_69 : decode cX12_criers 69 = .ok (.iload 4, 2) := by decide +kernel
theorem dX12_criers_71 : decode cX12_criers 71 = .ok (.invokestatic 226, 3) := by decide +kernel
theorem dX12_criers_74 : decode cX12_criers 74 = .ok (.if_icmp .lt 6, 3) := by decide +kernel
theorem dX12_criers_77 : decode cX12_criers 77 = .ok (.goto 22, 3) := by decide +kernel
theorem dX12_criers_80 : decode cX12_criers 80 = .ok (.iload_n 2, 1) := by decide +kernel
theorem dX12_criers_81 : decode cX12_criers 81 = .ok (.aload_n 0, 1) := by decide +kernel
theorem dX12_criers_82 : decode cX12_criers 82 = .ok (.iload_n 1, 1) := by decide +kernel
theorem dX12_criers_83 : decode cX12_criers 83 = .ok (.iload 5, 2) := by decide +kernel
theorem dX12_criers_85 : decode cX12_criers 85 = .ok (.iload_n 3, 1) := by decide +kernel
theorem dX12_criers_86 : decode cX12_criers 86 = .ok (.invokevirtual 362, 3) := by decide +kernel
theorem dX12_criers_89 : decode cX12_criers 89 = .ok (.iconst (-1), 1) := by decide +kernel
theorem dX12_criers_90 : decode cX12_criers 90 = .ok (.ixor, 1) := by decide +kernel
theorem dX12_criers_91 : decode cX12_criers 91 = .ok (.iand, 1) := by decide +kernel
theorem dX12_criers_92 : decode cX12_criers 92 = .ok (.ifCond .ne 7, 3) := by decide +kernel
theorem dX12_criers_95 : decode cX12_criers 95 = .ok (.iload 5, 2) := by decide +kernel
theorem dX12_criers_97 : decode cX12_criers 97 = .ok (.istore 4, 2) := by decide +kernel
theorem dX12_criers_99 : decode cX12_criers 99 = .ok (.iinc 5 1, 3) := by decide +kernel
theorem dX12_criers_102 : decode cX12_criers 102 = .ok (.goto (-55), 3) := by decide +kernel
theorem dX12_criers_105 : decode cX12_criers 105 = .ok (.iload 4, 2) := by decide +kernel
theorem dX12_criers_107 : decode cX12_criers 107 = .ok (.iconst (-1), 1) := by decide +kernel
theorem dX12_criers_108 : decode cX12_criers 108 = .ok (.if_icmp .ne 6, 3) := by decide +kernel
theorem dX12_criers_111 : decode cX12_criers 111 = .ok (.bipush (-2), 2) := by decide +kernel
theorem dX12_criers_113 : decode cX12_criers 113 = .ok (.ireturn, 1) := by decide +kernel
theorem dX12_criers_114 : decode cX12_criers 114 = .ok (.aload_n 0, 1) := by decide +kernel
theorem dX12_criers_115 : decode cX12_criers 115 = .ok (.iconst 0, 1) := by decide +kernel
theorem dX12_criers_116 : decode cX12_criers 116 = .ok (.putfield 107, 3) := by decide +kernel
theorem dX12_criers_119 : decode cX12_criers 119 = .ok (.aload_n 0, 1) := by decide +kernel
theorem dX12_criers_120 : decode cX12_criers 120 = .ok (.iload 4, 2) := by decide +kernel
theorem dX12_criers_122 : decode cX12_criers 122 = .ok (.invokevirtual 308, 3) := by decide +kernel
theorem dX12_criers_125 : decode cX12_criers 125 = .ok (.iload 4, 2) := by decide +kernel
theorem dX12_criers_127 : decode cX12_criers 127 = .ok (.invokestatic 226, 3) := by decide +kernel
theorem dX12_criers_130 : decode cX12_criers 130 = .ok (.ireturn, 1) := by decide +kernel
abbrev YX12_criers : li_Y := (yX12_criers, cX12_criers, 6, (some .int))
set_option maxRecDepth 100000 in
set_option maxHeartbeats 4000000 in
theorem k_X12_cried {l : Launch} {Z : li_Z} (d : Nat) (hd : 339 ≤ d) (p1 p2 : Int32) (M0 : li_M) (hJ : li_J M0) (h1 : 0 ≤ p1.toInt ∧ p1.toInt ≤ 5) : li_Met l Z YX12_cried d [.ref (Z.2.2 175), .int p1, .int p2] M0 (fun r M' => (∃ x : Int32, r = some (.int x)) ∧ li_fs (fun i k => i = 185 ∨ i = 1000 ∨ (i = 175 ∧ k = 12) ∨ (i = 175 ∧ k = 13) ∨ (i = 175 ∧ k = 14) ∨ (i = 175 ∧ k = 15) ∨ (i = 175 ∧ k = 20)) M0 M' ∧ li_J M') := by
  refine li_enter (by decide +kernel) (Nat.le_of_ble_eq_true rfl) ?_
  show li_T l Z YX12_cried d 0 [(0, .ref (Z.2.2 175)), (1, .int p1), (2, .int p2)] [] M0 _
  have hf : li_fs (fun i k => i = 185 ∨ i = 1000 ∨ (i = 175 ∧ k = 12) ∨ (i = 175 ∧ k = 13) ∨ (i = 175 ∧ k = 14) ∨ (i = 175 ∧ k = 15) ∨ (i = 175 ∧ k = 20)) M0 M0 := li_fs_refl
  have gp1 := tl_rg p1
  have gp2 := tl_rg p2
  refine li_iconst 0 dX12_cried_0 (by decide) ?_
  refine li_istore_n [(3, .int 0), (0, .ref (Z.2.2 175)), (1, .int p1), (2, .int p2)] dX12_cried_1 (by decide) rfl ?_
  refine li_iconst 0 dX12_cried_2 (by decide) ?_
  refine li_istore [(4, .int 0), (3, .int 0), (0, .ref (Z.2.2 175)), (1, .int p1), (2, .int p2)] dX12_cried_3 (by decide) rfl ?_
  have L5 : ∀ (n : Nat) (x1 : Int32) (x2 : Int32) (M3 : li_M), (4 - (x1 : Int32).toInt).toNat < n → li_fs (fun i k => i = 185 ∨ i = 1000 ∨ (i = 175 ∧ k = 12) ∨ (i = 175 ∧ k = 13) ∨ (i = 175 ∧ k = 14) ∨ (i = 175 ∧ k = 15) ∨ (i = 175 ∧ k = 20)) M0 M3 → li_J M3 → 0 ≤ (x1 : Int32).toInt → li_T l Z YX12_cried d 5 [(4, .int x1), (3, .int x2), (0, .ref (Z.2.2 175)), (1, .int p1), (2, .int p2)] [] M3 (fun r M' => (∃ x : Int32, r = some (.int x)) ∧ li_fs (fun i k => i = 185 ∨ i = 1000 ∨ (i = 175 ∧ k = 12) ∨ (i = 175 ∧ k = 13) ∨ (i = 175 ∧ k = 14) ∨ (i = 175 ∧ k = 15) ∨ (i = 175 ∧ k = 20)) M0 M' ∧ li_J M') := by
    intro n
    induction n with
    | zero => intro x1 x2 M3 hn; exact absurd hn (Nat.not_lt_zero _)
    | succ n ih5 =>
      intro x1 x2 M3 hn hf hJ hi
      have gx1 := tl_rg x1
      have gx2 := tl_rg x2
      refine li_iload 0 dX12_cried_5 rfl ?_
      refine li_iconst 4 dX12_cried_7 (by decide) ?_
      refine li_icmp_ge 65 dX12_cried_8 (by decide) (fun c4 => ?_) (fun c4 => ?_)
      · have tc4 : 4 ≤ x1.toInt := tl_le c4
        refine li_iload_n 1 dX12_cried_65 rfl ?_
        exact li_iret dX12_cried_66 rfl rfl ⟨⟨_, rfl⟩, hf, hJ⟩
      · have tc4 : x1.toInt < 4 := tl_nle c4
        refine li_aload_n 2 dX12_cried_11 rfl ?_
        refine li_aload_n 2 dX12_cried_12 rfl ?_
        refine li_getr (k := 0) (N := 52) (T := TX12) (C0 := RX12) dX12_cried_13 (by decide) sh_175 rfl rfl (by decide) (by decide) li_in12 w_1404 ?_
        refine li_bipush 19 dX12_cried_16 (by decide) ?_
        have z19 : (19 : Int32).toInt = 19 := rfl
        refine li_iald dX12_cried_18 (by decide) sh_176 (tl_in (by omega)) ?_
        refine li_top (fun x5 ex5 => ?_)
        have gx5 := tl_rg x5
        have lx5 : ((19 : Int32).toInt % 51 = 20 → 0 ≤ x5.toInt ∧ x5.toInt ≤ 6) ∧ (21 ≤ (19 : Int32).toInt % 51 → ((19 : Int32).toInt % 51 - 21) % 5 < 2 → 0 ≤ x5.toInt ∧ x5.toInt ≤ 5) := hJ.ldLed (by unfold li_led; omega) ex5 (by omega)
        refine li_iload_n 4 dX12_cried_19 rfl ?_
        refine li_iload 0 dX12_cried_20 rfl ?_
        refine li_iconst 0 dX12_cried_22 (by decide) ?_
        refine li_aload_n 2 dX12_cried_23 rfl ?_
        refine li_getr (k := 0) (N := 52) (T := TX12) (C0 := RX12) dX12_cried_24 (by decide) sh_175 rfl rfl (by decide) (by decide) li_in12 w_1404 ?_
        refine li_iload_n 3 dX12_cried_27 rfl ?_
        refine li_iald dX12_cried_28 (by decide) sh_176 (tl_in (by omega)) ?_
        refine li_top (fun x6 ex6 => ?_)
        have gx6 := tl_rg x6
        try (have ox6 : (p1 : Int32).toInt % 51 = (p1 : Int32).toInt := by omega)
        have lx6 : ((p1 : Int32).toInt % 51 = 20 → 0 ≤ x6.toInt ∧ x6.toInt ≤ 6) ∧ (21 ≤ (p1 : Int32).toInt % 51 → ((p1 : Int32).toInt % 51 - 21) % 5 < 2 → 0 ≤ x6.toInt ∧ x6.toInt ≤ 5) := hJ.ldLed (by unfold li_led; omega) ex6 (by omega)
        refine li_aload_n 2 dX12_cried_29 rfl ?_
        refine li_iload_n 3 dX12_cried_30 rfl ?_
        refine li_iload 0 dX12_cried_31 rfl ?_
        refine li_callV (n := 2) (As := [.int p1, .int x1]) dX12_cried_33 (k_X12_hears (d - 1) (by omega) p1 x1 M3 hJ (by omega)) (by omega) (Nat.le_of_ble_eq_true rfl) w_1692 w_1694 w_65 w_112 w_1695 (by decide +kernel) rfl (by decide) sh_175 rfl rfl (Nat.le_of_ble_eq_true rfl) (fun r M8 h9 => ?_)
        obtain ⟨⟨x7, rfl⟩, h9, jM8⟩ := h9
        have gx7 := tl_rg x7
        have hf := li_fs_trans hf h9 (fun i k h => False.elim h)
        have hJ := jM8
        refine li_callS (n := 1) (As := [.int x7]) dX12_cried_36 (k_J6_bitCount_0f7a4 (d - 1) (by omega) x7 M8) (by omega) (Nat.le_of_ble_eq_true rfl) w_1696 w_822 w_123 w_823 (by decide +kernel) rfl rfl (Nat.le_of_ble_eq_true rfl) (fun r M11 h12 => ?_)
        obtain ⟨⟨x10, rfl⟩, h12⟩ := h12
        have eM11 : M11 = M8 := li_fr_none h12
        have hf : li_fs (fun i k => i = 185 ∨ i = 1000 ∨ (i = 175 ∧ k = 12) ∨ (i = 175 ∧ k = 13) ∨ (i = 175 ∧ k = 14) ∨ (i = 175 ∧ k = 15) ∨ (i = 175 ∧ k = 20)) M0 M11 := by rw [eM11]; exact hf
        have hJ : li_J M11 := by rw [eM11]; exact hJ
        have gx10 := tl_rg x10
        have z0 : (0 : Int32).toInt = 0 := rfl
        refine li_callV (n := 6) (As := [.int x5, .int p2, .int x1, .int 0, .int x6, .int x10]) dX12_cried_39 (k_X12_costBy (d - 1) (by omega) x5 p2 x1 0 x6 x10 M11 hJ ) (by omega) (Nat.le_of_ble_eq_true rfl) w_1697 w_1699 w_66 w_112 w_1700 (by decide +kernel) rfl (by decide) sh_175 rfl rfl (Nat.le_of_ble_eq_true rfl) (fun r M14 h15 => ?_)
        obtain ⟨⟨x13, rfl, qx13⟩, h15, jM14⟩ := h15
        have gx13 := tl_rg x13
        have hf := li_fs_trans hf h15 (fun i k => fun h => Or.elim h (fun h => Or.inl h) (fun h => Or.elim h (fun h => Or.inr (Or.inl h)) (fun h => Or.elim h (fun h => Or.inr (Or.inr (Or.inl h))) (fun h => Or.elim h (fun h => Or.inr (Or.inr (Or.inr (Or.inl h)))) (fun h => Or.elim h (fun h => Or.inr (Or.inr (Or.inr (Or.inr (Or.inl h))))) (fun h => Or.elim h (fun h => Or.inr (Or.inr (Or.inr (Or.inr (Or.inr (Or.inl h)))))) (fun h => Or.inr (Or.inr (Or.inr (Or.inr (Or.inr (Or.inr h))))))))))))
        have hJ := jM14
        refine li_aload_n 2 dX12_cried_42 rfl ?_
        refine li_getr (k := 0) (N := 52) (T := TX12) (C0 := RX12) dX12_cried_43 (by decide) sh_175 rfl rfl (by decide) (by decide) li_in12 w_1404 ?_
        refine li_iload_n 3 dX12_cried_46 rfl ?_
        refine li_iald dX12_cried_47 (by decide) sh_176 (tl_in (by omega)) ?_
        refine li_top (fun x16 ex16 => ?_)
        have gx16 := tl_rg x16
        try (have ox16 : (p1 : Int32).toInt % 51 = (p1 : Int32).toInt := by omega)
        have lx16 : ((p1 : Int32).toInt % 51 = 20 → 0 ≤ x16.toInt ∧ x16.toInt ≤ 6) ∧ (21 ≤ (p1 : Int32).toInt % 51 → ((p1 : Int32).toInt % 51 - 21) % 5 < 2 → 0 ≤ x16.toInt ∧ x16.toInt ≤ 5) := hJ.ldLed (by unfold li_led; omega) ex16 (by omega)
        have J59 : ∀ (x18 : Int32) (M19 : li_M), li_fs (fun i k => i = 185 ∨ i = 1000 ∨ (i = 175 ∧ k = 12) ∨ (i = 175 ∧ k = 13) ∨ (i = 175 ∧ k = 14) ∨ (i = 175 ∧ k = 15) ∨ (i = 175 ∧ k = 20)) M0 M19 → li_J M19 → li_T l Z YX12_cried d 59 [(4, .int x1), (3, .int x18), (0, .ref (Z.2.2 175)), (1, .int p1), (2, .int p2)] [] M19 (fun r M' => (∃ x : Int32, r = some (.int x)) ∧ li_fs (fun i k => i = 185 ∨ i = 1000 ∨ (i = 175 ∧ k = 12) ∨ (i = 175 ∧ k = 13) ∨ (i = 175 ∧ k = 14) ∨ (i = 175 ∧ k = 15) ∨ (i = 175 ∧ k = 20)) M0 M' ∧ li_J M') := by
          intro x18 M19 hf hJ
          have gx18 := tl_rg x18
          obtain ⟨x20, ex20⟩ : ∃ y : Int32, y = x1 + 1 := ⟨_, rfl⟩
          have z1 : (1 : Int32).toInt = 1 := rfl
          try (have tx20 : x20.toInt = (x1 : Int32).toInt + (1 : Int32).toInt := tl_add ex20 (by omega))
          refine li_iinc 0 [(4, .int x20), (3, .int x18), (0, .ref (Z.2.2 175)), (1, .int p1), (2, .int p2)] x20 dX12_cried_59 rfl (by rw [ex20]; rfl) (by decide) rfl ?_
          refine li_goto 5 dX12_cried_62 (by decide) ?_
          refine li_pick [0, 1, 2, 3, 4] [(4, .int x20), (3, .int x18), (0, .ref (Z.2.2 175)), (1, .int p1), (2, .int p2)] rfl ?_
          exact ih5 x20 x18 M19 (by omega) hf hJ (by omega)
        refine li_icmp_gt 59 dX12_cried_48 (by decide) (fun c17 => ?_) (fun c17 => ?_)
        · have tc17 : x16.toInt < x13.toInt := tl_lt c17
          refine li_pick [0, 1, 2, 3, 4] [(4, .int x1), (3, .int x2), (0, .ref (Z.2.2 175)), (1, .int p1), (2, .int p2)] rfl ?_
          exact J59 x2 M14 hf hJ
        · have tc17 : x13.toInt ≤ x16.toInt := tl_nlt c17
          refine li_aload_n 2 dX12_cried_51 rfl ?_
          refine li_iload_n 3 dX12_cried_52 rfl ?_
          refine li_iload 0 dX12_cried_53 rfl ?_
          refine li_callV (n := 2) (As := [.int p1, .int x1]) dX12_cried_55 (k_X12_hears (d - 1) (by omega) p1 x1 M14 hJ (by omega)) (by omega) (Nat.le_of_ble_eq_true rfl) w_1692 w_1694 w_65 w_112 w_1695 (by decide +kernel) rfl (by decide) sh_175 rfl rfl (Nat.le_of_ble_eq_true rfl) (fun r M22 h23 => ?_)
          obtain ⟨⟨x21, rfl⟩, h23, jM22⟩ := h23
          have gx21 := tl_rg x21
          have hf := li_fs_trans hf h23 (fun i k h => False.elim h)
          have hJ := jM22
          refine li_istore_n [(3, .int x21), (4, .int x1), (0, .ref (Z.2.2 175)), (1, .int p1), (2, .int p2)] dX12_cried_58 (by decide) rfl ?_
          refine li_pick [1, 0, 2, 3, 4] [(4, .int x1), (3, .int x21), (0, .ref (Z.2.2 175)), (1, .int p1), (2, .int p2)] rfl ?_
          exact J59 x21 M22 hf hJ
  have z0 : (0 : Int32).toInt = 0 := rfl
  have z0 : (0 : Int32).toInt = 0 := rfl
  exact L5 _ 0 0 M0 (Nat.lt_succ_self _) hf hJ (by omega)
set_option maxRecDepth 100000 in
set_option maxHeartbeats 4000000 in
theorem k_X12_known {l : Launch} {Z : li_Z} (d : Nat) (hd : 340 ≤ d) (p1 p2 p3 : Int32) (M0 : li_M) (hJ : li_J M0) : li_Met l Z YX12_known d [.ref (Z.2.2 175), .int p1, .int p2, .int p3] M0 (fun r M' => (∃ x : Int32, r = some (.int x)) ∧ li_fs (fun i k => i = 185 ∨ i = 1000 ∨ (i = 175 ∧ k = 12) ∨ (i = 175 ∧ k = 13) ∨ (i = 175 ∧ k = 14) ∨ (i = 175 ∧ k = 15) ∨ (i = 175 ∧ k = 20)) M0 M' ∧ li_J M') := by
  refine li_enter (by decide +kernel) (Nat.le_of_ble_eq_true rfl) ?_
  show li_T l Z YX12_known d 0 [(0, .ref (Z.2.2 175)), (1, .int p1), (2, .int p2), (3, .int p3)] [] M0 _
  have hf : li_fs (fun i k => i = 185 ∨ i = 1000 ∨ (i = 175 ∧ k = 12) ∨ (i = 175 ∧ k = 13) ∨ (i = 175 ∧ k = 14) ∨ (i = 175 ∧ k = 15) ∨ (i = 175 ∧ k = 20)) M0 M0 := li_fs_refl
  have gp1 := tl_rg p1
  have gp2 := tl_rg p2
  have gp3 := tl_rg p3
  refine li_iconst 1 dX12_known_0 (by decide) ?_
  refine li_iload_n 1 dX12_known_1 rfl ?_
  refine li_ishl dX12_known_2 ?_
  refine li_top (fun x1 ex1 => ?_)
  have z1 : (1 : Int32).toInt = 1 := rfl
  try (have tx1 := tl_shl255 ex1 (by omega))
  refine li_istore [(4, .int x1), (0, .ref (Z.2.2 175)), (1, .int p1), (2, .int p2), (3, .int p3)] dX12_known_3 (by decide) rfl ?_
  refine li_iconst 0 dX12_known_5 (by decide) ?_
  refine li_istore [(5, .int 0), (4, .int x1), (0, .ref (Z.2.2 175)), (1, .int p1), (2, .int p2), (3, .int p3)] dX12_known_6 (by decide) rfl ?_
  have L8 : ∀ (n : Nat) (x2 : Int32) (x3 : Int32) (M4 : li_M), (6 - (x2 : Int32).toInt).toNat < n → li_fs (fun i k => i = 185 ∨ i = 1000 ∨ (i = 175 ∧ k = 12) ∨ (i = 175 ∧ k = 13) ∨ (i = 175 ∧ k = 14) ∨ (i = 175 ∧ k = 15) ∨ (i = 175 ∧ k = 20)) M0 M4 → li_J M4 → 0 ≤ (x2 : Int32).toInt → li_T l Z YX12_known d 8 [(5, .int x2), (4, .int x3), (0, .ref (Z.2.2 175)), (1, .int p1), (2, .int p2), (3, .int p3)] [] M4 (fun r M' => (∃ x : Int32, r = some (.int x)) ∧ li_fs (fun i k => i = 185 ∨ i = 1000 ∨ (i = 175 ∧ k = 12) ∨ (i = 175 ∧ k = 13) ∨ (i = 175 ∧ k = 14) ∨ (i = 175 ∧ k = 15) ∨ (i = 175 ∧ k = 20)) M0 M' ∧ li_J M') := by
    intro n
    induction n with
    | zero => intro x2 x3 M4 hn; exact absurd hn (Nat.not_lt_zero _)
    | succ n ih8 =>
      intro x2 x3 M4 hn hf hJ hi
      have gx2 := tl_rg x2
      have gx3 := tl_rg x3
      refine li_iload 0 dX12_known_8 rfl ?_
      refine li_aload_n 2 dX12_known_10 rfl ?_
      refine li_geti (k := 1) (N := 52) (T := TX12) (C0 := RX12) dX12_known_11 (by decide) sh_175 rfl rfl (by decide) li_in12 w_1405 ?_
      refine li_top (fun x5 ex5 => ?_)
      have gx5 : 0 ≤ x5.toInt ∧ x5.toInt ≤ 6 := by rw [ex5]; exact J_sl1 hJ
      have sx5 : x5.toInt = (M0.1 175 1).toInt := tl_slot (ex5.trans (hf.1 175 1 (show ¬ (175 = 185 ∨ 175 = 1000 ∨ (175 = 175 ∧ 1 = 12) ∨ (175 = 175 ∧ 1 = 13) ∨ (175 = 175 ∧ 1 = 14) ∨ (175 = 175 ∧ 1 = 15) ∨ (175 = 175 ∧ 1 = 20)) by decide)))
      refine li_icmp_ge 72 dX12_known_14 (by decide) (fun c6 => ?_) (fun c6 => ?_)
      · have tc6 : x5.toInt ≤ x2.toInt := tl_le c6
        refine li_iload 1 dX12_known_72 rfl ?_
        exact li_iret dX12_known_74 rfl rfl ⟨⟨_, rfl⟩, hf, hJ⟩
      · have tc6 : x2.toInt < x5.toInt := tl_nle c6
        refine li_iconst 0 dX12_known_17 (by decide) ?_
        refine li_istore [(6, .int 0), (5, .int x2), (4, .int x3), (0, .ref (Z.2.2 175)), (1, .int p1), (2, .int p2), (3, .int p3)] dX12_known_18 (by decide) rfl ?_
        have L20 : ∀ (n : Nat) (x7 : Int32) (x8 : Int32) (M9 : li_M), (6 - (x7 : Int32).toInt).toNat < n → li_fs (fun i k => i = 185 ∨ i = 1000 ∨ (i = 175 ∧ k = 12) ∨ (i = 175 ∧ k = 13) ∨ (i = 175 ∧ k = 14) ∨ (i = 175 ∧ k = 15) ∨ (i = 175 ∧ k = 20)) M0 M9 → li_J M9 → 0 ≤ (x7 : Int32).toInt → li_T l Z YX12_known d 20 [(6, .int x7), (5, .int x2), (4, .int x8), (0, .ref (Z.2.2 175)), (1, .int p1), (2, .int p2), (3, .int p3)] [] M9 (fun r M' => (∃ x : Int32, r = some (.int x)) ∧ li_fs (fun i k => i = 185 ∨ i = 1000 ∨ (i = 175 ∧ k = 12) ∨ (i = 175 ∧ k = 13) ∨ (i = 175 ∧ k = 14) ∨ (i = 175 ∧ k = 15) ∨ (i = 175 ∧ k = 20)) M0 M' ∧ li_J M') := by
          intro n
          induction n with
          | zero => intro x7 x8 M9 hn; exact absurd hn (Nat.not_lt_zero _)
          | succ n ih20 =>
            intro x7 x8 M9 hn hf hJ hi
            have gx7 := tl_rg x7
            have gx8 := tl_rg x8
            refine li_iload 0 dX12_known_20 rfl ?_
            refine li_aload_n 3 dX12_known_22 rfl ?_
            refine li_geti (k := 1) (N := 52) (T := TX12) (C0 := RX12) dX12_known_23 (by decide) sh_175 rfl rfl (by decide) li_in12 w_1405 ?_
            refine li_top (fun x10 ex10 => ?_)
            have gx10 : 0 ≤ x10.toInt ∧ x10.toInt ≤ 6 := by rw [ex10]; exact J_sl1 hJ
            have sx10 : x10.toInt = (M0.1 175 1).toInt := tl_slot (ex10.trans (hf.1 175 1 (show ¬ (175 = 185 ∨ 175 = 1000 ∨ (175 = 175 ∧ 1 = 12) ∨ (175 = 175 ∧ 1 = 13) ∨ (175 = 175 ∧ 1 = 14) ∨ (175 = 175 ∧ 1 = 15) ∨ (175 = 175 ∧ 1 = 20)) by decide)))
            refine li_icmp_ge 66 dX12_known_26 (by decide) (fun c11 => ?_) (fun c11 => ?_)
            · have tc11 : x10.toInt ≤ x7.toInt := tl_le c11
              obtain ⟨x12, ex12⟩ : ∃ y : Int32, y = x2 + 1 := ⟨_, rfl⟩
              have z1 : (1 : Int32).toInt = 1 := rfl
              try (have tx12 : x12.toInt = (x2 : Int32).toInt + (1 : Int32).toInt := tl_add ex12 (by omega))
              refine li_iinc 1 [(5, .int x12), (6, .int x7), (4, .int x8), (0, .ref (Z.2.2 175)), (1, .int p1), (2, .int p2), (3, .int p3)] x12 dX12_known_66 rfl (by rw [ex12]; rfl) (by decide) rfl ?_
              refine li_goto 8 dX12_known_69 (by decide) ?_
              refine li_pick [0, 2, 3, 4, 5, 6] [(5, .int x12), (4, .int x8), (0, .ref (Z.2.2 175)), (1, .int p1), (2, .int p2), (3, .int p3)] rfl ?_
              exact ih8 x12 x8 M9 (by omega) hf hJ (by omega)
            · have tc11 : x7.toInt < x10.toInt := tl_nle c11
              refine li_iload 2 dX12_known_29 rfl ?_
              refine li_iload 0 dX12_known_31 rfl ?_
              refine li_callS (n := 2) (As := [.int x8, .int x7]) dX12_known_33 (k_X12_has (d - 1) (by omega) x8 x7 M9 hJ ) (by omega) (Nat.le_of_ble_eq_true rfl) w_1734 w_1735 w_112 w_1736 (by decide +kernel) rfl rfl (Nat.le_of_ble_eq_true rfl) (fun r M14 h15 => ?_)
              obtain ⟨qx13, h15, jM14⟩ := h15
              have hf := li_fs_trans hf h15 (fun i k h => False.elim h)
              have hJ := jM14
              rcases qx13 with ⟨rfl, qx13⟩ | ⟨rfl, qx13⟩
              · skip
                refine li_if_eq 60 dX12_known_36 (by decide) (fun c => absurd c (by decide)) (fun c => ?_)
                refine li_iload_n 5 dX12_known_39 rfl ?_
                refine li_iload 0 dX12_known_40 rfl ?_
                refine li_callS (n := 2) (As := [.int p2, .int x7]) dX12_known_42 (k_X12_has (d - 1) (by omega) p2 x7 M14 hJ ) (by omega) (Nat.le_of_ble_eq_true rfl) w_1734 w_1735 w_112 w_1736 (by decide +kernel) rfl rfl (Nat.le_of_ble_eq_true rfl) (fun r M18 h19 => ?_)
                obtain ⟨qx17, h19, jM18⟩ := h19
                have hf := li_fs_trans hf h19 (fun i k h => False.elim h)
                have hJ := jM18
                rcases qx17 with ⟨rfl, qx17⟩ | ⟨rfl, qx17⟩
                · skip
                  refine li_if_eq 60 dX12_known_45 (by decide) (fun c => absurd c (by decide)) (fun c => ?_)
                  refine li_iload 2 dX12_known_48 rfl ?_
                  refine li_aload_n 3 dX12_known_50 rfl ?_
                  refine li_iload 0 dX12_known_51 rfl ?_
                  refine li_iload_n 6 dX12_known_53 rfl ?_
                  refine li_callV (n := 2) (As := [.int x7, .int p3]) dX12_known_54 (k_X12_cried (d - 1) (by omega) x7 p3 M18 hJ (by omega)) (by omega) (Nat.le_of_ble_eq_true rfl) w_1876 w_1878 w_91 w_112 w_1879 (by decide +kernel) rfl (by decide) sh_175 rfl rfl (Nat.le_of_ble_eq_true rfl) (fun r M22 h23 => ?_)
                  obtain ⟨⟨x21, rfl⟩, h23, jM22⟩ := h23
                  have gx21 := tl_rg x21
                  have hf := li_fs_trans hf h23 (fun i k => fun h => Or.elim h (fun h => Or.inl h) (fun h => Or.elim h (fun h => Or.inr (Or.inl h)) (fun h => Or.elim h (fun h => Or.inr (Or.inr (Or.inl h))) (fun h => Or.elim h (fun h => Or.inr (Or.inr (Or.inr (Or.inl h)))) (fun h => Or.elim h (fun h => Or.inr (Or.inr (Or.inr (Or.inr (Or.inl h))))) (fun h => Or.elim h (fun h => Or.inr (Or.inr (Or.inr (Or.inr (Or.inr (Or.inl h)))))) (fun h => Or.inr (Or.inr (Or.inr (Or.inr (Or.inr (Or.inr h))))))))))))
                  have hJ := jM22
                  refine li_ior dX12_known_57 ?_
                  refine li_top (fun x24 ex24 => ?_)
                  try (have tx24 := tl_or255 ex24 (by omega) (by omega))
                  refine li_istore [(4, .int x24), (6, .int x7), (5, .int x2), (0, .ref (Z.2.2 175)), (1, .int p1), (2, .int p2), (3, .int p3)] dX12_known_58 (by decide) rfl ?_
                  obtain ⟨x25, ex25⟩ : ∃ y : Int32, y = x7 + 1 := ⟨_, rfl⟩
                  have z1 : (1 : Int32).toInt = 1 := rfl
                  try (have tx25 : x25.toInt = (x7 : Int32).toInt + (1 : Int32).toInt := tl_add ex25 (by omega))
                  refine li_iinc 1 [(6, .int x25), (4, .int x24), (5, .int x2), (0, .ref (Z.2.2 175)), (1, .int p1), (2, .int p2), (3, .int p3)] x25 dX12_known_60 rfl (by rw [ex25]; rfl) (by decide) rfl ?_
                  refine li_goto 20 dX12_known_63 (by decide) ?_
                  refine li_pick [0, 2, 1, 3, 4, 5, 6] [(6, .int x25), (5, .int x2), (4, .int x24), (0, .ref (Z.2.2 175)), (1, .int p1), (2, .int p2), (3, .int p3)] rfl ?_
                  exact ih20 x25 x24 M22 (by omega) hf hJ (by omega)
                · skip
                  refine li_if_eq 60 dX12_known_45 (by decide) (fun c => ?_) (fun c => absurd rfl c)
                  obtain ⟨x27, ex27⟩ : ∃ y : Int32, y = x7 + 1 := ⟨_, rfl⟩
                  have z1 : (1 : Int32).toInt = 1 := rfl
                  try (have tx27 : x27.toInt = (x7 : Int32).toInt + (1 : Int32).toInt := tl_add ex27 (by omega))
                  refine li_iinc 0 [(6, .int x27), (5, .int x2), (4, .int x8), (0, .ref (Z.2.2 175)), (1, .int p1), (2, .int p2), (3, .int p3)] x27 dX12_known_60 rfl (by rw [ex27]; rfl) (by decide) rfl ?_
                  refine li_goto 20 dX12_known_63 (by decide) ?_
                  refine li_pick [0, 1, 2, 3, 4, 5, 6] [(6, .int x27), (5, .int x2), (4, .int x8), (0, .ref (Z.2.2 175)), (1, .int p1), (2, .int p2), (3, .int p3)] rfl ?_
                  exact ih20 x27 x8 M18 (by omega) hf hJ (by omega)
              · skip
                refine li_if_eq 60 dX12_known_36 (by decide) (fun c => ?_) (fun c => absurd rfl c)
                obtain ⟨x29, ex29⟩ : ∃ y : Int32, y = x7 + 1 := ⟨_, rfl⟩
                have z1 : (1 : Int32).toInt = 1 := rfl
                try (have tx29 : x29.toInt = (x7 : Int32).toInt + (1 : Int32).toInt := tl_add ex29 (by omega))
                refine li_iinc 0 [(6, .int x29), (5, .int x2), (4, .int x8), (0, .ref (Z.2.2 175)), (1, .int p1), (2, .int p2), (3, .int p3)] x29 dX12_known_60 rfl (by rw [ex29]; rfl) (by decide) rfl ?_
                refine li_goto 20 dX12_known_63 (by decide) ?_
                refine li_pick [0, 1, 2, 3, 4, 5, 6] [(6, .int x29), (5, .int x2), (4, .int x8), (0, .ref (Z.2.2 175)), (1, .int p1), (2, .int p2), (3, .int p3)] rfl ?_
                exact ih20 x29 x8 M14 (by omega) hf hJ (by omega)
        have z0 : (0 : Int32).toInt = 0 := rfl
        exact L20 _ 0 x3 M4 (Nat.lt_succ_self _) hf hJ (by omega)
  have z0 : (0 : Int32).toInt = 0 := rfl
  exact L8 _ 0 x1 M0 (Nat.lt_succ_self _) hf hJ (by omega)
set_option maxRecDepth 100000 in
set_option maxHeartbeats 4000000 in
theorem k_X12_criers {l : Launch} {Z : li_Z} (d : Nat) (hd : 341 ≤ d) (p1 p2 p3 : Int32) (M0 : li_M) (hJ : li_J M0) : li_Met l Z YX12_criers d [.ref (Z.2.2 175), .int p1, .int p2, .int p3] M0 (fun r M' => (∃ x : Int32, r = some (.int x)) ∧ li_fs (fun i k => i = 181 ∨ i = 185 ∨ i = 1000 ∨ (i = 175 ∧ k = 10) ∨ (i = 175 ∧ k = 12) ∨ (i = 175 ∧ k = 13) ∨ (i = 175 ∧ k = 14) ∨ (i = 175 ∧ k = 15) ∨ (i = 175 ∧ k = 20) ∨ (i = 175 ∧ k = 9)) M0 M' ∧ li_J M') := by
  refine li_enter (by decide +kernel) (Nat.le_of_ble_eq_true rfl) ?_
  show li_T l Z YX12_criers d 0 [(0, .ref (Z.2.2 175)), (1, .int p1), (2, .int p2), (3, .int p3)] [] M0 _
  have hf : li_fs (fun i k => i = 181 ∨ i = 185 ∨ i = 1000 ∨ (i = 175 ∧ k = 10) ∨ (i = 175 ∧ k = 12) ∨ (i = 175 ∧ k = 13) ∨ (i = 175 ∧ k = 14) ∨ (i = 175 ∧ k = 15) ∨ (i = 175 ∧ k = 20) ∨ (i = 175 ∧ k = 9)) M0 M0 := li_fs_refl
  have gp1 := tl_rg p1
  have gp2 := tl_rg p2
  have gp3 := tl_rg p3
  have rM0_1 := J_sl1 (M := M0) hJ
  have rM0_9 := J_sl9 (M := M0) hJ
  refine li_aload_n 0 dX12_criers_0 rfl ?_
  refine li_iconst 0 dX12_criers_1 (by decide) ?_
  refine li_puti (k := 10) (N := 52) (T := TX12) (C0 := RX12) dX12_criers_2 (by decide) sh_175 rfl rfl (by decide) li_in12 tyX12_ok nmX12 rfl rfl rfl rfl w_1414 ?_
  refine li_nm (fun M1 eM1 => ?_)
  have hf := li_fs_ui hf (Or.inr (Or.inr (Or.inr (Or.inl ⟨rfl, rfl⟩)))) eM1
  have z0 : (0 : Int32).toInt = 0 := rfl
  have hJ := hJ.put (k := 10) (by decide) (rg_free rfl) eM1
  have rM1_1 := J_sl1 (M := M1) hJ
  have rM1_9 := J_sl9 (M := M1) hJ
  have mM1_1 : (M1.1 175 1).toInt = (M0.1 175 1).toInt := by rw [eM1, li_ui_at, if_pos rfl, if_neg (by decide)]
  have mM1_9 : (M1.1 175 9).toInt = (M0.1 175 9).toInt := by rw [eM1, li_ui_at, if_pos rfl, if_neg (by decide)]
  refine li_aload_n 0 dX12_criers_5 rfl ?_
  refine li_iload_n 1 dX12_criers_6 rfl ?_
  refine li_callV (n := 1) (As := [.int p1]) dX12_criers_7 (k_X12_isOne (d - 1) (by omega) p1 M1 hJ ) (by omega) (Nat.le_of_ble_eq_true rfl) w_1648 w_1650 w_56 w_112 w_1651 (by decide +kernel) rfl (by decide) sh_175 rfl rfl (Nat.le_of_ble_eq_true rfl) (fun r M3 h4 => ?_)
  obtain ⟨qx2, h4, jM3⟩ := h4
  have hf := li_fs_trans hf h4 (fun i k h => False.elim h)
  have hJ := jM3
  have rM3_1 := J_sl1 (M := M3) hJ
  have rM3_9 := J_sl9 (M := M3) hJ
  have mM3_1 : (M3.1 175 1).toInt = (M1.1 175 1).toInt := tl_slot (h4.1 175 1 id)
  have mM3_9 : (M3.1 175 9).toInt = (M1.1 175 9).toInt := tl_slot (h4.1 175 9 id)
  rcases qx2 with ⟨rfl, qx2⟩ | ⟨rfl, qx2⟩
  · skip
    refine li_if_eq 39 dX12_criers_10 (by decide) (fun c => absurd c (by decide)) (fun c => ?_)
    refine li_iload_n 2 dX12_criers_13 rfl ?_
    refine li_iconst 0 dX12_criers_14 (by decide) ?_
    refine li_iconst 1 dX12_criers_15 (by decide) ?_
    refine li_aload_n 0 dX12_criers_16 rfl ?_
    refine li_geti (k := 1) (N := 52) (T := TX12) (C0 := RX12) dX12_criers_17 (by decide) sh_175 rfl rfl (by decide) li_in12 w_1405 ?_
    refine li_top (fun x6 ex6 => ?_)
    have gx6 : 0 ≤ x6.toInt ∧ x6.toInt ≤ 6 := by rw [ex6]; exact J_sl1 hJ
    have mx6 : x6.toInt = (M3.1 175 1).toInt := tl_slot ex6
    have sx6 : x6.toInt = (M0.1 175 1).toInt := tl_slot (ex6.trans (hf.1 175 1 (show ¬ (175 = 181 ∨ 175 = 185 ∨ 175 = 1000 ∨ (175 = 175 ∧ 1 = 10) ∨ (175 = 175 ∧ 1 = 12) ∨ (175 = 175 ∧ 1 = 13) ∨ (175 = 175 ∧ 1 = 14) ∨ (175 = 175 ∧ 1 = 15) ∨ (175 = 175 ∧ 1 = 20) ∨ (175 = 175 ∧ 1 = 9)) by decide)))
    refine li_ishl dX12_criers_20 ?_
    refine li_top (fun x7 ex7 => ?_)
    have z1 : (1 : Int32).toInt = 1 := rfl
    try (have tx7 := tl_shl255 ex7 (by omega))
    refine li_iconst 1 dX12_criers_21 (by decide) ?_
    refine li_isub dX12_criers_22 ?_
    refine li_top (fun x8 ex8 => ?_)
    have z1 : (1 : Int32).toInt = 1 := rfl
    try (have tx8 : x8.toInt = (x7 : Int32).toInt - (1 : Int32).toInt := tl_sub ex8 (by omega))
    have z0 : (0 : Int32).toInt = 0 := rfl
    refine li_callS (n := 3) (As := [.int p2, .int 0, .int x8]) dX12_criers_23 (k_X12_in (d - 1) (by omega) p2 0 x8 M3 hJ ) (by omega) (Nat.le_of_ble_eq_true rfl) w_1570 w_1571 w_112 w_1572 (by decide +kernel) rfl rfl (Nat.le_of_ble_eq_true rfl) (fun r M10 h11 => ?_)
    obtain ⟨qx9, h11, jM10⟩ := h11
    have hf := li_fs_trans hf h11 (fun i k h => False.elim h)
    have hJ := jM10
    have rM10_1 := J_sl1 (M := M10) hJ
    have rM10_9 := J_sl9 (M := M10) hJ
    have mM10_1 : (M10.1 175 1).toInt = (M3.1 175 1).toInt := tl_slot (h11.1 175 1 id)
    have mM10_9 : (M10.1 175 9).toInt = (M3.1 175 9).toInt := tl_slot (h11.1 175 9 id)
    rcases qx9 with ⟨rfl, qx9⟩ | ⟨rfl, qx9⟩
    · skip
      refine li_if_eq 39 dX12_criers_26 (by decide) (fun c => absurd c (by decide)) (fun c => ?_)
      refine li_iload_n 3 dX12_criers_29 rfl ?_
      refine li_iconst 1 dX12_criers_30 (by decide) ?_
      refine li_bipush 99 dX12_criers_31 (by decide) ?_
      have z1 : (1 : Int32).toInt = 1 := rfl
      have z99 : (99 : Int32).toInt = 99 := rfl
      refine li_callS (n := 3) (As := [.int p3, .int 1, .int 99]) dX12_criers_33 (k_X12_in (d - 1) (by omega) p3 1 99 M10 hJ ) (by omega) (Nat.le_of_ble_eq_true rfl) w_1570 w_1571 w_112 w_1572 (by decide +kernel) rfl rfl (Nat.le_of_ble_eq_true rfl) (fun r M14 h15 => ?_)
      obtain ⟨qx13, h15, jM14⟩ := h15
      have hf := li_fs_trans hf h15 (fun i k h => False.elim h)
      have hJ := jM14
      have rM14_1 := J_sl1 (M := M14) hJ
      have rM14_9 := J_sl9 (M := M14) hJ
      have mM14_1 : (M14.1 175 1).toInt = (M10.1 175 1).toInt := tl_slot (h15.1 175 1 id)
      have mM14_9 : (M14.1 175 9).toInt = (M10.1 175 9).toInt := tl_slot (h15.1 175 9 id)
      rcases qx13 with ⟨rfl, qx13⟩ | ⟨rfl, qx13⟩
      · skip
        refine li_if_ne 41 dX12_criers_36 (by decide) (fun c => ?_) (fun c => absurd c (by decide))
        refine li_iconst (-1) dX12_criers_41 (by decide) ?_
        refine li_istore [(4, .int (-1)), (0, .ref (Z.2.2 175)), (1, .int p1), (2, .int p2), (3, .int p3)] dX12_criers_42 (by decide) rfl ?_
        refine li_iconst 0 dX12_criers_44 (by decide) ?_
        refine li_istore [(5, .int 0), (4, .int (-1)), (0, .ref (Z.2.2 175)), (1, .int p1), (2, .int p2), (3, .int p3)] dX12_criers_45 (by decide) rfl ?_
        have L47 : ∀ (n : Nat) (x17 : Int32) (x18 : Int32) (M19 : li_M), (2147483647 - (x17 : Int32).toInt).toNat < n → li_fs (fun i k => i = 181 ∨ i = 185 ∨ i = 1000 ∨ (i = 175 ∧ k = 10) ∨ (i = 175 ∧ k = 12) ∨ (i = 175 ∧ k = 13) ∨ (i = 175 ∧ k = 14) ∨ (i = 175 ∧ k = 15) ∨ (i = 175 ∧ k = 20) ∨ (i = 175 ∧ k = 9)) M0 M19 → li_J M19 → li_T l Z YX12_criers d 47 [(5, .int x17), (4, .int x18), (0, .ref (Z.2.2 175)), (1, .int p1), (2, .int p2), (3, .int p3)] [] M19 (fun r M' => (∃ x : Int32, r = some (.int x)) ∧ li_fs (fun i k => i = 181 ∨ i = 185 ∨ i = 1000 ∨ (i = 175 ∧ k = 10) ∨ (i = 175 ∧ k = 12) ∨ (i = 175 ∧ k = 13) ∨ (i = 175 ∧ k = 14) ∨ (i = 175 ∧ k = 15) ∨ (i = 175 ∧ k = 20) ∨ (i = 175 ∧ k = 9)) M0 M' ∧ li_J M') := by
          intro n
          induction n with
          | zero => intro x17 x18 M19 hn; exact absurd hn (Nat.not_lt_zero _)
          | succ n ih47 =>
            intro x17 x18 M19 hn hf hJ
            have gx17 := tl_rg x17
            have gx18 := tl_rg x18
            have rM19_1 := J_sl1 (M := M19) hJ
            have rM19_9 := J_sl9 (M := M19) hJ
            have mM19_1 : (M19.1 175 1).toInt = (M0.1 175 1).toInt := tl_slot (hf.1 175 1 (show ¬ (175 = 181 ∨ 175 = 185 ∨ 175 = 1000 ∨ (175 = 175 ∧ 1 = 10) ∨ (175 = 175 ∧ 1 = 12) ∨ (175 = 175 ∧ 1 = 13) ∨ (175 = 175 ∧ 1 = 14) ∨ (175 = 175 ∧ 1 = 15) ∨ (175 = 175 ∧ 1 = 20) ∨ (175 = 175 ∧ 1 = 9)) by decide))
            refine li_iload 0 dX12_criers_47 rfl ?_
            refine li_iconst 1 dX12_criers_49 (by decide) ?_
            refine li_aload_n 2 dX12_criers_50 rfl ?_
            refine li_geti (k := 1) (N := 52) (T := TX12) (C0 := RX12) dX12_criers_51 (by decide) sh_175 rfl rfl (by decide) li_in12 w_1405 ?_
            refine li_top (fun x20 ex20 => ?_)
            have gx20 : 0 ≤ x20.toInt ∧ x20.toInt ≤ 6 := by rw [ex20]; exact J_sl1 hJ
            have mx20 : x20.toInt = (M19.1 175 1).toInt := tl_slot ex20
            have sx20 : x20.toInt = (M0.1 175 1).toInt := tl_slot (ex20.trans (hf.1 175 1 (show ¬ (175 = 181 ∨ 175 = 185 ∨ 175 = 1000 ∨ (175 = 175 ∧ 1 = 10) ∨ (175 = 175 ∧ 1 = 12) ∨ (175 = 175 ∧ 1 = 13) ∨ (175 = 175 ∧ 1 = 14) ∨ (175 = 175 ∧ 1 = 15) ∨ (175 = 175 ∧ 1 = 20) ∨ (175 = 175 ∧ 1 = 9)) by decide)))
            refine li_ishl dX12_criers_54 ?_
            refine li_top (fun x21 ex21 => ?_)
            have z1 : (1 : Int32).toInt = 1 := rfl
            try (have tx21 := tl_shl255 ex21 (by omega))
            refine li_icmp_ge 105 dX12_criers_55 (by decide) (fun c22 => ?_) (fun c22 => ?_)
            · have tc22 : x21.toInt ≤ x17.toInt := tl_le c22
              refine li_iload 1 dX12_criers_105 rfl ?_
              refine li_iconst (-1) dX12_criers_107 (by decide) ?_
              refine li_icmp_ne 114 dX12_criers_108 (by decide) (fun c23 => ?_) (fun c23 => ?_)
              · have tc23 : ¬ x18.toInt = (-1) := tl_ne c23
                refine li_aload_n 2 dX12_criers_114 rfl ?_
                refine li_iconst 0 dX12_criers_115 (by decide) ?_
                refine li_puti (k := 9) (N := 52) (T := TX12) (C0 := RX12) dX12_criers_116 (by decide) sh_175 rfl rfl (by decide) li_in12 tyX12_ok nmX12 rfl rfl rfl rfl w_1413 ?_
                refine li_nm (fun M24 eM24 => ?_)
                have hf := li_fs_ui hf (Or.inr (Or.inr (Or.inr (Or.inr (Or.inr (Or.inr (Or.inr (Or.inr (Or.inr (⟨rfl, rfl⟩)))))))))) eM24
                have z0 : (0 : Int32).toInt = 0 := rfl
                have hJ := J_pt9 hJ (show 0 ≤ (0 : Int32).toInt ∧ (0 : Int32).toInt ≤ 20 by omega) eM24
                have rM24_1 := J_sl1 (M := M24) hJ
                have rM24_9 := J_sl9 (M := M24) hJ
                have mM24_1 : (M24.1 175 1).toInt = (M19.1 175 1).toInt := by rw [eM24, li_ui_at, if_pos rfl, if_neg (by decide)]
                have mM24_9 : (M24.1 175 9).toInt = 0 := by rw [eM24, li_ui_at, if_pos rfl, if_pos rfl]; rfl
                refine li_aload_n 2 dX12_criers_119 rfl ?_
                refine li_iload 1 dX12_criers_120 rfl ?_
                refine li_callV (n := 1) (As := [.int x18]) dX12_criers_122 (k_X12_tell (d - 1) (by omega) x18 M24 hJ (by omega)) (by omega) (Nat.le_of_ble_eq_true rfl) w_1783 w_1785 w_77 w_112 w_1786 (by decide +kernel) rfl (by decide) sh_175 rfl rfl (Nat.le_of_ble_eq_true rfl) (fun r M26 h27 => ?_)
                obtain ⟨rfl, h27, jM26, nM26⟩ := h27
                have hf := li_fs_trans hf h27 (fun i k => fun h => Or.elim h (fun h => Or.inl h) (fun h => Or.inr (Or.inr (Or.inr (Or.inr (Or.inr (Or.inr (Or.inr (Or.inr (Or.inr h))))))))))
                have hJ := jM26
                have rM26_1 := J_sl1 (M := M26) hJ
                have rM26_9 := J_sl9 (M := M26) hJ
                have mM26_1 : (M26.1 175 1).toInt = (M24.1 175 1).toInt := tl_slot (h27.1 175 1 (show ¬ (175 = 181 ∨ (175 = 175 ∧ 1 = 9)) by decide))
                refine li_iload 1 dX12_criers_125 rfl ?_
                refine li_callS (n := 1) (As := [.int x18]) dX12_criers_127 (k_J6_bitCount_0f7a4 (d - 1) (by omega) x18 M26) (by omega) (Nat.le_of_ble_eq_true rfl) w_1696 w_822 w_123 w_823 (by decide +kernel) rfl rfl (Nat.le_of_ble_eq_true rfl) (fun r M29 h30 => ?_)
                obtain ⟨⟨x28, rfl⟩, h30⟩ := h30
                have eM29 : M29 = M26 := li_fr_none h30
                have hf : li_fs (fun i k => i = 181 ∨ i = 185 ∨ i = 1000 ∨ (i = 175 ∧ k = 10) ∨ (i = 175 ∧ k = 12) ∨ (i = 175 ∧ k = 13) ∨ (i = 175 ∧ k = 14) ∨ (i = 175 ∧ k = 15) ∨ (i = 175 ∧ k = 20) ∨ (i = 175 ∧ k = 9)) M0 M29 := by rw [eM29]; exact hf
                have hJ : li_J M29 := by rw [eM29]; exact hJ
                have rM29_1 := J_sl1 (M := M29) hJ
                have rM29_9 := J_sl9 (M := M29) hJ
                have mM29_1 : (M29.1 175 1).toInt = (M26.1 175 1).toInt := by rw [eM29]
                have mM29_9 : (M29.1 175 9).toInt = (M26.1 175 9).toInt := by rw [eM29]
                have gx28 := tl_rg x28
                exact li_iret dX12_criers_130 rfl rfl ⟨⟨_, rfl⟩, hf, hJ⟩
              · have tc23 : x18.toInt = (-1) := tl_eq c23
                refine li_bipush (-2) dX12_criers_111 (by decide) ?_
                have zm2 : ((-2) : Int32).toInt = -2 := rfl
                exact li_iret dX12_criers_113 rfl rfl ⟨⟨_, rfl⟩, hf, hJ⟩
            · have tc22 : x17.toInt < x21.toInt := tl_nle c22
              refine li_iload 1 dX12_criers_58 rfl ?_
              refine li_iconst (-1) dX12_criers_60 (by decide) ?_
              have J99 : ∀ (x32 : Int32) (M33 : li_M), li_fs (fun i k => i = 181 ∨ i = 185 ∨ i = 1000 ∨ (i = 175 ∧ k = 10) ∨ (i = 175 ∧ k = 12) ∨ (i = 175 ∧ k = 13) ∨ (i = 175 ∧ k = 14) ∨ (i = 175 ∧ k = 15) ∨ (i = 175 ∧ k = 20) ∨ (i = 175 ∧ k = 9)) M0 M33 → li_J M33 → li_T l Z YX12_criers d 99 [(5, .int x17), (4, .int x32), (0, .ref (Z.2.2 175)), (1, .int p1), (2, .int p2), (3, .int p3)] [] M33 (fun r M' => (∃ x : Int32, r = some (.int x)) ∧ li_fs (fun i k => i = 181 ∨ i = 185 ∨ i = 1000 ∨ (i = 175 ∧ k = 10) ∨ (i = 175 ∧ k = 12) ∨ (i = 175 ∧ k = 13) ∨ (i = 175 ∧ k = 14) ∨ (i = 175 ∧ k = 15) ∨ (i = 175 ∧ k = 20) ∨ (i = 175 ∧ k = 9)) M0 M' ∧ li_J M') := by
                intro x32 M33 hf hJ
                have gx32 := tl_rg x32
                have rM33_1 := J_sl1 (M := M33) hJ
                have rM33_9 := J_sl9 (M := M33) hJ
                have mM33_1 : (M33.1 175 1).toInt = (M0.1 175 1).toInt := tl_slot (hf.1 175 1 (show ¬ (175 = 181 ∨ 175 = 185 ∨ 175 = 1000 ∨ (175 = 175 ∧ 1 = 10) ∨ (175 = 175 ∧ 1 = 12) ∨ (175 = 175 ∧ 1 = 13) ∨ (175 = 175 ∧ 1 = 14) ∨ (175 = 175 ∧ 1 = 15) ∨ (175 = 175 ∧ 1 = 20) ∨ (175 = 175 ∧ 1 = 9)) by decide))
                obtain ⟨x34, ex34⟩ : ∃ y : Int32, y = x17 + 1 := ⟨_, rfl⟩
                have z1 : (1 : Int32).toInt = 1 := rfl
                try (have tx34 : x34.toInt = (x17 : Int32).toInt + (1 : Int32).toInt := tl_add ex34 (by omega))
                refine li_iinc 0 [(5, .int x34), (4, .int x32), (0, .ref (Z.2.2 175)), (1, .int p1), (2, .int p2), (3, .int p3)] x34 dX12_criers_99 rfl (by rw [ex34]; rfl) (by decide) rfl ?_
                refine li_goto 47 dX12_criers_102 (by decide) ?_
                refine li_pick [0, 1, 2, 3, 4, 5] [(5, .int x34), (4, .int x32), (0, .ref (Z.2.2 175)), (1, .int p1), (2, .int p2), (3, .int p3)] rfl ?_
                exact ih47 x34 x32 M33 (by have h9 := li_up (li_gt c22); rw [← ex34] at h9; omega) hf hJ
              refine li_icmp_eq 80 dX12_criers_61 (by decide) (fun c31 => ?_) (fun c31 => ?_)
              · have tc31 : x18.toInt = (-1) := tl_eq c31
                refine li_iload_n 4 dX12_criers_80 rfl ?_
                refine li_aload_n 2 dX12_criers_81 rfl ?_
                refine li_iload_n 3 dX12_criers_82 rfl ?_
                refine li_iload 0 dX12_criers_83 rfl ?_
                refine li_iload_n 5 dX12_criers_85 rfl ?_
                refine li_callV (n := 3) (As := [.int p1, .int x17, .int p3]) dX12_criers_86 (k_X12_known (d - 1) (by omega) p1 x17 p3 M19 hJ ) (by omega) (Nat.le_of_ble_eq_true rfl) w_1872 w_1874 w_90 w_112 w_1875 (by decide +kernel) rfl (by decide) sh_175 rfl rfl (Nat.le_of_ble_eq_true rfl) (fun r M36 h37 => ?_)
                obtain ⟨⟨x35, rfl⟩, h37, jM36⟩ := h37
                have gx35 := tl_rg x35
                have hf := li_fs_trans hf h37 (fun i k => fun h => Or.elim h (fun h => Or.inr (Or.inl h)) (fun h => Or.elim h (fun h => Or.inr (Or.inr (Or.inl h))) (fun h => Or.elim h (fun h => Or.inr (Or.inr (Or.inr (Or.inr (Or.inl h))))) (fun h => Or.elim h (fun h => Or.inr (Or.inr (Or.inr (Or.inr (Or.inr (Or.inl h)))))) (fun h => Or.elim h (fun h => Or.inr (Or.inr (Or.inr (Or.inr (Or.inr (Or.inr (Or.inl h))))))) (fun h => Or.elim h (fun h => Or.inr (Or.inr (Or.inr (Or.inr (Or.inr (Or.inr (Or.inr (Or.inl h)))))))) (fun h => Or.inr (Or.inr (Or.inr (Or.inr (Or.inr (Or.inr (Or.inr (Or.inr (Or.inl h)))))))))))))))
                have hJ := jM36
                have rM36_1 := J_sl1 (M := M36) hJ
                have rM36_9 := J_sl9 (M := M36) hJ
                have mM36_1 : (M36.1 175 1).toInt = (M19.1 175 1).toInt := tl_slot (h37.1 175 1 (show ¬ (175 = 185 ∨ 175 = 1000 ∨ (175 = 175 ∧ 1 = 12) ∨ (175 = 175 ∧ 1 = 13) ∨ (175 = 175 ∧ 1 = 14) ∨ (175 = 175 ∧ 1 = 15) ∨ (175 = 175 ∧ 1 = 20)) by decide))
                have mM36_9 : (M36.1 175 9).toInt = (M19.1 175 9).toInt := tl_slot (h37.1 175 9 (show ¬ (175 = 185 ∨ 175 = 1000 ∨ (175 = 175 ∧ 9 = 12) ∨ (175 = 175 ∧ 9 = 13) ∨ (175 = 175 ∧ 9 = 14) ∨ (175 = 175 ∧ 9 = 15) ∨ (175 = 175 ∧ 9 = 20)) by decide))
                refine li_iconst (-1) dX12_criers_89 (by decide) ?_
                refine li_ixor dX12_criers_90 ?_
                refine li_top (fun x38 ex38 => ?_)
                refine li_iand dX12_criers_91 ?_
                refine li_top (fun x39 ex39 => ?_)
                first | (have tx39 := tl_andR ex39 (by omega)) | (have tx39 := tl_andL ex39 (by omega)) | skip
                refine li_if_ne 99 dX12_criers_92 (by decide) (fun c40 => ?_) (fun c40 => ?_)
                · have tc40 : ¬ x39.toInt = 0 := tl_ne c40
                  refine li_pick [0, 1, 2, 3, 4, 5] [(5, .int x17), (4, .int x18), (0, .ref (Z.2.2 175)), (1, .int p1), (2, .int p2), (3, .int p3)] rfl ?_
                  exact J99 x18 M36 hf hJ
                · have tc40 : x39.toInt = 0 := tl_eq c40
                  refine li_iload 0 dX12_criers_95 rfl ?_
                  refine li_istore [(4, .int x17), (5, .int x17), (0, .ref (Z.2.2 175)), (1, .int p1), (2, .int p2), (3, .int p3)] dX12_criers_97 (by decide) rfl ?_
                  refine li_pick [1, 0, 2, 3, 4, 5] [(5, .int x17), (4, .int x17), (0, .ref (Z.2.2 175)), (1, .int p1), (2, .int p2), (3, .int p3)] rfl ?_
                  exact J99 x17 M36 hf hJ
              · have tc31 : ¬ x18.toInt = (-1) := tl_ne c31
                refine li_iload 0 dX12_criers_64 rfl ?_
                refine li_callS (n := 1) (As := [.int x17]) dX12_criers_66 (k_J6_bitCount_0f7a4 (d - 1) (by omega) x17 M19) (by omega) (Nat.le_of_ble_eq_true rfl) w_1696 w_822 w_123 w_823 (by decide +kernel) rfl rfl (Nat.le_of_ble_eq_true rfl) (fun r M42 h43 => ?_)
                obtain ⟨⟨x41, rfl⟩, h43⟩ := h43
                have eM42 : M42 = M19 := li_fr_none h43
                have hf : li_fs (fun i k => i = 181 ∨ i = 185 ∨ i = 1000 ∨ (i = 175 ∧ k = 10) ∨ (i = 175 ∧ k = 12) ∨ (i = 175 ∧ k = 13) ∨ (i = 175 ∧ k = 14) ∨ (i = 175 ∧ k = 15) ∨ (i = 175 ∧ k = 20) ∨ (i = 175 ∧ k = 9)) M0 M42 := by rw [eM42]; exact hf
                have hJ : li_J M42 := by rw [eM42]; exact hJ
                have rM42_1 := J_sl1 (M := M42) hJ
                have rM42_9 := J_sl9 (M := M42) hJ
                have mM42_1 : (M42.1 175 1).toInt = (M19.1 175 1).toInt := by rw [eM42]
                have mM42_9 : (M42.1 175 9).toInt = (M19.1 175 9).toInt := by rw [eM42]
                have gx41 := tl_rg x41
                refine li_iload 1 dX12_criers_69 rfl ?_
                refine li_callS (n := 1) (As := [.int x18]) dX12_criers_71 (k_J6_bitCount_0f7a4 (d - 1) (by omega) x18 M42) (by omega) (Nat.le_of_ble_eq_true rfl) w_1696 w_822 w_123 w_823 (by decide +kernel) rfl rfl (Nat.le_of_ble_eq_true rfl) (fun r M45 h46 => ?_)
                obtain ⟨⟨x44, rfl⟩, h46⟩ := h46
                have eM45 : M45 = M42 := li_fr_none h46
                have hf : li_fs (fun i k => i = 181 ∨ i = 185 ∨ i = 1000 ∨ (i = 175 ∧ k = 10) ∨ (i = 175 ∧ k = 12) ∨ (i = 175 ∧ k = 13) ∨ (i = 175 ∧ k = 14) ∨ (i = 175 ∧ k = 15) ∨ (i = 175 ∧ k = 20) ∨ (i = 175 ∧ k = 9)) M0 M45 := by rw [eM45]; exact hf
                have hJ : li_J M45 := by rw [eM45]; exact hJ
                have rM45_1 := J_sl1 (M := M45) hJ
                have rM45_9 := J_sl9 (M := M45) hJ
                have mM45_1 : (M45.1 175 1).toInt = (M42.1 175 1).toInt := by rw [eM45]
                have mM45_9 : (M45.1 175 9).toInt = (M42.1 175 9).toInt := by rw [eM45]
                have gx44 := tl_rg x44
                refine li_icmp_lt 80 dX12_criers_74 (by decide) (fun c47 => ?_) (fun c47 => ?_)
                · have tc47 : x41.toInt < x44.toInt := tl_lt c47
                  refine li_iload_n 4 dX12_criers_80 rfl ?_
                  refine li_aload_n 2 dX12_criers_81 rfl ?_
                  refine li_iload_n 3 dX12_criers_82 rfl ?_
                  refine li_iload 0 dX12_criers_83 rfl ?_
                  refine li_iload_n 5 dX12_criers_85 rfl ?_
                  refine li_callV (n := 3) (As := [.int p1, .int x17, .int p3]) dX12_criers_86 (k_X12_known (d - 1) (by omega) p1 x17 p3 M45 hJ ) (by omega) (Nat.le_of_ble_eq_true rfl) w_1872 w_1874 w_90 w_112 w_1875 (by decide +kernel) rfl (by decide) sh_175 rfl rfl (Nat.le_of_ble_eq_true rfl) (fun r M49 h50 => ?_)
                  obtain ⟨⟨x48, rfl⟩, h50, jM49⟩ := h50
                  have gx48 := tl_rg x48
                  have hf := li_fs_trans hf h50 (fun i k => fun h => Or.elim h (fun h => Or.inr (Or.inl h)) (fun h => Or.elim h (fun h => Or.inr (Or.inr (Or.inl h))) (fun h => Or.elim h (fun h => Or.inr (Or.inr (Or.inr (Or.inr (Or.inl h))))) (fun h => Or.elim h (fun h => Or.inr (Or.inr (Or.inr (Or.inr (Or.inr (Or.inl h)))))) (fun h => Or.elim h (fun h => Or.inr (Or.inr (Or.inr (Or.inr (Or.inr (Or.inr (Or.inl h))))))) (fun h => Or.elim h (fun h => Or.inr (Or.inr (Or.inr (Or.inr (Or.inr (Or.inr (Or.inr (Or.inl h)))))))) (fun h => Or.inr (Or.inr (Or.inr (Or.inr (Or.inr (Or.inr (Or.inr (Or.inr (Or.inl h)))))))))))))))
                  have hJ := jM49
                  have rM49_1 := J_sl1 (M := M49) hJ
                  have rM49_9 := J_sl9 (M := M49) hJ
                  have mM49_1 : (M49.1 175 1).toInt = (M45.1 175 1).toInt := tl_slot (h50.1 175 1 (show ¬ (175 = 185 ∨ 175 = 1000 ∨ (175 = 175 ∧ 1 = 12) ∨ (175 = 175 ∧ 1 = 13) ∨ (175 = 175 ∧ 1 = 14) ∨ (175 = 175 ∧ 1 = 15) ∨ (175 = 175 ∧ 1 = 20)) by decide))
                  have mM49_9 : (M49.1 175 9).toInt = (M45.1 175 9).toInt := tl_slot (h50.1 175 9 (show ¬ (175 = 185 ∨ 175 = 1000 ∨ (175 = 175 ∧ 9 = 12) ∨ (175 = 175 ∧ 9 = 13) ∨ (175 = 175 ∧ 9 = 14) ∨ (175 = 175 ∧ 9 = 15) ∨ (175 = 175 ∧ 9 = 20)) by decide))
                  refine li_iconst (-1) dX12_criers_89 (by decide) ?_
                  refine li_ixor dX12_criers_90 ?_
                  refine li_top (fun x51 ex51 => ?_)
                  refine li_iand dX12_criers_91 ?_
                  refine li_top (fun x52 ex52 => ?_)
                  first | (have tx52 := tl_andR ex52 (by omega)) | (have tx52 := tl_andL ex52 (by omega)) | skip
                  refine li_if_ne 99 dX12_criers_92 (by decide) (fun c53 => ?_) (fun c53 => ?_)
                  · have tc53 : ¬ x52.toInt = 0 := tl_ne c53
                    refine li_pick [0, 1, 2, 3, 4, 5] [(5, .int x17), (4, .int x18), (0, .ref (Z.2.2 175)), (1, .int p1), (2, .int p2), (3, .int p3)] rfl ?_
                    exact J99 x18 M49 hf hJ
                  · have tc53 : x52.toInt = 0 := tl_eq c53
                    refine li_iload 0 dX12_criers_95 rfl ?_
                    refine li_istore [(4, .int x17), (5, .int x17), (0, .ref (Z.2.2 175)), (1, .int p1), (2, .int p2), (3, .int p3)] dX12_criers_97 (by decide) rfl ?_
                    refine li_pick [1, 0, 2, 3, 4, 5] [(5, .int x17), (4, .int x17), (0, .ref (Z.2.2 175)), (1, .int p1), (2, .int p2), (3, .int p3)] rfl ?_
                    exact J99 x17 M49 hf hJ
                · have tc47 : x44.toInt ≤ x41.toInt := tl_nlt c47
                  refine li_goto 99 dX12_criers_77 (by decide) ?_
                  refine li_pick [0, 1, 2, 3, 4, 5] [(5, .int x17), (4, .int x18), (0, .ref (Z.2.2 175)), (1, .int p1), (2, .int p2), (3, .int p3)] rfl ?_
                  exact J99 x18 M45 hf hJ
        have z0 : (0 : Int32).toInt = 0 := rfl
        have zm1 : ((-1) : Int32).toInt = -1 := rfl
        exact L47 _ 0 (-1) M14 (Nat.lt_succ_self _) hf hJ
      · skip
        refine li_if_ne 41 dX12_criers_36 (by decide) (fun c => absurd rfl c) (fun c => ?_)
        refine li_iconst (-1) dX12_criers_39 (by decide) ?_
        have zm1 : ((-1) : Int32).toInt = -1 := rfl
        exact li_iret dX12_criers_40 rfl rfl ⟨⟨_, rfl⟩, hf, hJ⟩
    · skip
      refine li_if_eq 39 dX12_criers_26 (by decide) (fun c => ?_) (fun c => absurd rfl c)
      refine li_iconst (-1) dX12_criers_39 (by decide) ?_
      have zm1 : ((-1) : Int32).toInt = -1 := rfl
      exact li_iret dX12_criers_40 rfl rfl ⟨⟨_, rfl⟩, hf, hJ⟩
  · skip
    refine li_if_eq 39 dX12_criers_10 (by decide) (fun c => ?_) (fun c => absurd rfl c)
    refine li_iconst (-1) dX12_criers_39 (by decide) ?_
    have zm1 : ((-1) : Int32).toInt = -1 := rfl
    exact li_iret dX12_criers_40 rfl rfl ⟨⟨_, rfl⟩, hf, hJ⟩
