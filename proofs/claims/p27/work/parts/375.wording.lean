theorem w_93 : (Jvm.Cond.selects "ClockForTalkModel" ({ cls := "ClockForTalkModel", name := "readWording", desc := "()I" } : Jvm.MethodName) ({ cls := "ClockForTalkModel", name := "readWording", desc := "()I" } : Jvm.MethodName)) ∈ li_ws := li_mem 93 (by decide +kernel) (by decide +kernel)
theorem w_94 : (Jvm.Cond.selects "ClockForTalkModel" ({ cls := "ClockForTalkModel", name := "joined", desc := "(II)I" } : Jvm.MethodName) ({ cls := "ClockForTalkModel", name := "joined", desc := "(II)I" } : Jvm.MethodName)) ∈ li_ws := li_mem 94 (by decide +kernel) (by decide +kernel)
theorem w_1443 : (Jvm.Cond.fieldLink "ClockForTalkModel" (70 : Nat) "ClockForTalkModel" "turns" "[I") ∈ li_ws := li_mem 1443 (by decide +kernel) (by decide +kernel)
theorem w_1444 : (Jvm.Cond.fieldLink "ClockForTalkModel" (380 : Nat) "ClockForTalkModel" "wordMany" "I") ∈ li_ws := li_mem 1444 (by decide +kernel) (by decide +kernel)
theorem w_1906 : (Jvm.Cond.methodLink "ClockForTalkModel" (386 : Nat) ({ cls := "ClockForTalkModel", name := "readWording", desc := "()I" } : Jvm.MethodName)) ∈ li_ws := li_mem 1906 (by decide +kernel) (by decide +kernel)
theorem w_1908 : (Jvm.Cond.instanceMethod ({ cls := "ClockForTalkModel", name := "readWording", desc := "()I" } : Jvm.MethodName)) ∈ li_ws := li_mem 1908 (by decide +kernel) (by decide +kernel)
theorem w_1909 : (Jvm.Cond.code ({ cls := "ClockForTalkModel", name := "readWording", desc := "()I" } : Jvm.MethodName) prog_13_method_89_code (7 : Nat) (Option.some Jvm.ClassFile.FieldType.int)) ∈ li_ws := li_mem 1909 (by decide +kernel) (by decide +kernel)
theorem w_1910 : (Jvm.Cond.methodLink "ClockForTalkModel" (383 : Nat) ({ cls := "ClockForTalkModel", name := "joined", desc := "(II)I" } : Jvm.MethodName)) ∈ li_ws := li_mem 1910 (by decide +kernel) (by decide +kernel)
theorem w_1912 : (Jvm.Cond.instanceMethod ({ cls := "ClockForTalkModel", name := "joined", desc := "(II)I" } : Jvm.MethodName)) ∈ li_ws := li_mem 1912 (by decide +kernel) (by decide +kernel)
theorem w_1913 : (Jvm.Cond.code ({ cls := "ClockForTalkModel", name := "joined", desc := "(II)I" } : Jvm.MethodName) prog_13_method_90_code (5 : Nat) (Option.some Jvm.ClassFile.FieldType.int)) ∈ li_ws := li_mem 1913 (by decide +kernel) (by decide +kernel)
theorem dX12_readWording_0 : decode cX12_readWording 0 = .ok (.aload_n 0, 1) := by decide +kernel
theorem dX12_readWording_1 : decode cX12_readWording 1 = .ok (.getfield 124, 3) := by decide +kernel
theorem dX12_readWording_4 : decode cX12_readWording 4 = .ok (.istore_n 1, 1) := by decide +kernel
theorem dX12_readWording_5 : decode cX12_readWording 5 = .ok (.aload_n 0, 1) := by decide +kernel
theorem dX12_readWording_6 : decode cX12_readWording 6 = .ok (.iconst 0, 1) := by decide +kernel
theorem dX12_readWording_7 : decode cX12_readWording 7 = .ok (.putfield 124, 3) := by decide +kernel
theorem dX12_readWording_10 : decode cX12_readWording 10 = .ok (.iconst 0, 1) := by decide +kernel
theorem dX12_readWording_11 : decode cX12_readWording 11 = .ok (.istore_n 2, 1) := by decide +kernel
theorem dX12_readWording_12 : decode cX12_readWording 12 = .ok (.iload_n 2, 1) := by decide +kernel
theorem dX12_readWording_13 : decode cX12_readWording 13 = .ok (.iload_n 1, 1) := by decide +kernel
theorem dX12_readWording_14 : decode cX12_readWording 14 = .ok (.if_icmp .ge 35, 3) := by decide +kernel
theorem dX12_readWording_17 : decode cX12_readWording 17 = .ok (.iload_n 2, 1) := by decide +kernel
theorem dX12_readWording_18 : decode cX12_readWording 18 = .ok (.bipush 14, 2) := by decide +kernel
theorem dX12_readWording_20 : decode cX12_readWording 20 = .ok (.if_icmp .eq 19, 3) := by decide +kernel
theorem dX12_readWording_23 : decode cX12_readWording 23 = .ok (.aload_n 0, 1) := by decide +kernel
theorem dX12_readWording_24 : decode cX12_readWording 24 = .ok (.getfield 22, 3) := by decide +kernel
theorem dX12_readWording_27 : decode cX12_readWording 27 = .ok (.iload_n 2, 1) := by decide +kernel
theorem dX12_readWording_28 : decode cX12_readWording 28 = .ok (.baload, 1) := by decide +kernel
theorem dX12_readWording_29 : decode cX12_readWording 29 = .ok (.bipush 97, 2) := by decide +kernel
theorem dX12_readWording_31 : decode cX12_readWording 31 = .ok (.bipush 103, 2) := by decide +kernel
theorem dX12_readWording_33 : decode cX12_readWording 33 = .ok (.invokestatic 113, 3) := by decide +kernel
theorem dX12_readWording_36 : decode cX12_readWording 36 = .ok (.ifCond .ne 7, 3) := by decide +kernel
theorem dX12_readWording_39 : decode cX12_readWording 39 = .ok (.iconst (-1), 1) := by decide +kernel
theorem dX12_readWording_40 : decode cX12_readWording 40 = .ok (.iload_n 2, 1) := by decide +kernel
theorem dX12_readWording_41 : decode cX12_readWording 41 = .ok (.isub, 1) := by decide +kernel
theorem dX12_readWording_42 : decode cX12_readWording 42 = .ok (.ireturn, 1) := by decide +kernel
theorem dX12_readWording_43 : decode cX12_readWording 43 = .ok (.iinc 2 1, 3) := by decide +kernel
theorem dX12_readWording_46 : decode cX12_readWording 46 = .ok (.goto (-34), 3) := by decide +kernel
theorem dX12_readWording_49 : decode cX12_readWording 49 = .ok (.iload_n 1, 1) := by decide +kernel
theorem dX12_readWording_50 : decode cX12_readWording 50 = .ok (.ifCond .ne 5, 3) := by decide +kernel
theorem dX12_readWording_53 : decode cX12_readWording 53 = .ok (.iconst (-1), 1) := by decide +kernel
theorem dX12_readWording_54 : decode cX12_readWording 54 = .ok (.ireturn, 1) := by decide +kernel
theorem dX12_readWording_55 : decode cX12_readWording 55 = .ok (.aload_n 0, 1) := by decide +kernel
theorem dX12_readWording_56 : decode cX12_readWording 56 = .ok (.iload_n 1, 1) := by decide +kernel
theorem dX12_readWording_57 : decode cX12_readWording 57 = .ok (.putfield 380, 3) := by decide +kernel
theorem dX12_readWording_60 : decode cX12_readWording 60 = .ok (.bipush 15, 2) := by decide +kernel
theorem dX12_readWording_62 : decode cX12_readWording 62 = .ok (.istore_n 2, 1) := by decide +kernel
theorem dX12_readWording_63 : decode cX12_readWording 63 = .ok (.iconst 1, 1) := by decide +kernel
theorem dX12_readWording_64 : decode cX12_readWording 64 = .ok (.istore_n 3, 1) := by decide +kernel
theorem dX12_readWording_65 : decode cX12_readWording 65 = .ok (.iload_n 3, 1) := by decide +kernel
theorem dX12_readWording_66 : decode cX12_readWording 66 = .ok (.iload_n 1, 1) := by decide +kernel
theorem dX12_readWording_67 : decode cX12_readWording 67 = .ok (.if_icmp .gt 121, 3) := by decide +kernel
theorem dX12_readWording_70 : decode cX12_readWording 70 = .ok (.iconst 0, 1) := by decide +kernel
theorem dX12_readWording_71 : decode cX12_readWording 71 = .ok (.istore 4, 2) := by decide +kernel
theorem dX12_readWording_73 : decode cX12_readWording 73 = .ok (.iload 4, 2) := by decide +kernel
theorem dX12_readWording_75 : decode cX12_readWording 75 = .ok (.iload_n 3, 1) := by decide +kernel
theorem dX12_readWording_76 : decode cX12_readWording 76 = .ok (.iadd, 1) := by decide +kernel
theorem dX12_readWording_77 : decode cX12_readWording 77 = .ok (.iload_n 1, 1) := by decide +kernel
theorem dX12_readWording_78 : decode cX12_readWording 78 = .ok (.if_icmp .gt 104, 3) := by decide +kernel
theorem dX12_readWording_81 : decode cX12_readWording 81 = .ok (.iload_n 3, 1) := by decide +kernel
theorem dX12_readWording_82 : decode cX12_readWording 82 = .ok (.iconst 1, 1) := by decide +kernel
theorem dX12_readWording_83 : decode cX12_readWording 83 = .ok (.if_icmp .ne 18, 3) := by decide +kernel
theorem dX12_readWording_86 : decode cX12_readWording 86 = .ok (.iconst 1, 1) := by decide +kernel
theorem dX12_readWording_87 : decode cX12_readWording 87 = .ok (.aload_n 0, 1) := by decide +kernel
theorem dX12_readWording_88 : decode cX12_readWording 88 = .ok (.getfield 22, 3) := by decide +kernel
theorem dX12_readWording_91 : decode cX12_readWording 91 = .ok (.iload 4, 2) := by decide +kernel
theorem dX12_readWording_93 : decode cX12_readWording 93 = .ok (.baload, 1) := by decide +kernel
theorem dX12_readWording_94 : decode cX12_readWording 94 = .ok (.bipush 97, 2) := by decide +kernel
theorem dX12_readWording_96 : decode cX12_readWording 96 = .ok (.isub, 1) := by decide +kernel
theorem dX12_readWording_97 : decode cX12_readWording 97 = .ok (.ishl, 1) := by decide +kernel
theorem dX12_readWording_98 : decode cX12_readWording 98 = .ok (.goto 4, 3) := by decide +kernel
theorem dX12_readWording_101 : decode cX12_readWording 101 = .ok (.iconst 0, 1) := by decide +kernel
theorem dX12_readWording_102 : decode cX12_readWording 102 = .ok (.istore 5, 2) := by decide +kernel
theorem dX12_readWording_104 : decode cX12_readWording 104 = .ok (.iconst 1, 1) := by decide +kernel
theorem dX12_readWording_105 : decode cX12_readWording 105 = .ok (.istore 6, 2) := by decide +kernel
theorem dX12_readWording_107 : decode cX12_readWording 107 = .ok (.iload 6, 2) := by decide +kernel
theorem dX12_readWording_109 : decode cX12_readWording 109 = .ok (.iload_n 3, 1) := by decide +kernel
theorem dX12_readWording_110 : decode cX12_readWording 110 = .ok (.if_icmp .ge 50, 3) := by decide +kernel
theorem dX12_readWording_113 : decode cX12_readWording 113 = .ok (.iload 5, 2) := by decide +kernel
theorem dX12_readWording_115 : decode cX12_readWording 115 = .ok (.aload_n 0, 1) := by decide +kernel
theorem dX12_readWording_116 : decode cX12_readWording 116 = .ok (.aload_n 0, 1) := by decide +kernel
theorem dX12_readWording_117 : decode cX12_readWording 117 = .ok (.getfield 70, 3) := by decide +kernel
theorem dX12_readWording_120 : decode cX12_readWording 120 = .ok (.iload_n 2, 1) := by decide +kernel
theorem dX12_readWording_121 : decode cX12_readWording 121 = .ok (.iload 4, 2) := by decide +kernel
theorem dX12_readWording_123 : decode cX12_readWording 123 = .ok (.imul, 1) := by decide +kernel
theorem dX12_readWording_124 : decode cX12_readWording 124 = .ok (.iload 4, 2) := by decide +kernel
theorem dX12_readWording_126 : decode cX12_readWording 126 = .ok (.iadd, 1) := by decide +kernel
theorem dX12_readWording_127 : decode cX12_readWording 127 = .ok (.iload 6, 2) := by decide +kernel
theorem dX12_readWording_129 : decode cX12_readWording 129 = .ok (.iadd, 1) := by decide +kernel
theorem dX12_readWording_130 : decode cX12_readWording 130 = .ok (.iaload, 1) := by decide +kernel
theorem dX12_readWording_131 : decode cX12_readWording 131 = .ok (.aload_n 0, 1) := by decide +kernel
theorem dX12_readWording_132 : decode cX12_readWording 132 = .ok (.getfield 70, 3) := by decide +kernel
theorem dX12_readWording_135 : decode cX12_readWording 135 = .ok (.iload_n 2, 1) := by decide +kernel
theorem dX12_readWording_136 : decode cX12_readWording 136 = .ok (.iload 4, 2) := by decide +kernel
theorem dX12_readWording_138 : decode cX12_readWording 138 = .ok (.iload 6, 2) := by decide +kernel
theorem dX12_readWording_140 : decode cX12_readWording 140 = .ok (.iadd, 1) := by decide +kernel
theorem dX12_readWording_141 : decode cX12_readWording 141 = .ok (.imul, 1) := by decide +kernel
theorem dX12_readWording_142 : decode cX12_readWording 142 = .ok (.iload 4, 2) := by decide +kernel
theorem dX12_readWording_144 : decode cX12_readWording 144 = .ok (.iadd, 1) := by decide +kernel
theorem dX12_readWording_145 : decode cX12_readWording 145 = .ok (.iload_n 3, 1) := by decide +kernel
theorem dX12_readWording_146 : decode cX12_readWording 146 = .ok (.iadd, 1) := by decide +kernel
theorem dX12_readWording_147 : decode cX12_readWording 147 = .ok (.iaload, 1) := by decide +kernel
theorem dX12_readWording_148 : decode cX12_readWording 148 = .ok (.invokevirtual 383, 3) := by decide +kernel
theorem dX12_readWording_151 : decode cX12_readWording 151 = .ok (.ior, 1) := by decide +kernel
theorem dX12_readWording_152 : decode cX12_readWording 152 = .ok (.istore 5, 2) := by decide +kernel
theorem dX12_readWording_154 : decode cX12_readWording 154 = .ok (.iinc 6 1, 3) := by decide +kernel
theorem dX12_readWording_157 : decode cX12_readWording 157 = .ok (.goto (-50), 3) := by decide +kernel
theorem dX12_readWording_160 : decode cX12_readWording 160 = .ok (.aload_n 0, 1) := by decide +kernel
theorem dX12_readWording_161 : decode cX12_readWording 161 = .ok (.getfield 70, 3) := by decide +kernel
theorem dX12_readWording_164 : decode cX12_readWording 164 = .ok (.iload_n 2, 1) := by decide +kernel
theorem dX12_readWording_165 : decode cX12_readWording 165 = .ok (.iload 4, 2) := by decide +kernel
theorem dX12_readWording_167 : decode cX12_readWording 167 = .ok (.imul, 1) := by decide +kernel
theorem dX12_readWording_168 : decode cX12_readWording 168 = .ok (.iload 4, 2) := by decide +kernel
theorem dX12_readWording_170 : decode cX12_readWording 170 = .ok (.iadd, 1) := by decide +kernel
theorem dX12_readWording_171 : decode cX12_readWording 171 = .ok (.iload_n 3, 1) := by decide +kernel
theorem dX12_readWording_172 : decode cX12_readWording 172 = .ok (.iadd, 1) := by decide +kernel
theorem dX12_readWording_173 : decode cX12_readWording 173 = .ok (.iload 5, 2) := by decide +kernel
theorem dX12_readWording_175 : decode cX12_readWording 175 = .ok (.iastore, 1) := by decide +kernel
theorem dX12_readWording_176 : decode cX12_readWording 176 = .ok (.iinc 4 1, 3) := by decide +kernel
theorem dX12_readWording_179 : decode cX12_readWording 179 = .ok (.goto (-106), 3) := by decide +kernel
theorem dX12_readWording_182 : decode cX12_readWording 182 = .ok (.iinc 3 1, 3) := by decide +kernel
theorem dX12_readWording_185 : decode cX12_readWording 185 = .ok (.goto (-120), 3) := by decide +kernel
theorem dX12_readWording_188 : decode cX12_readWording 188 = .ok (.iconst 0, 1) := by decide +kernel
theorem dX12_readWording_189 : decode cX12_readWording 189 = .ok (.ireturn, 1) := by decide +kernel
abbrev YX12_readWording : li_Y := (yX12_readWording, cX12_readWording, 7, (some .int))
theorem dX12_becomes_0 : decode cX12_becomes 0 = .ok (.aload_n 0, 1) := by decide +kernel
theorem dX12_becomes_1 : decode cX12_becomes 1 = .ok (.iconst 0, 1) := by decide +kernel
theorem dX12_becomes_2 : decode cX12_becomes 2 = .ok (.putfield 103, 3) := by decide +kernel
theorem dX12_becomes_5 : decode cX12_becomes 5 = .ok (.aload_n 0, 1) := by decide +kernel
theorem dX12_becomes_6 : decode cX12_becomes 6 = .ok (.invokevirtual 386, 3) := by decide +kernel
theorem dX12_becomes_9 : decode cX12_becomes 9 = .ok (.istore_n 1, 1) := by decide +kernel
theorem dX12_becomes_10 : decode cX12_becomes 10 = .ok (.iload_n 1, 1) := by decide +kernel
theorem dX12_becomes_11 : decode cX12_becomes 11 = .ok (.ifCond .ge 7, 3) := by decide +kernel
theorem dX12_becomes_14 : decode cX12_becomes 14 = .ok (.iload_n 1, 1) := by decide +kernel
theorem dX12_becomes_15 : decode cX12_becomes 15 = .ok (.goto 12, 3) := by decide +kernel
theorem dX12_becomes_18 : decode cX12_becomes 18 = .ok (.aload_n 0, 1) := by decide +kernel
theorem dX12_becomes_19 : decode cX12_becomes 19 = .ok (.getfield 70, 3) := by decide +kernel
theorem dX12_becomes_22 : decode cX12_becomes 22 = .ok (.aload_n 0, 1) := by decide +kernel
theorem dX12_becomes_23 : decode cX12_becomes 23 = .ok (.getfield 380, 3) := by decide +kernel
theorem dX12_becomes_26 : decode cX12_becomes 26 = .ok (.iaload, 1) := by decide +kernel
theorem dX12_becomes_27 : decode cX12_becomes 27 = .ok (.ireturn, 1) := by decide +kernel
abbrev YX12_becomes : li_Y := (yX12_becomes, cX12_becomes, 2, (some .int))
set_option maxRecDepth 100000 in
set_option maxHeartbeats 4000000 in
theorem k_X12_readWording {l : Launch} {Z : li_Z} (d : Nat) (hd : 3 ≤ d) (M0 : li_M) (hJ : li_J M0) : li_Met l Z YX12_readWording d [.ref (Z.2.2 175)] M0 (fun r M' => (∃ x : Int32, r = some (.int x) ∧ (x.toInt < 0 ∨ (x.toInt = 0 ∧ li_tp (M'.1 195) (M'.1 175 40).toInt ∧ 1 ≤ (M'.1 175 40).toInt ∧ (M'.1 175 40).toInt ≤ 14))) ∧ li_fs (fun i k => i = 195 ∨ (i = 175 ∧ k = 40) ∨ (i = 175 ∧ k = 7)) M0 M' ∧ li_J M') := by
  refine li_enter (by decide +kernel) (Nat.le_of_ble_eq_true rfl) ?_
  show li_T l Z YX12_readWording d 0 [(0, .ref (Z.2.2 175))] [] M0 _
  have hf : li_fs (fun i k => i = 195 ∨ (i = 175 ∧ k = 40) ∨ (i = 175 ∧ k = 7)) M0 M0 := li_fs_refl
  have rM0_7 := J_sl7 (M := M0) hJ
  have rM0_40 := J_sl40 (M := M0) hJ
  refine li_aload_n 0 dX12_readWording_0 rfl ?_
  refine li_geti (k := 7) (N := 52) (T := TX12) (C0 := RX12) dX12_readWording_1 (by decide) sh_175 rfl rfl (by decide) li_in12 w_1411 ?_
  refine li_top (fun x1 ex1 => ?_)
  have gx1 : 0 ≤ x1.toInt ∧ x1.toInt ≤ 80 := by rw [ex1]; exact J_sl7 hJ
  have mx1 : x1.toInt = (M0.1 175 7).toInt := tl_slot ex1
  refine li_istore_n [(1, .int x1), (0, .ref (Z.2.2 175))] dX12_readWording_4 (by decide) rfl ?_
  refine li_aload_n 1 dX12_readWording_5 rfl ?_
  refine li_iconst 0 dX12_readWording_6 (by decide) ?_
  refine li_puti (k := 7) (N := 52) (T := TX12) (C0 := RX12) dX12_readWording_7 (by decide) sh_175 rfl rfl (by decide) li_in12 tyX12_ok nmX12 rfl rfl rfl rfl w_1411 ?_
  refine li_nm (fun M2 eM2 => ?_)
  have hf := li_fs_ui hf (Or.inr (Or.inr (⟨rfl, rfl⟩))) eM2
  have z0 : (0 : Int32).toInt = 0 := rfl
  have hJ := J_pt7 hJ (show 0 ≤ (0 : Int32).toInt ∧ (0 : Int32).toInt ≤ 80 by omega) eM2
  have rM2_7 := J_sl7 (M := M2) hJ
  have rM2_40 := J_sl40 (M := M2) hJ
  have mM2_7 : (M2.1 175 7).toInt = 0 := by rw [eM2, li_ui_at, if_pos rfl, if_pos rfl]; rfl
  have mM2_40 : (M2.1 175 40).toInt = (M0.1 175 40).toInt := by rw [eM2, li_ui_at, if_pos rfl, if_neg (by decide)]
  refine li_iconst 0 dX12_readWording_10 (by decide) ?_
  refine li_istore_n [(2, .int 0), (1, .int x1), (0, .ref (Z.2.2 175))] dX12_readWording_11 (by decide) rfl ?_
  have L12 : ∀ (n : Nat) (x3 : Int32) (M4 : li_M), (15 - (x3 : Int32).toInt).toNat < n → li_fs (fun i k => i = 195 ∨ (i = 175 ∧ k = 40) ∨ (i = 175 ∧ k = 7)) M0 M4 → li_J M4 → 0 ≤ (x3 : Int32).toInt ∧ (x3 : Int32).toInt ≤ 14 → li_T l Z YX12_readWording d 12 [(2, .int x3), (1, .int x1), (0, .ref (Z.2.2 175))] [] M4 (fun r M' => (∃ x : Int32, r = some (.int x) ∧ (x.toInt < 0 ∨ (x.toInt = 0 ∧ li_tp (M'.1 195) (M'.1 175 40).toInt ∧ 1 ≤ (M'.1 175 40).toInt ∧ (M'.1 175 40).toInt ≤ 14))) ∧ li_fs (fun i k => i = 195 ∨ (i = 175 ∧ k = 40) ∨ (i = 175 ∧ k = 7)) M0 M' ∧ li_J M') := by
    intro n
    induction n with
    | zero => intro x3 M4 hn; exact absurd hn (Nat.not_lt_zero _)
    | succ n ih12 =>
      intro x3 M4 hn hf hJ hi
      have gx3 := tl_rg x3
      have rM4_7 := J_sl7 (M := M4) hJ
      have rM4_40 := J_sl40 (M := M4) hJ
      refine li_iload_n 0 dX12_readWording_12 rfl ?_
      refine li_iload_n 1 dX12_readWording_13 rfl ?_
      refine li_icmp_ge 49 dX12_readWording_14 (by decide) (fun c5 => ?_) (fun c5 => ?_)
      · have tc5 : x1.toInt ≤ x3.toInt := tl_le c5
        refine li_iload_n 1 dX12_readWording_49 rfl ?_
        refine li_if_ne 55 dX12_readWording_50 (by decide) (fun c6 => ?_) (fun c6 => ?_)
        · have tc6 : ¬ x1.toInt = 0 := tl_ne c6
          refine li_aload_n 2 dX12_readWording_55 rfl ?_
          refine li_iload_n 1 dX12_readWording_56 rfl ?_
          refine li_puti (k := 40) (N := 52) (T := TX12) (C0 := RX12) dX12_readWording_57 (by decide) sh_175 rfl rfl (by decide) li_in12 tyX12_ok nmX12 rfl rfl rfl rfl w_1444 ?_
          refine li_nm (fun M7 eM7 => ?_)
          have hf := li_fs_ui hf (Or.inr (Or.inl ⟨rfl, rfl⟩)) eM7
          have hJ := J_pt40 hJ (show 0 ≤ (x1 : Int32).toInt ∧ (x1 : Int32).toInt ≤ 14 by omega) eM7
          have rM7_7 := J_sl7 (M := M7) hJ
          have rM7_40 := J_sl40 (M := M7) hJ
          have mM7_7 : (M7.1 175 7).toInt = (M4.1 175 7).toInt := by rw [eM7, li_ui_at, if_pos rfl, if_neg (by decide)]
          have mM7_40 : (M7.1 175 40).toInt = x1.toInt := by rw [eM7, li_ui_at, if_pos rfl, if_pos rfl]
          refine li_bipush 15 dX12_readWording_60 (by decide) ?_
          refine li_istore_n [(2, .int 15), (1, .int x1), (0, .ref (Z.2.2 175))] dX12_readWording_62 (by decide) rfl ?_
          refine li_iconst 1 dX12_readWording_63 (by decide) ?_
          refine li_istore_n [(3, .int 1), (2, .int 15), (1, .int x1), (0, .ref (Z.2.2 175))] dX12_readWording_64 (by decide) rfl ?_
          have L65 : ∀ (n : Nat) (x8 : Int32) (M9 : li_M), (16 - (x8 : Int32).toInt).toNat < n → li_fs (fun i k => i = 195 ∨ (i = 175 ∧ k = 40) ∨ (i = 175 ∧ k = 7)) M0 M9 → li_J M9 → 1 ≤ (x8 : Int32).toInt ∧ (x8 : Int32).toInt ≤ (x1 : Int32).toInt + 1 ∧ (M9.1 175 40).toInt = (x1 : Int32).toInt → li_tq (M9.1 195) ((x8 : Int32).toInt) (0) ((x1 : Int32).toInt) → li_T l Z YX12_readWording d 65 [(3, .int x8), (2, .int 15), (1, .int x1), (0, .ref (Z.2.2 175))] [] M9 (fun r M' => (∃ x : Int32, r = some (.int x) ∧ (x.toInt < 0 ∨ (x.toInt = 0 ∧ li_tp (M'.1 195) (M'.1 175 40).toInt ∧ 1 ≤ (M'.1 175 40).toInt ∧ (M'.1 175 40).toInt ≤ 14))) ∧ li_fs (fun i k => i = 195 ∨ (i = 175 ∧ k = 40) ∨ (i = 175 ∧ k = 7)) M0 M' ∧ li_J M') := by
            intro n
            induction n with
            | zero => intro x8 M9 hn; exact absurd hn (Nat.not_lt_zero _)
            | succ n ih65 =>
              intro x8 M9 hn hf hJ hi Ptq_M9
              have gx8 := tl_rg x8
              have rM9_7 := J_sl7 (M := M9) hJ
              have rM9_40 := J_sl40 (M := M9) hJ
              refine li_iload_n 0 dX12_readWording_65 rfl ?_
              refine li_iload_n 2 dX12_readWording_66 rfl ?_
              refine li_icmp_gt 188 dX12_readWording_67 (by decide) (fun c10 => ?_) (fun c10 => ?_)
              · have tc10 : x1.toInt < x8.toInt := tl_lt c10
                refine li_iconst 0 dX12_readWording_188 (by decide) ?_
                have z0 : (0 : Int32).toInt = 0 := rfl
                exact li_iret dX12_readWording_189 rfl rfl ⟨⟨_, rfl, (by first | exact Or.inl (by omega) | exact Or.inr ⟨by omega, li_tp_tr rfl (by omega) (li_tq_end Ptq_M9 (by omega)), by omega, by omega⟩)⟩, hf, hJ⟩
              · have tc10 : x8.toInt ≤ x1.toInt := tl_nlt c10
                refine li_iconst 0 dX12_readWording_70 (by decide) ?_
                refine li_istore [(4, .int 0), (3, .int x8), (2, .int 15), (1, .int x1), (0, .ref (Z.2.2 175))] dX12_readWording_71 (by decide) rfl ?_
                have L73 : ∀ (n : Nat) (x11 : Int32) (M12 : li_M), (15 - (x11 : Int32).toInt).toNat < n → li_fs (fun i k => i = 195 ∨ (i = 175 ∧ k = 40) ∨ (i = 175 ∧ k = 7)) M0 M12 → li_J M12 → 0 ≤ (x11 : Int32).toInt ∧ (x11 : Int32).toInt ≤ 14 ∧ (M12.1 175 40).toInt = (x1 : Int32).toInt → li_tq (M12.1 195) ((x8 : Int32).toInt) ((x11 : Int32).toInt) ((x1 : Int32).toInt) → li_T l Z YX12_readWording d 73 [(4, .int x11), (3, .int x8), (2, .int 15), (1, .int x1), (0, .ref (Z.2.2 175))] [] M12 (fun r M' => (∃ x : Int32, r = some (.int x) ∧ (x.toInt < 0 ∨ (x.toInt = 0 ∧ li_tp (M'.1 195) (M'.1 175 40).toInt ∧ 1 ≤ (M'.1 175 40).toInt ∧ (M'.1 175 40).toInt ≤ 14))) ∧ li_fs (fun i k => i = 195 ∨ (i = 175 ∧ k = 40) ∨ (i = 175 ∧ k = 7)) M0 M' ∧ li_J M') := by
                  intro n
                  induction n with
                  | zero => intro x11 M12 hn; exact absurd hn (Nat.not_lt_zero _)
                  | succ n ih73 =>
                    intro x11 M12 hn hf hJ hi Ptq_M12
                    have gx11 := tl_rg x11
                    have rM12_7 := J_sl7 (M := M12) hJ
                    have rM12_40 := J_sl40 (M := M12) hJ
                    refine li_iload 0 dX12_readWording_73 rfl ?_
                    refine li_iload_n 1 dX12_readWording_75 rfl ?_
                    refine li_iadd dX12_readWording_76 ?_
                    refine li_top (fun x13 ex13 => ?_)
                    try (have tx13 : x13.toInt = (x11 : Int32).toInt + (x8 : Int32).toInt := tl_add ex13 (by omega))
                    refine li_iload_n 3 dX12_readWording_77 rfl ?_
                    refine li_icmp_gt 182 dX12_readWording_78 (by decide) (fun c14 => ?_) (fun c14 => ?_)
                    · have tc14 : x1.toInt < x13.toInt := tl_lt c14
                      obtain ⟨x15, ex15⟩ : ∃ y : Int32, y = x8 + 1 := ⟨_, rfl⟩
                      have z1 : (1 : Int32).toInt = 1 := rfl
                      try (have tx15 : x15.toInt = (x8 : Int32).toInt + (1 : Int32).toInt := tl_add ex15 (by omega))
                      refine li_iinc 1 [(3, .int x15), (4, .int x11), (2, .int 15), (1, .int x1), (0, .ref (Z.2.2 175))] x15 dX12_readWording_182 rfl (by rw [ex15]; rfl) (by decide) rfl ?_
                      refine li_goto 65 dX12_readWording_185 (by decide) ?_
                      refine li_pick [0, 2, 3, 4] [(3, .int x15), (2, .int 15), (1, .int x1), (0, .ref (Z.2.2 175))] rfl ?_
                      exact ih65 x15 M12 (by omega) hf hJ (by omega) (by first | exact li_tq_tr rfl (by omega) (by omega) (by omega) Ptq_M12 | exact li_tq_next Ptq_M12 (by omega) (by omega) (by omega) (by omega) | exact li_tq_0 (by omega) (by omega))
                    · have tc14 : x13.toInt ≤ x1.toInt := tl_nlt c14
                      refine li_iload_n 1 dX12_readWording_81 rfl ?_
                      refine li_iconst 1 dX12_readWording_82 (by decide) ?_
                      have J102 : ∀ (x17 : Int32) (M18 : li_M), li_fs (fun i k => i = 195 ∨ (i = 175 ∧ k = 40) ∨ (i = 175 ∧ k = 7)) M0 M18 → li_J M18 → ((x8 : Int32).toInt = 1 → ¬ (x17 : Int32).toInt = 0) ∧ (M18.1 175 40).toInt = (x1 : Int32).toInt → li_tq (M18.1 195) ((x8 : Int32).toInt) ((x11 : Int32).toInt) ((x1 : Int32).toInt) → li_T l Z YX12_readWording d 102 [(4, .int x11), (3, .int x8), (2, .int 15), (1, .int x1), (0, .ref (Z.2.2 175))] [.int x17] M18 (fun r M' => (∃ x : Int32, r = some (.int x) ∧ (x.toInt < 0 ∨ (x.toInt = 0 ∧ li_tp (M'.1 195) (M'.1 175 40).toInt ∧ 1 ≤ (M'.1 175 40).toInt ∧ (M'.1 175 40).toInt ≤ 14))) ∧ li_fs (fun i k => i = 195 ∨ (i = 175 ∧ k = 40) ∨ (i = 175 ∧ k = 7)) M0 M' ∧ li_J M') := by
                        intro x17 M18 hf hJ hi Ptq_M18
                        have gx17 := tl_rg x17
                        have rM18_7 := J_sl7 (M := M18) hJ
                        have rM18_40 := J_sl40 (M := M18) hJ
                        refine li_istore [(5, .int x17), (4, .int x11), (3, .int x8), (2, .int 15), (1, .int x1), (0, .ref (Z.2.2 175))] dX12_readWording_102 (by decide) rfl ?_
                        refine li_iconst 1 dX12_readWording_104 (by decide) ?_
                        refine li_istore [(6, .int 1), (5, .int x17), (4, .int x11), (3, .int x8), (2, .int 15), (1, .int x1), (0, .ref (Z.2.2 175))] dX12_readWording_105 (by decide) rfl ?_
                        have L107 : ∀ (n : Nat) (x19 : Int32) (x20 : Int32) (M21 : li_M), (15 - (x19 : Int32).toInt).toNat < n → li_fs (fun i k => i = 195 ∨ (i = 175 ∧ k = 40) ∨ (i = 175 ∧ k = 7)) M0 M21 → li_J M21 → 1 ≤ (x19 : Int32).toInt ∧ ((x8 : Int32).toInt = 1 → ¬ (x20 : Int32).toInt = 0) ∧ (M21.1 175 40).toInt = (x1 : Int32).toInt → li_tq (M21.1 195) ((x8 : Int32).toInt) ((x11 : Int32).toInt) ((x1 : Int32).toInt) → li_T l Z YX12_readWording d 107 [(6, .int x19), (5, .int x20), (4, .int x11), (3, .int x8), (2, .int 15), (1, .int x1), (0, .ref (Z.2.2 175))] [] M21 (fun r M' => (∃ x : Int32, r = some (.int x) ∧ (x.toInt < 0 ∨ (x.toInt = 0 ∧ li_tp (M'.1 195) (M'.1 175 40).toInt ∧ 1 ≤ (M'.1 175 40).toInt ∧ (M'.1 175 40).toInt ≤ 14))) ∧ li_fs (fun i k => i = 195 ∨ (i = 175 ∧ k = 40) ∨ (i = 175 ∧ k = 7)) M0 M' ∧ li_J M') := by
                          intro n
                          induction n with
                          | zero => intro x19 x20 M21 hn; exact absurd hn (Nat.not_lt_zero _)
                          | succ n ih107 =>
                            intro x19 x20 M21 hn hf hJ hi Ptq_M21
                            have gx19 := tl_rg x19
                            have gx20 := tl_rg x20
                            have rM21_7 := J_sl7 (M := M21) hJ
                            have rM21_40 := J_sl40 (M := M21) hJ
                            refine li_iload 0 dX12_readWording_107 rfl ?_
                            refine li_iload_n 3 dX12_readWording_109 rfl ?_
                            refine li_icmp_ge 160 dX12_readWording_110 (by decide) (fun c22 => ?_) (fun c22 => ?_)
                            · have tc22 : x8.toInt ≤ x19.toInt := tl_le c22
                              refine li_aload_n 6 dX12_readWording_160 rfl ?_
                              refine li_getr (k := 39) (N := 52) (T := TX12) (C0 := RX12) dX12_readWording_161 (by decide) sh_175 rfl rfl (by decide) (by decide) li_in12 w_1443 ?_
                              refine li_iload_n 4 dX12_readWording_164 rfl ?_
                              refine li_iload 2 dX12_readWording_165 rfl ?_
                              refine li_imul dX12_readWording_167 ?_
                              refine li_top (fun x23 ex23 => ?_)
                              have z15 : (15 : Int32).toInt = 15 := rfl
                              try (have tx23 : x23.toInt = 15 * (x11 : Int32).toInt := tl_mul ex23 (show -2147483648 ≤ 15 * (x11 : Int32).toInt ∧ 15 * (x11 : Int32).toInt ≤ 2147483647 by omega))
                              refine li_iload 2 dX12_readWording_168 rfl ?_
                              refine li_iadd dX12_readWording_170 ?_
                              refine li_top (fun x24 ex24 => ?_)
                              try (have tx24 : x24.toInt = (x23 : Int32).toInt + (x11 : Int32).toInt := tl_add ex24 (by omega))
                              refine li_iload_n 3 dX12_readWording_171 rfl ?_
                              refine li_iadd dX12_readWording_172 ?_
                              refine li_top (fun x25 ex25 => ?_)
                              try (have tx25 : x25.toInt = (x24 : Int32).toInt + (x8 : Int32).toInt := tl_add ex25 (by omega))
                              refine li_iload 1 dX12_readWording_173 rfl ?_
                              refine li_iast dX12_readWording_175 (by decide) sh_195 (tl_in (by omega)) ?_
                              refine li_nm (fun M26 eM26 => ?_)
                              have hf := li_fs_ui hf (Or.inl rfl) eM26
                              have hJ := hJ.st (by decide) (li_el_free (by unfold li_led; omega) (by decide) (by decide) (by unfold li_rq; omega)) eM26
                              have rM26_7 := J_sl7 (M := M26) hJ
                              have rM26_40 := J_sl40 (M := M26) hJ
                              have mM26_7 : (M26.1 175 7).toInt = (M21.1 175 7).toInt := by rw [eM26, li_ui_at, if_neg (by decide)]
                              have mM26_40 : (M26.1 175 40).toInt = (M21.1 175 40).toInt := by rw [eM26, li_ui_at, if_neg (by decide)]
                              have Ptq_M26 : li_tq (M26.1 195) ((x8 : Int32).toInt) ((x11 : Int32).toInt + 1) ((x1 : Int32).toInt) := li_tq_st eM26 (by omega) (by omega) (by omega) (fun h9 => by omega) Ptq_M21
                              obtain ⟨x27, ex27⟩ : ∃ y : Int32, y = x11 + 1 := ⟨_, rfl⟩
                              have z1 : (1 : Int32).toInt = 1 := rfl
                              try (have tx27 : x27.toInt = (x11 : Int32).toInt + (1 : Int32).toInt := tl_add ex27 (by omega))
                              refine li_iinc 2 [(4, .int x27), (6, .int x19), (5, .int x20), (3, .int x8), (2, .int 15), (1, .int x1), (0, .ref (Z.2.2 175))] x27 dX12_readWording_176 rfl (by rw [ex27]; rfl) (by decide) rfl ?_
                              refine li_goto 73 dX12_readWording_179 (by decide) ?_
                              refine li_pick [0, 3, 4, 5, 6] [(4, .int x27), (3, .int x8), (2, .int 15), (1, .int x1), (0, .ref (Z.2.2 175))] rfl ?_
                              exact ih73 x27 M26 (by omega) hf hJ (by omega) (by first | exact li_tq_tr rfl (by omega) (by omega) (by omega) Ptq_M26 | exact li_tq_next Ptq_M26 (by omega) (by omega) (by omega) (by omega) | exact li_tq_0 (by omega) (by omega))
                            · have tc22 : x19.toInt < x8.toInt := tl_nle c22
                              refine li_iload 1 dX12_readWording_113 rfl ?_
                              refine li_aload_n 6 dX12_readWording_115 rfl ?_
                              refine li_aload_n 6 dX12_readWording_116 rfl ?_
                              refine li_getr (k := 39) (N := 52) (T := TX12) (C0 := RX12) dX12_readWording_117 (by decide) sh_175 rfl rfl (by decide) (by decide) li_in12 w_1443 ?_
                              refine li_iload_n 4 dX12_readWording_120 rfl ?_
                              refine li_iload 2 dX12_readWording_121 rfl ?_
                              refine li_imul dX12_readWording_123 ?_
                              refine li_top (fun x28 ex28 => ?_)
                              have z15 : (15 : Int32).toInt = 15 := rfl
                              try (have tx28 : x28.toInt = 15 * (x11 : Int32).toInt := tl_mul ex28 (show -2147483648 ≤ 15 * (x11 : Int32).toInt ∧ 15 * (x11 : Int32).toInt ≤ 2147483647 by omega))
                              refine li_iload 2 dX12_readWording_124 rfl ?_
                              refine li_iadd dX12_readWording_126 ?_
                              refine li_top (fun x29 ex29 => ?_)
                              try (have tx29 : x29.toInt = (x28 : Int32).toInt + (x11 : Int32).toInt := tl_add ex29 (by omega))
                              refine li_iload 0 dX12_readWording_127 rfl ?_
                              refine li_iadd dX12_readWording_129 ?_
                              refine li_top (fun x30 ex30 => ?_)
                              try (have tx30 : x30.toInt = (x29 : Int32).toInt + (x19 : Int32).toInt := tl_add ex30 (by omega))
                              refine li_iald dX12_readWording_130 (by decide) sh_195 (tl_in (by omega)) ?_
                              refine li_top (fun x31 ex31 => ?_)
                              have gx31 := tl_rg x31
                              refine li_aload_n 6 dX12_readWording_131 rfl ?_
                              refine li_getr (k := 39) (N := 52) (T := TX12) (C0 := RX12) dX12_readWording_132 (by decide) sh_175 rfl rfl (by decide) (by decide) li_in12 w_1443 ?_
                              refine li_iload_n 4 dX12_readWording_135 rfl ?_
                              refine li_iload 2 dX12_readWording_136 rfl ?_
                              refine li_iload 0 dX12_readWording_138 rfl ?_
                              refine li_iadd dX12_readWording_140 ?_
                              refine li_top (fun x32 ex32 => ?_)
                              try (have tx32 : x32.toInt = (x11 : Int32).toInt + (x19 : Int32).toInt := tl_add ex32 (by omega))
                              refine li_imul dX12_readWording_141 ?_
                              refine li_top (fun x33 ex33 => ?_)
                              have z15 : (15 : Int32).toInt = 15 := rfl
                              try (have tx33 : x33.toInt = 15 * (x32 : Int32).toInt := tl_mul ex33 (show -2147483648 ≤ 15 * (x32 : Int32).toInt ∧ 15 * (x32 : Int32).toInt ≤ 2147483647 by omega))
                              refine li_iload 2 dX12_readWording_142 rfl ?_
                              refine li_iadd dX12_readWording_144 ?_
                              refine li_top (fun x34 ex34 => ?_)
                              try (have tx34 : x34.toInt = (x33 : Int32).toInt + (x11 : Int32).toInt := tl_add ex34 (by omega))
                              refine li_iload_n 3 dX12_readWording_145 rfl ?_
                              refine li_iadd dX12_readWording_146 ?_
                              refine li_top (fun x35 ex35 => ?_)
                              try (have tx35 : x35.toInt = (x34 : Int32).toInt + (x8 : Int32).toInt := tl_add ex35 (by omega))
                              refine li_iald dX12_readWording_147 (by decide) sh_195 (tl_in (by omega)) ?_
                              refine li_top (fun x36 ex36 => ?_)
                              have gx36 := tl_rg x36
                              refine li_callV (n := 2) (As := [.int x31, .int x36]) dX12_readWording_148 (k_X12_joined (d - 1) (by omega) x31 x36 M21 hJ ) (by omega) (Nat.le_of_ble_eq_true rfl) w_1910 w_1912 w_94 w_112 w_1913 (by decide +kernel) rfl (by decide) sh_175 rfl rfl (Nat.le_of_ble_eq_true rfl) (fun r M38 h39 => ?_)
                              obtain ⟨⟨x37, rfl⟩, h39, jM38⟩ := h39
                              have gx37 := tl_rg x37
                              have hf := li_fs_trans hf h39 (fun i k h => False.elim h)
                              have hJ := jM38
                              have rM38_7 := J_sl7 (M := M38) hJ
                              have rM38_40 := J_sl40 (M := M38) hJ
                              have mM38_7 : (M38.1 175 7).toInt = (M21.1 175 7).toInt := tl_slot (h39.1 175 7 id)
                              have mM38_40 : (M38.1 175 40).toInt = (M21.1 175 40).toInt := tl_slot (h39.1 175 40 id)
                              have Ptq_M38 : li_tq (M38.1 195) ((x8 : Int32).toInt) ((x11 : Int32).toInt) ((x1 : Int32).toInt) := li_tq_tr (funext fun i => h39.1 195 i id) (by omega) (by omega) (by omega) Ptq_M21
                              refine li_ior dX12_readWording_151 ?_
                              refine li_top (fun x40 ex40 => ?_)
                              try (have tx40 := tl_or255 ex40 (by omega) (by omega))
                              refine li_istore [(5, .int x40), (6, .int x19), (4, .int x11), (3, .int x8), (2, .int 15), (1, .int x1), (0, .ref (Z.2.2 175))] dX12_readWording_152 (by decide) rfl ?_
                              obtain ⟨x41, ex41⟩ : ∃ y : Int32, y = x19 + 1 := ⟨_, rfl⟩
                              have z1 : (1 : Int32).toInt = 1 := rfl
                              try (have tx41 : x41.toInt = (x19 : Int32).toInt + (1 : Int32).toInt := tl_add ex41 (by omega))
                              refine li_iinc 1 [(6, .int x41), (5, .int x40), (4, .int x11), (3, .int x8), (2, .int 15), (1, .int x1), (0, .ref (Z.2.2 175))] x41 dX12_readWording_154 rfl (by rw [ex41]; rfl) (by decide) rfl ?_
                              refine li_goto 107 dX12_readWording_157 (by decide) ?_
                              refine li_pick [0, 1, 2, 3, 4, 5, 6] [(6, .int x41), (5, .int x40), (4, .int x11), (3, .int x8), (2, .int 15), (1, .int x1), (0, .ref (Z.2.2 175))] rfl ?_
                              exact ih107 x41 x40 M38 (by omega) hf hJ (by omega) (by first | exact li_tq_tr rfl (by omega) (by omega) (by omega) Ptq_M38 | exact li_tq_next Ptq_M38 (by omega) (by omega) (by omega) (by omega) | exact li_tq_0 (by omega) (by omega))
                        have z1 : (1 : Int32).toInt = 1 := rfl
                        exact L107 _ 1 x17 M18 (Nat.lt_succ_self _) hf hJ (by omega) (by first | exact li_tq_tr rfl (by omega) (by omega) (by omega) Ptq_M18 | exact li_tq_next Ptq_M18 (by omega) (by omega) (by omega) (by omega) | exact li_tq_0 (by omega) (by omega))
                      refine li_icmp_ne 101 dX12_readWording_83 (by decide) (fun c16 => ?_) (fun c16 => ?_)
                      · have tc16 : ¬ x8.toInt = 1 := tl_ne c16
                        refine li_iconst 0 dX12_readWording_101 (by decide) ?_
                        refine li_pick [0, 1, 2, 3, 4] [(4, .int x11), (3, .int x8), (2, .int 15), (1, .int x1), (0, .ref (Z.2.2 175))] rfl ?_
                        have z0 : (0 : Int32).toInt = 0 := rfl
                        exact J102 0 M12 hf hJ (by omega) (by first | exact li_tq_tr rfl (by omega) (by omega) (by omega) Ptq_M12 | exact li_tq_next Ptq_M12 (by omega) (by omega) (by omega) (by omega) | exact li_tq_0 (by omega) (by omega))
                      · have tc16 : x8.toInt = 1 := tl_eq c16
                        refine li_iconst 1 dX12_readWording_86 (by decide) ?_
                        refine li_aload_n 4 dX12_readWording_87 rfl ?_
                        refine li_getr (k := 6) (N := 52) (T := TX12) (C0 := RX12) dX12_readWording_88 (by decide) sh_175 rfl rfl (by decide) (by decide) li_in12 w_1410 ?_
                        refine li_iload 0 dX12_readWording_91 rfl ?_
                        refine li_bald dX12_readWording_93 (by decide) sh_180 (tl_in (by omega)) ?_
                        refine li_top (fun x42 ex42 => ?_)
                        have gx42 := tl_rg x42
                        refine li_bipush 97 dX12_readWording_94 (by decide) ?_
                        refine li_isub dX12_readWording_96 ?_
                        refine li_top (fun x43 ex43 => ?_)
                        have z97 : (97 : Int32).toInt = 97 := rfl
                        try (have tx43 : x43.toInt = (x42 : Int32).toInt - (97 : Int32).toInt := tl_sub ex43 (by omega))
                        refine li_ishl dX12_readWording_97 ?_
                        refine li_top (fun x44 ex44 => ?_)
                        have z1 : (1 : Int32).toInt = 1 := rfl
                        have nx44 := tl_shlnz ex44
                        try (have tx44 := tl_shl255 ex44 (by omega))
                        refine li_goto 102 dX12_readWording_98 (by decide) ?_
                        refine li_pick [0, 1, 2, 3, 4] [(4, .int x11), (3, .int x8), (2, .int 15), (1, .int x1), (0, .ref (Z.2.2 175))] rfl ?_
                        exact J102 x44 M12 hf hJ (by omega) (by first | exact li_tq_tr rfl (by omega) (by omega) (by omega) Ptq_M12 | exact li_tq_next Ptq_M12 (by omega) (by omega) (by omega) (by omega) | exact li_tq_0 (by omega) (by omega))
                have z0 : (0 : Int32).toInt = 0 := rfl
                exact L73 _ 0 M9 (Nat.lt_succ_self _) hf hJ (by omega) (by first | exact li_tq_tr rfl (by omega) (by omega) (by omega) Ptq_M9 | exact li_tq_next Ptq_M9 (by omega) (by omega) (by omega) (by omega) | exact li_tq_0 (by omega) (by omega))
          have z1 : (1 : Int32).toInt = 1 := rfl
          exact L65 _ 1 M7 (Nat.lt_succ_self _) hf hJ (by omega) (by first | exact li_tq_next Ptq_M7 (by omega) (by omega) (by omega) (by omega) | exact li_tq_0 (by omega) (by omega))
        · have tc6 : x1.toInt = 0 := tl_eq c6
          refine li_iconst (-1) dX12_readWording_53 (by decide) ?_
          have zm1 : ((-1) : Int32).toInt = -1 := rfl
          exact li_iret dX12_readWording_54 rfl rfl ⟨⟨_, rfl, (by first | exact Or.inl (by omega) | exact Or.inr ⟨by omega, li_tp_tr rfl (by omega) (li_tq_end Ptq_M4 (by omega)), by omega, by omega⟩)⟩, hf, hJ⟩
      · have tc5 : x3.toInt < x1.toInt := tl_nle c5
        refine li_iload_n 0 dX12_readWording_17 rfl ?_
        refine li_bipush 14 dX12_readWording_18 (by decide) ?_
        refine li_icmp_eq 39 dX12_readWording_20 (by decide) (fun c45 => ?_) (fun c45 => ?_)
        · have tc45 : x3.toInt = 14 := tl_eq c45
          refine li_iconst (-1) dX12_readWording_39 (by decide) ?_
          refine li_iload_n 0 dX12_readWording_40 rfl ?_
          refine li_isub dX12_readWording_41 ?_
          refine li_top (fun x46 ex46 => ?_)
          have zm1 : ((-1) : Int32).toInt = -1 := rfl
          try (have tx46 : x46.toInt = ((-1) : Int32).toInt - (x3 : Int32).toInt := tl_sub ex46 (by omega))
          exact li_iret dX12_readWording_42 rfl rfl ⟨⟨_, rfl, (by first | exact Or.inl (by omega) | exact Or.inr ⟨by omega, li_tp_tr rfl (by omega) (li_tq_end Ptq_M4 (by omega)), by omega, by omega⟩)⟩, hf, hJ⟩
        · have tc45 : ¬ x3.toInt = 14 := tl_ne c45
          refine li_aload_n 2 dX12_readWording_23 rfl ?_
          refine li_getr (k := 6) (N := 52) (T := TX12) (C0 := RX12) dX12_readWording_24 (by decide) sh_175 rfl rfl (by decide) (by decide) li_in12 w_1410 ?_
          refine li_iload_n 0 dX12_readWording_27 rfl ?_
          refine li_bald dX12_readWording_28 (by decide) sh_180 (tl_in (by omega)) ?_
          refine li_top (fun x47 ex47 => ?_)
          have gx47 := tl_rg x47
          refine li_bipush 97 dX12_readWording_29 (by decide) ?_
          refine li_bipush 103 dX12_readWording_31 (by decide) ?_
          have z97 : (97 : Int32).toInt = 97 := rfl
          have z103 : (103 : Int32).toInt = 103 := rfl
          refine li_callS (n := 3) (As := [.int x47, .int 97, .int 103]) dX12_readWording_33 (k_X12_in (d - 1) (by omega) x47 97 103 M4 hJ ) (by omega) (Nat.le_of_ble_eq_true rfl) w_1570 w_1571 w_112 w_1572 (by decide +kernel) rfl rfl (Nat.le_of_ble_eq_true rfl) (fun r M49 h50 => ?_)
          obtain ⟨qx48, h50, jM49⟩ := h50
          have hf := li_fs_trans hf h50 (fun i k h => False.elim h)
          have hJ := jM49
          have rM49_7 := J_sl7 (M := M49) hJ
          have rM49_40 := J_sl40 (M := M49) hJ
          have mM49_7 : (M49.1 175 7).toInt = (M4.1 175 7).toInt := tl_slot (h50.1 175 7 id)
          have mM49_40 : (M49.1 175 40).toInt = (M4.1 175 40).toInt := tl_slot (h50.1 175 40 id)
          rcases qx48 with ⟨rfl, qx48⟩ | ⟨rfl, qx48⟩
          · skip
            refine li_if_ne 43 dX12_readWording_36 (by decide) (fun c => ?_) (fun c => absurd c (by decide))
            obtain ⟨x52, ex52⟩ : ∃ y : Int32, y = x3 + 1 := ⟨_, rfl⟩
            have z1 : (1 : Int32).toInt = 1 := rfl
            try (have tx52 : x52.toInt = (x3 : Int32).toInt + (1 : Int32).toInt := tl_add ex52 (by omega))
            refine li_iinc 0 [(2, .int x52), (1, .int x1), (0, .ref (Z.2.2 175))] x52 dX12_readWording_43 rfl (by rw [ex52]; rfl) (by decide) rfl ?_
            refine li_goto 12 dX12_readWording_46 (by decide) ?_
            refine li_pick [0, 1, 2] [(2, .int x52), (1, .int x1), (0, .ref (Z.2.2 175))] rfl ?_
            exact ih12 x52 M49 (by omega) hf hJ (by omega)
          · skip
            refine li_if_ne 43 dX12_readWording_36 (by decide) (fun c => absurd rfl c) (fun c => ?_)
            refine li_iconst (-1) dX12_readWording_39 (by decide) ?_
            refine li_iload_n 0 dX12_readWording_40 rfl ?_
            refine li_isub dX12_readWording_41 ?_
            refine li_top (fun x54 ex54 => ?_)
            have zm1 : ((-1) : Int32).toInt = -1 := rfl
            try (have tx54 : x54.toInt = ((-1) : Int32).toInt - (x3 : Int32).toInt := tl_sub ex54 (by omega))
            exact li_iret dX12_readWording_42 rfl rfl ⟨⟨_, rfl, (by first | exact Or.inl (by omega) | exact Or.inr ⟨by omega, li_tp_tr rfl (by omega) (li_tq_end Ptq_M49 (by omega)), by omega, by omega⟩)⟩, hf, hJ⟩
  have z0 : (0 : Int32).toInt = 0 := rfl
  exact L12 _ 0 M2 (Nat.lt_succ_self _) hf hJ (by omega)
set_option maxRecDepth 100000 in
set_option maxHeartbeats 4000000 in
theorem k_X12_becomes {l : Launch} {Z : li_Z} (d : Nat) (hd : 4 ≤ d) (M0 : li_M) (hJ : li_J M0) : li_Met l Z YX12_becomes d [.ref (Z.2.2 175)] M0 (fun r M' => (∃ x : Int32, r = some (.int x)) ∧ li_fs (fun i k => i = 195 ∨ (i = 175 ∧ k = 10) ∨ (i = 175 ∧ k = 40) ∨ (i = 175 ∧ k = 7)) M0 M' ∧ li_J M') := by
  refine li_enter (by decide +kernel) (Nat.le_of_ble_eq_true rfl) ?_
  show li_T l Z YX12_becomes d 0 [(0, .ref (Z.2.2 175))] [] M0 _
  have hf : li_fs (fun i k => i = 195 ∨ (i = 175 ∧ k = 10) ∨ (i = 175 ∧ k = 40) ∨ (i = 175 ∧ k = 7)) M0 M0 := li_fs_refl
  have rM0_40 := J_sl40 (M := M0) hJ
  refine li_aload_n 0 dX12_becomes_0 rfl ?_
  refine li_iconst 0 dX12_becomes_1 (by decide) ?_
  refine li_puti (k := 10) (N := 52) (T := TX12) (C0 := RX12) dX12_becomes_2 (by decide) sh_175 rfl rfl (by decide) li_in12 tyX12_ok nmX12 rfl rfl rfl rfl w_1414 ?_
  refine li_nm (fun M1 eM1 => ?_)
  have hf := li_fs_ui hf (Or.inr (Or.inl ⟨rfl, rfl⟩)) eM1
  have z0 : (0 : Int32).toInt = 0 := rfl
  have hJ := hJ.put (k := 10) (by decide) (rg_free rfl) eM1
  have rM1_40 := J_sl40 (M := M1) hJ
  have mM1_40 : (M1.1 175 40).toInt = (M0.1 175 40).toInt := by rw [eM1, li_ui_at, if_pos rfl, if_neg (by decide)]
  refine li_aload_n 0 dX12_becomes_5 rfl ?_
  refine li_callV (n := 0) (As := []) dX12_becomes_6 (k_X12_readWording (d - 1) (by omega)  M1 hJ ) (by omega) (Nat.le_of_ble_eq_true rfl) w_1906 w_1908 w_93 w_112 w_1909 (by decide +kernel) rfl (by decide) sh_175 rfl rfl (Nat.le_of_ble_eq_true rfl) (fun r M3 h4 => ?_)
  obtain ⟨⟨x2, rfl, qx2⟩, h4, jM3⟩ := h4
  have gx2 := tl_rg x2
  have hf := li_fs_trans hf h4 (fun i k => fun h => Or.elim h (fun h => Or.inl h) (fun h => Or.elim h (fun h => Or.inr (Or.inr (Or.inl h))) (fun h => Or.inr (Or.inr (Or.inr h)))))
  have hJ := jM3
  have rM3_40 := J_sl40 (M := M3) hJ
  refine li_istore_n [(1, .int x2), (0, .ref (Z.2.2 175))] dX12_becomes_9 (by decide) rfl ?_
  refine li_iload_n 0 dX12_becomes_10 rfl ?_
  refine li_if_ge 18 dX12_becomes_11 (by decide) (fun c5 => ?_) (fun c5 => ?_)
  · have tc5 : 0 ≤ x2.toInt := tl_le c5
    refine li_aload_n 1 dX12_becomes_18 rfl ?_
    refine li_getr (k := 39) (N := 52) (T := TX12) (C0 := RX12) dX12_becomes_19 (by decide) sh_175 rfl rfl (by decide) (by decide) li_in12 w_1443 ?_
    refine li_aload_n 1 dX12_becomes_22 rfl ?_
    refine li_geti (k := 40) (N := 52) (T := TX12) (C0 := RX12) dX12_becomes_23 (by decide) sh_175 rfl rfl (by decide) li_in12 w_1444 ?_
    refine li_top (fun x6 ex6 => ?_)
    have gx6 : 0 ≤ x6.toInt ∧ x6.toInt ≤ 14 := by rw [ex6]; exact J_sl40 hJ
    have mx6 : x6.toInt = (M3.1 175 40).toInt := tl_slot ex6
    refine li_iald dX12_becomes_26 (by decide) sh_195 (tl_in (by omega)) ?_
    refine li_top (fun x7 ex7 => ?_)
    have gx7 := tl_rg x7
    exact li_iret dX12_becomes_27 rfl rfl ⟨⟨_, rfl⟩, hf, hJ⟩
  · have tc5 : x2.toInt < 0 := tl_nle c5
    refine li_iload_n 0 dX12_becomes_14 rfl ?_
    refine li_goto 27 dX12_becomes_15 (by decide) ?_
    exact li_iret dX12_becomes_27 rfl rfl ⟨⟨_, rfl⟩, hf, hJ⟩
