theorem w_51 : (Jvm.Cond.selects "ClockForTalkModel" ({ cls := "ClockForTalkModel", name := "readRule", desc := "()Z" } : Jvm.MethodName) ({ cls := "ClockForTalkModel", name := "readRule", desc := "()Z" } : Jvm.MethodName)) ∈ li_ws := li_mem 51 (by decide +kernel) (by decide +kernel)
theorem w_1403 : (Jvm.Cond.methodLink "ClockForTalkModel" (82 : Nat) ({ cls := "java/lang/Math", name := "max", desc := "(II)I" } : Jvm.MethodName)) ∈ li_ws := li_mem 1403 (by decide +kernel) (by decide +kernel)
theorem w_1421 : (Jvm.Cond.fieldLink "ClockForTalkModel" (32 : Nat) "ClockForTalkModel" "rule" "[B") ∈ li_ws := li_mem 1421 (by decide +kernel) (by decide +kernel)
theorem w_1422 : (Jvm.Cond.fieldLink "ClockForTalkModel" (205 : Nat) "ClockForTalkModel" "ruleSize" "I") ∈ li_ws := li_mem 1422 (by decide +kernel) (by decide +kernel)
theorem w_1621 : (Jvm.Cond.methodLink "ClockForTalkModel" (202 : Nat) ({ cls := "ClockForTalkModel", name := "readRule", desc := "()Z" } : Jvm.MethodName)) ∈ li_ws := li_mem 1621 (by decide +kernel) (by decide +kernel)
theorem w_1623 : (Jvm.Cond.instanceMethod ({ cls := "ClockForTalkModel", name := "readRule", desc := "()Z" } : Jvm.MethodName)) ∈ li_ws := li_mem 1623 (by decide +kernel) (by decide +kernel)
theorem w_1624 : (Jvm.Cond.code ({ cls := "ClockForTalkModel", name := "readRule", desc := "()Z" } : Jvm.MethodName) prog_13_method_28_code (2 : Nat) (Option.some Jvm.ClassFile.FieldType.boolean)) ∈ li_ws := li_mem 1624 (by decide +kernel) (by decide +kernel)
theorem w_1701 : (Jvm.Cond.methodLink "ClockForTalkModel" (208 : Nat) ({ cls := "java/lang/Math", name := "min", desc := "(II)I" } : Jvm.MethodName)) ∈ li_ws := li_mem 1701 (by decide +kernel) (by decide +kernel)
theorem dX12_readRule_0 : decode cX12_readRule 0 = .ok (.aload_n 0, 1) := by decide +kernel
theorem dX12_readRule_1 : decode cX12_readRule 1 = .ok (.getfield 124, 3) := by decide +kernel
theorem dX12_readRule_4 : decode cX12_readRule 4 = .ok (.istore_n 1, 1) := by decide +kernel
theorem dX12_readRule_5 : decode cX12_readRule 5 = .ok (.aload_n 0, 1) := by decide +kernel
theorem dX12_readRule_6 : decode cX12_readRule 6 = .ok (.aload_n 0, 1) := by decide +kernel
theorem dX12_readRule_7 : decode cX12_readRule 7 = .ok (.getfield 22, 3) := by decide +kernel
theorem dX12_readRule_10 : decode cX12_readRule 10 = .ok (.iload_n 1, 1) := by decide +kernel
theorem dX12_readRule_11 : decode cX12_readRule 11 = .ok (.bipush 40, 2) := by decide +kernel
theorem dX12_readRule_13 : decode cX12_readRule 13 = .ok (.invokevirtual 162, 3) := by decide +kernel
theorem dX12_readRule_16 : decode cX12_readRule 16 = .ok (.aload_n 0, 1) := by decide +kernel
theorem dX12_readRule_17 : decode cX12_readRule 17 = .ok (.iconst 0, 1) := by decide +kernel
theorem dX12_readRule_18 : decode cX12_readRule 18 = .ok (.putfield 124, 3) := by decide +kernel
theorem dX12_readRule_21 : decode cX12_readRule 21 = .ok (.aload_n 0, 1) := by decide +kernel
theorem dX12_readRule_22 : decode cX12_readRule 22 = .ok (.iconst 0, 1) := by decide +kernel
theorem dX12_readRule_23 : decode cX12_readRule 23 = .ok (.putfield 198, 3) := by decide +kernel
theorem dX12_readRule_26 : decode cX12_readRule 26 = .ok (.iload_n 1, 1) := by decide +kernel
theorem dX12_readRule_27 : decode cX12_readRule 27 = .ok (.ifCond .le 25, 3) := by decide +kernel
theorem dX12_readRule_30 : decode cX12_readRule 30 = .ok (.aload_n 0, 1) := by decide +kernel
theorem dX12_readRule_31 : decode cX12_readRule 31 = .ok (.iconst 0, 1) := by decide +kernel
theorem dX12_readRule_32 : decode cX12_readRule 32 = .ok (.invokevirtual 192, 3) := by decide +kernel
theorem dX12_readRule_35 : decode cX12_readRule 35 = .ok (.pop, 1) := by decide +kernel
theorem dX12_readRule_36 : decode cX12_readRule 36 = .ok (.aload_n 0, 1) := by decide +kernel
theorem dX12_readRule_37 : decode cX12_readRule 37 = .ok (.getfield 136, 3) := by decide +kernel
theorem dX12_readRule_40 : decode cX12_readRule 40 = .ok (.iload_n 1, 1) := by decide +kernel
theorem dX12_readRule_41 : decode cX12_readRule 41 = .ok (.if_icmp .ge 11, 3) := by decide +kernel
theorem dX12_readRule_44 : decode cX12_readRule 44 = .ok (.aload_n 0, 1) := by decide +kernel
theorem dX12_readRule_45 : decode cX12_readRule 45 = .ok (.aload_n 0, 1) := by decide +kernel
theorem dX12_readRule_46 : decode cX12_readRule 46 = .ok (.getfield 136, 3) := by decide +kernel
theorem dX12_readRule_49 : decode cX12_readRule 49 = .ok (.invokevirtual 154, 3) := by decide +kernel
theorem dX12_readRule_52 : decode cX12_readRule 52 = .ok (.aload_n 0, 1) := by decide +kernel
theorem dX12_readRule_53 : decode cX12_readRule 53 = .ok (.invokevirtual 142, 3) := by decide +kernel
theorem dX12_readRule_56 : decode cX12_readRule 56 = .ok (.ireturn, 1) := by decide +kernel
abbrev YX12_readRule : li_Y := (yX12_readRule, cX12_readRule, 2, (some .boolean))
theorem dX12_rule_0 : decode cX12_rule 0 = .ok (.aload_n 0, 1) := by decide +kernel
theorem dX12_rule_1 : decode cX12_rule 1 = .ok (.iconst 0, 1) := by decide +kernel
theorem dX12_rule_2 : decode cX12_rule 2 = .ok (.putfield 103, 3) := by decide +kernel
theorem dX12_rule_5 : decode cX12_rule 5 = .ok (.aload_n 0, 1) := by decide +kernel
theorem dX12_rule_6 : decode cX12_rule 6 = .ok (.getfield 124, 3) := by decide +kernel
theorem dX12_rule_9 : decode cX12_rule 9 = .ok (.istore_n 1, 1) := by decide +kernel
theorem dX12_rule_10 : decode cX12_rule 10 = .ok (.aload_n 0, 1) := by decide +kernel
theorem dX12_rule_11 : decode cX12_rule 11 = .ok (.invokevirtual 202, 3) := by decide +kernel
theorem dX12_rule_14 : decode cX12_rule 14 = .ok (.ifCond .ne 10, 3) := by decide +kernel
theorem dX12_rule_17 : decode cX12_rule 17 = .ok (.iconst (-1), 1) := by decide +kernel
theorem dX12_rule_18 : decode cX12_rule 18 = .ok (.aload_n 0, 1) := by decide +kernel
theorem dX12_rule_19 : decode cX12_rule 19 = .ok (.getfield 139, 3) := by decide +kernel
theorem dX12_rule_22 : decode cX12_rule 22 = .ok (.isub, 1) := by decide +kernel
theorem dX12_rule_23 : decode cX12_rule 23 = .ok (.ireturn, 1) := by decide +kernel
theorem dX12_rule_24 : decode cX12_rule 24 = .ok (.iconst 0, 1) := by decide +kernel
theorem dX12_rule_25 : decode cX12_rule 25 = .ok (.istore_n 2, 1) := by decide +kernel
theorem dX12_rule_26 : decode cX12_rule 26 = .ok (.iload_n 2, 1) := by decide +kernel
theorem dX12_rule_27 : decode cX12_rule 27 = .ok (.iload_n 1, 1) := by decide +kernel
theorem dX12_rule_28 : decode cX12_rule 28 = .ok (.if_icmp .ge 21, 3) := by decide +kernel
theorem dX12_rule_31 : decode cX12_rule 31 = .ok (.aload_n 0, 1) := by decide +kernel
theorem dX12_rule_32 : decode cX12_rule 32 = .ok (.getfield 32, 3) := by decide +kernel
theorem dX12_rule_35 : decode cX12_rule 35 = .ok (.iload_n 2, 1) := by decide +kernel
theorem dX12_rule_36 : decode cX12_rule 36 = .ok (.aload_n 0, 1) := by decide +kernel
theorem dX12_rule_37 : decode cX12_rule 37 = .ok (.getfield 22, 3) := by decide +kernel
theorem dX12_rule_40 : decode cX12_rule 40 = .ok (.iload_n 2, 1) := by decide +kernel
theorem dX12_rule_41 : decode cX12_rule 41 = .ok (.baload, 1) := by decide +kernel
theorem dX12_rule_42 : decode cX12_rule 42 = .ok (.bastore, 1) := by decide +kernel
theorem dX12_rule_43 : decode cX12_rule 43 = .ok (.iinc 2 1, 3) := by decide +kernel
theorem dX12_rule_46 : decode cX12_rule 46 = .ok (.goto (-20), 3) := by decide +kernel
theorem dX12_rule_49 : decode cX12_rule 49 = .ok (.aload_n 0, 1) := by decide +kernel
theorem dX12_rule_50 : decode cX12_rule 50 = .ok (.iload_n 1, 1) := by decide +kernel
theorem dX12_rule_51 : decode cX12_rule 51 = .ok (.putfield 205, 3) := by decide +kernel
theorem dX12_rule_54 : decode cX12_rule 54 = .ok (.iconst 0, 1) := by decide +kernel
theorem dX12_rule_55 : decode cX12_rule 55 = .ok (.ireturn, 1) := by decide +kernel
abbrev YX12_rule : li_Y := (yX12_rule, cX12_rule, 3, (some .int))
theorem dX12_costBy_0 : decode cX12_costBy 0 = .ok (.iload_n 3, 1) := by decide +kernel
theorem dX12_costBy_1 : decode cX12_costBy 1 = .ok (.ifCond .ne 11, 3) := by decide +kernel
theorem dX12_costBy_4 : decode cX12_costBy 4 = .ok (.iload_n 2, 1) := by decide +kernel
theorem dX12_costBy_5 : decode cX12_costBy 5 = .ok (.iconst 1, 1) := by decide +kernel
theorem dX12_costBy_6 : decode cX12_costBy 6 = .ok (.iadd, 1) := by decide +kernel
theorem dX12_costBy_7 : decode cX12_costBy 7 = .ok (.iconst 2, 1) := by decide +kernel
theorem dX12_costBy_8 : decode cX12_costBy 8 = .ok (.idiv, 1) := by decide +kernel
theorem dX12_costBy_9 : decode cX12_costBy 9 = .ok (.goto 28, 3) := by decide +kernel
theorem dX12_costBy_12 : decode cX12_costBy 12 = .ok (.iload_n 3, 1) := by decide +kernel
theorem dX12_costBy_13 : decode cX12_costBy 13 = .ok (.iconst 1, 1) := by decide +kernel
theorem dX12_costBy_14 : decode cX12_costBy 14 = .ok (.if_icmp .ne 11, 3) := by decide +kernel
theorem dX12_costBy_17 : decode cX12_costBy 17 = .ok (.iload_n 2, 1) := by decide +kernel
theorem dX12_costBy_18 : decode cX12_costBy 18 = .ok (.iconst 2, 1) := by decide +kernel
theorem dX12_costBy_19 : decode cX12_costBy 19 = .ok (.iadd, 1) := by decide +kernel
theorem dX12_costBy_20 : decode cX12_costBy 20 = .ok (.iconst 3, 1) := by decide +kernel
theorem dX12_costBy_21 : decode cX12_costBy 21 = .ok (.idiv, 1) := by decide +kernel
theorem dX12_costBy_22 : decode cX12_costBy 22 = .ok (.goto 15, 3) := by decide +kernel
theorem dX12_costBy_25 : decode cX12_costBy 25 = .ok (.iload_n 3, 1) := by decide +kernel
theorem dX12_costBy_26 : decode cX12_costBy 26 = .ok (.iconst 2, 1) := by decide +kernel
theorem dX12_costBy_27 : decode cX12_costBy 27 = .ok (.if_icmp .ne 7, 3) := by decide +kernel
theorem dX12_costBy_30 : decode cX12_costBy 30 = .ok (.iload_n 2, 1) := by decide +kernel
theorem dX12_costBy_31 : decode cX12_costBy 31 = .ok (.goto 6, 3) := by decide +kernel
theorem dX12_costBy_34 : decode cX12_costBy 34 = .ok (.iconst 2, 1) := by decide +kernel
theorem dX12_costBy_35 : decode cX12_costBy 35 = .ok (.iload_n 2, 1) := by decide +kernel
theorem dX12_costBy_36 : decode cX12_costBy 36 = .ok (.imul, 1) := by decide +kernel
theorem dX12_costBy_37 : decode cX12_costBy 37 = .ok (.istore 7, 2) := by decide +kernel
theorem dX12_costBy_39 : decode cX12_costBy 39 = .ok (.aload_n 0, 1) := by decide +kernel
theorem dX12_costBy_40 : decode cX12_costBy 40 = .ok (.getfield 205, 3) := by decide +kernel
theorem dX12_costBy_43 : decode cX12_costBy 43 = .ok (.ifCond .le 82, 3) := by decide +kernel
theorem dX12_costBy_46 : decode cX12_costBy 46 = .ok (.aload_n 0, 1) := by decide +kernel
theorem dX12_costBy_47 : decode cX12_costBy 47 = .ok (.getfield 38, 3) := by decide +kernel
theorem dX12_costBy_50 : decode cX12_costBy 50 = .ok (.iconst 0, 1) := by decide +kernel
theorem dX12_costBy_51 : decode cX12_costBy 51 = .ok (.iload_n 2, 1) := by decide +kernel
theorem dX12_costBy_52 : decode cX12_costBy 52 = .ok (.iastore, 1) := by decide +kernel
theorem dX12_costBy_53 : decode cX12_costBy 53 = .ok (.aload_n 0, 1) := by decide +kernel
theorem dX12_costBy_54 : decode cX12_costBy 54 = .ok (.getfield 38, 3) := by decide +kernel
theorem dX12_costBy_57 : decode cX12_costBy 57 = .ok (.iconst 1, 1) := by decide +kernel
theorem dX12_costBy_58 : decode cX12_costBy 58 = .ok (.iload_n 3, 1) := by decide +kernel
theorem dX12_costBy_59 : decode cX12_costBy 59 = .ok (.iastore, 1) := by decide +kernel
theorem dX12_costBy_60 : decode cX12_costBy 60 = .ok (.aload_n 0, 1) := by decide +kernel
theorem dX12_costBy_61 : decode cX12_costBy 61 = .ok (.getfield 38, 3) := by decide +kernel
theorem dX12_costBy_64 : decode cX12_costBy 64 = .ok (.iconst 2, 1) := by decide +kernel
theorem dX12_costBy_65 : decode cX12_costBy 65 = .ok (.iload 4, 2) := by decide +kernel
theorem dX12_costBy_67 : decode cX12_costBy 67 = .ok (.iastore, 1) := by decide +kernel
theorem dX12_costBy_68 : decode cX12_costBy 68 = .ok (.aload_n 0, 1) := by decide +kernel
theorem dX12_costBy_69 : decode cX12_costBy 69 = .ok (.getfield 38, 3) := by decide +kernel
theorem dX12_costBy_72 : decode cX12_costBy 72 = .ok (.iconst 3, 1) := by decide +kernel
theorem dX12_costBy_73 : decode cX12_costBy 73 = .ok (.iload 5, 2) := by decide +kernel
theorem dX12_costBy_75 : decode cX12_costBy 75 = .ok (.iastore, 1) := by decide +kernel
theorem dX12_costBy_76 : decode cX12_costBy 76 = .ok (.aload_n 0, 1) := by decide +kernel
theorem dX12_costBy_77 : decode cX12_costBy 77 = .ok (.getfield 38, 3) := by decide +kernel
theorem dX12_costBy_80 : decode cX12_costBy 80 = .ok (.iconst 4, 1) := by decide +kernel
theorem dX12_costBy_81 : decode cX12_costBy 81 = .ok (.iload_n 1, 1) := by decide +kernel
theorem dX12_costBy_82 : decode cX12_costBy 82 = .ok (.bipush 100, 2) := by decide +kernel
theorem dX12_costBy_84 : decode cX12_costBy 84 = .ok (.irem, 1) := by decide +kernel
theorem dX12_costBy_85 : decode cX12_costBy 85 = .ok (.iastore, 1) := by decide +kernel
theorem dX12_costBy_86 : decode cX12_costBy 86 = .ok (.aload_n 0, 1) := by decide +kernel
theorem dX12_costBy_87 : decode cX12_costBy 87 = .ok (.getfield 38, 3) := by decide +kernel
theorem dX12_costBy_90 : decode cX12_costBy 90 = .ok (.iconst 5, 1) := by decide +kernel
theorem dX12_costBy_91 : decode cX12_costBy 91 = .ok (.iload 6, 2) := by decide +kernel
theorem dX12_costBy_93 : decode cX12_costBy 93 = .ok (.iastore, 1) := by decide +kernel
theorem dX12_costBy_94 : decode cX12_costBy 94 = .ok (.aload_n 0, 1) := by decide +kernel
theorem dX12_costBy_95 : decode cX12_costBy 95 = .ok (.aload_n 0, 1) := by decide +kernel
theorem dX12_costBy_96 : decode cX12_costBy 96 = .ok (.getfield 32, 3) := by decide +kernel
theorem dX12_costBy_99 : decode cX12_costBy 99 = .ok (.aload_n 0, 1) := by decide +kernel
theorem dX12_costBy_100 : decode cX12_costBy 100 = .ok (.getfield 205, 3) := by decide +kernel
theorem dX12_costBy_103 : decode cX12_costBy 103 = .ok (.bipush 40, 2) := by decide +kernel
theorem dX12_costBy_105 : decode cX12_costBy 105 = .ok (.invokevirtual 162, 3) := by decide +kernel
theorem dX12_costBy_108 : decode cX12_costBy 108 = .ok (.aload_n 0, 1) := by decide +kernel
theorem dX12_costBy_109 : decode cX12_costBy 109 = .ok (.iconst 1, 1) := by decide +kernel
theorem dX12_costBy_110 : decode cX12_costBy 110 = .ok (.putfield 198, 3) := by decide +kernel
theorem dX12_costBy_113 : decode cX12_costBy 113 = .ok (.aload_n 0, 1) := by decide +kernel
theorem dX12_costBy_114 : decode cX12_costBy 114 = .ok (.iconst 0, 1) := by decide +kernel
theorem dX12_costBy_115 : decode cX12_costBy 115 = .ok (.invokevirtual 192, 3) := by decide +kernel
theorem dX12_costBy_118 : decode cX12_costBy 118 = .ok (.istore 7, 2) := by decide +kernel
theorem dX12_costBy_120 : decode cX12_costBy 120 = .ok (.aload_n 0, 1) := by decide +kernel
theorem dX12_costBy_121 : decode cX12_costBy 121 = .ok (.iconst 0, 1) := by decide +kernel
theorem dX12_costBy_122 : decode cX12_costBy 122 = .ok (.putfield 198, 3) := by decide +kernel
theorem dX12_costBy_125 : decode cX12_costBy 125 = .ok (.iconst 0, 1) := by decide +kernel
theorem dX12_costBy_126 : decode cX12_costBy 126 = .ok (.sipush 999, 3) := by decide +kernel
theorem dX12_costBy_129 : decode cX12_costBy 129 = .ok (.iload 7, 2) := by decide +kernel
theorem dX12_costBy_131 : decode cX12_costBy 131 = .ok (.invokestatic 208, 3) := by decide +kernel
theorem dX12_costBy_134 : decode cX12_costBy 134 = .ok (.invokestatic 82, 3) := by decide +kernel
theorem dX12_costBy_137 : decode cX12_costBy 137 = .ok (.ireturn, 1) := by decide +kernel
abbrev YX12_costBy : li_Y := (yX12_costBy, cX12_costBy, 8, (some .int))
set_option maxRecDepth 100000 in
set_option maxHeartbeats 4000000 in
theorem k_X12_costBy {l : Launch} {Z : li_Z} (d : Nat) (hd : 338 ≤ d) (p1 p2 p3 p4 p5 p6 : Int32) (M0 : li_M) (hJ : li_J M0) : li_Met l Z YX12_costBy d [.ref (Z.2.2 175), .int p1, .int p2, .int p3, .int p4, .int p5, .int p6] M0 (fun r M' => (∃ x : Int32, r = some (.int x) ∧ (0 ≤ x.toInt ∧ x.toInt ≤ 999)) ∧ li_fs (fun i k => i = 185 ∨ i = 1000 ∨ (i = 175 ∧ k = 12) ∨ (i = 175 ∧ k = 13) ∨ (i = 175 ∧ k = 14) ∨ (i = 175 ∧ k = 15) ∨ (i = 175 ∧ k = 20)) M0 M' ∧ li_J M') := by
  refine li_enter (by decide +kernel) (Nat.le_of_ble_eq_true rfl) ?_
  show li_T l Z YX12_costBy d 0 [(0, .ref (Z.2.2 175)), (1, .int p1), (2, .int p2), (3, .int p3), (4, .int p4), (5, .int p5), (6, .int p6)] [] M0 _
  have hf : li_fs (fun i k => i = 185 ∨ i = 1000 ∨ (i = 175 ∧ k = 12) ∨ (i = 175 ∧ k = 13) ∨ (i = 175 ∧ k = 14) ∨ (i = 175 ∧ k = 15) ∨ (i = 175 ∧ k = 20)) M0 M0 := li_fs_refl
  have gp1 := tl_rg p1
  have gp2 := tl_rg p2
  have gp3 := tl_rg p3
  have gp4 := tl_rg p4
  have gp5 := tl_rg p5
  have gp6 := tl_rg p6
  have rM0_18 := J_sl18 (M := M0) hJ
  refine li_iload_n 3 dX12_costBy_0 rfl ?_
  have J37 : ∀ (x2 : Int32) (M3 : li_M), li_fs (fun i k => i = 185 ∨ i = 1000 ∨ (i = 175 ∧ k = 12) ∨ (i = 175 ∧ k = 13) ∨ (i = 175 ∧ k = 14) ∨ (i = 175 ∧ k = 15) ∨ (i = 175 ∧ k = 20)) M0 M3 → li_J M3 → li_T l Z YX12_costBy d 37 [(0, .ref (Z.2.2 175)), (1, .int p1), (2, .int p2), (3, .int p3), (4, .int p4), (5, .int p5), (6, .int p6)] [.int x2] M3 (fun r M' => (∃ x : Int32, r = some (.int x) ∧ (0 ≤ x.toInt ∧ x.toInt ≤ 999)) ∧ li_fs (fun i k => i = 185 ∨ i = 1000 ∨ (i = 175 ∧ k = 12) ∨ (i = 175 ∧ k = 13) ∨ (i = 175 ∧ k = 14) ∨ (i = 175 ∧ k = 15) ∨ (i = 175 ∧ k = 20)) M0 M' ∧ li_J M') := by
    intro x2 M3 hf hJ
    have gx2 := tl_rg x2
    have rM3_18 := J_sl18 (M := M3) hJ
    have mM3_18 : (M3.1 175 18).toInt = (M0.1 175 18).toInt := tl_slot (hf.1 175 18 (show ¬ (175 = 185 ∨ 175 = 1000 ∨ (175 = 175 ∧ 18 = 12) ∨ (175 = 175 ∧ 18 = 13) ∨ (175 = 175 ∧ 18 = 14) ∨ (175 = 175 ∧ 18 = 15) ∨ (175 = 175 ∧ 18 = 20)) by decide))
    refine li_istore [(7, .int x2), (0, .ref (Z.2.2 175)), (1, .int p1), (2, .int p2), (3, .int p3), (4, .int p4), (5, .int p5), (6, .int p6)] dX12_costBy_37 (by decide) rfl ?_
    refine li_aload_n 1 dX12_costBy_39 rfl ?_
    refine li_geti (k := 18) (N := 52) (T := TX12) (C0 := RX12) dX12_costBy_40 (by decide) sh_175 rfl rfl (by decide) li_in12 w_1422 ?_
    refine li_top (fun x4 ex4 => ?_)
    have gx4 : 0 ≤ x4.toInt ∧ x4.toInt ≤ 40 := by rw [ex4]; exact J_sl18 hJ
    have mx4 : x4.toInt = (M3.1 175 18).toInt := tl_slot ex4
    have sx4 : x4.toInt = (M0.1 175 18).toInt := tl_slot (ex4.trans (hf.1 175 18 (show ¬ (175 = 185 ∨ 175 = 1000 ∨ (175 = 175 ∧ 18 = 12) ∨ (175 = 175 ∧ 18 = 13) ∨ (175 = 175 ∧ 18 = 14) ∨ (175 = 175 ∧ 18 = 15) ∨ (175 = 175 ∧ 18 = 20)) by decide)))
    refine li_if_le 125 dX12_costBy_43 (by decide) (fun c5 => ?_) (fun c5 => ?_)
    · have tc5 : x4.toInt ≤ 0 := tl_le c5
      refine li_iconst 0 dX12_costBy_125 (by decide) ?_
      refine li_sipush 999 dX12_costBy_126 (by decide) ?_
      refine li_iload 0 dX12_costBy_129 rfl ?_
      refine li_mmin dX12_costBy_131 (by omega) w_1701 w_726 w_113 w_727 (Nat.le_of_ble_eq_true rfl) ?_
      refine li_top (fun x6 ex6 => ?_)
      have z999 : (999 : Int32).toInt = 999 := rfl
      have tx6 := tl_min2 ex6
      refine li_mmax dX12_costBy_134 (by omega) w_1403 w_642 w_113 w_643 (Nat.le_of_ble_eq_true rfl) ?_
      refine li_top (fun x7 ex7 => ?_)
      have z0 : (0 : Int32).toInt = 0 := rfl
      have tx7 := tl_max2 ex7
      exact li_iret dX12_costBy_137 rfl rfl ⟨⟨_, rfl, (by first | omega | (intro _; omega) | (refine ⟨?_, ?_⟩ <;> first | omega | (intro _; omega)) | (refine ⟨?_, ?_, ?_, ?_⟩ <;> first | omega | (intro _; omega)))⟩, hf, hJ⟩
    · have tc5 : 0 < x4.toInt := tl_nle c5
      refine li_aload_n 1 dX12_costBy_46 rfl ?_
      refine li_getr (k := 21) (N := 52) (T := TX12) (C0 := RX12) dX12_costBy_47 (by decide) sh_175 rfl rfl (by decide) (by decide) li_in12 w_1425 ?_
      refine li_iconst 0 dX12_costBy_50 (by decide) ?_
      refine li_iload_n 3 dX12_costBy_51 rfl ?_
      have z0 : (0 : Int32).toInt = 0 := rfl
      refine li_iast dX12_costBy_52 (by decide) sh_185 (tl_in (by omega)) ?_
      refine li_nm (fun M8 eM8 => ?_)
      have hf := li_fs_ui hf (Or.inl rfl) eM8
      have hJ := hJ.st (by decide) (li_el_free (by unfold li_led; omega) (by decide) (by decide) (by unfold li_rq; omega)) eM8
      have rM8_18 := J_sl18 (M := M8) hJ
      have mM8_18 : (M8.1 175 18).toInt = (M3.1 175 18).toInt := by rw [eM8, li_ui_at, if_neg (by decide)]
      refine li_aload_n 1 dX12_costBy_53 rfl ?_
      refine li_getr (k := 21) (N := 52) (T := TX12) (C0 := RX12) dX12_costBy_54 (by decide) sh_175 rfl rfl (by decide) (by decide) li_in12 w_1425 ?_
      refine li_iconst 1 dX12_costBy_57 (by decide) ?_
      refine li_iload_n 4 dX12_costBy_58 rfl ?_
      have z1 : (1 : Int32).toInt = 1 := rfl
      refine li_iast dX12_costBy_59 (by decide) sh_185 (tl_in (by omega)) ?_
      refine li_nm (fun M9 eM9 => ?_)
      have hf := li_fs_ui hf (Or.inl rfl) eM9
      have hJ := hJ.st (by decide) (li_el_free (by unfold li_led; omega) (by decide) (by decide) (by unfold li_rq; omega)) eM9
      have rM9_18 := J_sl18 (M := M9) hJ
      have mM9_18 : (M9.1 175 18).toInt = (M8.1 175 18).toInt := by rw [eM9, li_ui_at, if_neg (by decide)]
      refine li_aload_n 1 dX12_costBy_60 rfl ?_
      refine li_getr (k := 21) (N := 52) (T := TX12) (C0 := RX12) dX12_costBy_61 (by decide) sh_175 rfl rfl (by decide) (by decide) li_in12 w_1425 ?_
      refine li_iconst 2 dX12_costBy_64 (by decide) ?_
      refine li_iload 5 dX12_costBy_65 rfl ?_
      have z2 : (2 : Int32).toInt = 2 := rfl
      refine li_iast dX12_costBy_67 (by decide) sh_185 (tl_in (by omega)) ?_
      refine li_nm (fun M10 eM10 => ?_)
      have hf := li_fs_ui hf (Or.inl rfl) eM10
      have hJ := hJ.st (by decide) (li_el_free (by unfold li_led; omega) (by decide) (by decide) (by unfold li_rq; omega)) eM10
      have rM10_18 := J_sl18 (M := M10) hJ
      have mM10_18 : (M10.1 175 18).toInt = (M9.1 175 18).toInt := by rw [eM10, li_ui_at, if_neg (by decide)]
      refine li_aload_n 1 dX12_costBy_68 rfl ?_
      refine li_getr (k := 21) (N := 52) (T := TX12) (C0 := RX12) dX12_costBy_69 (by decide) sh_175 rfl rfl (by decide) (by decide) li_in12 w_1425 ?_
      refine li_iconst 3 dX12_costBy_72 (by decide) ?_
      refine li_iload 6 dX12_costBy_73 rfl ?_
      have z3 : (3 : Int32).toInt = 3 := rfl
      refine li_iast dX12_costBy_75 (by decide) sh_185 (tl_in (by omega)) ?_
      refine li_nm (fun M11 eM11 => ?_)
      have hf := li_fs_ui hf (Or.inl rfl) eM11
      have hJ := hJ.st (by decide) (li_el_free (by unfold li_led; omega) (by decide) (by decide) (by unfold li_rq; omega)) eM11
      have rM11_18 := J_sl18 (M := M11) hJ
      have mM11_18 : (M11.1 175 18).toInt = (M10.1 175 18).toInt := by rw [eM11, li_ui_at, if_neg (by decide)]
      refine li_aload_n 1 dX12_costBy_76 rfl ?_
      refine li_getr (k := 21) (N := 52) (T := TX12) (C0 := RX12) dX12_costBy_77 (by decide) sh_175 rfl rfl (by decide) (by decide) li_in12 w_1425 ?_
      refine li_iconst 4 dX12_costBy_80 (by decide) ?_
      refine li_iload_n 2 dX12_costBy_81 rfl ?_
      refine li_bipush 100 dX12_costBy_82 (by decide) ?_
      refine li_irem dX12_costBy_84 (by decide) ?_
      refine li_top (fun x12 ex12 => ?_)
      have z4 : (4 : Int32).toInt = 4 := rfl
      refine li_iast dX12_costBy_85 (by decide) sh_185 (tl_in (by omega)) ?_
      refine li_nm (fun M13 eM13 => ?_)
      have hf := li_fs_ui hf (Or.inl rfl) eM13
      have hJ := hJ.st (by decide) (li_el_free (by unfold li_led; omega) (by decide) (by decide) (by unfold li_rq; omega)) eM13
      have rM13_18 := J_sl18 (M := M13) hJ
      have mM13_18 : (M13.1 175 18).toInt = (M11.1 175 18).toInt := by rw [eM13, li_ui_at, if_neg (by decide)]
      refine li_aload_n 1 dX12_costBy_86 rfl ?_
      refine li_getr (k := 21) (N := 52) (T := TX12) (C0 := RX12) dX12_costBy_87 (by decide) sh_175 rfl rfl (by decide) (by decide) li_in12 w_1425 ?_
      refine li_iconst 5 dX12_costBy_90 (by decide) ?_
      refine li_iload 7 dX12_costBy_91 rfl ?_
      have z5 : (5 : Int32).toInt = 5 := rfl
      refine li_iast dX12_costBy_93 (by decide) sh_185 (tl_in (by omega)) ?_
      refine li_nm (fun M14 eM14 => ?_)
      have hf := li_fs_ui hf (Or.inl rfl) eM14
      have hJ := hJ.st (by decide) (li_el_free (by unfold li_led; omega) (by decide) (by decide) (by unfold li_rq; omega)) eM14
      have rM14_18 := J_sl18 (M := M14) hJ
      have mM14_18 : (M14.1 175 18).toInt = (M13.1 175 18).toInt := by rw [eM14, li_ui_at, if_neg (by decide)]
      refine li_aload_n 1 dX12_costBy_94 rfl ?_
      refine li_aload_n 1 dX12_costBy_95 rfl ?_
      obtain ⟨q15, hq15, rq15⟩ := hJ.2.2.1
      refine li_getm (r := 1) (k := 17) (N := 52) (T := TX12) (C0 := RX12) dX12_costBy_96 (by decide) sh_175 rfl rfl hq15 (by decide) li_in12 w_1421 ?_
      refine li_aload_n 1 dX12_costBy_99 rfl ?_
      refine li_geti (k := 18) (N := 52) (T := TX12) (C0 := RX12) dX12_costBy_100 (by decide) sh_175 rfl rfl (by decide) li_in12 w_1422 ?_
      refine li_top (fun x16 ex16 => ?_)
      have gx16 : 0 ≤ x16.toInt ∧ x16.toInt ≤ 40 := by rw [ex16]; exact J_sl18 hJ
      have mx16 : x16.toInt = (M14.1 175 18).toInt := tl_slot ex16
      have sx16 : x16.toInt = (M0.1 175 18).toInt := tl_slot (ex16.trans (hf.1 175 18 (show ¬ (175 = 185 ∨ 175 = 1000 ∨ (175 = 175 ∧ 18 = 12) ∨ (175 = 175 ∧ 18 = 13) ∨ (175 = 175 ∧ 18 = 14) ∨ (175 = 175 ∧ 18 = 15) ∨ (175 = 175 ∧ 18 = 20)) by decide)))
      refine li_bipush 40 dX12_costBy_103 (by decide) ?_
      have z40 : (40 : Int32).toInt = 40 := rfl
      refine li_callV (n := 3) (As := [.ref (Z.2.2 q15), .int x16, .int 40]) dX12_costBy_105 (k_X12_begin (d - 1) (rl_rq rq15) x16 40 M14 hJ (show 0 ≤ (x16 : Int32).toInt ∧ (x16 : Int32).toInt ≤ (li_qn q15 : Int) by have := li_qn_rl rq15; omega) (by omega)) (by omega) (Nat.le_of_ble_eq_true rfl) w_1577 w_1579 w_42 w_112 w_1580 (by decide +kernel) rfl (by decide) sh_175 rfl rfl (Nat.le_of_ble_eq_true rfl) (fun r M18 h19 => ?_)
      obtain ⟨rfl, h19, jM18, nM18⟩ := h19
      have hf := li_fs_trans hf h19 (fun i k => fun h => Or.elim h (fun h => Or.inr (Or.inr (Or.inl h))) (fun h => Or.elim h (fun h => Or.inr (Or.inr (Or.inr (Or.inl h)))) (fun h => Or.elim h (fun h => Or.inr (Or.inr (Or.inr (Or.inr (Or.inl h))))) (fun h => Or.elim h (fun h => Or.inr (Or.inr (Or.inr (Or.inr (Or.inr (Or.inl h)))))) (fun h => Or.inr (Or.inl h))))))
      have hJ := jM18
      have rM18_18 := J_sl18 (M := M18) hJ
      have mM18_18 : (M18.1 175 18).toInt = (M14.1 175 18).toInt := tl_slot (h19.1 175 18 (show ¬ ((175 = 175 ∧ 18 = 12) ∨ (175 = 175 ∧ 18 = 13) ∨ (175 = 175 ∧ 18 = 14) ∨ (175 = 175 ∧ 18 = 15) ∨ 175 = 1000) by decide))
      refine li_aload_n 1 dX12_costBy_108 rfl ?_
      refine li_iconst 1 dX12_costBy_109 (by decide) ?_
      refine li_puti (k := 20) (N := 52) (T := TX12) (C0 := RX12) dX12_costBy_110 (by decide) sh_175 rfl rfl (by decide) li_in12 tyX12_ok nmX12 rfl rfl (li_nz (Or.inr rfl)) (li_fz (Or.inr rfl)) w_1424 ?_
      refine li_nm (fun M20 eM20 => ?_)
      have hf := li_fs_ui hf (Or.inr (Or.inr (Or.inr (Or.inr (Or.inr (Or.inr (⟨rfl, rfl⟩))))))) eM20
      have z1 : (1 : Int32).toInt = 1 := rfl
      have hJ := hJ.put (k := 20) (by decide) (rg_free rfl) eM20
      have rM20_18 := J_sl18 (M := M20) hJ
      have mM20_18 : (M20.1 175 18).toInt = (M18.1 175 18).toInt := by rw [eM20, li_ui_at, if_pos rfl, if_neg (by decide)]
      refine li_aload_n 1 dX12_costBy_113 rfl ?_
      refine li_iconst 0 dX12_costBy_114 (by decide) ?_
      have z0 : (0 : Int32).toInt = 0 := rfl
      refine li_callV (n := 1) (As := [.int 0]) dX12_costBy_115 ((kk_parse 81).2.2.2 0 M20 (d - 1) hJ (by have := J_sl14 hJ; omega) (by omega)) (by omega) (Nat.le_of_ble_eq_true rfl) w_1625 w_1627 w_52 w_112 w_1628 (by decide +kernel) rfl (by decide) sh_175 rfl rfl (Nat.le_of_ble_eq_true rfl) (fun r M22 h23 => ?_)
      obtain ⟨⟨x21, rfl, qx21⟩, h23, jM22⟩ := h23
      have gx21 := tl_rg x21
      have hf := li_fs_trans hf h23 (fun i k => fun h => Or.elim h (fun h => Or.inr (Or.inr (Or.inr (Or.inr (Or.inl h))))) (fun h => Or.inr (Or.inr (Or.inr (Or.inr (Or.inr (Or.inl h)))))))
      have hJ := jM22
      have rM22_18 := J_sl18 (M := M22) hJ
      have mM22_18 : (M22.1 175 18).toInt = (M20.1 175 18).toInt := tl_slot (h23.1 175 18 (show ¬ ((175 = 175 ∧ 18 = 14) ∨ (175 = 175 ∧ 18 = 15)) by decide))
      refine li_istore [(7, .int x21), (0, .ref (Z.2.2 175)), (1, .int p1), (2, .int p2), (3, .int p3), (4, .int p4), (5, .int p5), (6, .int p6)] dX12_costBy_118 (by decide) rfl ?_
      refine li_aload_n 1 dX12_costBy_120 rfl ?_
      refine li_iconst 0 dX12_costBy_121 (by decide) ?_
      refine li_puti (k := 20) (N := 52) (T := TX12) (C0 := RX12) dX12_costBy_122 (by decide) sh_175 rfl rfl (by decide) li_in12 tyX12_ok nmX12 rfl rfl (li_nz (Or.inl rfl)) (li_fz (Or.inl rfl)) w_1424 ?_
      refine li_nm (fun M24 eM24 => ?_)
      have hf := li_fs_ui hf (Or.inr (Or.inr (Or.inr (Or.inr (Or.inr (Or.inr (⟨rfl, rfl⟩))))))) eM24
      have z0 : (0 : Int32).toInt = 0 := rfl
      have hJ := hJ.put (k := 20) (by decide) (rg_free rfl) eM24
      have rM24_18 := J_sl18 (M := M24) hJ
      have mM24_18 : (M24.1 175 18).toInt = (M22.1 175 18).toInt := by rw [eM24, li_ui_at, if_pos rfl, if_neg (by decide)]
      refine li_iconst 0 dX12_costBy_125 (by decide) ?_
      refine li_sipush 999 dX12_costBy_126 (by decide) ?_
      refine li_iload 0 dX12_costBy_129 rfl ?_
      refine li_mmin dX12_costBy_131 (by omega) w_1701 w_726 w_113 w_727 (Nat.le_of_ble_eq_true rfl) ?_
      refine li_top (fun x25 ex25 => ?_)
      have z999 : (999 : Int32).toInt = 999 := rfl
      have tx25 := tl_min2 ex25
      refine li_mmax dX12_costBy_134 (by omega) w_1403 w_642 w_113 w_643 (Nat.le_of_ble_eq_true rfl) ?_
      refine li_top (fun x26 ex26 => ?_)
      have z0 : (0 : Int32).toInt = 0 := rfl
      have tx26 := tl_max2 ex26
      exact li_iret dX12_costBy_137 rfl rfl ⟨⟨_, rfl, (by first | omega | (intro _; omega) | (refine ⟨?_, ?_⟩ <;> first | omega | (intro _; omega)) | (refine ⟨?_, ?_, ?_, ?_⟩ <;> first | omega | (intro _; omega)))⟩, hf, hJ⟩
  refine li_if_ne 12 dX12_costBy_1 (by decide) (fun c1 => ?_) (fun c1 => ?_)
  · have tc1 : ¬ p3.toInt = 0 := tl_ne c1
    refine li_iload_n 3 dX12_costBy_12 rfl ?_
    refine li_iconst 1 dX12_costBy_13 (by decide) ?_
    refine li_icmp_ne 25 dX12_costBy_14 (by decide) (fun c27 => ?_) (fun c27 => ?_)
    · have tc27 : ¬ p3.toInt = 1 := tl_ne c27
      refine li_iload_n 3 dX12_costBy_25 rfl ?_
      refine li_iconst 2 dX12_costBy_26 (by decide) ?_
      refine li_icmp_ne 34 dX12_costBy_27 (by decide) (fun c28 => ?_) (fun c28 => ?_)
      · have tc28 : ¬ p3.toInt = 2 := tl_ne c28
        refine li_iconst 2 dX12_costBy_34 (by decide) ?_
        refine li_iload_n 2 dX12_costBy_35 rfl ?_
        refine li_imul dX12_costBy_36 ?_
        refine li_top (fun x29 ex29 => ?_)
        have z2 : (2 : Int32).toInt = 2 := rfl
        try (have tx29 : x29.toInt = 2 * (p2 : Int32).toInt := tl_mul ex29 (show -2147483648 ≤ 2 * (p2 : Int32).toInt ∧ 2 * (p2 : Int32).toInt ≤ 2147483647 by omega))
        refine li_pick [0, 1, 2, 3, 4, 5, 6] [(0, .ref (Z.2.2 175)), (1, .int p1), (2, .int p2), (3, .int p3), (4, .int p4), (5, .int p5), (6, .int p6)] rfl ?_
        exact J37 x29 M0 hf hJ
      · have tc28 : p3.toInt = 2 := tl_eq c28
        refine li_iload_n 2 dX12_costBy_30 rfl ?_
        refine li_goto 37 dX12_costBy_31 (by decide) ?_
        refine li_pick [0, 1, 2, 3, 4, 5, 6] [(0, .ref (Z.2.2 175)), (1, .int p1), (2, .int p2), (3, .int p3), (4, .int p4), (5, .int p5), (6, .int p6)] rfl ?_
        exact J37 p2 M0 hf hJ
    · have tc27 : p3.toInt = 1 := tl_eq c27
      refine li_iload_n 2 dX12_costBy_17 rfl ?_
      refine li_iconst 2 dX12_costBy_18 (by decide) ?_
      refine li_iadd dX12_costBy_19 ?_
      refine li_top (fun x30 ex30 => ?_)
      have z2 : (2 : Int32).toInt = 2 := rfl
      try (have tx30 : x30.toInt = (p2 : Int32).toInt + (2 : Int32).toInt := tl_add ex30 (by omega))
      refine li_iconst 3 dX12_costBy_20 (by decide) ?_
      refine li_idiv dX12_costBy_21 (by decide) ?_
      refine li_top (fun x31 ex31 => ?_)
      refine li_goto 37 dX12_costBy_22 (by decide) ?_
      refine li_pick [0, 1, 2, 3, 4, 5, 6] [(0, .ref (Z.2.2 175)), (1, .int p1), (2, .int p2), (3, .int p3), (4, .int p4), (5, .int p5), (6, .int p6)] rfl ?_
      exact J37 x31 M0 hf hJ
  · have tc1 : p3.toInt = 0 := tl_eq c1
    refine li_iload_n 2 dX12_costBy_4 rfl ?_
    refine li_iconst 1 dX12_costBy_5 (by decide) ?_
    refine li_iadd dX12_costBy_6 ?_
    refine li_top (fun x32 ex32 => ?_)
    have z1 : (1 : Int32).toInt = 1 := rfl
    try (have tx32 : x32.toInt = (p2 : Int32).toInt + (1 : Int32).toInt := tl_add ex32 (by omega))
    refine li_iconst 2 dX12_costBy_7 (by decide) ?_
    refine li_idiv dX12_costBy_8 (by decide) ?_
    refine li_top (fun x33 ex33 => ?_)
    refine li_goto 37 dX12_costBy_9 (by decide) ?_
    refine li_pick [0, 1, 2, 3, 4, 5, 6] [(0, .ref (Z.2.2 175)), (1, .int p1), (2, .int p2), (3, .int p3), (4, .int p4), (5, .int p5), (6, .int p6)] rfl ?_
    exact J37 x33 M0 hf hJ
