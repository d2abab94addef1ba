theorem w_51 : (Jvm.Cond.selects "ClockForTalkModel" ({ cls := "ClockForTalkModel", name := "readRule", desc := "()Z" } : Jvm.MethodName) ({ cls := "ClockForTalkModel", name := "readRule", desc := "()Z" } : Jvm.MethodName)) ∈ li_ws := li_mem 51 (by decide +kernel) (by decide +kernel)
theorem w_1403 : (Jvm.Cond.methodLink "ClockForTalkModel" (82 : Nat) ({ cls := "java/lang/Math", name := "max", desc := "(II)I" } : Jvm.MethodName)) ∈ li_ws := li_mem 1403 (by decide +kernel) (by decide +kernel)
theorem w_1421 : (Jvm.Cond.fieldLink "ClockForTalkModel" (32 : Nat) "ClockForTalkModel" "rule" "[B") ∈ li_ws := li_mem 1421 (by decide +kernel) (by decide +kernel)
theorem w_1422 : (Jvm.Cond.fieldLink "ClockForTalkModel" (205 : Nat) "ClockForTalkModel" "ruleSize" "I") ∈ li_ws := li_mem 1422 (by decide +kernel) (by decide +kernel)
theorem w_1621 : (Jvm.Cond.methodLink "ClockForTalkModel" (202 : Nat) ({ cls := "ClockForTalkModel", name := "readRule", desc := "()Z" } : Jvm.MethodName)) ∈ li_ws := li_mem 1621 (by decide +kernel) (by decide +kernel)
theorem w_1623 : (Jvm.Cond.instanceMethod ({ cls := "ClockForTalkModel", name := "readRule", desc := "()Z" } : Jvm.MethodName)) ∈ li_ws := li_mem 1623 (by decide +kernel) (by decide +kernel)
theorem w_1624 : (Jvm.Cond.code ({ cls := "ClockForTalkModel", name := "readRule", desc := "()Z" } : Jvm.MethodName) prog_13_method_28_code (2 : Nat) (Option.some Jvm.ClassFile.FieldType.boolean)) ∈ li_ws := li_mem 1624 (by decide +kernel) (by decide +kernel)
theorem w_1701 : (Jvm.Cond.methodLink "ClockForTalkModel" (208 : Nat) ({ cls := "java/lang/Math", name := "min", desc := "(II)I" } : Jvm.MethodName)) ∈ li_ws := li_mem 1701 (by decide +kernel) (by decide +kernel)
theorem dX12_readRule_0 : decode cX12_readRule 0 = .ok (.aload_n 0, 1) := by decide +kernel
theorem dX12_readRule_1 : decode cX12_readRule 1 = .ok (.getfield 124, 3) := by decide +kernel
theorem dX12_readRule_4 : decode cX12_readRule 4 = .ok (.istore_n 1, 1) := by decide +kernel
theorem dX12_readRule_5 : decode cX12_readRule 5 = .ok (.aload_n 0, 1) := by decide +kernel
theorem dX12_readRule_6 : decode cX12_readRule 6 = .ok (.aload_n 0, 1) := by decide +kernel
theorem dX12_readRule_7 : decode cX12_readRule 7 = .ok (.getfield 22, 3) := by decide +kernel
theorem dX12_readRule_10 : decode cX12_readRule 10 = .ok (.iload_n 1, 1) := by decide +kernel
theorem dX12_readRule_11 : decode cX12_readRule 11 = .ok (.bipush 40, 2) := by decide +kernel
theorem dX12_readRule_13 : decode cX12_readRule 13 = .ok (.invokevirtual 162, 3) := by decide +kernel
theorem dX12_readRule_16 : decode cX12_readRule 16 = .ok (.aload_n 0, 1) := by decide +kernel
theorem dX12_readRule_17 : decode cX12_readRule 17 = .ok (.iconst 0, 1) := by decide +kernel
theorem dX12_readRule_18 : decode cX12_readRule 18 = .ok (.putfield 124, 3) := by decide +kernel
theorem dX12_readRule_21 : decode cX12_readRule 21 = .ok (.aload_n 0, 1) := by decide +kernel
theorem dX12_readRule_22 : decode cX12_readRule 22 = .ok (.iconst 0, 1) := by decide +kernel
theorem dX12_readRule_23 : decode cX12_readRule 23 = .ok (.putfield 198, 3) := by decide +kernel
theorem dX12_readRule_26 : decode cX12_readRule 26 = .ok (.iload_n 1, 1) := by decide +kernel
theorem dX12_readRule_27 : decode cX12_readRule 27 = .ok (.ifCond .le 25, 3) := by decide +kernel
theorem dX12_readRule_30 : decode cX12_readRule 30 = .ok (.aload_n 0, 1) := by decide +kernel
theorem dX12_readRule_31 : decode cX12_readRule 31 = .ok (.iconst 0, 1) := by decide +kernel
theorem dX12_readRule_32 : decode cX12_readRule 32 = .ok (.invokevirtual 192, 3) := by decide +kernel
theorem dX12_readRule_35 : decode cX12_readRule 35 = .ok (.pop, 1) := by decide +kernel
theorem dX12_readRule_36 : decode cX12_readRule 36 = .ok (.aload_n 0, 1) := by decide +kernel
theorem dX12_readRule_37 : decode cX12_readRule 37 = .ok (.getfield 136, 3) := by decide +kernel
theorem dX12_readRule_40 : decode cX12_readRule 40 = .ok (.iload_n 1, 1) := by decide +kernel
theorem dX12_readRule_41 : decode cX12_readRule 41 = .ok (.if_icmp .ge 11, 3) := by decide +kernel
theorem dX12_readRule_44 : decode cX12_readRule 44 = .ok (.aload_n 0, 1) := by decide +kernel
theorem dX12_readRule_45 : decode cX12_readRule 45 = .ok (.aload_n 0, 1) := by decide +kernel
theorem dX12_readRule_46 : decode cX12_readRule 46 = .ok (.getfield 136, 3) := by decide +kernel
theorem dX12_readRule_49 : decode cX12_readRule 49 = .ok (.invokevirtual 154, 3) := by decide +kernel
theorem dX12_readRule_52 : decode cX12_readRule 52 = .ok (.aload_n 0, 1) := by decide +kernel
theorem dX12_readRule_53 : decode cX12_readRule 53 = .ok (.invokevirtual 142, 3) := by decide +kernel
theorem dX12_readRule_56 : decode cX12_readRule 56 = .ok (.ireturn, 1) := by decide +kernel
abbrev YX12_readRule : li_Y := (yX12_readRule, cX12_readRule, 2, (some .boolean))
theorem dX12_rule_0 : decode cX12_rule 0 = .ok (.aload_n 0, 1) := by decide +kernel
theorem dX12_rule_1 : decode cX12_rule 1 = .ok (.iconst 0, 1) := by decide +kernel
theorem dX12_rule_2 : decode cX12_rule 2 = .ok (.putfield 103, 3) := by decide +kernel
theorem dX12_rule_5 : decode cX12_rule 5 = .ok (.aload_n 0, 1) := by decide +kernel
theorem dX12_rule_6 : decode cX12_rule 6 = .ok (.getfield 124, 3) := by decide +kernel
theorem dX12_rule_9 : decode cX12_rule 9 = .ok (.istore_n 1, 1) := by decide +kernel
theorem dX12_rule_10 : decode cX12_rule 10 = .ok (.aload_n 0, 1) := by decide +kernel
theorem dX12_rule_11 : decode cX12_rule 11 = .ok (.invokevirtual 202, 3) := by decide +kernel
theorem dX12_rule_14 : decode cX12_rule 14 = .ok (.ifCond .ne 10, 3) := by decide +kernel
theorem dX12_rule_17 : decode cX12_rule 17 = .ok (.iconst (-1), 1) := by decide +kernel
theorem dX12_rule_18 : decode cX12_rule 18 = .ok (.aload_n 0, 1) := by decide +kernel
theorem dX12_rule_19 : decode cX12_rule 19 = .ok (.getfield 139, 3) := by decide +kernel
theorem dX12_rule_22 : decode cX12_rule 22 = .ok (.isub, 1) := by decide +kernel
theorem dX12_rule_23 : decode cX12_rule 23 = .ok (.ireturn, 1) := by decide +kernel
theorem dX12_rule_24 : decode cX12_rule 24 = .ok (.iconst 0, 1) := by decide +kernel
theorem dX12_rule_25 : decode cX12_rule 25 = .ok (.istore_n 2, 1) := by decide +kernel
theorem dX12_rule_26 : decode cX12_rule 26 = .ok (.iload_n 2, 1) := by decide +kernel
theorem dX12_rule_27 : decode cX12_rule 27 = .ok (.iload_n 1, 1) := by decide +kernel
theorem dX12_rule_28 : decode cX12_rule 28 = .ok (.if_icmp .ge 21, 3) := by decide +kernel
theorem dX12_rule_31 : decode cX12_rule 31 = .ok (.aload_n 0, 1) := by decide +kernel
theorem dX12_rule_32 : decode cX12_rule 32 = .ok (.getfield 32, 3) := by decide +kernel
theorem dX12_rule_35 : decode cX12_rule 35 = .ok (.iload_n 2, 1) := by decide +kernel
theorem dX12_rule_36 : decode cX12_rule 36 = .ok (.aload_n 0, 1) := by decide +kernel
theorem dX12_rule_37 : decode cX12_rule 37 = .ok (.getfield 22, 3) := by decide +kernel
theorem dX12_rule_40 : decode cX12_rule 40 = .ok (.iload_n 2, 1) := by decide +kernel
theorem dX12_rule_41 : decode cX12_rule 41 = .ok (.baload, 1) := by decide +kernel
theorem dX12_rule_42 : decode cX12_rule 42 = .ok (.bastore, 1) := by decide +kernel
theorem dX12_rule_43 : decode cX12_rule 43 = .ok (.iinc 2 1, 3) := by decide +kernel
theorem dX12_rule_46 : decode cX12_rule 46 = .ok (.goto (-20), 3) := by decide +kernel
theorem dX12_rule_49 : decode cX12_rule 49 = .ok (.aload_n 0, 1) := by decide +kernel
theorem dX12_rule_50 : decode cX12_rule 50 = .ok (.iload_n 1, 1) := by decide +kernel
theorem dX12_rule_51 : decode cX12_rule 51 = .ok (.putfield 205, 3) := by decide +kernel
theorem dX12_rule_54 : decode cX12_rule 54 = .ok (.iconst 0, 1) := by decide +kernel
theorem dX12_rule_55 : decode cX12_rule 55 = .ok (.ireturn, 1) := by decide +kernel
abbrev YX12_rule : li_Y := (yX12_rule, cX12_rule, 3, (some .int))
theorem dX12_costBy_0 : decode cX12_costBy 0 = .ok (.iload_n 3, 1) := by decide +kernel
theorem dX12_costBy_1 : decode cX12_costBy 1 = .ok (.ifCond .ne 11, 3) := by decide +kernel
theorem dX12_costBy_4 : decode cX12_costBy 4 = .ok (.iload_n 2, 1) := by decide +kernel
theorem dX12_costBy_5 : decode cX12_costBy 5 = .ok (.iconst 1, 1) := by decide +kernel
theorem dX12_costBy_6 : decode cX12_costBy 6 = .ok (.iadd, 1) := by decide +kernel
theorem dX12_costBy_7 : decode cX12_costBy 7 = .ok (.iconst 2, 1) := by decide +kernel
theorem dX12_costBy_8 : decode cX12_costBy 8 = .ok (.idiv, 1) := by decide +kernel
theorem dX12_costBy_9 : decode cX12_costBy 9 = .ok (.goto 28, 3) := by decide +kernel
theorem dX12_costBy_12 : decode cX12_costBy 12 = .ok (.iload_n 3, 1) := by decide +kernel
theorem dX12_costBy_13 : decode cX12_costBy 13 = .ok (.iconst 1, 1) := by decide +kernel
theorem dX12_costBy_14 : decode cX12_costBy 14 = .ok (.if_icmp .ne 11, 3) := by decide +kernel
theorem dX12_costBy_17 : decode cX12_costBy 17 = .ok (.iload_n 2, 1) := by decide +kernel
theorem dX12_costBy_18 : decode cX12_costBy 18 = .ok (.iconst 2, 1) := by decide +kernel
theorem dX12_costBy_19 : decode cX12_costBy 19 = .ok (.iadd, 1) := by decide +kernel
theorem dX12_costBy_20 : decode cX12_costBy 20 = .ok (.iconst 3, 1) := by decide +kernel
theorem dX12_costBy_21 : decode cX12_costBy 21 = .ok (.idiv, 1) := by decide +kernel
theorem dX12_costBy_22 : decode cX12_costBy 22 = .ok (.goto 15, 3) := by decide +kernel
theorem dX12_costBy_25 : decode cX12_costBy 25 = .ok (.iload_n 3, 1) := by decide +kernel
theorem dX12_costBy_26 : decode cX12_costBy 26 = .ok (.iconst 2, 1) := by decide +kernel
theorem dX12_costBy_27 : decode cX12_costBy 27 = .ok (.if_icmp .ne 7, 3) := by decide +kernel
theorem dX12_costBy_30 : decode cX12_costBy 30 = .ok (.iload_n 2, 1) := by decide +kernel
theorem dX12_costBy_31 : decode cX12_costBy 31 = .ok (.goto 6, 3) := by decide +kernel
theorem dX12_costBy_34 : decode cX12_costBy 34 = .ok (.iconst 2, 1) := by decide +kernel
theorem dX12_costBy_35 : decode cX12_costBy 35 = .ok (.iload_n 2, 1) := by decide +kernel
theorem dX12_costBy_36 : decode cX12_costBy 36 = .ok (.imul, 1) := by decide +kernel
theorem dX12_costBy_37 : decode cX12_costBy 37 = .ok (.istore 7, 2) := by decide +kernel
theorem dX12_costBy_39 : decode cX12_costBy 39 = .ok (.aload_n 0, 1) := by decide +kernel
theorem dX12_costBy_40 : decode cX12_costBy 40 = .ok (.getfield 205, 3) := by decide +kernel
theorem dX12_costBy_43 : decode cX12_costBy 43 = .ok (.ifCond .le 82, 3) := by decide +kernel
theorem dX12_costBy_46 : decode cX12_costBy 46 = .ok (.aload_n 0, 1) := by decide +kernel
theorem dX12_costBy_47 : decode cX12_costBy 47 = .ok (.getfield 38, 3) := by decide +kernel
theorem dX12_costBy_50 : decode cX12_costBy 50 = .ok (.iconst 0, 1) := by decide +kernel
theorem dX12_costBy_51 : decode cX12_costBy 51 = .ok (.iload_n 2, 1) := by decide +kernel
theorem dX12_costBy_52 : decode cX12_costBy 52 = .ok (.iastore, 1) := by decide +kernel
theorem dX12_costBy_53 : decode cX12_costBy 53 = .ok (.aload_n 0, 1) := by decide +kernel
theorem dX12_costBy_54 : decode cX12_costBy 54 = .ok (.getfield 38, 3) := by decide +kernel
theorem dX12_costBy_57 : decode cX12_costBy 57 = .ok (.iconst 1, 1) := by decide +kernel
theorem dX12_costBy_58 : decode cX12_costBy 58 = .ok (.iload_n 3, 1) := by decide +kernel
theorem dX12_costBy_59 : decode cX12_costBy 59 = .ok (.iastore, 1) := by decide +kernel
theorem dX12_costBy_60 : decode cX12_costBy 60 = .ok (.aload_n 0, 1) := by decide +kernel
theorem dX12_costBy_61 : decode cX12_costBy 61 = .ok (.getfield 38, 3) := by decide +kernel
theorem dX12_costBy_64 : decode cX12_costBy 64 = .ok (.iconst 2, 1) := by decide +kernel
theorem dX12_costBy_65 : decode cX12_costBy 65 = .ok (.iload 4, 2) := by decide +kernel
theorem dX12_costBy_67 : decode cX12_costBy 67 = .ok (.iastore, 1) := by decide +kernel
theorem dX12_costBy_68 : decode cX12_costBy 68 = .ok (.aload_n 0, 1) := by decide +kernel
theorem dX12_costBy_69 : decode cX12_costBy 69 = .ok (.getfield 38, 3) := by decide +kernel
theorem dX12_costBy_72 : decode cX12_costBy 72 = .ok (.iconst 3, 1) := by decide +kernel
theorem dX12_costBy_73 : decode cX12_costBy 73 = .ok (.iload 5, 2) := by decide +kernel
theorem dX12_costBy_75 : decode cX12_costBy 75 = .ok (.iastore, 1) := by decide +kernel
theorem dX12_costBy_76 : decode cX12_costBy 76 = .ok (.aload_n 0, 1) := by decide +kernel
theorem dX12_costBy_77 : decode cX12_costBy 77 = .ok (.getfield 38, 3) := by decide +kernel
theorem dX12_costBy_80 : decode cX12_costBy 80 = .ok (.iconst 4, 1) := by decide +kernel
theorem dX12_costBy_81 : decode cX12_costBy 81 = .ok (.iload_n 1, 1) := by decide +kernel
theorem dX12_costBy_82 : decode cX12_costBy 82 = .ok (.bipush 100, 2) := by decide +kernel
theorem dX12_costBy_84 : decode cX12_costBy 84 = .ok (.irem, 1) := by decide +kernel
theorem dX12_costBy_85 : decode cX12_costBy 85 = .ok (.iastore, 1) := by decide +kernel
theorem dX12_costBy_86 : decode cX12_costBy 86 = .ok (.aload_n 0, 1) := by decide +kernel
theorem dX12_costBy_87 : decode cX12_costBy 87 = .ok (.getfield 38, 3) := by decide +kernel
theorem dX12_costBy_90 : decode cX12_costBy 90 = .ok (.iconst 5, 1) := by decide +kernel
theorem dX12_costBy_91 : decode cX12_costBy 91 = .ok (.iload 6, 2) := by decide +kernel
theorem dX12_costBy_93 : decode cX12_costBy 93 = .ok (.iastore, 1) := by decide +kernel
theorem dX12_costBy_94 : decode cX12_costBy 94 = .ok (.aload_n 0, 1) := by decide +kernel
theorem dX12_costBy_95 : decode cX12_costBy 95 = .ok (.aload_n 0, 1) := by decide +kernel
theorem dX12_costBy_96 : decode cX12_costBy 96 = .ok (.getfield 32, 3) := by decide +kernel
theorem dX12_costBy_99 : decode cX12_costBy 99 = .ok (.aload_n 0, 1) := by decide +kernel
theorem dX12_costBy_100 : decode cX12_costBy 100 = .ok (.getfield 205, 3) := by decide +kernel
theorem dX12_costBy_103 : decode cX12_costBy 103 = .ok (.bipush 40, 2) := by decide +kernel
theorem dX12_costBy_105 : decode cX12_costBy 105 = .ok (.invokevirtual 162, 3) := by decide +kernel
theorem dX12_costBy_108 : decode cX12_costBy 108 = .ok (.aload_n 0, 1) := by decide +kernel
theorem dX12_costBy_109 : decode cX12_costBy 109 = .ok (.iconst 1, 1) := by decide +kernel
theorem dX12_costBy_110 : decode cX12_costBy 110 = .ok (.putfield 198, 3) := by decide +kernel
theorem dX12_costBy_113 : decode cX12_costBy 113 = .ok (.aload_n 0, 1) := by decide +kernel
theorem dX12_costBy_114 : decode cX12_costBy 114 = .ok (.iconst 0, 1) := by decide +kernel
theorem dX12_costBy_115 : decode cX12_costBy 115 = .ok (.invokevirtual 192, 3) := by decide +kernel
theorem dX12_costBy_118 : decode cX12_costBy 118 = .ok (.istore 7, 2) := by decide +kernel
theorem dX12_costBy_120 : decode cX12_costBy 120 = .ok (.aload_n 0, 1) := by decide +kernel
theorem dX12_costBy_121 : decode cX12_costBy 121 = .ok (.iconst 0, 1) := by decide +kernel
theorem dX12_costBy_122 : decode cX12_costBy 122 = .ok (.putfield 198, 3) := by decide +kernel
theorem dX12_costBy_125 : decode cX12_costBy 125 = .ok (.iconst 0, 1) := by decide +kernel
theorem dX12_costBy_126 : decode cX12_costBy 126 = .ok (.sipush 999, 3) := by decide +kernel
theorem dX12_costBy_129 : decode cX12_costBy 129 = .ok (.iload 7, 2) := by decide +kernel
theorem dX12_costBy_131 : decode cX12_costBy 131 = .ok (.invokestatic 208, 3) := by decide +kernel
theorem dX12_costBy_134 : decode cX12_costBy 134 = .ok (.invokestatic 82, 3) := by decide +kernel
theorem dX12_costBy_137 : decode cX12_costBy 137 = .ok (.ireturn, 1) := by decide +kernel
abbrev YX12_costBy : li_Y := (yX12_costBy, cX12_costBy, 8, (some .int))
set_option maxRecDepth 100000 in
set_option maxHeartbeats 4000000 in
theorem k_X12_readRule {l : Launch} {Z : li_Z} (d : Nat) (hd : 338 ≤ d) (M0 : li_M) (hJ : li_J M0) : li_Met l Z YX12_readRule d [.ref (Z.2.2 175)] M0 (fun r M' => ((r = some (.int 1) ∧ ((M0.1 175 7).toInt ≤ 40)) ∨ (r = some (.int 0) ∧ True)) ∧ li_fs (fun i k => i = 1000 ∨ (i = 175 ∧ k = 12) ∨ (i = 175 ∧ k = 13) ∨ (i = 175 ∧ k = 14) ∨ (i = 175 ∧ k = 15) ∨ (i = 175 ∧ k = 20) ∨ (i = 175 ∧ k = 7)) M0 M' ∧ li_J M') := by
  refine li_enter (by decide +kernel) (Nat.le_of_ble_eq_true rfl) ?_
  show li_T l Z YX12_readRule d 0 [(0, .ref (Z.2.2 175))] [] M0 _
  have hf : li_fs (fun i k => i = 1000 ∨ (i = 175 ∧ k = 12) ∨ (i = 175 ∧ k = 13) ∨ (i = 175 ∧ k = 14) ∨ (i = 175 ∧ k = 15) ∨ (i = 175 ∧ k = 20) ∨ (i = 175 ∧ k = 7)) M0 M0 := li_fs_refl
  have rM0_7 := J_sl7 (M := M0) hJ
  have rM0_12 := J_sl12 (M := M0) hJ
  have rM0_13 := J_sl13 (M := M0) hJ
  have rM0_14 := J_sl14 (M := M0) hJ
  have rM0_15 := J_sl15 (M := M0) hJ
  refine li_aload_n 0 dX12_readRule_0 rfl ?_
  refine li_geti (k := 7) (N := 52) (T := TX12) (C0 := RX12) dX12_readRule_1 (by decide) sh_175 rfl rfl (by decide) li_in12 w_1411 ?_
  refine li_top (fun x1 ex1 => ?_)
  have gx1 : 0 ≤ x1.toInt ∧ x1.toInt ≤ 80 := by rw [ex1]; exact J_sl7 hJ
  have mx1 : x1.toInt = (M0.1 175 7).toInt := tl_slot ex1
  refine li_istore_n [(1, .int x1), (0, .ref (Z.2.2 175))] dX12_readRule_4 (by decide) rfl ?_
  refine li_aload_n 1 dX12_readRule_5 rfl ?_
  refine li_aload_n 1 dX12_readRule_6 rfl ?_
  refine li_getr (k := 6) (N := 52) (T := TX12) (C0 := RX12) dX12_readRule_7 (by decide) sh_175 rfl rfl (by decide) (by decide) li_in12 w_1410 ?_
  refine li_iload_n 0 dX12_readRule_10 rfl ?_
  refine li_bipush 40 dX12_readRule_11 (by decide) ?_
  have z40 : (40 : Int32).toInt = 40 := rfl
  refine li_callV (n := 3) (As := [.ref (Z.2.2 180), .int x1, .int 40]) dX12_readRule_13 (k_X12_begin (d - 1) (by unfold li_rq; omega) x1 40 M0 hJ (show 0 ≤ (x1 : Int32).toInt ∧ (x1 : Int32).toInt ≤ (li_qn 180 : Int) by have := li_qn_fix; omega) (by omega)) (by omega) (Nat.le_of_ble_eq_true rfl) w_1577 w_1579 w_42 w_112 w_1580 (by decide +kernel) rfl (by decide) sh_175 rfl rfl (Nat.le_of_ble_eq_true rfl) (fun r M3 h4 => ?_)
  obtain ⟨rfl, h4, jM3, nM3⟩ := h4
  have hf := li_fs_trans hf h4 (fun i k => fun h => Or.elim h (fun h => Or.inr (Or.inl h)) (fun h => Or.elim h (fun h => Or.inr (Or.inr (Or.inl h))) (fun h => Or.elim h (fun h => Or.inr (Or.inr (Or.inr (Or.inl h)))) (fun h => Or.elim h (fun h => Or.inr (Or.inr (Or.inr (Or.inr (Or.inl h))))) (fun h => Or.inl h)))))
  have hJ := jM3
  have rM3_7 := J_sl7 (M := M3) hJ
  have rM3_12 := J_sl12 (M := M3) hJ
  have rM3_13 := J_sl13 (M := M3) hJ
  have rM3_14 := J_sl14 (M := M3) hJ
  have rM3_15 := J_sl15 (M := M3) hJ
  have mM3_7 : (M3.1 175 7).toInt = (M0.1 175 7).toInt := tl_slot (h4.1 175 7 (show ¬ ((175 = 175 ∧ 7 = 12) ∨ (175 = 175 ∧ 7 = 13) ∨ (175 = 175 ∧ 7 = 14) ∨ (175 = 175 ∧ 7 = 15) ∨ 175 = 1000) by decide))
  refine li_aload_n 1 dX12_readRule_16 rfl ?_
  refine li_iconst 0 dX12_readRule_17 (by decide) ?_
  refine li_puti (k := 7) (N := 52) (T := TX12) (C0 := RX12) dX12_readRule_18 (by decide) sh_175 rfl rfl (by decide) li_in12 tyX12_ok nmX12 rfl rfl rfl rfl w_1411 ?_
  refine li_nm (fun M5 eM5 => ?_)
  have hf := li_fs_ui hf (Or.inr (Or.inr (Or.inr (Or.inr (Or.inr (Or.inr (⟨rfl, rfl⟩))))))) eM5
  have z0 : (0 : Int32).toInt = 0 := rfl
  have hJ := J_pt7 hJ (show 0 ≤ (0 : Int32).toInt ∧ (0 : Int32).toInt ≤ 80 by omega) eM5
  have rM5_7 := J_sl7 (M := M5) hJ
  have rM5_12 := J_sl12 (M := M5) hJ
  have rM5_13 := J_sl13 (M := M5) hJ
  have rM5_14 := J_sl14 (M := M5) hJ
  have rM5_15 := J_sl15 (M := M5) hJ
  have mM5_7 : (M5.1 175 7).toInt = 0 := by rw [eM5, li_ui_at, if_pos rfl, if_pos rfl]; rfl
  have mM5_12 : (M5.1 175 12).toInt = (M3.1 175 12).toInt := by rw [eM5, li_ui_at, if_pos rfl, if_neg (by decide)]
  have mM5_13 : (M5.1 175 13).toInt = (M3.1 175 13).toInt := by rw [eM5, li_ui_at, if_pos rfl, if_neg (by decide)]
  have mM5_14 : (M5.1 175 14).toInt = (M3.1 175 14).toInt := by rw [eM5, li_ui_at, if_pos rfl, if_neg (by decide)]
  have mM5_15 : (M5.1 175 15).toInt = (M3.1 175 15).toInt := by rw [eM5, li_ui_at, if_pos rfl, if_neg (by decide)]
  refine li_aload_n 1 dX12_readRule_21 rfl ?_
  refine li_iconst 0 dX12_readRule_22 (by decide) ?_
  refine li_puti (k := 20) (N := 52) (T := TX12) (C0 := RX12) dX12_readRule_23 (by decide) sh_175 rfl rfl (by decide) li_in12 tyX12_ok nmX12 rfl rfl (li_nz (Or.inl rfl)) (li_fz (Or.inl rfl)) w_1424 ?_
  refine li_nm (fun M6 eM6 => ?_)
  have hf := li_fs_ui hf (Or.inr (Or.inr (Or.inr (Or.inr (Or.inr (Or.inl ⟨rfl, rfl⟩)))))) eM6
  have z0 : (0 : Int32).toInt = 0 := rfl
  have hJ := hJ.put (k := 20) (by decide) (rg_free rfl) eM6
  have rM6_7 := J_sl7 (M := M6) hJ
  have rM6_12 := J_sl12 (M := M6) hJ
  have rM6_13 := J_sl13 (M := M6) hJ
  have rM6_14 := J_sl14 (M := M6) hJ
  have rM6_15 := J_sl15 (M := M6) hJ
  have mM6_7 : (M6.1 175 7).toInt = (M5.1 175 7).toInt := by rw [eM6, li_ui_at, if_pos rfl, if_neg (by decide)]
  have mM6_12 : (M6.1 175 12).toInt = (M5.1 175 12).toInt := by rw [eM6, li_ui_at, if_pos rfl, if_neg (by decide)]
  have mM6_13 : (M6.1 175 13).toInt = (M5.1 175 13).toInt := by rw [eM6, li_ui_at, if_pos rfl, if_neg (by decide)]
  have mM6_14 : (M6.1 175 14).toInt = (M5.1 175 14).toInt := by rw [eM6, li_ui_at, if_pos rfl, if_neg (by decide)]
  have mM6_15 : (M6.1 175 15).toInt = (M5.1 175 15).toInt := by rw [eM6, li_ui_at, if_pos rfl, if_neg (by decide)]
  refine li_iload_n 0 dX12_readRule_26 rfl ?_
  refine li_if_le 52 dX12_readRule_27 (by decide) (fun c7 => ?_) (fun c7 => ?_)
  · have tc7 : x1.toInt ≤ 0 := tl_le c7
    refine li_aload_n 1 dX12_readRule_52 rfl ?_
    refine li_callV (n := 0) (As := []) dX12_readRule_53 (k_X12_fine (d - 1) (by omega)  M6 hJ ) (by omega) (Nat.le_of_ble_eq_true rfl) w_1581 w_1583 w_43 w_112 w_1584 (by decide +kernel) rfl (by decide) sh_175 rfl rfl (Nat.le_of_ble_eq_true rfl) (fun r M9 h10 => ?_)
    obtain ⟨qx8, h10, jM9⟩ := h10
    have hf := li_fs_trans hf h10 (fun i k h => False.elim h)
    have hJ := jM9
    have rM9_7 := J_sl7 (M := M9) hJ
    have rM9_12 := J_sl12 (M := M9) hJ
    have rM9_13 := J_sl13 (M := M9) hJ
    have rM9_14 := J_sl14 (M := M9) hJ
    have rM9_15 := J_sl15 (M := M9) hJ
    have mM9_7 : (M9.1 175 7).toInt = (M6.1 175 7).toInt := tl_slot (h10.1 175 7 id)
    have mM9_12 : (M9.1 175 12).toInt = (M6.1 175 12).toInt := tl_slot (h10.1 175 12 id)
    have mM9_13 : (M9.1 175 13).toInt = (M6.1 175 13).toInt := tl_slot (h10.1 175 13 id)
    have mM9_14 : (M9.1 175 14).toInt = (M6.1 175 14).toInt := tl_slot (h10.1 175 14 id)
    have mM9_15 : (M9.1 175 15).toInt = (M6.1 175 15).toInt := tl_slot (h10.1 175 15 id)
    rcases qx8 with ⟨rfl, qx8⟩ | ⟨rfl, qx8⟩
    · skip
      have z1 : (1 : Int32).toInt = 1 := rfl
      exact li_iret dX12_readRule_56 rfl (li_nz (Or.inr rfl)) ⟨Or.inl ⟨rfl, (by omega)⟩, hf, hJ⟩
    · skip
      have z0 : (0 : Int32).toInt = 0 := rfl
      exact li_iret dX12_readRule_56 rfl (li_nz (Or.inl rfl)) ⟨Or.inr ⟨rfl, trivial⟩, hf, hJ⟩
  · have tc7 : 0 < x1.toInt := tl_nle c7
    refine li_aload_n 1 dX12_readRule_30 rfl ?_
    refine li_iconst 0 dX12_readRule_31 (by decide) ?_
    have z0 : (0 : Int32).toInt = 0 := rfl
    refine li_callV (n := 1) (As := [.int 0]) dX12_readRule_32 ((kk_parse 81).2.2.2 0 M6 (d - 1) hJ (by have := J_sl14 hJ; omega) (by omega)) (by omega) (Nat.le_of_ble_eq_true rfl) w_1625 w_1627 w_52 w_112 w_1628 (by decide +kernel) rfl (by decide) sh_175 rfl rfl (Nat.le_of_ble_eq_true rfl) (fun r M12 h13 => ?_)
    obtain ⟨⟨x11, rfl, qx11⟩, h13, jM12⟩ := h13
    have gx11 := tl_rg x11
    have hf := li_fs_trans hf h13 (fun i k => fun h => Or.elim h (fun h => Or.inr (Or.inr (Or.inr (Or.inl h)))) (fun h => Or.inr (Or.inr (Or.inr (Or.inr (Or.inl h))))))
    have hJ := jM12
    have rM12_7 := J_sl7 (M := M12) hJ
    have rM12_12 := J_sl12 (M := M12) hJ
    have rM12_13 := J_sl13 (M := M12) hJ
    have rM12_14 := J_sl14 (M := M12) hJ
    have rM12_15 := J_sl15 (M := M12) hJ
    have mM12_7 : (M12.1 175 7).toInt = (M6.1 175 7).toInt := tl_slot (h13.1 175 7 (show ¬ ((175 = 175 ∧ 7 = 14) ∨ (175 = 175 ∧ 7 = 15)) by decide))
    have mM12_12 : (M12.1 175 12).toInt = (M6.1 175 12).toInt := tl_slot (h13.1 175 12 (show ¬ ((175 = 175 ∧ 12 = 14) ∨ (175 = 175 ∧ 12 = 15)) by decide))
    have mM12_13 : (M12.1 175 13).toInt = (M6.1 175 13).toInt := tl_slot (h13.1 175 13 (show ¬ ((175 = 175 ∧ 13 = 14) ∨ (175 = 175 ∧ 13 = 15)) by decide))
    refine li_pop dX12_readRule_35 rfl ?_
    refine li_aload_n 1 dX12_readRule_36 rfl ?_
    refine li_geti (k := 14) (N := 52) (T := TX12) (C0 := RX12) dX12_readRule_37 (by decide) sh_175 rfl rfl (by decide) li_in12 w_1418 ?_
    refine li_top (fun x14 ex14 => ?_)
    have gx14 : 0 ≤ x14.toInt ∧ x14.toInt ≤ 81 := by rw [ex14]; exact J_sl14 hJ
    have mx14 : x14.toInt = (M12.1 175 14).toInt := tl_slot ex14
    refine li_iload_n 0 dX12_readRule_40 rfl ?_
    refine li_icmp_ge 52 dX12_readRule_41 (by decide) (fun c15 => ?_) (fun c15 => ?_)
    · have tc15 : x1.toInt ≤ x14.toInt := tl_le c15
      refine li_aload_n 1 dX12_readRule_52 rfl ?_
      refine li_callV (n := 0) (As := []) dX12_readRule_53 (k_X12_fine (d - 1) (by omega)  M12 hJ ) (by omega) (Nat.le_of_ble_eq_true rfl) w_1581 w_1583 w_43 w_112 w_1584 (by decide +kernel) rfl (by decide) sh_175 rfl rfl (Nat.le_of_ble_eq_true rfl) (fun r M17 h18 => ?_)
      obtain ⟨qx16, h18, jM17⟩ := h18
      have hf := li_fs_trans hf h18 (fun i k h => False.elim h)
      have hJ := jM17
      have rM17_7 := J_sl7 (M := M17) hJ
      have rM17_12 := J_sl12 (M := M17) hJ
      have rM17_13 := J_sl13 (M := M17) hJ
      have rM17_14 := J_sl14 (M := M17) hJ
      have rM17_15 := J_sl15 (M := M17) hJ
      have mM17_7 : (M17.1 175 7).toInt = (M12.1 175 7).toInt := tl_slot (h18.1 175 7 id)
      have mM17_12 : (M17.1 175 12).toInt = (M12.1 175 12).toInt := tl_slot (h18.1 175 12 id)
      have mM17_13 : (M17.1 175 13).toInt = (M12.1 175 13).toInt := tl_slot (h18.1 175 13 id)
      have mM17_14 : (M17.1 175 14).toInt = (M12.1 175 14).toInt := tl_slot (h18.1 175 14 id)
      have mM17_15 : (M17.1 175 15).toInt = (M12.1 175 15).toInt := tl_slot (h18.1 175 15 id)
      rcases qx16 with ⟨rfl, qx16⟩ | ⟨rfl, qx16⟩
      · skip
        have z1 : (1 : Int32).toInt = 1 := rfl
        exact li_iret dX12_readRule_56 rfl (li_nz (Or.inr rfl)) ⟨Or.inl ⟨rfl, (by omega)⟩, hf, hJ⟩
      · skip
        have z0 : (0 : Int32).toInt = 0 := rfl
        exact li_iret dX12_readRule_56 rfl (li_nz (Or.inl rfl)) ⟨Or.inr ⟨rfl, trivial⟩, hf, hJ⟩
    · have tc15 : x14.toInt < x1.toInt := tl_nle c15
      refine li_aload_n 1 dX12_readRule_44 rfl ?_
      refine li_aload_n 1 dX12_readRule_45 rfl ?_
      refine li_geti (k := 14) (N := 52) (T := TX12) (C0 := RX12) dX12_readRule_46 (by decide) sh_175 rfl rfl (by decide) li_in12 w_1418 ?_
      refine li_top (fun x19 ex19 => ?_)
      have gx19 : 0 ≤ x19.toInt ∧ x19.toInt ≤ 81 := by rw [ex19]; exact J_sl14 hJ
      have mx19 : x19.toInt = (M12.1 175 14).toInt := tl_slot ex19
      refine li_callV (n := 1) (As := [.int x19]) dX12_readRule_49 (k_X12_fault (d - 1) (by omega) x19 M12 hJ (by omega)) (by omega) (Nat.le_of_ble_eq_true rfl) w_1585 w_1587 w_44 w_112 w_1588 (by decide +kernel) rfl (by decide) sh_175 rfl rfl (Nat.le_of_ble_eq_true rfl) (fun r M21 h22 => ?_)
      obtain ⟨rfl, h22, jM21, nM21⟩ := h22
      have hf := li_fs_trans hf h22 (fun i k => fun h => Or.inr (Or.inr (Or.inr (Or.inr (Or.inl h)))))
      have hJ := jM21
      have rM21_7 := J_sl7 (M := M21) hJ
      have rM21_12 := J_sl12 (M := M21) hJ
      have rM21_13 := J_sl13 (M := M21) hJ
      have rM21_14 := J_sl14 (M := M21) hJ
      have rM21_15 := J_sl15 (M := M21) hJ
      have mM21_7 : (M21.1 175 7).toInt = (M12.1 175 7).toInt := tl_slot (h22.1 175 7 (show ¬ ((175 = 175 ∧ 7 = 15)) by decide))
      have mM21_12 : (M21.1 175 12).toInt = (M12.1 175 12).toInt := tl_slot (h22.1 175 12 (show ¬ ((175 = 175 ∧ 12 = 15)) by decide))
      have mM21_13 : (M21.1 175 13).toInt = (M12.1 175 13).toInt := tl_slot (h22.1 175 13 (show ¬ ((175 = 175 ∧ 13 = 15)) by decide))
      have mM21_14 : (M21.1 175 14).toInt = (M12.1 175 14).toInt := tl_slot (h22.1 175 14 (show ¬ ((175 = 175 ∧ 14 = 15)) by decide))
      refine li_aload_n 1 dX12_readRule_52 rfl ?_
      refine li_callV (n := 0) (As := []) dX12_readRule_53 (k_X12_fine (d - 1) (by omega)  M21 hJ ) (by omega) (Nat.le_of_ble_eq_true rfl) w_1581 w_1583 w_43 w_112 w_1584 (by decide +kernel) rfl (by decide) sh_175 rfl rfl (Nat.le_of_ble_eq_true rfl) (fun r M24 h25 => ?_)
      obtain ⟨qx23, h25, jM24⟩ := h25
      have hf := li_fs_trans hf h25 (fun i k h => False.elim h)
      have hJ := jM24
      have rM24_7 := J_sl7 (M := M24) hJ
      have rM24_12 := J_sl12 (M := M24) hJ
      have rM24_13 := J_sl13 (M := M24) hJ
      have rM24_14 := J_sl14 (M := M24) hJ
      have rM24_15 := J_sl15 (M := M24) hJ
      have mM24_7 : (M24.1 175 7).toInt = (M21.1 175 7).toInt := tl_slot (h25.1 175 7 id)
      have mM24_12 : (M24.1 175 12).toInt = (M21.1 175 12).toInt := tl_slot (h25.1 175 12 id)
      have mM24_13 : (M24.1 175 13).toInt = (M21.1 175 13).toInt := tl_slot (h25.1 175 13 id)
      have mM24_14 : (M24.1 175 14).toInt = (M21.1 175 14).toInt := tl_slot (h25.1 175 14 id)
      have mM24_15 : (M24.1 175 15).toInt = (M21.1 175 15).toInt := tl_slot (h25.1 175 15 id)
      rcases qx23 with ⟨rfl, qx23⟩ | ⟨rfl, qx23⟩
      · skip
        have z1 : (1 : Int32).toInt = 1 := rfl
        exact li_iret dX12_readRule_56 rfl (li_nz (Or.inr rfl)) ⟨Or.inl ⟨rfl, (by omega)⟩, hf, hJ⟩
      · skip
        have z0 : (0 : Int32).toInt = 0 := rfl
        exact li_iret dX12_readRule_56 rfl (li_nz (Or.inl rfl)) ⟨Or.inr ⟨rfl, trivial⟩, hf, hJ⟩
set_option maxRecDepth 100000 in
set_option maxHeartbeats 4000000 in
theorem k_X12_rule {l : Launch} {Z : li_Z} (d : Nat) (hd : 339 ≤ d) (M0 : li_M) (hJ : li_J M0) : li_Met l Z YX12_rule d [.ref (Z.2.2 175)] M0 (fun r M' => (∃ x : Int32, r = some (.int x)) ∧ li_fs (fun i k => i = 183 ∨ i = 184 ∨ i = 1000 ∨ (i = 175 ∧ k = 10) ∨ (i = 175 ∧ k = 12) ∨ (i = 175 ∧ k = 13) ∨ (i = 175 ∧ k = 14) ∨ (i = 175 ∧ k = 15) ∨ (i = 175 ∧ k = 18) ∨ (i = 175 ∧ k = 20) ∨ (i = 175 ∧ k = 7)) M0 M' ∧ li_J M') := by
  refine li_enter (by decide +kernel) (Nat.le_of_ble_eq_true rfl) ?_
  show li_T l Z YX12_rule d 0 [(0, .ref (Z.2.2 175))] [] M0 _
  have hf : li_fs (fun i k => i = 183 ∨ i = 184 ∨ i = 1000 ∨ (i = 175 ∧ k = 10) ∨ (i = 175 ∧ k = 12) ∨ (i = 175 ∧ k = 13) ∨ (i = 175 ∧ k = 14) ∨ (i = 175 ∧ k = 15) ∨ (i = 175 ∧ k = 18) ∨ (i = 175 ∧ k = 20) ∨ (i = 175 ∧ k = 7)) M0 M0 := li_fs_refl
  have rM0_7 := J_sl7 (M := M0) hJ
  refine li_aload_n 0 dX12_rule_0 rfl ?_
  refine li_iconst 0 dX12_rule_1 (by decide) ?_
  refine li_puti (k := 10) (N := 52) (T := TX12) (C0 := RX12) dX12_rule_2 (by decide) sh_175 rfl rfl (by decide) li_in12 tyX12_ok nmX12 rfl rfl rfl rfl w_1414 ?_
  refine li_nm (fun M1 eM1 => ?_)
  have hf := li_fs_ui hf (Or.inr (Or.inr (Or.inr (Or.inl ⟨rfl, rfl⟩)))) eM1
  have z0 : (0 : Int32).toInt = 0 := rfl
  have hJ := hJ.put (k := 10) (by decide) (rg_free rfl) eM1
  have rM1_7 := J_sl7 (M := M1) hJ
  have mM1_7 : (M1.1 175 7).toInt = (M0.1 175 7).toInt := by rw [eM1, li_ui_at, if_pos rfl, if_neg (by decide)]
  refine li_aload_n 0 dX12_rule_5 rfl ?_
  refine li_geti (k := 7) (N := 52) (T := TX12) (C0 := RX12) dX12_rule_6 (by decide) sh_175 rfl rfl (by decide) li_in12 w_1411 ?_
  refine li_top (fun x2 ex2 => ?_)
  have gx2 : 0 ≤ x2.toInt ∧ x2.toInt ≤ 80 := by rw [ex2]; exact J_sl7 hJ
  have mx2 : x2.toInt = (M1.1 175 7).toInt := tl_slot ex2
  refine li_istore_n [(1, .int x2), (0, .ref (Z.2.2 175))] dX12_rule_9 (by decide) rfl ?_
  refine li_aload_n 1 dX12_rule_10 rfl ?_
  refine li_callV (n := 0) (As := []) dX12_rule_11 (k_X12_readRule (d - 1) (by omega)  M1 hJ ) (by omega) (Nat.le_of_ble_eq_true rfl) w_1621 w_1623 w_51 w_112 w_1624 (by decide +kernel) rfl (by decide) sh_175 rfl rfl (Nat.le_of_ble_eq_true rfl) (fun r M4 h5 => ?_)
  obtain ⟨qx3, h5, jM4⟩ := h5
  have hf := li_fs_trans hf h5 (fun i k => fun h => Or.elim h (fun h => Or.inr (Or.inr (Or.inl h))) (fun h => Or.elim h (fun h => Or.inr (Or.inr (Or.inr (Or.inr (Or.inl h))))) (fun h => Or.elim h (fun h => Or.inr (Or.inr (Or.inr (Or.inr (Or.inr (Or.inl h)))))) (fun h => Or.elim h (fun h => Or.inr (Or.inr (Or.inr (Or.inr (Or.inr (Or.inr (Or.inl h))))))) (fun h => Or.elim h (fun h => Or.inr (Or.inr (Or.inr (Or.inr (Or.inr (Or.inr (Or.inr (Or.inl h)))))))) (fun h => Or.elim h (fun h => Or.inr (Or.inr (Or.inr (Or.inr (Or.inr (Or.inr (Or.inr (Or.inr (Or.inr (Or.inl h)))))))))) (fun h => Or.inr (Or.inr (Or.inr (Or.inr (Or.inr (Or.inr (Or.inr (Or.inr (Or.inr (Or.inr h))))))))))))))))
  have hJ := jM4
  have rM4_7 := J_sl7 (M := M4) hJ
  rcases qx3 with ⟨rfl, qx3⟩ | ⟨rfl, qx3⟩
  · skip
    refine li_if_ne 24 dX12_rule_14 (by decide) (fun c => ?_) (fun c => absurd c (by decide))
    refine li_iconst 0 dX12_rule_24 (by decide) ?_
    refine li_istore_n [(2, .int 0), (1, .int x2), (0, .ref (Z.2.2 175))] dX12_rule_25 (by decide) rfl ?_
    have L26 : ∀ (n : Nat) (x7 : Int32) (M8 : li_M), ((x2 : Int32).toInt - (x7 : Int32).toInt).toNat < n → li_fs (fun i k => i = 183 ∨ i = 184 ∨ i = 1000 ∨ (i = 175 ∧ k = 10) ∨ (i = 175 ∧ k = 12) ∨ (i = 175 ∧ k = 13) ∨ (i = 175 ∧ k = 14) ∨ (i = 175 ∧ k = 15) ∨ (i = 175 ∧ k = 18) ∨ (i = 175 ∧ k = 20) ∨ (i = 175 ∧ k = 7)) M0 M8 → li_J M8 → 0 ≤ (x7 : Int32).toInt → li_T l Z YX12_rule d 26 [(2, .int x7), (1, .int x2), (0, .ref (Z.2.2 175))] [] M8 (fun r M' => (∃ x : Int32, r = some (.int x)) ∧ li_fs (fun i k => i = 183 ∨ i = 184 ∨ i = 1000 ∨ (i = 175 ∧ k = 10) ∨ (i = 175 ∧ k = 12) ∨ (i = 175 ∧ k = 13) ∨ (i = 175 ∧ k = 14) ∨ (i = 175 ∧ k = 15) ∨ (i = 175 ∧ k = 18) ∨ (i = 175 ∧ k = 20) ∨ (i = 175 ∧ k = 7)) M0 M' ∧ li_J M') := by
      intro n
      induction n with
      | zero => intro x7 M8 hn; exact absurd hn (Nat.not_lt_zero _)
      | succ n ih26 =>
        intro x7 M8 hn hf hJ hi
        have gx7 := tl_rg x7
        have rM8_7 := J_sl7 (M := M8) hJ
        refine li_iload_n 0 dX12_rule_26 rfl ?_
        refine li_iload_n 1 dX12_rule_27 rfl ?_
        refine li_icmp_ge 49 dX12_rule_28 (by decide) (fun c9 => ?_) (fun c9 => ?_)
        · have tc9 : x2.toInt ≤ x7.toInt := tl_le c9
          refine li_aload_n 2 dX12_rule_49 rfl ?_
          refine li_iload_n 1 dX12_rule_50 rfl ?_
          refine li_puti (k := 18) (N := 52) (T := TX12) (C0 := RX12) dX12_rule_51 (by decide) sh_175 rfl rfl (by decide) li_in12 tyX12_ok nmX12 rfl rfl rfl rfl w_1422 ?_
          refine li_nm (fun M10 eM10 => ?_)
          have hf := li_fs_ui hf (Or.inr (Or.inr (Or.inr (Or.inr (Or.inr (Or.inr (Or.inr (Or.inr (Or.inl ⟨rfl, rfl⟩))))))))) eM10
          have hJ := J_pt18 hJ (show 0 ≤ (x2 : Int32).toInt ∧ (x2 : Int32).toInt ≤ 40 by omega) eM10
          have rM10_7 := J_sl7 (M := M10) hJ
          have mM10_7 : (M10.1 175 7).toInt = (M8.1 175 7).toInt := by rw [eM10, li_ui_at, if_pos rfl, if_neg (by decide)]
          refine li_iconst 0 dX12_rule_54 (by decide) ?_
          have z0 : (0 : Int32).toInt = 0 := rfl
          exact li_iret dX12_rule_55 rfl rfl ⟨⟨_, rfl⟩, hf, hJ⟩
        · have tc9 : x7.toInt < x2.toInt := tl_nle c9
          refine li_aload_n 2 dX12_rule_31 rfl ?_
          obtain ⟨q11, hq11, rq11⟩ := hJ.2.2.1
          refine li_getm (r := 1) (k := 17) (N := 52) (T := TX12) (C0 := RX12) dX12_rule_32 (by decide) sh_175 rfl rfl hq11 (by decide) li_in12 w_1421 ?_
          refine li_iload_n 0 dX12_rule_35 rfl ?_
          refine li_aload_n 2 dX12_rule_36 rfl ?_
          refine li_getr (k := 6) (N := 52) (T := TX12) (C0 := RX12) dX12_rule_37 (by decide) sh_175 rfl rfl (by decide) (by decide) li_in12 w_1410 ?_
          refine li_iload_n 0 dX12_rule_40 rfl ?_
          refine li_bald dX12_rule_41 (by decide) sh_180 (tl_in (by omega)) ?_
          refine li_top (fun x12 ex12 => ?_)
          have gx12 := tl_rg x12
          refine li_bast dX12_rule_42 (snU rq11) (shU rq11) (tl_in (by omega)) ?_
          have uM13 : q11 = 183 ∨ q11 = 184 := rq11
          refine li_nm (fun M13 eM13 => ?_)
          have hf := li_fs_ui hf (show q11 = 183 ∨ q11 = 184 ∨ q11 = 1000 ∨ (q11 = 175 ∧ (x7 : Int32).toNatClampNeg = 10) ∨ (q11 = 175 ∧ (x7 : Int32).toNatClampNeg = 12) ∨ (q11 = 175 ∧ (x7 : Int32).toNatClampNeg = 13) ∨ (q11 = 175 ∧ (x7 : Int32).toNatClampNeg = 14) ∨ (q11 = 175 ∧ (x7 : Int32).toNatClampNeg = 15) ∨ (q11 = 175 ∧ (x7 : Int32).toNatClampNeg = 18) ∨ (q11 = 175 ∧ (x7 : Int32).toNatClampNeg = 20) ∨ (q11 = 175 ∧ (x7 : Int32).toNatClampNeg = 7) by omega) eM13
          have hJ := hJ.st (by unfold li_rl at rq11; omega) (li_el_byte (rl_rq rq11)) eM13
          have rM13_7 := J_sl7 (M := M13) hJ
          have mM13_7 : (M13.1 175 7).toInt = (M8.1 175 7).toInt := by rw [eM13, li_ui_at, if_neg (by unfold li_rl at rq11; omega)]
          obtain ⟨x14, ex14⟩ : ∃ y : Int32, y = x7 + 1 := ⟨_, rfl⟩
          have z1 : (1 : Int32).toInt = 1 := rfl
          try (have tx14 : x14.toInt = (x7 : Int32).toInt + (1 : Int32).toInt := tl_add ex14 (by omega))
          refine li_iinc 0 [(2, .int x14), (1, .int x2), (0, .ref (Z.2.2 175))] x14 dX12_rule_43 rfl (by rw [ex14]; rfl) (by decide) rfl ?_
          refine li_goto 26 dX12_rule_46 (by decide) ?_
          refine li_pick [0, 1, 2] [(2, .int x14), (1, .int x2), (0, .ref (Z.2.2 175))] rfl ?_
          exact ih26 x14 M13 (by omega) hf hJ (by omega)
    have z0 : (0 : Int32).toInt = 0 := rfl
    exact L26 _ 0 M4 (Nat.lt_succ_self _) hf hJ (by omega)
  · skip
    refine li_if_ne 24 dX12_rule_14 (by decide) (fun c => absurd rfl c) (fun c => ?_)
    refine li_iconst (-1) dX12_rule_17 (by decide) ?_
    refine li_aload_n 1 dX12_rule_18 rfl ?_
    refine li_geti (k := 15) (N := 52) (T := TX12) (C0 := RX12) dX12_rule_19 (by decide) sh_175 rfl rfl (by decide) li_in12 w_1419 ?_
    refine li_top (fun x16 ex16 => ?_)
    have gx16 : -1 ≤ x16.toInt ∧ x16.toInt ≤ 81 := by rw [ex16]; exact J_sl15 hJ
    have mx16 : x16.toInt = (M4.1 175 15).toInt := tl_slot ex16
    refine li_isub dX12_rule_22 ?_
    refine li_top (fun x17 ex17 => ?_)
    have zm1 : ((-1) : Int32).toInt = -1 := rfl
    try (have tx17 : x17.toInt = ((-1) : Int32).toInt - (x16 : Int32).toInt := tl_sub ex17 (by omega))
    exact li_iret dX12_rule_23 rfl rfl ⟨⟨_, rfl⟩, hf, hJ⟩
set_option maxRecDepth 100000 in
set_option maxHeartbeats 4000000 in
theorem k_X12_costBy {l : Launch} {Z : li_Z} (d : Nat) (hd : 338 ≤ d) (p1 p2 p3 p4 p5 p6 : Int32) (M0 : li_M) (hJ : li_J M0) : li_Met l Z YX12_costBy d [.ref (Z.2.2 175), .int p1, .int p2, .int p3, .int p4, .int p5, .int p6] M0 (fun r M' => (∃ x : Int32, r = some (.int x) ∧ (0 ≤ x.toInt ∧ x.toInt ≤ 999)) ∧ li_fs (fun i k => i = 185 ∨ i = 1000 ∨ (i = 175 ∧ k = 12) ∨ (i = 175 ∧ k = 13) ∨ (i = 175 ∧ k = 14) ∨ (i = 175 ∧ k = 15) ∨ (i = 175 ∧ k = 20)) M0 M' ∧ li_J M') := by
  refine li_enter (by decide +kernel) (Nat.le_of_ble_eq_true rfl) ?_
  show li_T l Z YX12_costBy d 0 [(0, .ref (Z.2.2 175)), (1, .int p1), (2, .int p2), (3, .int p3), (4, .int p4), (5, .int p5), (6, .int p6)] [] M0 _
  have hf : li_fs (fun i k => i = 185 ∨ i = 1000 ∨ (i = 175 ∧ k = 12) ∨ (i = 175 ∧ k = 13) ∨ (i = 175 ∧ k = 14) ∨ (i = 175 ∧ k = 15) ∨ (i = 175 ∧ k = 20)) M0 M0 := li_fs_refl
  have gp1 := tl_rg p1
  have gp2 := tl_rg p2
  have gp3 := tl_rg p3
  have gp4 := tl_rg p4
  have gp5 := tl_rg p5
  have gp6 := tl_rg p6
  have rM0_18 := J_sl18 (M := M0) hJ
  refine li_iload_n 3 dX12_costBy_0 rfl ?_
  have J37 : ∀ (x2 : Int32) (M3 : li_M), li_fs (fun i k => i = 185 ∨ i = 1000 ∨ (i = 175 ∧ k = 12) ∨ (i = 175 ∧ k = 13) ∨ (i = 175 ∧ k = 14) ∨ (i = 175 ∧ k = 15) ∨ (i = 175 ∧ k = 20)) M0 M3 → li_J M3 → li_T l Z YX12_costBy d 37 [(0, .ref (Z.2.2 175)), (1, .int p1), (2, .int p2), (3, .int p3), (4, .int p4), (5, .int p5), (6, .int p6)] [.int x2] M3 (fun r M' => (∃ x : Int32, r = some (.int x) ∧ (0 ≤ x.toInt ∧ x.toInt ≤ 999)) ∧ li_fs (fun i k => i = 185 ∨ i = 1000 ∨ (i = 175 ∧ k = 12) ∨ (i = 175 ∧ k = 13) ∨ (i = 175 ∧ k = 14) ∨ (i = 175 ∧ k = 15) ∨ (i = 175 ∧ k = 20)) M0 M' ∧ li_J M') := by
    intro x2 M3 hf hJ
    have gx2 := tl_rg x2
    have rM3_18 := J_sl18 (M := M3) hJ
    have mM3_18 : (M3.1 175 18).toInt = (M0.1 175 18).toInt := tl_slot (hf.1 175 18 (show ¬ (175 = 185 ∨ 175 = 1000 ∨ (175 = 175 ∧ 18 = 12) ∨ (175 = 175 ∧ 18 = 13) ∨ (175 = 175 ∧ 18 = 14) ∨ (175 = 175 ∧ 18 = 15) ∨ (175 = 175 ∧ 18 = 20)) by decide))
    refine li_istore [(7, .int x2), (0, .ref (Z.2.2 175)), (1, .int p1), (2, .int p2), (3, .int p3), (4, .int p4), (5, .int p5), (6, .int p6)] dX12_costBy_37 (by decide) rfl ?_
    refine li_aload_n 1 dX12_costBy_39 rfl ?_
    refine li_geti (k := 18) (N := 52) (T := TX12) (C0 := RX12) dX12_costBy_40 (by decide) sh_175 rfl rfl (by decide) li_in12 w_1422 ?_
    refine li_top (fun x4 ex4 => ?_)
    have gx4 : 0 ≤ x4.toInt ∧ x4.toInt ≤ 40 := by rw [ex4]; exact J_sl18 hJ
    have mx4 : x4.toInt = (M3.1 175 18).toInt := tl_slot ex4
    have sx4 : x4.toInt = (M0.1 175 18).toInt := tl_slot (ex4.trans (hf.1 175 18 (show ¬ (175 = 185 ∨ 175 = 1000 ∨ (175 = 175 ∧ 18 = 12) ∨ (175 = 175 ∧ 18 = 13) ∨ (175 = 175 ∧ 18 = 14) ∨ (175 = 175 ∧ 18 = 15) ∨ (175 = 175 ∧ 18 = 20)) by decide)))
    refine li_if_le 125 dX12_costBy_43 (by decide) (fun c5 => ?_) (fun c5 => ?_)
    · have tc5 : x4.toInt ≤ 0 := tl_le c5
      refine li_iconst 0 dX12_costBy_125 (by decide) ?_
      refine li_sipush 999 dX12_costBy_126 (by decide) ?_
      refine li_iload 0 dX12_costBy_129 rfl ?_
      refine li_mmin dX12_costBy_131 (by omega) w_1701 w_726 w_113 w_727 (Nat.le_of_ble_eq_true rfl) ?_
      refine li_top (fun x6 ex6 => ?_)
      have z999 : (999 : Int32).toInt = 999 := rfl
      have tx6 := tl_min2 ex6
      refine li_mmax dX12_costBy_134 (by omega) w_1403 w_642 w_113 w_643 (Nat.le_of_ble_eq_true rfl) ?_
      refine li_top (fun x7 ex7 => ?_)
      have z0 : (0 : Int32).toInt = 0 := rfl
      have tx7 := tl_max2 ex7
      exact li_iret dX12_costBy_137 rfl rfl ⟨⟨_, rfl, (by first | omega | (intro _; omega) | (refine ⟨?_, ?_⟩ <;> first | omega | (intro _; omega)) | (refine ⟨?_, ?_, ?_, ?_⟩ <;> first | omega | (intro _; omega)))⟩, hf, hJ⟩
    · have tc5 : 0 < x4.toInt := tl_nle c5
      refine li_aload_n 1 dX12_costBy_46 rfl ?_
      refine li_getr (k := 21) (N := 52) (T := TX12) (C0 := RX12) dX12_costBy_47 (by decide) sh_175 rfl rfl (by decide) (by decide) li_in12 w_1425 ?_
      refine li_iconst 0 dX12_costBy_50 (by decide) ?_
      refine li_iload_n 3 dX12_costBy_51 rfl ?_
      have z0 : (0 : Int32).toInt = 0 := rfl
      refine li_iast dX12_costBy_52 (by decide) sh_185 (tl_in (by omega)) ?_
      refine li_nm (fun M8 eM8 => ?_)
      have hf := li_fs_ui hf (Or.inl rfl) eM8
      have hJ := hJ.st (by decide) (li_el_free (by unfold li_led; omega) (by decide) (by decide) (by unfold li_rq; omega)) eM8
      have rM8_18 := J_sl18 (M := M8) hJ
      have mM8_18 : (M8.1 175 18).toInt = (M3.1 175 18).toInt := by rw [eM8, li_ui_at, if_neg (by decide)]
      refine li_aload_n 1 dX12_costBy_53 rfl ?_
      refine li_getr (k := 21) (N := 52) (T := TX12) (C0 := RX12) dX12_costBy_54 (by decide) sh_175 rfl rfl (by decide) (by decide) li_in12 w_1425 ?_
      refine li_iconst 1 dX12_costBy_57 (by decide) ?_
      refine li_iload_n 4 dX12_costBy_58 rfl ?_
      have z1 : (1 : Int32).toInt = 1 := rfl
      refine li_iast dX12_costBy_59 (by decide) sh_185 (tl_in (by omega)) ?_
      refine li_nm (fun M9 eM9 => ?_)
      have hf := li_fs_ui hf (Or.inl rfl) eM9
      have hJ := hJ.st (by decide) (li_el_free (by unfold li_led; omega) (by decide) (by decide) (by unfold li_rq; omega)) eM9
      have rM9_18 := J_sl18 (M := M9) hJ
      have mM9_18 : (M9.1 175 18).toInt = (M8.1 175 18).toInt := by rw [eM9, li_ui_at, if_neg (by decide)]
      refine li_aload_n 1 dX12_costBy_60 rfl ?_
      refine li_getr (k := 21) (N := 52) (T := TX12) (C0 := RX12) dX12_costBy_61 (by decide) sh_175 rfl rfl (by decide) (by decide) li_in12 w_1425 ?_
      refine li_iconst 2 dX12_costBy_64 (by decide) ?_
      refine li_iload 5 dX12_costBy_65 rfl ?_
      have z2 : (2 : Int32).toInt = 2 := rfl
      refine li_iast dX12_costBy_67 (by decide) sh_185 (tl_in (by omega)) ?_
      refine li_nm (fun M10 eM10 => ?_)
      have hf := li_fs_ui hf (Or.inl rfl) eM10
      have hJ := hJ.st (by decide) (li_el_free (by unfold li_led; omega) (by decide) (by decide) (by unfold li_rq; omega)) eM10
      have rM10_18 := J_sl18 (M := M10) hJ
      have mM10_18 : (M10.1 175 18).toInt = (M9.1 175 18).toInt := by rw [eM10, li_ui_at, if_neg (by decide)]
      refine li_aload_n 1 dX12_costBy_68 rfl ?_
      refine li_getr (k := 21) (N := 52) (T := TX12) (C0 := RX12) dX12_costBy_69 (by decide) sh_175 rfl rfl (by decide) (by decide) li_in12 w_1425 ?_
      refine li_iconst 3 dX12_costBy_72 (by decide) ?_
      refine li_iload 6 dX12_costBy_73 rfl ?_
      have z3 : (3 : Int32).toInt = 3 := rfl
      refine li_iast dX12_costBy_75 (by decide) sh_185 (tl_in (by omega)) ?_
      refine li_nm (fun M11 eM11 => ?_)
      have hf := li_fs_ui hf (Or.inl rfl) eM11
      have hJ := hJ.st (by decide) (li_el_free (by unfold li_led; omega) (by decide) (by decide) (by unfold li_rq; omega)) eM11
      have rM11_18 := J_sl18 (M := M11) hJ
      have mM11_18 : (M11.1 175 18).toInt = (M10.1 175 18).toInt := by rw [eM11, li_ui_at, if_neg (by decide)]
      refine li_aload_n 1 dX12_costBy_76 rfl ?_
      refine li_getr (k := 21) (N := 52) (T := TX12) (C0 := RX12) dX12_costBy_77 (by decide) sh_175 rfl rfl (by decide) (by decide) li_in12 w_1425 ?_
      refine li_iconst 4 dX12_costBy_80 (by decide) ?_
      refine li_iload_n 2 dX12_costBy_81 rfl ?_
      refine li_bipush 100 dX12_costBy_82 (by decide) ?_
      refine li_irem dX12_costBy_84 (by decide) ?_
      refine li_top (fun x12 ex12 => ?_)
      have z4 : (4 : Int32).toInt = 4 := rfl
      refine li_iast dX12_costBy_85 (by decide) sh_185 (tl_in (by omega)) ?_
      refine li_nm (fun M13 eM13 => ?_)
      have hf := li_fs_ui hf (Or.inl rfl) eM13
      have hJ := hJ.st (by decide) (li_el_free (by unfold li_led; omega) (by decide) (by decide) (by unfold li_rq; omega)) eM13
      have rM13_18 := J_sl18 (M := M13) hJ
      have mM13_18 : (M13.1 175 18).toInt = (M11.1 175 18).toInt := by rw [eM13, li_ui_at, if_neg (by decide)]
      refine li_aload_n 1 dX12_costBy_86 rfl ?_
      refine li_getr (k := 21) (N := 52) (T := TX12) (C0 := RX12) dX12_costBy_87 (by decide) sh_175 rfl rfl (by decide) (by decide) li_in12 w_1425 ?_
      refine li_iconst 5 dX12_costBy_90 (by decide) ?_
      refine li_iload 7 dX12_costBy_91 rfl ?_
      have z5 : (5 : Int32).toInt = 5 := rfl
      refine li_iast dX12_costBy_93 (by decide) sh_185 (tl_in (by omega)) ?_
      refine li_nm (fun M14 eM14 => ?_)
      have hf := li_fs_ui hf (Or.inl rfl) eM14
      have hJ := hJ.st (by decide) (li_el_free (by unfold li_led; omega) (by decide) (by decide) (by unfold li_rq; omega)) eM14
      have rM14_18 := J_sl18 (M := M14) hJ
      have mM14_18 : (M14.1 175 18).toInt = (M13.1 175 18).toInt := by rw [eM14, li_ui_at, if_neg (by decide)]
      refine li_aload_n 1 dX12_costBy_94 rfl ?_
      refine li_aload_n 1 dX12_costBy_95 rfl ?_
      obtain ⟨q15, hq15, rq15⟩ := hJ.2.2.1
      refine li_getm (r := 1) (k := 17) (N := 52) (T := TX12) (C0 := RX12) dX12_costBy_96 (by decide) sh_175 rfl rfl hq15 (by decide) li_in12 w_1421 ?_
      refine li_aload_n 1 dX12_costBy_99 rfl ?_
      refine li_geti (k := 18) (N := 52) (T := TX12) (C0 := RX12) dX12_costBy_100 (by decide) sh_175 rfl rfl (by decide) li_in12 w_1422 ?_
      refine li_top (fun x16 ex16 => ?_)
      have gx16 : 0 ≤ x16.toInt ∧ x16.toInt ≤ 40 := by rw [ex16]; exact J_sl18 hJ
      have mx16 : x16.toInt = (M14.1 175 18).toInt := tl_slot ex16
      have sx16 : x16.toInt = (M0.1 175 18).toInt := tl_slot (ex16.trans (hf.1 175 18 (show ¬ (175 = 185 ∨ 175 = 1000 ∨ (175 = 175 ∧ 18 = 12) ∨ (175 = 175 ∧ 18 = 13) ∨ (175 = 175 ∧ 18 = 14) ∨ (175 = 175 ∧ 18 = 15) ∨ (175 = 175 ∧ 18 = 20)) by decide)))
      refine li_bipush 40 dX12_costBy_103 (by decide) ?_
      have z40 : (40 : Int32).toInt = 40 := rfl
      refine li_callV (n := 3) (As := [.ref (Z.2.2 q15), .int x16, .int 40]) dX12_costBy_105 (k_X12_begin (d - 1) (rl_rq rq15) x16 40 M14 hJ (show 0 ≤ (x16 : Int32).toInt ∧ (x16 : Int32).toInt ≤ (li_qn q15 : Int) by have := li_qn_rl rq15; omega) (by omega)) (by omega) (Nat.le_of_ble_eq_true rfl) w_1577 w_1579 w_42 w_112 w_1580 (by decide +kernel) rfl (by decide) sh_175 rfl rfl (Nat.le_of_ble_eq_true rfl) (fun r M18 h19 => ?_)
      obtain ⟨rfl, h19, jM18, nM18⟩ := h19
      have hf := li_fs_trans hf h19 (fun i k => fun h => Or.elim h (fun h => Or.inr (Or.inr (Or.inl h))) (fun h => Or.elim h (fun h => Or.inr (Or.inr (Or.inr (Or.inl h)))) (fun h => Or.elim h (fun h => Or.inr (Or.inr (Or.inr (Or.inr (Or.inl h))))) (fun h => Or.elim h (fun h => Or.inr (Or.inr (Or.inr (Or.inr (Or.inr (Or.inl h)))))) (fun h => Or.inr (Or.inl h))))))
      have hJ := jM18
      have rM18_18 := J_sl18 (M := M18) hJ
      have mM18_18 : (M18.1 175 18).toInt = (M14.1 175 18).toInt := tl_slot (h19.1 175 18 (show ¬ ((175 = 175 ∧ 18 = 12) ∨ (175 = 175 ∧ 18 = 13) ∨ (175 = 175 ∧ 18 = 14) ∨ (175 = 175 ∧ 18 = 15) ∨ 175 = 1000) by decide))
      refine li_aload_n 1 dX12_costBy_108 rfl ?_
      refine li_iconst 1 dX12_costBy_109 (by decide) ?_
      refine li_puti (k := 20) (N := 52) (T := TX12) (C0 := RX12) dX12_costBy_110 (by decide) sh_175 rfl rfl (by decide) li_in12 tyX12_ok nmX12 rfl rfl (li_nz (Or.inr rfl)) (li_fz (Or.inr rfl)) w_1424 ?_
      refine li_nm (fun M20 eM20 => ?_)
      have hf := li_fs_ui hf (Or.inr (Or.inr (Or.inr (Or.inr (Or.inr (Or.inr (⟨rfl, rfl⟩))))))) eM20
      have z1 : (1 : Int32).toInt = 1 := rfl
      have hJ := hJ.put (k := 20) (by decide) (rg_free rfl) eM20
      have rM20_18 := J_sl18 (M := M20) hJ
      have mM20_18 : (M20.1 175 18).toInt = (M18.1 175 18).toInt := by rw [eM20, li_ui_at, if_pos rfl, if_neg (by decide)]
      refine li_aload_n 1 dX12_costBy_113 rfl ?_
      refine li_iconst 0 dX12_costBy_114 (by decide) ?_
      have z0 : (0 : Int32).toInt = 0 := rfl
      refine li_callV (n := 1) (As := [.int 0]) dX12_costBy_115 ((kk_parse 81).2.2.2 0 M20 (d - 1) hJ (by have := J_sl14 hJ; omega) (by omega)) (by omega) (Nat.le_of_ble_eq_true rfl) w_1625 w_1627 w_52 w_112 w_1628 (by decide +kernel) rfl (by decide) sh_175 rfl rfl (Nat.le_of_ble_eq_true rfl) (fun r M22 h23 => ?_)
      obtain ⟨⟨x21, rfl, qx21⟩, h23, jM22⟩ := h23
      have gx21 := tl_rg x21
      have hf := li_fs_trans hf h23 (fun i k => fun h => Or.elim h (fun h => Or.inr (Or.inr (Or.inr (Or.inr (Or.inl h))))) (fun h => Or.inr (Or.inr (Or.inr (Or.inr (Or.inr (Or.inl h)))))))
      have hJ := jM22
      have rM22_18 := J_sl18 (M := M22) hJ
      have mM22_18 : (M22.1 175 18).toInt = (M20.1 175 18).toInt := tl_slot (h23.1 175 18 (show ¬ ((175 = 175 ∧ 18 = 14) ∨ (175 = 175 ∧ 18 = 15)) by decide))
      refine li_istore [(7, .int x21), (0, .ref (Z.2.2 175)), (1, .int p1), (2, .int p2), (3, .int p3), (4, .int p4), (5, .int p5), (6, .int p6)] dX12_costBy_118 (by decide) rfl ?_
      refine li_aload_n 1 dX12_costBy_120 rfl ?_
      refine li_iconst 0 dX12_costBy_121 (by decide) ?_
      refine li_puti (k := 20) (N := 52) (T := TX12) (C0 := RX12) dX12_costBy_122 (by decide) sh_175 rfl rfl (by decide) li_in12 tyX12_ok nmX12 rfl rfl (li_nz (Or.inl rfl)) (li_fz (Or.inl rfl)) w_1424 ?_
      refine li_nm (fun M24 eM24 => ?_)
      have hf := li_fs_ui hf (Or.inr (Or.inr (Or.inr (Or.inr (Or.inr (Or.inr (⟨rfl, rfl⟩))))))) eM24
      have z0 : (0 : Int32).toInt = 0 := rfl
      have hJ := hJ.put (k := 20) (by decide) (rg_free rfl) eM24
      have rM24_18 := J_sl18 (M := M24) hJ
      have mM24_18 : (M24.1 175 18).toInt = (M22.1 175 18).toInt := by rw [eM24, li_ui_at, if_pos rfl, if_neg (by decide)]
      refine li_iconst 0 dX12_costBy_125 (by decide) ?_
      refine li_sipush 999 dX12_costBy_126 (by decide) ?_
      refine li_iload 0 dX12_costBy_129 rfl ?_
      refine li_mmin dX12_costBy_131 (by omega) w_1701 w_726 w_113 w_727 (Nat.le_of_ble_eq_true rfl) ?_
      refine li_top (fun x25 ex25 => ?_)
      have z999 : (999 : Int32).toInt = 999 := rfl
      have tx25 := tl_min2 ex25
      refine li_mmax dX12_costBy_134 (by omega) w_1403 w_642 w_113 w_643 (Nat.le_of_ble_eq_true rfl) ?_
      refine li_top (fun x26 ex26 => ?_)
      have z0 : (0 : Int32).toInt = 0 := rfl
      have tx26 := tl_max2 ex26
      exact li_iret dX12_costBy_137 rfl rfl ⟨⟨_, rfl, (by first | omega | (intro _; omega) | (refine ⟨?_, ?_⟩ <;> first | omega | (intro _; omega)) | (refine ⟨?_, ?_, ?_, ?_⟩ <;> first | omega | (intro _; omega)))⟩, hf, hJ⟩
  refine li_if_ne 12 dX12_costBy_1 (by decide) (fun c1 => ?_) (fun c1 => ?_)
  · have tc1 : ¬ p3.toInt = 0 := tl_ne c1
    refine li_iload_n 3 dX12_costBy_12 rfl ?_
    refine li_iconst 1 dX12_costBy_13 (by decide) ?_
    refine li_icmp_ne 25 dX12_costBy_14 (by decide) (fun c27 => ?_) (fun c27 => ?_)
    · have tc27 : ¬ p3.toInt = 1 := tl_ne c27
      refine li_iload_n 3 dX12_costBy_25 rfl ?_
      refine li_iconst 2 dX12_costBy_26 (by decide) ?_
      refine li_icmp_ne 34 dX12_costBy_27 (by decide) (fun c28 => ?_) (fun c28 => ?_)
      · have tc28 : ¬ p3.toInt = 2 := tl_ne c28
        refine li_iconst 2 dX12_costBy_34 (by decide) ?_
        refine li_iload_n 2 dX12_costBy_35 rfl ?_
        refine li_imul dX12_costBy_36 ?_
        refine li_top (fun x29 ex29 => ?_)
        have z2 : (2 : Int32).toInt = 2 := rfl
        try (have tx29 : x29.toInt = 2 * (p2 : Int32).toInt := tl_mul ex29 (show -2147483648 ≤ 2 * (p2 : Int32).toInt ∧ 2 * (p2 : Int32).toInt ≤ 2147483647 by omega))
        refine li_pick [0, 1, 2, 3, 4, 5, 6] [(0, .ref (Z.2.2 175)), (1, .int p1), (2, .int p2), (3, .int p3), (4, .int p4), (5, .int p5), (6, .int p6)] rfl ?_
        exact J37 x29 M0 hf hJ
      · have tc28 : p3.toInt = 2 := tl_eq c28
        refine li_iload_n 2 dX12_costBy_30 rfl ?_
        refine li_goto 37 dX12_costBy_31 (by decide) ?_
        refine li_pick [0, 1, 2, 3, 4, 5, 6] [(0, .ref (Z.2.2 175)), (1, .int p1), (2, .int p2), (3, .int p3), (4, .int p4), (5, .int p5), (6, .int p6)] rfl ?_
        exact J37 p2 M0 hf hJ
    · have tc27 : p3.toInt = 1 := tl_eq c27
      refine li_iload_n 2 dX12_costBy_17 rfl ?_
      refine li_iconst 2 dX12_costBy_18 (by decide) ?_
      refine li_iadd dX12_costBy_19 ?_
      refine li_top (fun x30 ex30 => ?_)
      have z2 : (2 : Int32).toInt = 2 := rfl
      try (have tx30 : x30.toInt = (p2 : Int32).toInt + (2 : Int32).toInt := tl_add ex30 (by omega))
      refine li_iconst 3 dX12_costBy_20 (by decide) ?_
      refine li_idiv dX12_costBy_21 (by decide) ?_
      refine li_top (fun x31 ex31 => ?_)
      refine li_goto 37 dX12_costBy_22 (by decide) ?_
      refine li_pick [0, 1, 2, 3, 4, 5, 6] [(0, .ref (Z.2.2 175)), (1, .int p1), (2, .int p2), (3, .int p3), (4, .int p4), (5, .int p5), (6, .int p6)] rfl ?_
      exact J37 x31 M0 hf hJ
  · have tc1 : p3.toInt = 0 := tl_eq c1
    refine li_iload_n 2 dX12_costBy_4 rfl ?_
    refine li_iconst 1 dX12_costBy_5 (by decide) ?_
    refine li_iadd dX12_costBy_6 ?_
    refine li_top (fun x32 ex32 => ?_)
    have z1 : (1 : Int32).toInt = 1 := rfl
    try (have tx32 : x32.toInt = (p2 : Int32).toInt + (1 : Int32).toInt := tl_add ex32 (by omega))
    refine li_iconst 2 dX12_costBy_7 (by decide) ?_
    refine li_idiv dX12_costBy_8 (by decide) ?_
    refine li_top (fun x33 ex33 => ?_)
    refine li_goto 37 dX12_costBy_9 (by decide) ?_
    refine li_pick [0, 1, 2, 3, 4, 5, 6] [(0, .ref (Z.2.2 175)), (1, .int p1), (2, .int p2), (3, .int p3), (4, .int p4), (5, .int p5), (6, .int p6)] rfl ?_
    exact J37 x33 M0 hf hJ
