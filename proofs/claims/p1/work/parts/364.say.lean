theorem w_69 : (Jvm.Cond.selects "ClockForTalkModel" ({ cls := "ClockForTalkModel", name := "refusesSay", desc := "([III)I" } : Jvm.MethodName) ({ cls := "ClockForTalkModel", name := "refusesSay", desc := "([III)I" } : Jvm.MethodName)) ∈ li_ws := li_mem 69 (by decide +kernel) (by decide +kernel)
theorem w_71 : (Jvm.Cond.selects "ClockForTalkModel" ({ cls := "ClockForTalkModel", name := "remember", desc := "([I)V" } : Jvm.MethodName) ({ cls := "ClockForTalkModel", name := "remember", desc := "([I)V" } : Jvm.MethodName)) ∈ li_ws := li_mem 71 (by decide +kernel) (by decide +kernel)
theorem w_73 : (Jvm.Cond.selects "ClockForTalkModel" ({ cls := "ClockForTalkModel", name := "refusesGive", desc := "(III)I" } : Jvm.MethodName) ({ cls := "ClockForTalkModel", name := "refusesGive", desc := "(III)I" } : Jvm.MethodName)) ∈ li_ws := li_mem 73 (by decide +kernel) (by decide +kernel)
theorem w_74 : (Jvm.Cond.selects "ClockForTalkModel" ({ cls := "ClockForTalkModel", name := "areTwo", desc := "(II)Z" } : Jvm.MethodName) ({ cls := "ClockForTalkModel", name := "areTwo", desc := "(II)Z" } : Jvm.MethodName)) ∈ li_ws := li_mem 74 (by decide +kernel) (by decide +kernel)
theorem w_1734 : (Jvm.Cond.methodLink "ClockForTalkModel" (275 : Nat) ({ cls := "ClockForTalkModel", name := "refusesSay", desc := "([III)I" } : Jvm.MethodName)) ∈ li_ws := li_mem 1734 (by decide +kernel) (by decide +kernel)
theorem w_1736 : (Jvm.Cond.instanceMethod ({ cls := "ClockForTalkModel", name := "refusesSay", desc := "([III)I" } : Jvm.MethodName)) ∈ li_ws := li_mem 1736 (by decide +kernel) (by decide +kernel)
theorem w_1737 : (Jvm.Cond.code ({ cls := "ClockForTalkModel", name := "refusesSay", desc := "([III)I" } : Jvm.MethodName) prog_13_method_52_code (4 : Nat) (Option.some Jvm.ClassFile.FieldType.int)) ∈ li_ws := li_mem 1737 (by decide +kernel) (by decide +kernel)
theorem w_1745 : (Jvm.Cond.methodLink "ClockForTalkModel" (278 : Nat) ({ cls := "ClockForTalkModel", name := "remember", desc := "([I)V" } : Jvm.MethodName)) ∈ li_ws := li_mem 1745 (by decide +kernel) (by decide +kernel)
theorem w_1747 : (Jvm.Cond.instanceMethod ({ cls := "ClockForTalkModel", name := "remember", desc := "([I)V" } : Jvm.MethodName)) ∈ li_ws := li_mem 1747 (by decide +kernel) (by decide +kernel)
theorem w_1748 : (Jvm.Cond.code ({ cls := "ClockForTalkModel", name := "remember", desc := "([I)V" } : Jvm.MethodName) prog_13_method_50_code (3 : Nat) (Option.none : Option Jvm.ClassFile.FieldType)) ∈ li_ws := li_mem 1748 (by decide +kernel) (by decide +kernel)
theorem w_1760 : (Jvm.Cond.methodLink "ClockForTalkModel" (288 : Nat) ({ cls := "ClockForTalkModel", name := "refusesGive", desc := "(III)I" } : Jvm.MethodName)) ∈ li_ws := li_mem 1760 (by decide +kernel) (by decide +kernel)
theorem w_1762 : (Jvm.Cond.instanceMethod ({ cls := "ClockForTalkModel", name := "refusesGive", desc := "(III)I" } : Jvm.MethodName)) ∈ li_ws := li_mem 1762 (by decide +kernel) (by decide +kernel)
theorem w_1763 : (Jvm.Cond.code ({ cls := "ClockForTalkModel", name := "refusesGive", desc := "(III)I" } : Jvm.MethodName) prog_13_method_55_code (4 : Nat) (Option.some Jvm.ClassFile.FieldType.int)) ∈ li_ws := li_mem 1763 (by decide +kernel) (by decide +kernel)
theorem w_1764 : (Jvm.Cond.methodLink "ClockForTalkModel" (285 : Nat) ({ cls := "ClockForTalkModel", name := "areTwo", desc := "(II)Z" } : Jvm.MethodName)) ∈ li_ws := li_mem 1764 (by decide +kernel) (by decide +kernel)
theorem w_1766 : (Jvm.Cond.instanceMethod ({ cls := "ClockForTalkModel", name := "areTwo", desc := "(II)Z" } : Jvm.MethodName)) ∈ li_ws := li_mem 1766 (by decide +kernel) (by decide +kernel)
theorem w_1767 : (Jvm.Cond.code ({ cls := "ClockForTalkModel", name := "areTwo", desc := "(II)Z" } : Jvm.MethodName) prog_13_method_8_code (3 : Nat) (Option.some Jvm.ClassFile.FieldType.boolean)) ∈ li_ws := li_mem 1767 (by decide +kernel) (by decide +kernel)
theorem w_1768 : (Jvm.Cond.methodLink "ClockForTalkModel" (292 : Nat) ({ cls := "ClockForTalkModel", name := "goGive", desc := "([IIII)I" } : Jvm.MethodName)) ∈ li_ws := li_mem 1768 (by decide +kernel) (by decide +kernel)
theorem w_1769 : (Jvm.Cond.static ({ cls := "ClockForTalkModel", name := "goGive", desc := "([IIII)I" } : Jvm.MethodName)) ∈ li_ws := li_mem 1769 (by decide +kernel) (by decide +kernel)
theorem w_1770 : (Jvm.Cond.code ({ cls := "ClockForTalkModel", name := "goGive", desc := "([IIII)I" } : Jvm.MethodName) prog_13_method_56_code (4 : Nat) (Option.some Jvm.ClassFile.FieldType.int)) ∈ li_ws := li_mem 1770 (by decide +kernel) (by decide +kernel)
theorem dX12_refusesSay_0 : decode cX12_refusesSay 0 = .ok (.aload_n 0, 1) := by decide +kernel
theorem dX12_refusesSay_1 : decode cX12_refusesSay 1 = .ok (.iload_n 2, 1) := by decide +kernel
theorem dX12_refusesSay_2 : decode cX12_refusesSay 2 = .ok (.invokevirtual 265, 3) := by decide +kernel
theorem dX12_refusesSay_5 : decode cX12_refusesSay 5 = .ok (.ifCond .eq 12, 3) := by decide +kernel
theorem dX12_refusesSay_17 : decode cX12_refusesSay 17 = .ok (.iconst (-1), 1) := by decide +kernel
theorem dX12_refusesSay_18 : decode cX12_refusesSay 18 = .ok (.ireturn, 1) := by decide +kernel
abbrev YX12_refusesSay : li_Y := (yX12_refusesSay, cX12_refusesSay, 4, (some .int))
theorem dX12_say_0 : decode cX12_say 0 = .ok (.aload_n 0, 1) := by decide +kernel
theorem dX12_say_1 : decode cX12_say 1 = .ok (.iconst 0, 1) := by decide +kernel
theorem dX12_say_2 : decode cX12_say 2 = .ok (.putfield 103, 3) := by decide +kernel
theorem dX12_say_5 : decode cX12_say 5 = .ok (.aload_n 0, 1) := by decide +kernel
theorem dX12_say_6 : decode cX12_say 6 = .ok (.aload_n 0, 1) := by decide +kernel
theorem dX12_say_7 : decode cX12_say 7 = .ok (.getfield 9, 3) := by decide +kernel
theorem dX12_say_10 : decode cX12_say 10 = .ok (.iload_n 1, 1) := by decide +kernel
theorem dX12_say_11 : decode cX12_say 11 = .ok (.iload_n 2, 1) := by decide +kernel
theorem dX12_say_12 : decode cX12_say 12 = .ok (.invokevirtual 275, 3) := by decide +kernel
theorem dX12_say_15 : decode cX12_say 15 = .ok (.istore_n 3, 1) := by decide +kernel
theorem dX12_say_16 : decode cX12_say 16 = .ok (.iload_n 3, 1) := by decide +kernel
theorem dX12_say_17 : decode cX12_say 17 = .ok (.ifCond .ge 5, 3) := by decide +kernel
theorem dX12_say_20 : decode cX12_say 20 = .ok (.iload_n 3, 1) := by decide +kernel
theorem dX12_say_21 : decode cX12_say 21 = .ok (.ireturn, 1) := by decide +kernel
abbrev YX12_say : li_Y := (yX12_say, cX12_say, 4, (some .int))
theorem dX12_refusesGive_0 : decode cX12_refusesGive 0 = .ok (.aload_n 0, 1) := by decide +kernel
theorem dX12_refusesGive_1 : decode cX12_refusesGive 1 = .ok (.iload_n 1, 1) := by decide +kernel
theorem dX12_refusesGive_2 : decode cX12_refusesGive 2 = .ok (.iload_n 2, 1) := by decide +kernel
theorem dX12_refusesGive_3 : decode cX12_refusesGive 3 = .ok (.invokevirtual 285, 3) := by decide +kernel
theorem dX12_refusesGive_6 : decode cX12_refusesGive 6 = .ok (.ifCond .eq 14, 3) := by decide +kernel
theorem dX12_refusesGive_20 : decode cX12_refusesGive 20 = .ok (.iconst (-1), 1) := by decide +kernel
theorem dX12_refusesGive_21 : decode cX12_refusesGive 21 = .ok (.ireturn, 1) := by decide +kernel
abbrev YX12_refusesGive : li_Y := (yX12_refusesGive, cX12_refusesGive, 4, (some .int))
theorem dX12_goGive_0 : decode cX12_goGive 0 = .ok (.aload_n 0, 1) := by decide +kernel
theorem dX12_goGive_1 : decode cX12_goGive 1 = .ok (.iload_n 1, 1) := by decide +kernel
theorem dX12_goGive_2 : decode cX12_goGive 2 = .ok (.dup2, 1) := by decide +kernel
theorem dX12_goGive_3 : decode cX12_goGive 3 = .ok (.iaload, 1) := by decide +kernel
theorem dX12_goGive_4 : decode cX12_goGive 4 = .ok (.iload_n 3, 1) := by decide +kernel
theorem dX12_goGive_5 : decode cX12_goGive 5 = .ok (.isub, 1) := by decide +kernel
theorem dX12_goGive_6 : decode cX12_goGive 6 = .ok (.iastore, 1) := by decide +kernel
theorem dX12_goGive_7 : decode cX12_goGive 7 = .ok (.aload_n 0, 1) := by decide +kernel
theorem dX12_goGive_8 : decode cX12_goGive 8 = .ok (.iload_n 2, 1) := by decide +kernel
theorem dX12_goGive_9 : decode cX12_goGive 9 = .ok (.sipush 9999, 3) := by decide +kernel
theorem dX12_goGive_12 : decode cX12_goGive 12 = .ok (.aload_n 0, 1) := by decide +kernel
theorem dX12_goGive_13 : decode cX12_goGive 13 = .ok (.iload_n 2, 1) := by decide +kernel
theorem dX12_goGive_14 : decode cX12_goGive 14 = .ok (.iaload, 1) := by decide +kernel
theorem dX12_goGive_15 : decode cX12_goGive 15 = .ok (.iload_n 3, 1) := by decide +kernel
theorem dX12_goGive_16 : decode cX12_goGive 16 = .ok (.iadd, 1) := by decide +kernel
theorem dX12_goGive_17 : decode cX12_goGive 17 = .ok (.invokestatic 208, 3) := by decide +kernel
theorem dX12_goGive_20 : decode cX12_goGive 20 = .ok (.iastore, 1) := by decide +kernel
theorem dX12_goGive_21 : decode cX12_goGive 21 = .ok (.aload_n 0, 1) := by decide +kernel
theorem dX12_goGive_22 : decode cX12_goGive 22 = .ok (.iload_n 2, 1) := by decide +kernel
theorem dX12_goGive_23 : decode cX12_goGive 23 = .ok (.iaload, 1) := by decide +kernel
theorem dX12_goGive_24 : decode cX12_goGive 24 = .ok (.ireturn, 1) := by decide +kernel
abbrev YX12_goGive : li_Y := (yX12_goGive, cX12_goGive, 4, (some .int))
theorem dX12_give_0 : decode cX12_give 0 = .ok (.aload_n 0, 1) := by decide +kernel
theorem dX12_give_1 : decode cX12_give 1 = .ok (.iconst 0, 1) := by decide +kernel
theorem dX12_give_2 : decode cX12_give 2 = .ok (.putfield 103, 3) := by decide +kernel
theorem dX12_give_5 : decode cX12_give 5 = .ok (.aload_n 0, 1) := by decide +kernel
theorem dX12_give_6 : decode cX12_give 6 = .ok (.iload_n 1, 1) := by decide +kernel
theorem dX12_give_7 : decode cX12_give 7 = .ok (.iload_n 2, 1) := by decide +kernel
theorem dX12_give_8 : decode cX12_give 8 = .ok (.iload_n 3, 1) := by decide +kernel
theorem dX12_give_9 : decode cX12_give 9 = .ok (.invokevirtual 288, 3) := by decide +kernel
theorem dX12_give_12 : decode cX12_give 12 = .ok (.istore 4, 2) := by decide +kernel
theorem dX12_give_14 : decode cX12_give 14 = .ok (.iload 4, 2) := by decide +kernel
theorem dX12_give_16 : decode cX12_give 16 = .ok (.ifCond .ge 6, 3) := by decide +kernel
theorem dX12_give_19 : decode cX12_give 19 = .ok (.iload 4, 2) := by decide +kernel
theorem dX12_give_21 : decode cX12_give 21 = .ok (.ireturn, 1) := by decide +kernel
abbrev YX12_give : li_Y := (yX12_give, cX12_give, 5, (some .int))
theorem dX12_lend_0 : decode cX12_lend 0 = .ok (.aload_n 0, 1) := by decide +kernel
theorem dX12_lend_1 : decode cX12_lend 1 = .ok (.iconst 0, 1) := by decide +kernel
theorem dX12_lend_2 : decode cX12_lend 2 = .ok (.putfield 103, 3) := by decide +kernel
theorem dX12_lend_5 : decode cX12_lend 5 = .ok (.aload_n 0, 1) := by decide +kernel
theorem dX12_lend_6 : decode cX12_lend 6 = .ok (.iload_n 1, 1) := by decide +kernel
theorem dX12_lend_7 : decode cX12_lend 7 = .ok (.iload_n 2, 1) := by decide +kernel
theorem dX12_lend_8 : decode cX12_lend 8 = .ok (.invokevirtual 285, 3) := by decide +kernel
theorem dX12_lend_11 : decode cX12_lend 11 = .ok (.ifCond .eq 14, 3) := by decide +kernel
theorem dX12_lend_25 : decode cX12_lend 25 = .ok (.iconst (-1), 1) := by decide +kernel
theorem dX12_lend_26 : decode cX12_lend 26 = .ok (.ireturn, 1) := by decide +kernel
abbrev YX12_lend : li_Y := (yX12_lend, cX12_lend, 6, (some .int))
set_option maxRecDepth 100000 in
set_option maxHeartbeats 4000000 in
theorem k_X12_goGive {l : Launch} {Z : li_Z} (d : Nat) (hd : 1 ≤ d) {a : Nat} (ha : li_la a) (p1 p2 p3 : Int32) (M0 : li_M) (hJ : li_J M0) (h1 : 0 ≤ p1.toInt ∧ p1.toInt ≤ 5) (h2 : 0 ≤ p2.toInt ∧ p2.toInt ≤ 5) : li_Met l Z YX12_goGive d [.ref (Z.2.2 a), .int p1, .int p2, .int p3] M0 (fun r M' => (∃ x : Int32, r = some (.int x)) ∧ li_fs (fun i k => i = a) M0 M' ∧ li_J M') := by
  refine li_enter (by decide +kernel) (Nat.le_of_ble_eq_true rfl) ?_
  show li_T l Z YX12_goGive d 0 [(0, .ref (Z.2.2 a)), (1, .int p1), (2, .int p2), (3, .int p3)] [] M0 _
  have hf : li_fs (fun i k => i = a) M0 M0 := li_fs_refl
  have gp1 := tl_rg p1
  have gp2 := tl_rg p2
  have gp3 := tl_rg p3
  have caa : a = 176 ∨ a = 200 := ha
  refine li_aload_n 0 dX12_goGive_0 rfl ?_
  refine li_iload_n 1 dX12_goGive_1 rfl ?_
  refine li_dup2 dX12_goGive_2 rfl rfl ?_
  refine li_iald dX12_goGive_3 (snA ha) (shA ha) (tl_in (by omega)) ?_
  refine li_top (fun x1 ex1 => ?_)
  have gx1 := tl_rg x1
  try (have ox1 : (p1 : Int32).toInt % 51 = (p1 : Int32).toInt := by omega)
  have lx1 : ((p1 : Int32).toInt % 51 = 20 → 0 ≤ x1.toInt ∧ x1.toInt ≤ 6) ∧ (21 ≤ (p1 : Int32).toInt % 51 → ((p1 : Int32).toInt % 51 - 21) % 5 < 2 → 0 ≤ x1.toInt ∧ x1.toInt ≤ 5) := hJ.ldLed (li_la_led ha) ex1 (by omega)
  refine li_iload_n 3 dX12_goGive_4 rfl ?_
  refine li_isub dX12_goGive_5 ?_
  refine li_top (fun x2 ex2 => ?_)
  try (have tx2 : x2.toInt = (x1 : Int32).toInt - (p3 : Int32).toInt := tl_sub ex2 (by omega))
  refine li_iast dX12_goGive_6 (snA ha) (shA ha) (tl_in (by omega)) ?_
  refine li_nm (fun M3 eM3 => ?_)
  have hf := li_fs_ui hf (rfl) eM3
  try (have oM3 : (p1 : Int32).toInt % 51 = (p1 : Int32).toInt := by omega)
  have hJ := hJ.st (by unfold li_la at ha; omega) (li_el_led (li_la_led ha) (by omega) (show ((p1 : Int32).toInt % 51 = 20 → 0 ≤ (x2 : Int32).toInt ∧ (x2 : Int32).toInt ≤ 6) ∧ (21 ≤ (p1 : Int32).toInt % 51 → ((p1 : Int32).toInt % 51 - 21) % 5 < 2 → 0 ≤ (x2 : Int32).toInt ∧ (x2 : Int32).toInt ≤ 5) by omega)) eM3
  refine li_aload_n 0 dX12_goGive_7 rfl ?_
  refine li_iload_n 2 dX12_goGive_8 rfl ?_
  refine li_sipush 9999 dX12_goGive_9 (by decide) ?_
  refine li_aload_n 0 dX12_goGive_12 rfl ?_
  refine li_iload_n 2 dX12_goGive_13 rfl ?_
  refine li_iald dX12_goGive_14 (snA ha) (shA ha) (tl_in (by omega)) ?_
  refine li_top (fun x4 ex4 => ?_)
  have gx4 := tl_rg x4
  try (have ox4 : (p2 : Int32).toInt % 51 = (p2 : Int32).toInt := by omega)
  have lx4 : ((p2 : Int32).toInt % 51 = 20 → 0 ≤ x4.toInt ∧ x4.toInt ≤ 6) ∧ (21 ≤ (p2 : Int32).toInt % 51 → ((p2 : Int32).toInt % 51 - 21) % 5 < 2 → 0 ≤ x4.toInt ∧ x4.toInt ≤ 5) := hJ.ldLed (li_la_led ha) ex4 (by omega)
  refine li_iload_n 3 dX12_goGive_15 rfl ?_
  refine li_iadd dX12_goGive_16 ?_
  refine li_top (fun x5 ex5 => ?_)
  try (have tx5 : x5.toInt = (x4 : Int32).toInt + (p3 : Int32).toInt := tl_add ex5 (by omega))
  refine li_mmin dX12_goGive_17 (by omega) w_1705 w_726 w_113 w_727 (Nat.le_of_ble_eq_true rfl) ?_
  refine li_top (fun x6 ex6 => ?_)
  have z9999 : (9999 : Int32).toInt = 9999 := rfl
  have tx6 := tl_min2 ex6
  refine li_iast dX12_goGive_20 (snA ha) (shA ha) (tl_in (by omega)) ?_
  refine li_nm (fun M7 eM7 => ?_)
  have hf := li_fs_ui hf (rfl) eM7
  try (have oM7 : (p2 : Int32).toInt % 51 = (p2 : Int32).toInt := by omega)
  have hJ := hJ.st (by unfold li_la at ha; omega) (li_el_led (li_la_led ha) (by omega) (show ((p2 : Int32).toInt % 51 = 20 → 0 ≤ (x6 : Int32).toInt ∧ (x6 : Int32).toInt ≤ 6) ∧ (21 ≤ (p2 : Int32).toInt % 51 → ((p2 : Int32).toInt % 51 - 21) % 5 < 2 → 0 ≤ (x6 : Int32).toInt ∧ (x6 : Int32).toInt ≤ 5) by omega)) eM7
  refine li_aload_n 0 dX12_goGive_21 rfl ?_
  refine li_iload_n 2 dX12_goGive_22 rfl ?_
  refine li_iald dX12_goGive_23 (snA ha) (shA ha) (tl_in (by omega)) ?_
  refine li_top (fun x8 ex8 => ?_)
  have gx8 := tl_rg x8
  try (have ox8 : (p2 : Int32).toInt % 51 = (p2 : Int32).toInt := by omega)
  have lx8 : ((p2 : Int32).toInt % 51 = 20 → 0 ≤ x8.toInt ∧ x8.toInt ≤ 6) ∧ (21 ≤ (p2 : Int32).toInt % 51 → ((p2 : Int32).toInt % 51 - 21) % 5 < 2 → 0 ≤ x8.toInt ∧ x8.toInt ≤ 5) := hJ.ldLed (li_la_led ha) ex8 (by omega)
  exact li_iret dX12_goGive_24 rfl rfl ⟨⟨_, rfl⟩, hf, hJ⟩
