theorem w_70 : (Jvm.Cond.selects "ClockForTalkModel" ({ cls := "ClockForTalkModel", name := "isLate", desc := "([II)Z" } : Jvm.MethodName) ({ cls := "ClockForTalkModel", name := "isLate", desc := "([II)Z" } : Jvm.MethodName)) ∈ li_ws := li_mem 70 (by decide +kernel) (by decide +kernel)
theorem w_1404 : (Jvm.Cond.fieldLink "ClockForTalkModel" (9 : Nat) "ClockForTalkModel" "now" "[I") ∈ li_ws := li_mem 1404 (by decide +kernel) (by decide +kernel)
theorem w_1734 : (Jvm.Cond.methodLink "ClockForTalkModel" (251 : Nat) ({ cls := "ClockForTalkModel", name := "has", desc := "(II)Z" } : Jvm.MethodName)) ∈ li_ws := li_mem 1734 (by decide +kernel) (by decide +kernel)
theorem w_1735 : (Jvm.Cond.static ({ cls := "ClockForTalkModel", name := "has", desc := "(II)Z" } : Jvm.MethodName)) ∈ li_ws := li_mem 1735 (by decide +kernel) (by decide +kernel)
theorem w_1736 : (Jvm.Cond.code ({ cls := "ClockForTalkModel", name := "has", desc := "(II)Z" } : Jvm.MethodName) prog_13_method_4_code (2 : Nat) (Option.some Jvm.ClassFile.FieldType.boolean)) ∈ li_ws := li_mem 1736 (by decide +kernel) (by decide +kernel)
theorem w_1737 : (Jvm.Cond.methodLink "ClockForTalkModel" (255 : Nat) ({ cls := "ClockForTalkModel", name := "isLate", desc := "([II)Z" } : Jvm.MethodName)) ∈ li_ws := li_mem 1737 (by decide +kernel) (by decide +kernel)
theorem w_1739 : (Jvm.Cond.instanceMethod ({ cls := "ClockForTalkModel", name := "isLate", desc := "([II)Z" } : Jvm.MethodName)) ∈ li_ws := li_mem 1739 (by decide +kernel) (by decide +kernel)
theorem w_1740 : (Jvm.Cond.code ({ cls := "ClockForTalkModel", name := "isLate", desc := "([II)Z" } : Jvm.MethodName) prog_13_method_41_code (3 : Nat) (Option.some Jvm.ClassFile.FieldType.boolean)) ∈ li_ws := li_mem 1740 (by decide +kernel) (by decide +kernel)
theorem dX12_isLate_0 : decode cX12_isLate 0 = .ok (.aload_n 1, 1) := by decide +kernel
theorem dX12_isLate_1 : decode cX12_isLate 1 = .ok (.bipush 19, 2) := by decide +kernel
theorem dX12_isLate_3 : decode cX12_isLate 3 = .ok (.iaload, 1) := by decide +kernel
theorem dX12_isLate_4 : decode cX12_isLate 4 = .ok (.bipush 100, 2) := by decide +kernel
theorem dX12_isLate_6 : decode cX12_isLate 6 = .ok (.irem, 1) := by decide +kernel
theorem dX12_isLate_7 : decode cX12_isLate 7 = .ok (.aload_n 0, 1) := by decide +kernel
theorem dX12_isLate_8 : decode cX12_isLate 8 = .ok (.iload_n 2, 1) := by decide +kernel
theorem dX12_isLate_9 : decode cX12_isLate 9 = .ok (.iconst 3, 1) := by decide +kernel
theorem dX12_isLate_10 : decode cX12_isLate 10 = .ok (.invokevirtual 220, 3) := by decide +kernel
theorem dX12_isLate_13 : decode cX12_isLate 13 = .ok (.if_icmp .le 7, 3) := by decide +kernel
theorem dX12_isLate_16 : decode cX12_isLate 16 = .ok (.iconst 1, 1) := by decide +kernel
theorem dX12_isLate_17 : decode cX12_isLate 17 = .ok (.goto 4, 3) := by decide +kernel
theorem dX12_isLate_20 : decode cX12_isLate 20 = .ok (.iconst 0, 1) := by decide +kernel
theorem dX12_isLate_21 : decode cX12_isLate 21 = .ok (.ireturn, 1) := by decide +kernel
abbrev YX12_isLate : li_Y := (yX12_isLate, cX12_isLate, 3, (some .boolean))
theorem dX12_today_0 : decode cX12_today 0 = .ok (.iconst 0, 1) := by decide +kernel
theorem dX12_today_1 : decode cX12_today 1 = .ok (.istore_n 1, 1) := by decide +kernel
theorem dX12_today_2 : decode cX12_today 2 = .ok (.iconst 0, 1) := by decide +kernel
theorem dX12_today_3 : decode cX12_today 3 = .ok (.istore_n 2, 1) := by decide +kernel
theorem dX12_today_4 : decode cX12_today 4 = .ok (.iload_n 2, 1) := by decide +kernel
theorem dX12_today_5 : decode cX12_today 5 = .ok (.aload_n 0, 1) := by decide +kernel
theorem dX12_today_6 : decode cX12_today 6 = .ok (.getfield 121, 3) := by decide +kernel
theorem dX12_today_9 : decode cX12_today 9 = .ok (.if_icmp .ge 45, 3) := by decide +kernel
theorem dX12_today_12 : decode cX12_today 12 = .ok (.iload_n 1, 1) := by decide +kernel
theorem dX12_today_13 : decode cX12_today 13 = .ok (.aload_n 0, 1) := by decide +kernel
theorem dX12_today_14 : decode cX12_today 14 = .ok (.getfield 9, 3) := by decide +kernel
theorem dX12_today_17 : decode cX12_today 17 = .ok (.bipush 18, 2) := by decide +kernel
theorem dX12_today_19 : decode cX12_today 19 = .ok (.iaload, 1) := by decide +kernel
theorem dX12_today_20 : decode cX12_today 20 = .ok (.iload_n 2, 1) := by decide +kernel
theorem dX12_today_21 : decode cX12_today 21 = .ok (.invokestatic 251, 3) := by decide +kernel
theorem dX12_today_24 : decode cX12_today 24 = .ok (.ifCond .ne 21, 3) := by decide +kernel
theorem dX12_today_27 : decode cX12_today 27 = .ok (.aload_n 0, 1) := by decide +kernel
theorem dX12_today_28 : decode cX12_today 28 = .ok (.aload_n 0, 1) := by decide +kernel
theorem dX12_today_29 : decode cX12_today 29 = .ok (.getfield 9, 3) := by decide +kernel
theorem dX12_today_32 : decode cX12_today 32 = .ok (.iload_n 2, 1) := by decide +kernel
theorem dX12_today_33 : decode cX12_today 33 = .ok (.invokevirtual 255, 3) := by decide +kernel
theorem dX12_today_36 : decode cX12_today 36 = .ok (.ifCond .ne 9, 3) := by decide +kernel
theorem dX12_today_39 : decode cX12_today 39 = .ok (.iconst 1, 1) := by decide +kernel
theorem dX12_today_40 : decode cX12_today 40 = .ok (.iload_n 2, 1) := by decide +kernel
theorem dX12_today_41 : decode cX12_today 41 = .ok (.ishl, 1) := by decide +kernel
theorem dX12_today_42 : decode cX12_today 42 = .ok (.goto 4, 3) := by decide +kernel
theorem dX12_today_45 : decode cX12_today 45 = .ok (.iconst 0, 1) := by decide +kernel
theorem dX12_today_46 : decode cX12_today 46 = .ok (.ior, 1) := by decide +kernel
theorem dX12_today_47 : decode cX12_today 47 = .ok (.istore_n 1, 1) := by decide +kernel
theorem dX12_today_48 : decode cX12_today 48 = .ok (.iinc 2 1, 3) := by decide +kernel
theorem dX12_today_51 : decode cX12_today 51 = .ok (.goto (-47), 3) := by decide +kernel
theorem dX12_today_54 : decode cX12_today 54 = .ok (.iload_n 1, 1) := by decide +kernel
theorem dX12_today_55 : decode cX12_today 55 = .ok (.ireturn, 1) := by decide +kernel
abbrev YX12_today : li_Y := (yX12_today, cX12_today, 3, (some .int))
theorem dX12_owedBy_0 : decode cX12_owedBy 0 = .ok (.iconst 0, 1) := by decide +kernel
theorem dX12_owedBy_1 : decode cX12_owedBy 1 = .ok (.istore_n 3, 1) := by decide +kernel
theorem dX12_owedBy_2 : decode cX12_owedBy 2 = .ok (.iconst 0, 1) := by decide +kernel
theorem dX12_owedBy_3 : decode cX12_owedBy 3 = .ok (.istore 4, 2) := by decide +kernel
theorem dX12_owedBy_5 : decode cX12_owedBy 5 = .ok (.iload 4, 2) := by decide +kernel
theorem dX12_owedBy_7 : decode cX12_owedBy 7 = .ok (.aload_n 0, 1) := by decide +kernel
theorem dX12_owedBy_8 : decode cX12_owedBy 8 = .ok (.getfield 9, 3) := by decide +kernel
theorem dX12_owedBy_11 : decode cX12_owedBy 11 = .ok (.bipush 20, 2) := by decide +kernel
theorem dX12_owedBy_13 : decode cX12_owedBy 13 = .ok (.iaload, 1) := by decide +kernel
theorem dX12_owedBy_14 : decode cX12_owedBy 14 = .ok (.if_icmp .ge 59, 3) := by decide +kernel
theorem dX12_owedBy_17 : decode cX12_owedBy 17 = .ok (.bipush 21, 2) := by decide +kernel
theorem dX12_owedBy_19 : decode cX12_owedBy 19 = .ok (.iconst 5, 1) := by decide +kernel
theorem dX12_owedBy_20 : decode cX12_owedBy 20 = .ok (.iload 4, 2) := by decide +kernel
theorem dX12_owedBy_22 : decode cX12_owedBy 22 = .ok (.imul, 1) := by decide +kernel
theorem dX12_owedBy_23 : decode cX12_owedBy 23 = .ok (.iadd, 1) := by decide +kernel
theorem dX12_owedBy_24 : decode cX12_owedBy 24 = .ok (.istore 5, 2) := by decide +kernel
theorem dX12_owedBy_26 : decode cX12_owedBy 26 = .ok (.iload_n 3, 1) := by decide +kernel
theorem dX12_owedBy_27 : decode cX12_owedBy 27 = .ok (.aload_n 0, 1) := by decide +kernel
theorem dX12_owedBy_28 : decode cX12_owedBy 28 = .ok (.getfield 9, 3) := by decide +kernel
theorem dX12_owedBy_31 : decode cX12_owedBy 31 = .ok (.iload 5, 2) := by decide +kernel
theorem dX12_owedBy_33 : decode cX12_owedBy 33 = .ok (.iconst 4, 1) := by decide +kernel
theorem dX12_owedBy_34 : decode cX12_owedBy 34 = .ok (.iadd, 1) := by decide +kernel
theorem dX12_owedBy_35 : decode cX12_owedBy 35 = .ok (.iaload, 1) := by decide +kernel
theorem dX12_owedBy_36 : decode cX12_owedBy 36 = .ok (.ifCond .ne 28, 3) := by decide +kernel
theorem dX12_owedBy_39 : decode cX12_owedBy 39 = .ok (.aload_n 0, 1) := by decide +kernel
theorem dX12_owedBy_40 : decode cX12_owedBy 40 = .ok (.getfield 9, 3) := by decide +kernel
theorem dX12_owedBy_43 : decode cX12_owedBy 43 = .ok (.iload 5, 2) := by decide +kernel
theorem dX12_owedBy_45 : decode cX12_owedBy 45 = .ok (.iload_n 2, 1) := by decide +kernel
theorem dX12_owedBy_46 : decode cX12_owedBy 46 = .ok (.iadd, 1) := by decide +kernel
theorem dX12_owedBy_47 : decode cX12_owedBy 47 = .ok (.iaload, 1) := by decide +kernel
theorem dX12_owedBy_48 : decode cX12_owedBy 48 = .ok (.iload_n 1, 1) := by decide +kernel
theorem dX12_owedBy_49 : decode cX12_owedBy 49 = .ok (.if_icmp .ne 15, 3) := by decide +kernel
theorem dX12_owedBy_52 : decode cX12_owedBy 52 = .ok (.aload_n 0, 1) := by decide +kernel
theorem dX12_owedBy_53 : decode cX12_owedBy 53 = .ok (.getfield 9, 3) := by decide +kernel
theorem dX12_owedBy_56 : decode cX12_owedBy 56 = .ok (.iload 5, 2) := by decide +kernel
theorem dX12_owedBy_58 : decode cX12_owedBy 58 = .ok (.iconst 2, 1) := by decide +kernel
theorem dX12_owedBy_59 : decode cX12_owedBy 59 = .ok (.iadd, 1) := by decide +kernel
theorem dX12_owedBy_60 : decode cX12_owedBy 60 = .ok (.iaload, 1) := by decide +kernel
theorem dX12_owedBy_61 : decode cX12_owedBy 61 = .ok (.goto 4, 3) := by decide +kernel
theorem dX12_owedBy_64 : decode cX12_owedBy 64 = .ok (.iconst 0, 1) := by decide +kernel
theorem dX12_owedBy_65 : decode cX12_owedBy 65 = .ok (.iadd, 1) := by decide +kernel
theorem dX12_owedBy_66 : decode cX12_owedBy 66 = .ok (.istore_n 3, 1) := by decide +kernel
theorem dX12_owedBy_67 : decode cX12_owedBy 67 = .ok (.iinc 4 1, 3) := by decide +kernel
theorem dX12_owedBy_70 : decode cX12_owedBy 70 = .ok (.goto (-65), 3) := by decide +kernel
theorem dX12_owedBy_73 : decode cX12_owedBy 73 = .ok (.iload_n 3, 1) := by decide +kernel
theorem dX12_owedBy_74 : decode cX12_owedBy 74 = .ok (.ireturn, 1) := by decide +kernel
abbrev YX12_owedBy : li_Y := (yX12_owedBy, cX12_owedBy, 6, (some .int))
set_option maxRecDepth 100000 in
set_option maxHeartbeats 4000000 in
theorem k_X12_isLate {l : Launch} {Z : li_Z} (d : Nat) (hd : 2 ≤ d) {a : Nat} (ha : li_la a) (p1 : Int32) (M0 : li_M) (hJ : li_J M0) (h1 : 0 ≤ p1.toInt ∧ p1.toInt ≤ 7) : li_Met l Z YX12_isLate d [.ref (Z.2.2 175), .ref (Z.2.2 a), .int p1] M0 (fun r M' => ((r = some (.int 1) ∧ True) ∨ (r = some (.int 0) ∧ True)) ∧ li_fs (fun i k => False) M0 M' ∧ li_J M') := by
  refine li_enter (by decide +kernel) (Nat.le_of_ble_eq_true rfl) ?_
  show li_T l Z YX12_isLate d 0 [(0, .ref (Z.2.2 175)), (1, .ref (Z.2.2 a)), (2, .int p1)] [] M0 _
  have hf : li_fs (fun i k => False) M0 M0 := li_fs_refl
  have gp1 := tl_rg p1
  have caa : a = 176 ∨ a = 200 := ha
  refine li_aload_n 1 dX12_isLate_0 rfl ?_
  refine li_bipush 19 dX12_isLate_1 (by decide) ?_
  have z19 : (19 : Int32).toInt = 19 := rfl
  refine li_iald dX12_isLate_3 (snA ha) (shA ha) (tl_in (by omega)) ?_
  refine li_top (fun x1 ex1 => ?_)
  have gx1 := tl_rg x1
  have lx1 : ((19 : Int32).toInt % 51 = 20 → 0 ≤ x1.toInt ∧ x1.toInt ≤ 6) ∧ (21 ≤ (19 : Int32).toInt % 51 → ((19 : Int32).toInt % 51 - 21) % 5 < 2 → 0 ≤ x1.toInt ∧ x1.toInt ≤ 5) := hJ.ldLed (li_la_led ha) ex1 (by omega)
  refine li_bipush 100 dX12_isLate_4 (by decide) ?_
  refine li_irem dX12_isLate_6 (by decide) ?_
  refine li_top (fun x2 ex2 => ?_)
  refine li_aload_n 0 dX12_isLate_7 rfl ?_
  refine li_iload_n 2 dX12_isLate_8 rfl ?_
  refine li_iconst 3 dX12_isLate_9 (by decide) ?_
  have z3 : (3 : Int32).toInt = 3 := rfl
  refine li_callV (n := 2) (As := [.int p1, .int 3]) dX12_isLate_10 (k_X12_field (d - 1) (by omega) p1 3 M0 hJ (by omega) (by omega)) (by omega) (Nat.le_of_ble_eq_true rfl) w_1668 w_1670 w_60 w_112 w_1671 (by decide +kernel) rfl (by decide) sh_175 rfl rfl (Nat.le_of_ble_eq_true rfl) (fun r M4 h5 => ?_)
  obtain ⟨⟨x3, rfl, qx3⟩, h5, jM4⟩ := h5
  have gx3 := tl_rg x3
  have hf := li_fs_trans hf h5 (fun i k h => False.elim h)
  have hJ := jM4
  refine li_icmp_le 20 dX12_isLate_13 (by decide) (fun c6 => ?_) (fun c6 => ?_)
  · have tc6 : x2.toInt ≤ x3.toInt := tl_le c6
    refine li_iconst 0 dX12_isLate_20 (by decide) ?_
    have z0 : (0 : Int32).toInt = 0 := rfl
    exact li_iret dX12_isLate_21 rfl (li_nz (Or.inl rfl)) ⟨Or.inr ⟨rfl, trivial⟩, hf, hJ⟩
  · have tc6 : x3.toInt < x2.toInt := tl_nle c6
    refine li_iconst 1 dX12_isLate_16 (by decide) ?_
    refine li_goto 21 dX12_isLate_17 (by decide) ?_
    have z1 : (1 : Int32).toInt = 1 := rfl
    exact li_iret dX12_isLate_21 rfl (li_nz (Or.inr rfl)) ⟨Or.inl ⟨rfl, trivial⟩, hf, hJ⟩
set_option maxRecDepth 100000 in
set_option maxHeartbeats 4000000 in
theorem k_X12_today {l : Launch} {Z : li_Z} (d : Nat) (hd : 3 ≤ d) (M0 : li_M) (hJ : li_J M0) : li_Met l Z YX12_today d [.ref (Z.2.2 175)] M0 (fun r M' => (∃ x : Int32, r = some (.int x) ∧ (0 ≤ x.toInt ∧ x.toInt ≤ 255)) ∧ li_fs (fun i k => False) M0 M' ∧ li_J M') := by
  refine li_enter (by decide +kernel) (Nat.le_of_ble_eq_true rfl) ?_
  show li_T l Z YX12_today d 0 [(0, .ref (Z.2.2 175))] [] M0 _
  have hf : li_fs (fun i k => False) M0 M0 := li_fs_refl
  refine li_iconst 0 dX12_today_0 (by decide) ?_
  refine li_istore_n [(1, .int 0), (0, .ref (Z.2.2 175))] dX12_today_1 (by decide) rfl ?_
  refine li_iconst 0 dX12_today_2 (by decide) ?_
  refine li_istore_n [(2, .int 0), (1, .int 0), (0, .ref (Z.2.2 175))] dX12_today_3 (by decide) rfl ?_
  have L4 : ∀ (n : Nat) (x1 : Int32) (x2 : Int32) (M3 : li_M), (8 - (x1 : Int32).toInt).toNat < n → li_fs (fun i k => False) M0 M3 → li_J M3 → 0 ≤ (x1 : Int32).toInt ∧ 0 ≤ (x2 : Int32).toInt ∧ (x2 : Int32).toInt ≤ 255 → li_T l Z YX12_today d 4 [(2, .int x1), (1, .int x2), (0, .ref (Z.2.2 175))] [] M3 (fun r M' => (∃ x : Int32, r = some (.int x) ∧ (0 ≤ x.toInt ∧ x.toInt ≤ 255)) ∧ li_fs (fun i k => False) M0 M' ∧ li_J M') := by
    intro n
    induction n with
    | zero => intro x1 x2 M3 hn; exact absurd hn (Nat.not_lt_zero _)
    | succ n ih4 =>
      intro x1 x2 M3 hn hf hJ hi
      have gx1 := tl_rg x1
      have gx2 := tl_rg x2
      refine li_iload_n 0 dX12_today_4 rfl ?_
      refine li_aload_n 2 dX12_today_5 rfl ?_
      refine li_geti (k := 4) (N := 52) (T := TX12) (C0 := RX12) dX12_today_6 (by decide) sh_175 rfl rfl (by decide) li_in12 w_1408 ?_
      refine li_top (fun x4 ex4 => ?_)
      have gx4 : 0 ≤ x4.toInt ∧ x4.toInt ≤ 8 := by rw [ex4]; exact J_sl4 hJ
      have sx4 : x4.toInt = (M0.1 175 4).toInt := tl_slot (ex4.trans (hf.1 175 4 id))
      refine li_icmp_ge 54 dX12_today_9 (by decide) (fun c5 => ?_) (fun c5 => ?_)
      · have tc5 : x4.toInt ≤ x1.toInt := tl_le c5
        refine li_iload_n 1 dX12_today_54 rfl ?_
        exact li_iret dX12_today_55 rfl rfl ⟨⟨_, rfl, (by first | omega | (intro _; omega) | (refine ⟨?_, ?_⟩ <;> first | omega | (intro _; omega)) | (refine ⟨?_, ?_, ?_, ?_⟩ <;> first | omega | (intro _; omega)))⟩, hf, hJ⟩
      · have tc5 : x1.toInt < x4.toInt := tl_nle c5
        refine li_iload_n 1 dX12_today_12 rfl ?_
        refine li_aload_n 2 dX12_today_13 rfl ?_
        refine li_getr (k := 0) (N := 52) (T := TX12) (C0 := RX12) dX12_today_14 (by decide) sh_175 rfl rfl (by decide) (by decide) li_in12 w_1404 ?_
        refine li_bipush 18 dX12_today_17 (by decide) ?_
        have z18 : (18 : Int32).toInt = 18 := rfl
        refine li_iald dX12_today_19 (by decide) sh_176 (tl_in (by omega)) ?_
        refine li_top (fun x6 ex6 => ?_)
        have gx6 := tl_rg x6
        have lx6 : ((18 : Int32).toInt % 51 = 20 → 0 ≤ x6.toInt ∧ x6.toInt ≤ 6) ∧ (21 ≤ (18 : Int32).toInt % 51 → ((18 : Int32).toInt % 51 - 21) % 5 < 2 → 0 ≤ x6.toInt ∧ x6.toInt ≤ 5) := hJ.ldLed (by unfold li_led; omega) ex6 (by omega)
        refine li_iload_n 0 dX12_today_20 rfl ?_
        refine li_callS (n := 2) (As := [.int x6, .int x1]) dX12_today_21 (k_X12_has (d - 1) (by omega) x6 x1 M3 hJ ) (by omega) (Nat.le_of_ble_eq_true rfl) w_1734 w_1735 w_112 w_1736 (by decide +kernel) rfl rfl (Nat.le_of_ble_eq_true rfl) (fun r M8 h9 => ?_)
        obtain ⟨qx7, h9, jM8⟩ := h9
        have hf := li_fs_trans hf h9 (fun i k h => False.elim h)
        have hJ := jM8
        rcases qx7 with ⟨rfl, qx7⟩ | ⟨rfl, qx7⟩
        · skip
          refine li_if_ne 45 dX12_today_24 (by decide) (fun c => ?_) (fun c => absurd c (by decide))
          refine li_iconst 0 dX12_today_45 (by decide) ?_
          refine li_ior dX12_today_46 ?_
          refine li_top (fun x11 ex11 => ?_)
          have z0 : (0 : Int32).toInt = 0 := rfl
          try (have tx11 := tl_or255 ex11 (by omega) (by omega))
          refine li_istore_n [(1, .int x11), (2, .int x1), (0, .ref (Z.2.2 175))] dX12_today_47 (by decide) rfl ?_
          obtain ⟨x12, ex12⟩ : ∃ y : Int32, y = x1 + 1 := ⟨_, rfl⟩
          have z1 : (1 : Int32).toInt = 1 := rfl
          try (have tx12 : x12.toInt = (x1 : Int32).toInt + (1 : Int32).toInt := tl_add ex12 (by omega))
          refine li_iinc 1 [(2, .int x12), (1, .int x11), (0, .ref (Z.2.2 175))] x12 dX12_today_48 rfl (by rw [ex12]; rfl) (by decide) rfl ?_
          refine li_goto 4 dX12_today_51 (by decide) ?_
          refine li_pick [0, 1, 2] [(2, .int x12), (1, .int x11), (0, .ref (Z.2.2 175))] rfl ?_
          exact ih4 x12 x11 M8 (by omega) hf hJ (by omega)
        · skip
          refine li_if_ne 45 dX12_today_24 (by decide) (fun c => absurd rfl c) (fun c => ?_)
          refine li_aload_n 2 dX12_today_27 rfl ?_
          refine li_aload_n 2 dX12_today_28 rfl ?_
          refine li_getr (k := 0) (N := 52) (T := TX12) (C0 := RX12) dX12_today_29 (by decide) sh_175 rfl rfl (by decide) (by decide) li_in12 w_1404 ?_
          refine li_iload_n 0 dX12_today_32 rfl ?_
          refine li_callV (n := 2) (As := [.ref (Z.2.2 176), .int x1]) dX12_today_33 (k_X12_isLate (d - 1) (by omega) la_176 x1 M8 hJ (by omega)) (by omega) (Nat.le_of_ble_eq_true rfl) w_1737 w_1739 w_70 w_112 w_1740 (by decide +kernel) rfl (by decide) sh_175 rfl rfl (Nat.le_of_ble_eq_true rfl) (fun r M15 h16 => ?_)
          obtain ⟨qx14, h16, jM15⟩ := h16
          have hf := li_fs_trans hf h16 (fun i k h => False.elim h)
          have hJ := jM15
          rcases qx14 with ⟨rfl, qx14⟩ | ⟨rfl, qx14⟩
          · skip
            refine li_if_ne 45 dX12_today_36 (by decide) (fun c => ?_) (fun c => absurd c (by decide))
            refine li_iconst 0 dX12_today_45 (by decide) ?_
            refine li_ior dX12_today_46 ?_
            refine li_top (fun x18 ex18 => ?_)
            have z0 : (0 : Int32).toInt = 0 := rfl
            try (have tx18 := tl_or255 ex18 (by omega) (by omega))
            refine li_istore_n [(1, .int x18), (2, .int x1), (0, .ref (Z.2.2 175))] dX12_today_47 (by decide) rfl ?_
            obtain ⟨x19, ex19⟩ : ∃ y : Int32, y = x1 + 1 := ⟨_, rfl⟩
            have z1 : (1 : Int32).toInt = 1 := rfl
            try (have tx19 : x19.toInt = (x1 : Int32).toInt + (1 : Int32).toInt := tl_add ex19 (by omega))
            refine li_iinc 1 [(2, .int x19), (1, .int x18), (0, .ref (Z.2.2 175))] x19 dX12_today_48 rfl (by rw [ex19]; rfl) (by decide) rfl ?_
            refine li_goto 4 dX12_today_51 (by decide) ?_
            refine li_pick [0, 1, 2] [(2, .int x19), (1, .int x18), (0, .ref (Z.2.2 175))] rfl ?_
            exact ih4 x19 x18 M15 (by omega) hf hJ (by omega)
          · skip
            refine li_if_ne 45 dX12_today_36 (by decide) (fun c => absurd rfl c) (fun c => ?_)
            refine li_iconst 1 dX12_today_39 (by decide) ?_
            refine li_iload_n 0 dX12_today_40 rfl ?_
            refine li_ishl dX12_today_41 ?_
            refine li_top (fun x21 ex21 => ?_)
            have z1 : (1 : Int32).toInt = 1 := rfl
            try (have tx21 := tl_shl255 ex21 (by omega))
            refine li_goto 46 dX12_today_42 (by decide) ?_
            refine li_ior dX12_today_46 ?_
            refine li_top (fun x22 ex22 => ?_)
            try (have tx22 := tl_or255 ex22 (by omega) (by omega))
            refine li_istore_n [(1, .int x22), (2, .int x1), (0, .ref (Z.2.2 175))] dX12_today_47 (by decide) rfl ?_
            obtain ⟨x23, ex23⟩ : ∃ y : Int32, y = x1 + 1 := ⟨_, rfl⟩
            have z1 : (1 : Int32).toInt = 1 := rfl
            try (have tx23 : x23.toInt = (x1 : Int32).toInt + (1 : Int32).toInt := tl_add ex23 (by omega))
            refine li_iinc 1 [(2, .int x23), (1, .int x22), (0, .ref (Z.2.2 175))] x23 dX12_today_48 rfl (by rw [ex23]; rfl) (by decide) rfl ?_
            refine li_goto 4 dX12_today_51 (by decide) ?_
            refine li_pick [0, 1, 2] [(2, .int x23), (1, .int x22), (0, .ref (Z.2.2 175))] rfl ?_
            exact ih4 x23 x22 M15 (by omega) hf hJ (by omega)
  have z0 : (0 : Int32).toInt = 0 := rfl
  have z0 : (0 : Int32).toInt = 0 := rfl
  exact L4 _ 0 0 M0 (Nat.lt_succ_self _) hf hJ (by omega)
set_option maxRecDepth 100000 in
set_option maxHeartbeats 4000000 in
theorem k_X12_owedBy {l : Launch} {Z : li_Z} (d : Nat) (hd : 1 ≤ d) (p1 p2 : Int32) (M0 : li_M) (hJ : li_J M0) (h2 : 0 ≤ p2.toInt ∧ p2.toInt ≤ 1) : li_Met l Z YX12_owedBy d [.ref (Z.2.2 175), .int p1, .int p2] M0 (fun r M' => (∃ x : Int32, r = some (.int x)) ∧ li_fs (fun i k => False) M0 M' ∧ li_J M') := by
  refine li_enter (by decide +kernel) (Nat.le_of_ble_eq_true rfl) ?_
  show li_T l Z YX12_owedBy d 0 [(0, .ref (Z.2.2 175)), (1, .int p1), (2, .int p2)] [] M0 _
  have hf : li_fs (fun i k => False) M0 M0 := li_fs_refl
  have gp1 := tl_rg p1
  have gp2 := tl_rg p2
  refine li_iconst 0 dX12_owedBy_0 (by decide) ?_
  refine li_istore_n [(3, .int 0), (0, .ref (Z.2.2 175)), (1, .int p1), (2, .int p2)] dX12_owedBy_1 (by decide) rfl ?_
  refine li_iconst 0 dX12_owedBy_2 (by decide) ?_
  refine li_istore [(4, .int 0), (3, .int 0), (0, .ref (Z.2.2 175)), (1, .int p1), (2, .int p2)] dX12_owedBy_3 (by decide) rfl ?_
  have L5 : ∀ (n : Nat) (x1 : Int32) (x2 : Int32) (M3 : li_M), (6 - (x1 : Int32).toInt).toNat < n → li_fs (fun i k => False) M0 M3 → li_J M3 → 0 ≤ (x1 : Int32).toInt → li_T l Z YX12_owedBy d 5 [(4, .int x1), (3, .int x2), (0, .ref (Z.2.2 175)), (1, .int p1), (2, .int p2)] [] M3 (fun r M' => (∃ x : Int32, r = some (.int x)) ∧ li_fs (fun i k => False) M0 M' ∧ li_J M') := by
    intro n
    induction n with
    | zero => intro x1 x2 M3 hn; exact absurd hn (Nat.not_lt_zero _)
    | succ n ih5 =>
      intro x1 x2 M3 hn hf hJ hi
      have gx1 := tl_rg x1
      have gx2 := tl_rg x2
      refine li_iload 0 dX12_owedBy_5 rfl ?_
      refine li_aload_n 2 dX12_owedBy_7 rfl ?_
      refine li_getr (k := 0) (N := 52) (T := TX12) (C0 := RX12) dX12_owedBy_8 (by decide) sh_175 rfl rfl (by decide) (by decide) li_in12 w_1404 ?_
      refine li_bipush 20 dX12_owedBy_11 (by decide) ?_
      have z20 : (20 : Int32).toInt = 20 := rfl
      refine li_iald dX12_owedBy_13 (by decide) sh_176 (tl_in (by omega)) ?_
      refine li_top (fun x4 ex4 => ?_)
      have gx4 := tl_rg x4
      have lx4 : ((20 : Int32).toInt % 51 = 20 → 0 ≤ x4.toInt ∧ x4.toInt ≤ 6) ∧ (21 ≤ (20 : Int32).toInt % 51 → ((20 : Int32).toInt % 51 - 21) % 5 < 2 → 0 ≤ x4.toInt ∧ x4.toInt ≤ 5) := hJ.ldLed (by unfold li_led; omega) ex4 (by omega)
      refine li_icmp_ge 73 dX12_owedBy_14 (by decide) (fun c5 => ?_) (fun c5 => ?_)
      · have tc5 : x4.toInt ≤ x1.toInt := tl_le c5
        refine li_iload_n 1 dX12_owedBy_73 rfl ?_
        exact li_iret dX12_owedBy_74 rfl rfl ⟨⟨_, rfl⟩, hf, hJ⟩
      · have tc5 : x1.toInt < x4.toInt := tl_nle c5
        refine li_bipush 21 dX12_owedBy_17 (by decide) ?_
        refine li_iconst 5 dX12_owedBy_19 (by decide) ?_
        refine li_iload 0 dX12_owedBy_20 rfl ?_
        refine li_imul dX12_owedBy_22 ?_
        refine li_top (fun x6 ex6 => ?_)
        have z5 : (5 : Int32).toInt = 5 := rfl
        try (have tx6 : x6.toInt = 5 * (x1 : Int32).toInt := tl_mul ex6 (show -2147483648 ≤ 5 * (x1 : Int32).toInt ∧ 5 * (x1 : Int32).toInt ≤ 2147483647 by omega))
        refine li_iadd dX12_owedBy_23 ?_
        refine li_top (fun x7 ex7 => ?_)
        have z21 : (21 : Int32).toInt = 21 := rfl
        try (have tx7 : x7.toInt = (21 : Int32).toInt + (x6 : Int32).toInt := tl_add ex7 (by omega))
        refine li_istore [(5, .int x7), (4, .int x1), (3, .int x2), (0, .ref (Z.2.2 175)), (1, .int p1), (2, .int p2)] dX12_owedBy_24 (by decide) rfl ?_
        refine li_iload_n 2 dX12_owedBy_26 rfl ?_
        refine li_aload_n 3 dX12_owedBy_27 rfl ?_
        refine li_getr (k := 0) (N := 52) (T := TX12) (C0 := RX12) dX12_owedBy_28 (by decide) sh_175 rfl rfl (by decide) (by decide) li_in12 w_1404 ?_
        refine li_iload 0 dX12_owedBy_31 rfl ?_
        refine li_iconst 4 dX12_owedBy_33 (by decide) ?_
        refine li_iadd dX12_owedBy_34 ?_
        refine li_top (fun x8 ex8 => ?_)
        have z4 : (4 : Int32).toInt = 4 := rfl
        try (have tx8 : x8.toInt = (x7 : Int32).toInt + (4 : Int32).toInt := tl_add ex8 (by omega))
        refine li_iald dX12_owedBy_35 (by decide) sh_176 (tl_in (by omega)) ?_
        refine li_top (fun x9 ex9 => ?_)
        have gx9 := tl_rg x9
        try (have ox9 : (x8 : Int32).toInt % 51 = (x8 : Int32).toInt := by omega)
        have lx9 : ((x8 : Int32).toInt % 51 = 20 → 0 ≤ x9.toInt ∧ x9.toInt ≤ 6) ∧ (21 ≤ (x8 : Int32).toInt % 51 → ((x8 : Int32).toInt % 51 - 21) % 5 < 2 → 0 ≤ x9.toInt ∧ x9.toInt ≤ 5) := hJ.ldLed (by unfold li_led; omega) ex9 (by omega)
        have J65 : ∀ (x11 : Int32) (M12 : li_M), li_fs (fun i k => False) M0 M12 → li_J M12 → li_T l Z YX12_owedBy d 65 [(5, .int x7), (4, .int x1), (3, .int x2), (0, .ref (Z.2.2 175)), (1, .int p1), (2, .int p2)] [.int x11, .int x2] M12 (fun r M' => (∃ x : Int32, r = some (.int x)) ∧ li_fs (fun i k => False) M0 M' ∧ li_J M') := by
          intro x11 M12 hf hJ
          have gx11 := tl_rg x11
          refine li_iadd dX12_owedBy_65 ?_
          refine li_top (fun x13 ex13 => ?_)
          try (have tx13 : x13.toInt = (x2 : Int32).toInt + (x11 : Int32).toInt := tl_add ex13 (by omega))
          refine li_istore_n [(3, .int x13), (5, .int x7), (4, .int x1), (0, .ref (Z.2.2 175)), (1, .int p1), (2, .int p2)] dX12_owedBy_66 (by decide) rfl ?_
          obtain ⟨x14, ex14⟩ : ∃ y : Int32, y = x1 + 1 := ⟨_, rfl⟩
          have z1 : (1 : Int32).toInt = 1 := rfl
          try (have tx14 : x14.toInt = (x1 : Int32).toInt + (1 : Int32).toInt := tl_add ex14 (by omega))
          refine li_iinc 2 [(4, .int x14), (3, .int x13), (5, .int x7), (0, .ref (Z.2.2 175)), (1, .int p1), (2, .int p2)] x14 dX12_owedBy_67 rfl (by rw [ex14]; rfl) (by decide) rfl ?_
          refine li_goto 5 dX12_owedBy_70 (by decide) ?_
          refine li_pick [0, 1, 3, 4, 5] [(4, .int x14), (3, .int x13), (0, .ref (Z.2.2 175)), (1, .int p1), (2, .int p2)] rfl ?_
          exact ih5 x14 x13 M12 (by omega) hf hJ (by omega)
        refine li_if_ne 64 dX12_owedBy_36 (by decide) (fun c10 => ?_) (fun c10 => ?_)
        · have tc10 : ¬ x9.toInt = 0 := tl_ne c10
          refine li_iconst 0 dX12_owedBy_64 (by decide) ?_
          refine li_pick [0, 1, 2, 3, 4, 5] [(5, .int x7), (4, .int x1), (3, .int x2), (0, .ref (Z.2.2 175)), (1, .int p1), (2, .int p2)] rfl ?_
          have z0 : (0 : Int32).toInt = 0 := rfl
          exact J65 0 M3 hf hJ
        · have tc10 : x9.toInt = 0 := tl_eq c10
          refine li_aload_n 3 dX12_owedBy_39 rfl ?_
          refine li_getr (k := 0) (N := 52) (T := TX12) (C0 := RX12) dX12_owedBy_40 (by decide) sh_175 rfl rfl (by decide) (by decide) li_in12 w_1404 ?_
          refine li_iload 0 dX12_owedBy_43 rfl ?_
          refine li_iload_n 5 dX12_owedBy_45 rfl ?_
          refine li_iadd dX12_owedBy_46 ?_
          refine li_top (fun x15 ex15 => ?_)
          try (have tx15 : x15.toInt = (x7 : Int32).toInt + (p2 : Int32).toInt := tl_add ex15 (by omega))
          refine li_iald dX12_owedBy_47 (by decide) sh_176 (tl_in (by omega)) ?_
          refine li_top (fun x16 ex16 => ?_)
          have gx16 := tl_rg x16
          try (have ox16 : (x15 : Int32).toInt % 51 = (x15 : Int32).toInt := by omega)
          have lx16 : ((x15 : Int32).toInt % 51 = 20 → 0 ≤ x16.toInt ∧ x16.toInt ≤ 6) ∧ (21 ≤ (x15 : Int32).toInt % 51 → ((x15 : Int32).toInt % 51 - 21) % 5 < 2 → 0 ≤ x16.toInt ∧ x16.toInt ≤ 5) := hJ.ldLed (by unfold li_led; omega) ex16 (by omega)
          refine li_iload_n 4 dX12_owedBy_48 rfl ?_
          refine li_icmp_ne 64 dX12_owedBy_49 (by decide) (fun c17 => ?_) (fun c17 => ?_)
          · have tc17 : ¬ x16.toInt = p1.toInt := tl_ne c17
            refine li_iconst 0 dX12_owedBy_64 (by decide) ?_
            refine li_pick [0, 1, 2, 3, 4, 5] [(5, .int x7), (4, .int x1), (3, .int x2), (0, .ref (Z.2.2 175)), (1, .int p1), (2, .int p2)] rfl ?_
            have z0 : (0 : Int32).toInt = 0 := rfl
            exact J65 0 M3 hf hJ
          · have tc17 : x16.toInt = p1.toInt := tl_eq c17
            refine li_aload_n 3 dX12_owedBy_52 rfl ?_
            refine li_getr (k := 0) (N := 52) (T := TX12) (C0 := RX12) dX12_owedBy_53 (by decide) sh_175 rfl rfl (by decide) (by decide) li_in12 w_1404 ?_
            refine li_iload 0 dX12_owedBy_56 rfl ?_
            refine li_iconst 2 dX12_owedBy_58 (by decide) ?_
            refine li_iadd dX12_owedBy_59 ?_
            refine li_top (fun x18 ex18 => ?_)
            have z2 : (2 : Int32).toInt = 2 := rfl
            try (have tx18 : x18.toInt = (x7 : Int32).toInt + (2 : Int32).toInt := tl_add ex18 (by omega))
            refine li_iald dX12_owedBy_60 (by decide) sh_176 (tl_in (by omega)) ?_
            refine li_top (fun x19 ex19 => ?_)
            have gx19 := tl_rg x19
            try (have ox19 : (x18 : Int32).toInt % 51 = (x18 : Int32).toInt := by omega)
            have lx19 : ((x18 : Int32).toInt % 51 = 20 → 0 ≤ x19.toInt ∧ x19.toInt ≤ 6) ∧ (21 ≤ (x18 : Int32).toInt % 51 → ((x18 : Int32).toInt % 51 - 21) % 5 < 2 → 0 ≤ x19.toInt ∧ x19.toInt ≤ 5) := hJ.ldLed (by unfold li_led; omega) ex19 (by omega)
            refine li_goto 65 dX12_owedBy_61 (by decide) ?_
            refine li_pick [0, 1, 2, 3, 4, 5] [(5, .int x7), (4, .int x1), (3, .int x2), (0, .ref (Z.2.2 175)), (1, .int p1), (2, .int p2)] rfl ?_
            exact J65 x19 M3 hf hJ
  have z0 : (0 : Int32).toInt = 0 := rfl
  have z0 : (0 : Int32).toInt = 0 := rfl
  exact L5 _ 0 0 M0 (Nat.lt_succ_self _) hf hJ (by omega)
