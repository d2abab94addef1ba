theorem w_46 : (Jvm.Cond.selects "ClockForTalkModel" ({ cls := "ClockForTalkModel", name := "oneOf", desc := "(CII)I" } : Jvm.MethodName) ({ cls := "ClockForTalkModel", name := "oneOf", desc := "(CII)I" } : Jvm.MethodName)) ∈ li_ws := li_mem 46 (by decide +kernel) (by decide +kernel)
theorem w_1593 : (Jvm.Cond.methodLink "ClockForTalkModel" (158 : Nat) ({ cls := "ClockForTalkModel", name := "oneOf", desc := "(CII)I" } : Jvm.MethodName)) ∈ li_ws := li_mem 1593 (by decide +kernel) (by decide +kernel)
theorem w_1595 : (Jvm.Cond.instanceMethod ({ cls := "ClockForTalkModel", name := "oneOf", desc := "(CII)I" } : Jvm.MethodName)) ∈ li_ws := li_mem 1595 (by decide +kernel) (by decide +kernel)
theorem w_1596 : (Jvm.Cond.code ({ cls := "ClockForTalkModel", name := "oneOf", desc := "(CII)I" } : Jvm.MethodName) prog_13_method_18_code (4 : Nat) (Option.some Jvm.ClassFile.FieldType.int)) ∈ li_ws := li_mem 1596 (by decide +kernel) (by decide +kernel)
theorem dX12_begin_0 : decode cX12_begin 0 = .ok (.aload_n 0, 1) := by decide +kernel
theorem dX12_begin_1 : decode cX12_begin 1 = .ok (.aload_n 1, 1) := by decide +kernel
theorem dX12_begin_2 : decode cX12_begin 2 = .ok (.putfield 127, 3) := by decide +kernel
theorem dX12_begin_5 : decode cX12_begin 5 = .ok (.aload_n 0, 1) := by decide +kernel
theorem dX12_begin_6 : decode cX12_begin 6 = .ok (.iload_n 2, 1) := by decide +kernel
theorem dX12_begin_7 : decode cX12_begin 7 = .ok (.putfield 130, 3) := by decide +kernel
theorem dX12_begin_10 : decode cX12_begin 10 = .ok (.aload_n 0, 1) := by decide +kernel
theorem dX12_begin_11 : decode cX12_begin 11 = .ok (.iload_n 3, 1) := by decide +kernel
theorem dX12_begin_12 : decode cX12_begin 12 = .ok (.putfield 133, 3) := by decide +kernel
theorem dX12_begin_15 : decode cX12_begin 15 = .ok (.aload_n 0, 1) := by decide +kernel
theorem dX12_begin_16 : decode cX12_begin 16 = .ok (.iconst 0, 1) := by decide +kernel
theorem dX12_begin_17 : decode cX12_begin 17 = .ok (.putfield 136, 3) := by decide +kernel
theorem dX12_begin_20 : decode cX12_begin 20 = .ok (.aload_n 0, 1) := by decide +kernel
theorem dX12_begin_21 : decode cX12_begin 21 = .ok (.iconst (-1), 1) := by decide +kernel
theorem dX12_begin_22 : decode cX12_begin 22 = .ok (.putfield 139, 3) := by decide +kernel
theorem dX12_begin_25 : decode cX12_begin 25 = .ok (.return_, 1) := by decide +kernel
abbrev YX12_begin : li_Y := (yX12_begin, cX12_begin, 4, none)
theorem dX12_number_0 : decode cX12_number 0 = .ok (.aload_n 0, 1) := by decide +kernel
theorem dX12_number_1 : decode cX12_number 1 = .ok (.bipush 48, 2) := by decide +kernel
theorem dX12_number_3 : decode cX12_number 3 = .ok (.bipush 10, 2) := by decide +kernel
theorem dX12_number_5 : decode cX12_number 5 = .ok (.iconst (-1), 1) := by decide +kernel
theorem dX12_number_6 : decode cX12_number 6 = .ok (.invokevirtual 158, 3) := by decide +kernel
theorem dX12_number_9 : decode cX12_number 9 = .ok (.istore_n 2, 1) := by decide +kernel
theorem dX12_number_10 : decode cX12_number 10 = .ok (.iconst 1, 1) := by decide +kernel
theorem dX12_number_11 : decode cX12_number 11 = .ok (.istore_n 3, 1) := by decide +kernel
theorem dX12_number_12 : decode cX12_number 12 = .ok (.iload_n 3, 1) := by decide +kernel
theorem dX12_number_13 : decode cX12_number 13 = .ok (.iload_n 1, 1) := by decide +kernel
theorem dX12_number_14 : decode cX12_number 14 = .ok (.if_icmp .ge 45, 3) := by decide +kernel
theorem dX12_number_17 : decode cX12_number 17 = .ok (.aload_n 0, 1) := by decide +kernel
theorem dX12_number_18 : decode cX12_number 18 = .ok (.invokevirtual 142, 3) := by decide +kernel
theorem dX12_number_21 : decode cX12_number 21 = .ok (.ifCond .eq 38, 3) := by decide +kernel
theorem dX12_number_24 : decode cX12_number 24 = .ok (.aload_n 0, 1) := by decide +kernel
theorem dX12_number_25 : decode cX12_number 25 = .ok (.invokevirtual 146, 3) := by decide +kernel
theorem dX12_number_28 : decode cX12_number 28 = .ok (.bipush 48, 2) := by decide +kernel
theorem dX12_number_30 : decode cX12_number 30 = .ok (.bipush 57, 2) := by decide +kernel
theorem dX12_number_32 : decode cX12_number 32 = .ok (.invokestatic 113, 3) := by decide +kernel
theorem dX12_number_35 : decode cX12_number 35 = .ok (.ifCond .eq 24, 3) := by decide +kernel
theorem dX12_number_38 : decode cX12_number 38 = .ok (.bipush 10, 2) := by decide +kernel
theorem dX12_number_40 : decode cX12_number 40 = .ok (.iload_n 2, 1) := by decide +kernel
theorem dX12_number_41 : decode cX12_number 41 = .ok (.imul, 1) := by decide +kernel
theorem dX12_number_42 : decode cX12_number 42 = .ok (.aload_n 0, 1) := by decide +kernel
theorem dX12_number_43 : decode cX12_number 43 = .ok (.bipush 48, 2) := by decide +kernel
theorem dX12_number_45 : decode cX12_number 45 = .ok (.bipush 10, 2) := by decide +kernel
theorem dX12_number_47 : decode cX12_number 47 = .ok (.iconst (-1), 1) := by decide +kernel
theorem dX12_number_48 : decode cX12_number 48 = .ok (.invokevirtual 158, 3) := by decide +kernel
theorem dX12_number_51 : decode cX12_number 51 = .ok (.iadd, 1) := by decide +kernel
theorem dX12_number_52 : decode cX12_number 52 = .ok (.istore_n 2, 1) := by decide +kernel
theorem dX12_number_53 : decode cX12_number 53 = .ok (.iinc 3 1, 3) := by decide +kernel
theorem dX12_number_56 : decode cX12_number 56 = .ok (.goto (-44), 3) := by decide +kernel
theorem dX12_number_59 : decode cX12_number 59 = .ok (.iload_n 2, 1) := by decide +kernel
theorem dX12_number_60 : decode cX12_number 60 = .ok (.ireturn, 1) := by decide +kernel
abbrev YX12_number : li_Y := (yX12_number, cX12_number, 4, (some .int))
theorem li_only0 (k2 : Nat) (h : k2 ≠ 11) : (match li_sh 175 with
  | .inl o => o.2
  | .inr _ => [])[k2]? ≠ some (some (1000 + 0)) := by
  have h1 : ((List.range 52).all fun k => decide (k = 11) || !decide ((match li_sh 175 with
    | .inl o => o.2
    | .inr _ => [])[k]? = some (some 1000))) = true := by decide +kernel
  by_cases c : k2 < 52
  · have := List.all_eq_true.mp h1 k2 (List.mem_range.mpr c)
    simpa [h] using this
  · intro e
    have h2 := (List.getElem?_eq_some_iff.mp e).1
    have h3 : (match li_sh 175 with
      | .inl o => o.2
      | .inr _ => []).length = 52 := by decide +kernel
    omega
theorem li_only1 (k2 : Nat) (h : k2 ≠ 17) : (match li_sh 175 with
  | .inl o => o.2
  | .inr _ => [])[k2]? ≠ some (some (1000 + 1)) := by
  have h1 : ((List.range 52).all fun k => decide (k = 17) || !decide ((match li_sh 175 with
    | .inl o => o.2
    | .inr _ => [])[k]? = some (some 1001))) = true := by decide +kernel
  by_cases c : k2 < 52
  · have := List.all_eq_true.mp h1 k2 (List.mem_range.mpr c)
    simpa [h] using this
  · intro e
    have h2 := (List.getElem?_eq_some_iff.mp e).1
    have h3 : (match li_sh 175 with
      | .inl o => o.2
      | .inr _ => []).length = 52 := by decide +kernel
    omega
theorem li_qn_fix : li_qn 180 = 80 ∧ li_qn 183 = 40 ∧ li_qn 184 = 40 := ⟨rfl, rfl, rfl⟩
theorem li_qn_rl {q : Nat} (h : li_rl q) : li_qn q = 40 := by rcases h with rfl | rfl <;> rfl
set_option maxRecDepth 100000 in
set_option maxHeartbeats 4000000 in
theorem k_X12_begin {l : Launch} {Z : li_Z} (d : Nat) {q : Nat} (hq : li_rq q) (p1 p2 : Int32) (M0 : li_M) (hJ : li_J M0) (h1 : 0 ≤ p1.toInt ∧ p1.toInt ≤ (li_qn q : Int)) (h2 : 0 ≤ p2.toInt ∧ p2.toInt ≤ 80) : li_Met l Z YX12_begin d [.ref (Z.2.2 175), .ref (Z.2.2 q), .int p1, .int p2] M0 (fun r M' => r = none ∧ li_fs (fun i k => (i = 175 ∧ k = 12) ∨ (i = 175 ∧ k = 13) ∨ (i = 175 ∧ k = 14) ∨ (i = 175 ∧ k = 15) ∨ i = 1000) M0 M' ∧ li_J M' ∧ (M'.1 175 12).toInt = p1.toInt ∧ (M'.1 175 13).toInt = p2.toInt ∧ (M'.1 175 14).toInt = 0 ∧ (M'.1 175 15).toInt = -1 ∧ M'.2.2 0 = some q) := by
  have hn : (li_qn q : Int) ≤ 80 := by unfold li_qn; split <;> decide
  refine li_enter (by decide +kernel) (Nat.le_of_ble_eq_true rfl) ?_
  show li_T l Z YX12_begin d 0 [(0, .ref (Z.2.2 175)), (1, .ref (Z.2.2 q)), (2, .int p1), (3, .int p2)] [] M0 _
  refine li_aload_n 0 dX12_begin_0 rfl ?_
  refine li_aload_n 1 dX12_begin_1 rfl ?_
  refine li_putr (k := 11) (r := 0) (N := 52) (T := TX12) (C0 := RX12) dX12_begin_2 sh_175 rfl rfl (fun k2 hk2 => li_only0 k2 hk2) (by decide) li_in12 tyX12_ok nmX12 rfl rfl rfl rfl w_1415 ?_
  refine li_aload_n 0 dX12_begin_5 rfl ?_
  refine li_iload_n 2 dX12_begin_6 rfl ?_
  refine li_puti (k := 12) (N := 52) (T := TX12) (C0 := RX12) dX12_begin_7 (by decide) sh_175 rfl rfl (by decide) li_in12 tyX12_ok nmX12 rfl rfl rfl rfl w_1416 ?_
  refine li_aload_n 0 dX12_begin_10 rfl ?_
  refine li_iload_n 3 dX12_begin_11 rfl ?_
  refine li_puti (k := 13) (N := 52) (T := TX12) (C0 := RX12) dX12_begin_12 (by decide) sh_175 rfl rfl (by decide) li_in12 tyX12_ok nmX12 rfl rfl rfl rfl w_1417 ?_
  refine li_aload_n 0 dX12_begin_15 rfl ?_
  refine li_iconst 0 dX12_begin_16 (by decide) ?_
  refine li_puti (k := 14) (N := 52) (T := TX12) (C0 := RX12) dX12_begin_17 (by decide) sh_175 rfl rfl (by decide) li_in12 tyX12_ok nmX12 rfl rfl rfl rfl w_1418 ?_
  refine li_aload_n 0 dX12_begin_20 rfl ?_
  refine li_iconst (-1) dX12_begin_21 (by decide) ?_
  refine li_puti (k := 15) (N := 52) (T := TX12) (C0 := RX12) dX12_begin_22 (by decide) sh_175 rfl rfl (by decide) li_in12 tyX12_ok nmX12 rfl rfl rfl rfl w_1419 ?_
  refine li_nm (fun N eN => ?_)
  have e12 : N.1 175 12 = p1 := by rw [eN]; rfl
  have e13 : N.1 175 13 = p2 := by rw [eN]; rfl
  have e14 : N.1 175 14 = 0 := by rw [eN]; rfl
  have e15 : N.1 175 15 = -1 := by rw [eN]; rfl
  have er : N.2.2 0 = some q := by rw [eN]; rfl
  have hf : li_fs (fun i k => (i = 175 ∧ k = 12) ∨ (i = 175 ∧ k = 13) ∨ (i = 175 ∧ k = 14) ∨ (i = 175 ∧ k = 15) ∨ i = 1000) M0 N := by
    refine li_fs_ui (li_fs_ui (li_fs_ui (li_fs_ui (li_fs_ur li_fs_refl ?_ rfl) ?_ rfl) ?_ rfl) ?_ rfl) ?_ eN
    · exact Or.inr (Or.inr (Or.inr (Or.inr rfl)))
    · exact Or.inl ⟨rfl, rfl⟩
    · exact Or.inr (Or.inl ⟨rfl, rfl⟩)
    · exact Or.inr (Or.inr (Or.inl ⟨rfl, rfl⟩))
    · exact Or.inr (Or.inr (Or.inr (Or.inl ⟨rfl, rfl⟩)))
  have hJN : li_J N := by
    refine ⟨fun k => ?_, fun j i hj => ?_, ?_, Or.inr ⟨q, er, hq, by rw [e12]; exact h1.2⟩⟩
    · by_cases c12 : k = 12
      · subst c12; rw [e12]; exact ⟨h1.1, by show p1.toInt ≤ 80; omega⟩
      · by_cases c13 : k = 13
        · subst c13; rw [e13]; exact h2
        · by_cases c14 : k = 14
          · subst c14; rw [e14]; decide
          · by_cases c15 : k = 15
            · subst c15; rw [e15]; decide
            · rw [hf.1 175 k (by rintro (⟨-, h⟩ | ⟨-, h⟩ | ⟨-, h⟩ | ⟨-, h⟩ | h) <;> omega)]
              exact hJ.1 k
    · by_cases c : j = 1000
      · exact li_el_free (by unfold li_led; omega) (by omega) (by omega) (by unfold li_rq; omega)
      · rw [hf.1 j i (by rintro (⟨h, -⟩ | ⟨h, -⟩ | ⟨h, -⟩ | ⟨h, -⟩ | h) <;> omega)]
        exact hJ.2.1 j i hj
    · obtain ⟨q1, h3, h4⟩ := hJ.2.2.1
      exact ⟨q1, by rw [hf.2.2 1 (by rintro (⟨h, -⟩ | ⟨h, -⟩ | ⟨h, -⟩ | ⟨h, -⟩ | h) <;> omega)]; exact h3, h4⟩
  exact li_vret dX12_begin_25 rfl ⟨rfl, hf, hJN, by rw [e12], by rw [e13], by rw [e14]; rfl, by rw [e15]; rfl, er⟩
set_option maxRecDepth 100000 in
set_option maxHeartbeats 4000000 in
theorem k_X12_number {l : Launch} {Z : li_Z} (d : Nat) (hd : 4 ≤ d) (p1 : Int32) (M0 : li_M) (hJ : li_J M0) : li_Met l Z YX12_number d [.ref (Z.2.2 175), .int p1] M0 (fun r M' => (∃ x : Int32, r = some (.int x) ∧ ((M0.1 175 14).toInt ≤ (M'.1 175 14).toInt ∧ ((M'.1 175 15).toInt = -1 → (M0.1 175 15).toInt = -1 ∧ (M0.1 175 14).toInt + 1 ≤ (M'.1 175 14).toInt) ∧ ((M0.1 175 14).toInt ≤ (M0.1 175 13).toInt → (M'.1 175 14).toInt ≤ (M0.1 175 13).toInt) ∧ (M0.1 175 15).toInt ≤ (M'.1 175 15).toInt)) ∧ li_fs (fun i k => (i = 175 ∧ k = 14) ∨ (i = 175 ∧ k = 15)) M0 M' ∧ li_J M') := by
  refine li_enter (by decide +kernel) (Nat.le_of_ble_eq_true rfl) ?_
  show li_T l Z YX12_number d 0 [(0, .ref (Z.2.2 175)), (1, .int p1)] [] M0 _
  have hf : li_fs (fun i k => (i = 175 ∧ k = 14) ∨ (i = 175 ∧ k = 15)) M0 M0 := li_fs_refl
  have gp1 := tl_rg p1
  have rM0_12 := J_sl12 (M := M0) hJ
  have rM0_13 := J_sl13 (M := M0) hJ
  have rM0_14 := J_sl14 (M := M0) hJ
  have rM0_15 := J_sl15 (M := M0) hJ
  refine li_aload_n 0 dX12_number_0 rfl ?_
  refine li_bipush 48 dX12_number_1 (by decide) ?_
  refine li_bipush 10 dX12_number_3 (by decide) ?_
  refine li_iconst (-1) dX12_number_5 (by decide) ?_
  have z48 : (48 : Int32).toInt = 48 := rfl
  have z10 : (10 : Int32).toInt = 10 := rfl
  have zm1 : ((-1) : Int32).toInt = -1 := rfl
  refine li_callV (n := 3) (As := [.int 48, .int 10, .int (-1)]) dX12_number_6 (k_X12_oneOf (d - 1) (by omega) 48 10 (-1) M0 hJ (by omega) (by omega)) (by omega) (Nat.le_of_ble_eq_true rfl) w_1593 w_1595 w_46 w_112 w_1596 (by decide +kernel) rfl (by decide) sh_175 rfl rfl (Nat.le_of_ble_eq_true rfl) (fun r M2 h3 => ?_)
  obtain ⟨⟨x1, rfl, qx1⟩, h3, jM2⟩ := h3
  have gx1 := tl_rg x1
  have hf := li_fs_trans hf h3 (fun i k => fun h => Or.elim h (fun h => Or.inl h) (fun h => Or.inr h))
  have hJ := jM2
  have rM2_12 := J_sl12 (M := M2) hJ
  have rM2_13 := J_sl13 (M := M2) hJ
  have rM2_14 := J_sl14 (M := M2) hJ
  have rM2_15 := J_sl15 (M := M2) hJ
  have mM2_12 : (M2.1 175 12).toInt = (M0.1 175 12).toInt := tl_slot (h3.1 175 12 (show ¬ ((175 = 175 ∧ 12 = 14) ∨ (175 = 175 ∧ 12 = 15)) by decide))
  have mM2_13 : (M2.1 175 13).toInt = (M0.1 175 13).toInt := tl_slot (h3.1 175 13 (show ¬ ((175 = 175 ∧ 13 = 14) ∨ (175 = 175 ∧ 13 = 15)) by decide))
  refine li_istore_n [(2, .int x1), (0, .ref (Z.2.2 175)), (1, .int p1)] dX12_number_9 (by decide) rfl ?_
  refine li_iconst 1 dX12_number_10 (by decide) ?_
  refine li_istore_n [(3, .int 1), (2, .int x1), (0, .ref (Z.2.2 175)), (1, .int p1)] dX12_number_11 (by decide) rfl ?_
  have L12 : ∀ (n : Nat) (x4 : Int32) (x5 : Int32) (M6 : li_M), ((p1 : Int32).toInt - (x4 : Int32).toInt).toNat < n → li_fs (fun i k => (i = 175 ∧ k = 14) ∨ (i = 175 ∧ k = 15)) M0 M6 → li_J M6 → (M0.1 175 14).toInt ≤ (M6.1 175 14).toInt ∧ ((M6.1 175 15).toInt = -1 → (M0.1 175 15).toInt = -1 ∧ (M0.1 175 14).toInt + 1 ≤ (M6.1 175 14).toInt) ∧ ((M0.1 175 14).toInt ≤ (M0.1 175 13).toInt → (M6.1 175 14).toInt ≤ (M0.1 175 13).toInt) ∧ (M0.1 175 15).toInt ≤ (M6.1 175 15).toInt → li_T l Z YX12_number d 12 [(3, .int x4), (2, .int x5), (0, .ref (Z.2.2 175)), (1, .int p1)] [] M6 (fun r M' => (∃ x : Int32, r = some (.int x) ∧ ((M0.1 175 14).toInt ≤ (M'.1 175 14).toInt ∧ ((M'.1 175 15).toInt = -1 → (M0.1 175 15).toInt = -1 ∧ (M0.1 175 14).toInt + 1 ≤ (M'.1 175 14).toInt) ∧ ((M0.1 175 14).toInt ≤ (M0.1 175 13).toInt → (M'.1 175 14).toInt ≤ (M0.1 175 13).toInt) ∧ (M0.1 175 15).toInt ≤ (M'.1 175 15).toInt)) ∧ li_fs (fun i k => (i = 175 ∧ k = 14) ∨ (i = 175 ∧ k = 15)) M0 M' ∧ li_J M') := by
    intro n
    induction n with
    | zero => intro x4 x5 M6 hn; exact absurd hn (Nat.not_lt_zero _)
    | succ n ih12 =>
      intro x4 x5 M6 hn hf hJ hi
      have gx4 := tl_rg x4
      have gx5 := tl_rg x5
      have rM6_12 := J_sl12 (M := M6) hJ
      have rM6_13 := J_sl13 (M := M6) hJ
      have rM6_14 := J_sl14 (M := M6) hJ
      have rM6_15 := J_sl15 (M := M6) hJ
      have mM6_12 : (M6.1 175 12).toInt = (M0.1 175 12).toInt := tl_slot (hf.1 175 12 (show ¬ ((175 = 175 ∧ 12 = 14) ∨ (175 = 175 ∧ 12 = 15)) by decide))
      have mM6_13 : (M6.1 175 13).toInt = (M0.1 175 13).toInt := tl_slot (hf.1 175 13 (show ¬ ((175 = 175 ∧ 13 = 14) ∨ (175 = 175 ∧ 13 = 15)) by decide))
      refine li_iload_n 0 dX12_number_12 rfl ?_
      refine li_iload_n 3 dX12_number_13 rfl ?_
      refine li_icmp_ge 59 dX12_number_14 (by decide) (fun c7 => ?_) (fun c7 => ?_)
      · have tc7 : p1.toInt ≤ x4.toInt := tl_le c7
        refine li_iload_n 1 dX12_number_59 rfl ?_
        exact li_iret dX12_number_60 rfl rfl ⟨⟨_, rfl, (by first | omega | (intro _; omega) | (refine ⟨?_, ?_⟩ <;> first | omega | (intro _; omega)) | (refine ⟨?_, ?_, ?_, ?_⟩ <;> first | omega | (intro _; omega)))⟩, hf, hJ⟩
      · have tc7 : x4.toInt < p1.toInt := tl_nle c7
        refine li_aload_n 2 dX12_number_17 rfl ?_
        refine li_callV (n := 0) (As := []) dX12_number_18 (k_X12_fine (d - 1) (by omega)  M6 hJ ) (by omega) (Nat.le_of_ble_eq_true rfl) w_1581 w_1583 w_43 w_112 w_1584 (by decide +kernel) rfl (by decide) sh_175 rfl rfl (Nat.le_of_ble_eq_true rfl) (fun r M9 h10 => ?_)
        obtain ⟨qx8, h10, jM9⟩ := h10
        have hf := li_fs_trans hf h10 (fun i k h => False.elim h)
        have hJ := jM9
        have rM9_12 := J_sl12 (M := M9) hJ
        have rM9_13 := J_sl13 (M := M9) hJ
        have rM9_14 := J_sl14 (M := M9) hJ
        have rM9_15 := J_sl15 (M := M9) hJ
        have mM9_12 : (M9.1 175 12).toInt = (M6.1 175 12).toInt := tl_slot (h10.1 175 12 id)
        have mM9_13 : (M9.1 175 13).toInt = (M6.1 175 13).toInt := tl_slot (h10.1 175 13 id)
        have mM9_14 : (M9.1 175 14).toInt = (M6.1 175 14).toInt := tl_slot (h10.1 175 14 id)
        have mM9_15 : (M9.1 175 15).toInt = (M6.1 175 15).toInt := tl_slot (h10.1 175 15 id)
        rcases qx8 with ⟨rfl, qx8⟩ | ⟨rfl, qx8⟩
        · skip
          refine li_if_eq 59 dX12_number_21 (by decide) (fun c => absurd c (by decide)) (fun c => ?_)
          refine li_aload_n 2 dX12_number_24 rfl ?_
          refine li_callV (n := 0) (As := []) dX12_number_25 (k_X12_here (d - 1) (by omega)  M9 hJ ) (by omega) (Nat.le_of_ble_eq_true rfl) w_1597 w_1599 w_47 w_112 w_1600 (by decide +kernel) rfl (by decide) sh_175 rfl rfl (Nat.le_of_ble_eq_true rfl) (fun r M13 h14 => ?_)
          obtain ⟨⟨x12, rfl, qx12⟩, h14, jM13⟩ := h14
          have gx12 := tl_rg x12
          have hf := li_fs_trans hf h14 (fun i k h => False.elim h)
          have hJ := jM13
          have rM13_12 := J_sl12 (M := M13) hJ
          have rM13_13 := J_sl13 (M := M13) hJ
          have rM13_14 := J_sl14 (M := M13) hJ
          have rM13_15 := J_sl15 (M := M13) hJ
          have mM13_12 : (M13.1 175 12).toInt = (M9.1 175 12).toInt := tl_slot (h14.1 175 12 id)
          have mM13_13 : (M13.1 175 13).toInt = (M9.1 175 13).toInt := tl_slot (h14.1 175 13 id)
          have mM13_14 : (M13.1 175 14).toInt = (M9.1 175 14).toInt := tl_slot (h14.1 175 14 id)
          have mM13_15 : (M13.1 175 15).toInt = (M9.1 175 15).toInt := tl_slot (h14.1 175 15 id)
          refine li_bipush 48 dX12_number_28 (by decide) ?_
          refine li_bipush 57 dX12_number_30 (by decide) ?_
          have z48 : (48 : Int32).toInt = 48 := rfl
          have z57 : (57 : Int32).toInt = 57 := rfl
          refine li_callS (n := 3) (As := [.int x12, .int 48, .int 57]) dX12_number_32 (k_X12_in (d - 1) (by omega) x12 48 57 M13 hJ ) (by omega) (Nat.le_of_ble_eq_true rfl) w_1570 w_1571 w_112 w_1572 (by decide +kernel) rfl rfl (Nat.le_of_ble_eq_true rfl) (fun r M16 h17 => ?_)
          obtain ⟨qx15, h17, jM16⟩ := h17
          have hf := li_fs_trans hf h17 (fun i k h => False.elim h)
          have hJ := jM16
          have rM16_12 := J_sl12 (M := M16) hJ
          have rM16_13 := J_sl13 (M := M16) hJ
          have rM16_14 := J_sl14 (M := M16) hJ
          have rM16_15 := J_sl15 (M := M16) hJ
          have mM16_12 : (M16.1 175 12).toInt = (M13.1 175 12).toInt := tl_slot (h17.1 175 12 id)
          have mM16_13 : (M16.1 175 13).toInt = (M13.1 175 13).toInt := tl_slot (h17.1 175 13 id)
          have mM16_14 : (M16.1 175 14).toInt = (M13.1 175 14).toInt := tl_slot (h17.1 175 14 id)
          have mM16_15 : (M16.1 175 15).toInt = (M13.1 175 15).toInt := tl_slot (h17.1 175 15 id)
          rcases qx15 with ⟨rfl, qx15⟩ | ⟨rfl, qx15⟩
          · skip
            refine li_if_eq 59 dX12_number_35 (by decide) (fun c => absurd c (by decide)) (fun c => ?_)
            refine li_bipush 10 dX12_number_38 (by decide) ?_
            refine li_iload_n 1 dX12_number_40 rfl ?_
            refine li_imul dX12_number_41 ?_
            refine li_top (fun x19 ex19 => ?_)
            have z10 : (10 : Int32).toInt = 10 := rfl
            try (have tx19 : x19.toInt = 10 * (x5 : Int32).toInt := tl_mul ex19 (show -2147483648 ≤ 10 * (x5 : Int32).toInt ∧ 10 * (x5 : Int32).toInt ≤ 2147483647 by omega))
            refine li_aload_n 2 dX12_number_42 rfl ?_
            refine li_bipush 48 dX12_number_43 (by decide) ?_
            refine li_bipush 10 dX12_number_45 (by decide) ?_
            refine li_iconst (-1) dX12_number_47 (by decide) ?_
            have z48 : (48 : Int32).toInt = 48 := rfl
            have z10 : (10 : Int32).toInt = 10 := rfl
            have zm1 : ((-1) : Int32).toInt = -1 := rfl
            refine li_callV (n := 3) (As := [.int 48, .int 10, .int (-1)]) dX12_number_48 (k_X12_oneOf (d - 1) (by omega) 48 10 (-1) M16 hJ (by omega) (by omega)) (by omega) (Nat.le_of_ble_eq_true rfl) w_1593 w_1595 w_46 w_112 w_1596 (by decide +kernel) rfl (by decide) sh_175 rfl rfl (Nat.le_of_ble_eq_true rfl) (fun r M21 h22 => ?_)
            obtain ⟨⟨x20, rfl, qx20⟩, h22, jM21⟩ := h22
            have gx20 := tl_rg x20
            have hf := li_fs_trans hf h22 (fun i k => fun h => Or.elim h (fun h => Or.inl h) (fun h => Or.inr h))
            have hJ := jM21
            have rM21_12 := J_sl12 (M := M21) hJ
            have rM21_13 := J_sl13 (M := M21) hJ
            have rM21_14 := J_sl14 (M := M21) hJ
            have rM21_15 := J_sl15 (M := M21) hJ
            have mM21_12 : (M21.1 175 12).toInt = (M16.1 175 12).toInt := tl_slot (h22.1 175 12 (show ¬ ((175 = 175 ∧ 12 = 14) ∨ (175 = 175 ∧ 12 = 15)) by decide))
            have mM21_13 : (M21.1 175 13).toInt = (M16.1 175 13).toInt := tl_slot (h22.1 175 13 (show ¬ ((175 = 175 ∧ 13 = 14) ∨ (175 = 175 ∧ 13 = 15)) by decide))
            refine li_iadd dX12_number_51 ?_
            refine li_top (fun x23 ex23 => ?_)
            try (have tx23 : x23.toInt = (x19 : Int32).toInt + (x20 : Int32).toInt := tl_add ex23 (by omega))
            refine li_istore_n [(2, .int x23), (3, .int x4), (0, .ref (Z.2.2 175)), (1, .int p1)] dX12_number_52 (by decide) rfl ?_
            obtain ⟨x24, ex24⟩ : ∃ y : Int32, y = x4 + 1 := ⟨_, rfl⟩
            have z1 : (1 : Int32).toInt = 1 := rfl
            try (have tx24 : x24.toInt = (x4 : Int32).toInt + (1 : Int32).toInt := tl_add ex24 (by omega))
            refine li_iinc 1 [(3, .int x24), (2, .int x23), (0, .ref (Z.2.2 175)), (1, .int p1)] x24 dX12_number_53 rfl (by rw [ex24]; rfl) (by decide) rfl ?_
            refine li_goto 12 dX12_number_56 (by decide) ?_
            refine li_pick [0, 1, 2, 3] [(3, .int x24), (2, .int x23), (0, .ref (Z.2.2 175)), (1, .int p1)] rfl ?_
            exact ih12 x24 x23 M21 (by omega) hf hJ (by omega)
          · skip
            refine li_if_eq 59 dX12_number_35 (by decide) (fun c => ?_) (fun c => absurd rfl c)
            refine li_iload_n 1 dX12_number_59 rfl ?_
            exact li_iret dX12_number_60 rfl rfl ⟨⟨_, rfl, (by first | omega | (intro _; omega) | (refine ⟨?_, ?_⟩ <;> first | omega | (intro _; omega)) | (refine ⟨?_, ?_, ?_, ?_⟩ <;> first | omega | (intro _; omega)))⟩, hf, hJ⟩
        · skip
          refine li_if_eq 59 dX12_number_21 (by decide) (fun c => ?_) (fun c => absurd rfl c)
          refine li_iload_n 1 dX12_number_59 rfl ?_
          exact li_iret dX12_number_60 rfl rfl ⟨⟨_, rfl, (by first | omega | (intro _; omega) | (refine ⟨?_, ?_⟩ <;> first | omega | (intro _; omega)) | (refine ⟨?_, ?_, ?_, ?_⟩ <;> first | omega | (intro _; omega)))⟩, hf, hJ⟩
  have z1 : (1 : Int32).toInt = 1 := rfl
  exact L12 _ 1 x1 M2 (Nat.lt_succ_self _) hf hJ (by omega)
