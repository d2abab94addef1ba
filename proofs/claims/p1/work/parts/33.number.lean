theorem dX12_begin_0 : decode cX12_begin 0 = .ok (.aload_n 0, 1) := by decide +kernel
theorem dX12_begin_1 : decode cX12_begin 1 = .ok (.aload_n 1, 1) := by decide +kernel
theorem dX12_begin_2 : decode cX12_begin 2 = .ok (.putfield 127, 3) := by decide +kernel
theorem dX12_begin_5 : decode cX12_begin 5 = .ok (.aload_n 0, 1) := by decide +kernel
theorem dX12_begin_6 : decode cX12_begin 6 = .ok (.iload_n 2, 1) := by decide +kernel
theorem dX12_begin_7 : decode cX12_begin 7 = .ok (.putfield 130, 3) := by decide +kernel
theorem dX12_begin_10 : decode cX12_begin 10 = .ok (.aload_n 0, 1) := by decide +kernel
theorem dX12_begin_11 : decode cX12_begin 11 = .ok (.iload_n 3, 1) := by decide +kernel
theorem dX12_begin_12 : decode cX12_begin 12 = .ok (.putfield 133, 3) := by decide +kernel
theorem dX12_begin_15 : decode cX12_begin 15 = .ok (.aload_n 0, 1) := by decide +kernel
theorem dX12_begin_16 : decode cX12_begin 16 = .ok (.iconst 0, 1) := by decide +kernel
theorem dX12_begin_17 : decode cX12_begin 17 = .ok (.putfield 136, 3) := by decide +kernel
theorem dX12_begin_20 : decode cX12_begin 20 = .ok (.aload_n 0, 1) := by decide +kernel
theorem dX12_begin_21 : decode cX12_begin 21 = .ok (.iconst (-1), 1) := by decide +kernel
theorem dX12_begin_22 : decode cX12_begin 22 = .ok (.putfield 139, 3) := by decide +kernel
theorem dX12_begin_25 : decode cX12_begin 25 = .ok (.return_, 1) := by decide +kernel
abbrev YX12_begin : li_Y := (yX12_begin, cX12_begin, 4, none)
theorem li_only0 (k2 : Nat) (h : k2 ≠ 11) : (match li_sh 175 with
  | .inl o => o.2
  | .inr _ => [])[k2]? ≠ some (some (1000 + 0)) := by
  have h1 : ((List.range 52).all fun k => decide (k = 11) || !decide ((match li_sh 175 with
    | .inl o => o.2
    | .inr _ => [])[k]? = some (some 1000))) = true := by decide +kernel
  by_cases c : k2 < 52
  · have := List.all_eq_true.mp h1 k2 (List.mem_range.mpr c)
    simpa [h] using this
  · intro e
    have h2 := (List.getElem?_eq_some_iff.mp e).1
    have h3 : (match li_sh 175 with
      | .inl o => o.2
      | .inr _ => []).length = 52 := by decide +kernel
    omega
theorem li_only1 (k2 : Nat) (h : k2 ≠ 17) : (match li_sh 175 with
  | .inl o => o.2
  | .inr _ => [])[k2]? ≠ some (some (1000 + 1)) := by
  have h1 : ((List.range 52).all fun k => decide (k = 17) || !decide ((match li_sh 175 with
    | .inl o => o.2
    | .inr _ => [])[k]? = some (some 1001))) = true := by decide +kernel
  by_cases c : k2 < 52
  · have := List.all_eq_true.mp h1 k2 (List.mem_range.mpr c)
    simpa [h] using this
  · intro e
    have h2 := (List.getElem?_eq_some_iff.mp e).1
    have h3 : (match li_sh 175 with
      | .inl o => o.2
      | .inr _ => []).length = 52 := by decide +kernel
    omega
theorem li_qn_fix : li_qn 180 = 80 ∧ li_qn 183 = 40 ∧ li_qn 184 = 40 := ⟨rfl, rfl, rfl⟩
set_option maxRecDepth 100000 in
set_option maxHeartbeats 4000000 in
theorem k_X12_begin {l : Launch} {Z : li_Z} (d : Nat) {q : Nat} (hq : li_rq q) (p1 p2 : Int32) (M0 : li_M) (hJ : li_J M0) (h1 : 0 ≤ p1.toInt ∧ p1.toInt ≤ (li_qn q : Int)) (h2 : 0 ≤ p2.toInt ∧ p2.toInt ≤ 80) : li_Met l Z YX12_begin d [.ref (Z.2.2 175), .ref (Z.2.2 q), .int p1, .int p2] M0 (fun r M' => r = none ∧ li_fs (fun i k => (i = 175 ∧ k = 12) ∨ (i = 175 ∧ k = 13) ∨ (i = 175 ∧ k = 14) ∨ (i = 175 ∧ k = 15) ∨ i = 1000) M0 M' ∧ li_J M' ∧ (M'.1 175 12).toInt = p1.toInt ∧ (M'.1 175 13).toInt = p2.toInt ∧ (M'.1 175 14).toInt = 0 ∧ (M'.1 175 15).toInt = -1 ∧ M'.2.2 0 = some q) := by
  have hn : (li_qn q : Int) ≤ 80 := by unfold li_qn; split <;> decide
  refine li_enter (by decide +kernel) (Nat.le_of_ble_eq_true rfl) ?_
  show li_T l Z YX12_begin d 0 [(0, .ref (Z.2.2 175)), (1, .ref (Z.2.2 q)), (2, .int p1), (3, .int p2)] [] M0 _
  refine li_aload_n 0 dX12_begin_0 rfl ?_
  refine li_aload_n 1 dX12_begin_1 rfl ?_
  refine li_putr (k := 11) (r := 0) (N := 52) (T := TX12) (C0 := RX12) dX12_begin_2 sh_175 rfl rfl (fun k2 hk2 => li_only0 k2 hk2) (by decide) li_in12 tyX12_ok nmX12 rfl rfl rfl rfl w_1415 ?_
  refine li_aload_n 0 dX12_begin_5 rfl ?_
  refine li_iload_n 2 dX12_begin_6 rfl ?_
  refine li_puti (k := 12) (N := 52) (T := TX12) (C0 := RX12) dX12_begin_7 (by decide) sh_175 rfl rfl (by decide) li_in12 tyX12_ok nmX12 rfl rfl rfl rfl w_1416 ?_
  refine li_aload_n 0 dX12_begin_10 rfl ?_
  refine li_iload_n 3 dX12_begin_11 rfl ?_
  refine li_puti (k := 13) (N := 52) (T := TX12) (C0 := RX12) dX12_begin_12 (by decide) sh_175 rfl rfl (by decide) li_in12 tyX12_ok nmX12 rfl rfl rfl rfl w_1417 ?_
  refine li_aload_n 0 dX12_begin_15 rfl ?_
  refine li_iconst 0 dX12_begin_16 (by decide) ?_
  refine li_puti (k := 14) (N := 52) (T := TX12) (C0 := RX12) dX12_begin_17 (by decide) sh_175 rfl rfl (by decide) li_in12 tyX12_ok nmX12 rfl rfl rfl rfl w_1418 ?_
  refine li_aload_n 0 dX12_begin_20 rfl ?_
  refine li_iconst (-1) dX12_begin_21 (by decide) ?_
  refine li_puti (k := 15) (N := 52) (T := TX12) (C0 := RX12) dX12_begin_22 (by decide) sh_175 rfl rfl (by decide) li_in12 tyX12_ok nmX12 rfl rfl rfl rfl w_1419 ?_
  refine li_nm (fun N eN => ?_)
  have e12 : N.1 175 12 = p1 := by rw [eN]; rfl
  have e13 : N.1 175 13 = p2 := by rw [eN]; rfl
  have e14 : N.1 175 14 = 0 := by rw [eN]; rfl
  have e15 : N.1 175 15 = -1 := by rw [eN]; rfl
  have er : N.2.2 0 = some q := by rw [eN]; rfl
  have hf : li_fs (fun i k => (i = 175 ∧ k = 12) ∨ (i = 175 ∧ k = 13) ∨ (i = 175 ∧ k = 14) ∨ (i = 175 ∧ k = 15) ∨ i = 1000) M0 N := by
    refine li_fs_ui (li_fs_ui (li_fs_ui (li_fs_ui (li_fs_ur li_fs_refl ?_ rfl) ?_ rfl) ?_ rfl) ?_ rfl) ?_ eN
    · exact Or.inr (Or.inr (Or.inr (Or.inr rfl)))
    · exact Or.inl ⟨rfl, rfl⟩
    · exact Or.inr (Or.inl ⟨rfl, rfl⟩)
    · exact Or.inr (Or.inr (Or.inl ⟨rfl, rfl⟩))
    · exact Or.inr (Or.inr (Or.inr (Or.inl ⟨rfl, rfl⟩)))
  have hJN : li_J N := by
    refine ⟨fun k => ?_, fun j i hj => ?_, ?_, Or.inr ⟨q, er, hq, by rw [e12]; exact h1.2⟩⟩
    · by_cases c12 : k = 12
      · subst c12; rw [e12]; exact ⟨h1.1, by show p1.toInt ≤ 80; omega⟩
      · by_cases c13 : k = 13
        · subst c13; rw [e13]; exact h2
        · by_cases c14 : k = 14
          · subst c14; rw [e14]; decide
          · by_cases c15 : k = 15
            · subst c15; rw [e15]; decide
            · rw [hf.1 175 k (by rintro (⟨-, h⟩ | ⟨-, h⟩ | ⟨-, h⟩ | ⟨-, h⟩ | h) <;> omega)]
              exact hJ.1 k
    · by_cases c : j = 1000
      · exact li_el_free (by unfold li_led; omega) (by omega) (by omega) (by unfold li_rq; omega)
      · rw [hf.1 j i (by rintro (⟨h, -⟩ | ⟨h, -⟩ | ⟨h, -⟩ | ⟨h, -⟩ | h) <;> omega)]
        exact hJ.2.1 j i hj
    · obtain ⟨q1, h3, h4⟩ := hJ.2.2.1
      exact ⟨q1, by rw [hf.2.2 1 (by rintro (⟨h, -⟩ | ⟨h, -⟩ | ⟨h, -⟩ | ⟨h, -⟩ | h) <;> omega)]; exact h3, h4⟩
  exact li_vret dX12_begin_25 rfl ⟨rfl, hf, hJN, by rw [e12], by rw [e13], by rw [e14]; rfl, by rw [e15]; rfl, er⟩
