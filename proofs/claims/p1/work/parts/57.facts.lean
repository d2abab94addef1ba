theorem lw_nw_tbl : ∀ w ∈ li_nw, w ∈ lw_tbl := by decide +kernel
theorem lw_bad_tbl : ∀ w ∈ l2_bad, w ∈ lw_tbl := by decide +kernel
theorem ls_arr {s : State} {args : Array Value} {ty : FieldType} (h : (Cond.arrayClass ty).before args s = true) : ∃ cA : ClassId, ArrOfT s cA ty ∧ s.vm.findClass ("[" ++ ty.toString) = some cA := by
  obtain ⟨c, k, comp, h1, h2, h3⟩ := Cond.arrayClass_spec h
  exact ⟨c, fun n z => ⟨fun k h => (by cases h), k, h2, comp, h3⟩, h1⟩
theorem ls_arrO {s : State} {args : Array Value} {C : String} (h : (Cond.arrayOver (.object C)).before args s = true) : ∃ cA : ClassId, ArrOfT s cA (.object C) ∧ va_RA s cA (.object C) := by
  obtain ⟨comp, c, k, h1, h2, h3, h4, h5⟩ := Cond.arrayOver_spec h
  exact ⟨c, fun n z => ⟨fun k h => (by cases h), k, h3, comp, h4⟩, k, comp, h3, h4, h1, h5⟩
theorem ls_S {N : Nat} {len : List Nat} {byt : List (List Int32)} {adK adV adK' adV' : Nat → Nat} {A : Nat → Prop} {U : State} {H : Heap} (h : vk_S N len byt adK adV A U H) (e1 : ∀ i, i < N → adK' i = adK i) (e2 : ∀ i, i < N → adV' i = adV i) : vk_S N len byt adK' adV' A U H :=
  ⟨fun i hi => by rw [e1 i hi, e2 i hi]; exact h.1 i hi, fun i j hi hj e => h.2 i j hi hj (by rw [← e1 i hi, ← e1 j hj]; exact e)⟩
theorem ls_str {s : State} {args : Array Value} {own tx : String} {k : Nat} (h1 : (Cond.stringRef own k tx).before args s = true) (h2 : (Cond.exactly (Term.string own k) "java/lang/String").before args s = true) : ∃ a, vk_R own k tx a s := by
  obtain ⟨a, c, cA, kA, q1, -⟩ := Cond.exactly_spec (args := args) (first := s) (o := none) (s := s) (idx := []) (t := Term.string own k) (cls := "java/lang/String") h2
  exact ⟨a, vk_R.of h1 q1⟩
def ls_tm (i : Nat) : Term := .string (li_so i).1 (li_so i).2.1
theorem ls_4 {P : Nat → Prop} (h0 : P 0) (h1 : P 1) (h2 : P 2) (h3 : P 3) : ∀ i : Nat, i < 4 → P i := by
  intro i hi
  rcases (show i = 0 ∨ i = 1 ∨ i = 2 ∨ i = 3 by omega) with q | q | q | q
  · rw [q]; exact h0
  · rw [q]; exact h1
  · rw [q]; exact h2
  · rw [q]; exact h3
set_option maxRecDepth 100000 in
set_option maxHeartbeats 4000000 in
theorem ls_facts {p : Program} {s : State} {m : MethodId} {meth : Method} {c : Code} {b L : Nat} {xs : Nat → Int32} (C0 : lw_At p s m meth c b L xs) : ∃ (r : Nat) (tk tv : Nat → Nat), va_Z "ClockForTalk$Costs" "REACH" "[I" (.ref r) (l3_A s) s s.heap ∧ va_T .int r 4 (fun j => .int (li_rf j)) (l3_A s) s s.heap ∧ vk_S 4 li_len li_byt tk tv (l3_A s) s s.heap ∧ va_Z "java/lang/String" "COMPACT_STRINGS" "Z" (.int 1) (l3_A s) s s.heap ∧ va_Zq "jdk/internal/util/Preconditions" "SIOOBE_FORMATTER" "Ljava/util/function/BiFunction;" (l3_A s) s s.heap ∧ (∀ i : Nat, i < 4 → vk_R (li_so i).1 (li_so i).2.1 (li_so i).2.2 (tk i) s) := by
  obtain ⟨hx, hb, hr, hml, hown, hts, hX, hbl, hlocks, hgv⟩ := id C0
  have hs := flat_of_before _ hgv
  have ht : ∀ (i : Nat) (w : Cond), lw_tbl[i]? = some w → w.before #[Value.ref b] s = true := fun i w h => hts w (List.mem_of_getElem? h)
  have hA : ∀ a : Nat, a < s.heap.size → ¬ l3_A s a := fun a h => Nat.not_le.mpr h
  obtain ⟨r, hr1, hT⟩ := va_Tof (args := #[Value.ref b]) (s := s) (tm := (.static "ClockForTalk$Costs" "REACH" "[I")) (ty := .int) (N := 4) (f := fun j => .int (li_rf j)) (A := l3_A s) (by decide) (hs (Cond.arrayOf (.static "ClockForTalk$Costs" "REACH" "[I") .int) (by decide +kernel)) (va_eqt (hs (Cond.eq (.length (.static "ClockForTalk$Costs" "REACH" "[I")) (.int (Int32.ofNat 4))) (by decide +kernel)))
    (ls_4 (va_eqt (hs (Cond.eq (.elem (.static "ClockForTalk$Costs" "REACH" "[I") (.int (Int32.ofNat 0))) (.int (li_rf 0))) (by decide +kernel))) (va_eqt (hs (Cond.eq (.elem (.static "ClockForTalk$Costs" "REACH" "[I") (.int (Int32.ofNat 1))) (.int (li_rf 1))) (by decide +kernel))) (va_eqt (hs (Cond.eq (.elem (.static "ClockForTalk$Costs" "REACH" "[I") (.int (Int32.ofNat 2))) (.int (li_rf 2))) (by decide +kernel))) (va_eqt (hs (Cond.eq (.elem (.static "ClockForTalk$Costs" "REACH" "[I") (.int (Int32.ofNat 3))) (.int (li_rf 3))) (by decide +kernel)))) hA
  obtain ⟨tk, tv, hSS, hev⟩ := vk_Sof (args := #[Value.ref b]) (s := s) (N := 4) (tm := ls_tm) (len := li_len) (byt := li_byt) (A := l3_A s) (ls_4 (by decide) (by decide) (by decide) (by decide))
    (ls_4 (hs (Cond.exactly (ls_tm 0) "java/lang/String") (by decide +kernel)) (hs (Cond.exactly (ls_tm 1) "java/lang/String") (by decide +kernel)) (hs (Cond.exactly (ls_tm 2) "java/lang/String") (by decide +kernel)) (hs (Cond.exactly (ls_tm 3) "java/lang/String") (by decide +kernel))) (ls_4 (hs (Cond.eq (.field (ls_tm 0) "java/lang/String" "coder" "B") (.int 0)) (by decide +kernel)) (hs (Cond.eq (.field (ls_tm 1) "java/lang/String" "coder" "B") (.int 0)) (by decide +kernel)) (hs (Cond.eq (.field (ls_tm 2) "java/lang/String" "coder" "B") (.int 0)) (by decide +kernel)) (hs (Cond.eq (.field (ls_tm 3) "java/lang/String" "coder" "B") (.int 0)) (by decide +kernel))) (ls_4 (hs (Cond.arrayOf (.field (ls_tm 0) "java/lang/String" "value" "[B") .byte) (by decide +kernel)) (hs (Cond.arrayOf (.field (ls_tm 1) "java/lang/String" "value" "[B") .byte) (by decide +kernel)) (hs (Cond.arrayOf (.field (ls_tm 2) "java/lang/String" "value" "[B") .byte) (by decide +kernel)) (hs (Cond.arrayOf (.field (ls_tm 3) "java/lang/String" "value" "[B") .byte) (by decide +kernel))) (ls_4 (hs (Cond.eq (.length (.field (ls_tm 0) "java/lang/String" "value" "[B")) (.int (Int32.ofNat (li_len.getD 0 0)))) (by decide +kernel)) (hs (Cond.eq (.length (.field (ls_tm 1) "java/lang/String" "value" "[B")) (.int (Int32.ofNat (li_len.getD 1 0)))) (by decide +kernel)) (hs (Cond.eq (.length (.field (ls_tm 2) "java/lang/String" "value" "[B")) (.int (Int32.ofNat (li_len.getD 2 0)))) (by decide +kernel)) (hs (Cond.eq (.length (.field (ls_tm 3) "java/lang/String" "value" "[B")) (.int (Int32.ofNat (li_len.getD 3 0)))) (by decide +kernel)))
    (ls_4 (fun j hj => by
      rcases (show j = 0 ∨ j = 1 ∨ j = 2 by (have h9 : j < 3 := hj); omega) with q | q | q
      · rw [q]; exact hs (Cond.eq (.elem (.field (ls_tm 0) "java/lang/String" "value" "[B") (.int (Int32.ofNat 0))) (.int ((li_byt.getD 0 []).getD 0 0))) (by decide +kernel)
      · rw [q]; exact hs (Cond.eq (.elem (.field (ls_tm 0) "java/lang/String" "value" "[B") (.int (Int32.ofNat 1))) (.int ((li_byt.getD 0 []).getD 1 0))) (by decide +kernel)
      · rw [q]; exact hs (Cond.eq (.elem (.field (ls_tm 0) "java/lang/String" "value" "[B") (.int (Int32.ofNat 2))) (.int ((li_byt.getD 0 []).getD 2 0))) (by decide +kernel)) (fun j hj => by
      rcases (show j = 0 ∨ j = 1 by (have h9 : j < 2 := hj); omega) with q | q
      · rw [q]; exact hs (Cond.eq (.elem (.field (ls_tm 1) "java/lang/String" "value" "[B") (.int (Int32.ofNat 0))) (.int ((li_byt.getD 1 []).getD 0 0))) (by decide +kernel)
      · rw [q]; exact hs (Cond.eq (.elem (.field (ls_tm 1) "java/lang/String" "value" "[B") (.int (Int32.ofNat 1))) (.int ((li_byt.getD 1 []).getD 1 0))) (by decide +kernel)) (fun j hj => by
      rcases (show j = 0 ∨ j = 1 by (have h9 : j < 2 := hj); omega) with q | q
      · rw [q]; exact hs (Cond.eq (.elem (.field (ls_tm 2) "java/lang/String" "value" "[B") (.int (Int32.ofNat 0))) (.int ((li_byt.getD 2 []).getD 0 0))) (by decide +kernel)
      · rw [q]; exact hs (Cond.eq (.elem (.field (ls_tm 2) "java/lang/String" "value" "[B") (.int (Int32.ofNat 1))) (.int ((li_byt.getD 2 []).getD 1 0))) (by decide +kernel)) (fun j hj => by
      rcases (show j = 0 ∨ j = 1 ∨ j = 2 ∨ j = 3 ∨ j = 4 ∨ j = 5 by (have h9 : j < 6 := hj); omega) with q | q | q | q | q | q
      · rw [q]; exact hs (Cond.eq (.elem (.field (ls_tm 3) "java/lang/String" "value" "[B") (.int (Int32.ofNat 0))) (.int ((li_byt.getD 3 []).getD 0 0))) (by decide +kernel)
      · rw [q]; exact hs (Cond.eq (.elem (.field (ls_tm 3) "java/lang/String" "value" "[B") (.int (Int32.ofNat 1))) (.int ((li_byt.getD 3 []).getD 1 0))) (by decide +kernel)
      · rw [q]; exact hs (Cond.eq (.elem (.field (ls_tm 3) "java/lang/String" "value" "[B") (.int (Int32.ofNat 2))) (.int ((li_byt.getD 3 []).getD 2 0))) (by decide +kernel)
      · rw [q]; exact hs (Cond.eq (.elem (.field (ls_tm 3) "java/lang/String" "value" "[B") (.int (Int32.ofNat 3))) (.int ((li_byt.getD 3 []).getD 3 0))) (by decide +kernel)
      · rw [q]; exact hs (Cond.eq (.elem (.field (ls_tm 3) "java/lang/String" "value" "[B") (.int (Int32.ofNat 4))) (.int ((li_byt.getD 3 []).getD 4 0))) (by decide +kernel)
      · rw [q]; exact hs (Cond.eq (.elem (.field (ls_tm 3) "java/lang/String" "value" "[B") (.int (Int32.ofNat 5))) (.int ((li_byt.getD 3 []).getD 5 0))) (by decide +kernel)))
    (fun i j hi hj hij => by
    rcases (show (i = 0 ∧ j = 1) ∨ (i = 0 ∧ j = 2) ∨ (i = 0 ∧ j = 3) ∨ (i = 1 ∧ j = 0) ∨ (i = 1 ∧ j = 2) ∨ (i = 1 ∧ j = 3) ∨ (i = 2 ∧ j = 0) ∨ (i = 2 ∧ j = 1) ∨ (i = 2 ∧ j = 3) ∨ (i = 3 ∧ j = 0) ∨ (i = 3 ∧ j = 1) ∨ (i = 3 ∧ j = 2) by omega) with ⟨q1, q2⟩ | ⟨q1, q2⟩ | ⟨q1, q2⟩ | ⟨q1, q2⟩ | ⟨q1, q2⟩ | ⟨q1, q2⟩ | ⟨q1, q2⟩ | ⟨q1, q2⟩ | ⟨q1, q2⟩ | ⟨q1, q2⟩ | ⟨q1, q2⟩ | ⟨q1, q2⟩
    · rw [q1, q2]; exact Or.inr (hs (Cond.not (Cond.eq (ls_tm 1) (ls_tm 0))) (by decide +kernel))
    · rw [q1, q2]; exact Or.inr (hs (Cond.not (Cond.eq (ls_tm 2) (ls_tm 0))) (by decide +kernel))
    · rw [q1, q2]; exact Or.inr (hs (Cond.not (Cond.eq (ls_tm 3) (ls_tm 0))) (by decide +kernel))
    · rw [q1, q2]; exact Or.inl (hs (Cond.not (Cond.eq (ls_tm 1) (ls_tm 0))) (by decide +kernel))
    · rw [q1, q2]; exact Or.inr (hs (Cond.not (Cond.eq (ls_tm 2) (ls_tm 1))) (by decide +kernel))
    · rw [q1, q2]; exact Or.inr (hs (Cond.not (Cond.eq (ls_tm 3) (ls_tm 1))) (by decide +kernel))
    · rw [q1, q2]; exact Or.inl (hs (Cond.not (Cond.eq (ls_tm 2) (ls_tm 0))) (by decide +kernel))
    · rw [q1, q2]; exact Or.inl (hs (Cond.not (Cond.eq (ls_tm 2) (ls_tm 1))) (by decide +kernel))
    · rw [q1, q2]; exact Or.inr (hs (Cond.not (Cond.eq (ls_tm 3) (ls_tm 2))) (by decide +kernel))
    · rw [q1, q2]; exact Or.inl (hs (Cond.not (Cond.eq (ls_tm 3) (ls_tm 0))) (by decide +kernel))
    · rw [q1, q2]; exact Or.inl (hs (Cond.not (Cond.eq (ls_tm 3) (ls_tm 1))) (by decide +kernel))
    · rw [q1, q2]; exact Or.inl (hs (Cond.not (Cond.eq (ls_tm 3) (ls_tm 2))) (by decide +kernel))) hA
  refine ⟨r, tk, tv, va_Zof (ht 805 _ (by decide +kernel)) (ht 109 _ (by decide +kernel)) hr1 hA, hT, hSS, va_Zof (ht 589 _ (by decide +kernel)) (ht 114 _ (by decide +kernel)) (va_eqi (hs (Cond.eq (.static "java/lang/String" "COMPACT_STRINGS" "Z") (.int 1)) (by decide +kernel))) hA, va_Zqof (ht 605 _ (by decide +kernel)) (ht 116 _ (by decide +kernel)) (hs (Cond.isRef (.static "jdk/internal/util/Preconditions" "SIOOBE_FORMATTER" "Ljava/util/function/BiFunction;")) (by decide +kernel)) hA, ls_4 ?_ ?_ ?_ ?_⟩
  · exact vk_R.of (ht 652 _ (by decide +kernel)) (hev 0 (by decide))
  · exact vk_R.of (ht 651 _ (by decide +kernel)) (hev 1 (by decide))
  · exact vk_R.of (ht 644 _ (by decide +kernel)) (hev 2 (by decide))
  · exact vk_R.of (ht 575 _ (by decide +kernel)) (hev 3 (by decide))
set_option maxRecDepth 100000 in
set_option maxHeartbeats 4000000 in
theorem ls_V {p : Program} {s : State} {m : MethodId} {meth : Method} {c : Code} {b L : Nat} {xs : Nat → Int32} {Z : li_Z} (C0 : lw_At p s m meth c b L xs) (hZA : ∀ q, li_A Z q → l3_A s q) : li_V Z s := by
  obtain ⟨hx, hb, hr, hml, hown, hts, hX, hbl, hlocks, hgv⟩ := id C0
  have hs := flat_of_before _ hgv
  have ht : ∀ (i : Nat) (w : Cond), lw_tbl[i]? = some w → w.before #[Value.ref b] s = true := fun i w h => hts w (List.mem_of_getElem? h)
  have hA : ∀ a : Nat, a < s.heap.size → ¬ l3_A s a := fun a h => Nat.not_le.mpr h
  refine ⟨(vx_Zqof (A := l3_A s) (ht 1330 _ (by decide +kernel)) (ht 119 _ (by decide +kernel)) (hs (Cond.isRef (.static Bundle.tN "UNASSIGNED_STACK" Bundle.steD)) (by decide +kernel)) hA).narrow hZA, (vx_Zqof (A := l3_A s) (ht 1332 _ (by decide +kernel)) (ht 119 _ (by decide +kernel)) (hs (Cond.isRef (.static Bundle.tN "SUPPRESSED_SENTINEL" Bundle.listD)) (by decide +kernel)) hA).narrow hZA, fun w hw => va_Nw.of (l2_bad_on hw) (hts w (lw_bad_tbl w hw)), ?_, ?_, ?_, ?_⟩
  · exact ls_str (ht 1342 _ (by decide +kernel)) (hs (Cond.exactly (Term.string "ClockForTalk" 134) "java/lang/String") (by decide +kernel))
  · exact ls_str (ht 1378 _ (by decide +kernel)) (hs (Cond.exactly (Term.string "ClockForTalk" 173) "java/lang/String") (by decide +kernel))
  · exact ls_str (ht 1387 _ (by decide +kernel)) (hs (Cond.exactly (Term.string "ClockForTalk" 207) "java/lang/String") (by decide +kernel))
  · exact ls_str (ht 1395 _ (by decide +kernel)) (hs (Cond.exactly (Term.string "ClockForTalk" 433) "java/lang/String") (by decide +kernel))
theorem ls_K {p : Program} {s : State} {m : MethodId} {meth : Method} {c : Code} {b L : Nat} {xs : Nat → Int32} (C0 : lw_At p s m meth c b L xs) : ∃ (D : va_G) (c0 c1 c2 c3 c4 : ClassId), va_K D vwCl [(c0, .int), (c1, .long), (c2, .byte), (c3, .boolean), (c4, .object "ClockForTalk$Ledger")] s := by
  obtain ⟨hx, hb, hr, hml, hown, hts, hX, hbl, hlocks, hgv⟩ := id C0
  have ht : ∀ (i : Nat) (w : Cond), lw_tbl[i]? = some w → w.before #[Value.ref b] s = true := fun i w h => hts w (List.mem_of_getElem? h)
  have hw : ∀ w ∈ li_ws, w.before #[Value.ref b] s = true := fun w h => hts w (List.mem_filter.mp h).1
  obtain ⟨d0, i0, k0⟩ := u_known (C := RX0) (T := TX0) (N := 8) (n := 8) hw li_in0 (ht 363 _ (by decide +kernel))
  obtain ⟨d2, i2, k2⟩ := u_known (C := RX2) (T := TX2) (N := 9) (n := 9) hw li_in2 (ht 436 _ (by decide +kernel))
  obtain ⟨d3, i3, k3⟩ := u_known (C := RX3) (T := TX3) (N := 6) (n := 6) hw li_in3 (ht 281 _ (by decide +kernel))
  obtain ⟨d4, i4, k4⟩ := u_known (C := RX4) (T := TX4) (N := 11) (n := 11) hw li_in4 (ht 224 _ (by decide +kernel))
  obtain ⟨d5, i5, k5⟩ := u_known (C := RX5) (T := TX5) (N := 2) (n := 2) hw li_in5 (ht 154 _ (by decide +kernel))
  obtain ⟨d6, i6, k6⟩ := u_known (C := RX6) (T := TX6) (N := 4) (n := 4) hw li_in6 (ht 310 _ (by decide +kernel))
  obtain ⟨d7, i7, k7⟩ := u_known (C := RX7) (T := TX7) (N := 3) (n := 3) hw li_in7 (ht 133 _ (by decide +kernel))
  obtain ⟨d8, i8, k8⟩ := u_known (C := RX8) (T := TX8) (N := 9) (n := 9) hw li_in8 (ht 169 _ (by decide +kernel))
  obtain ⟨d9, i9, k9⟩ := u_known (C := RX9) (T := TX9) (N := 9) (n := 9) hw li_in9 (ht 399 _ (by decide +kernel))
  obtain ⟨d10, i10, k10⟩ := u_known (C := RX10) (T := TX10) (N := 8) (n := 8) hw li_in10 (ht 330 _ (by decide +kernel))
  obtain ⟨d11, i11, k11⟩ := u_known (C := RX11) (T := TX11) (N := 13) (n := 13) hw li_in11 (ht 125 _ (by decide +kernel))
  obtain ⟨d12, i12, k12⟩ := u_known (C := RX12) (T := TX12) (N := 52) (n := 52) hw li_in12 (ht 1397 _ (by decide +kernel))
  obtain ⟨c0, a0, n0⟩ := ls_arr (ty := .int) (ht 152 _ (by decide +kernel))
  obtain ⟨c1, a1, n1⟩ := ls_arr (ty := .long) (ht 279 _ (by decide +kernel))
  obtain ⟨c2, a2, n2⟩ := ls_arr (ty := .byte) (ht 738 _ (by decide +kernel))
  obtain ⟨c3, a3, n3⟩ := ls_arr (ty := .boolean) (ht 1561 _ (by decide +kernel))
  obtain ⟨c4, a4, n4⟩ := ls_arrO (C := "ClockForTalk$Ledger") (ht 287 _ (by decide +kernel))
  refine ⟨(fun k => [d0, d0, d2, d3, d4, d5, d6, d7, d8, d9, d10, d11, d12].getD k d0, fun k => [i0, i0, i2, i3, i4, i5, i6, i7, i8, i9, i10, i11, i12].getD k i0), c0, c1, c2, c3, c4, fun k q hq => ?_, fun k q hq => ?_⟩
  · match k, hq with
    | 0, hq => cases hq; exact k0
    | 1, hq => cases hq; exact k0
    | 2, hq => cases hq; exact k2
    | 3, hq => cases hq; exact k3
    | 4, hq => cases hq; exact k4
    | 5, hq => cases hq; exact k5
    | 6, hq => cases hq; exact k6
    | 7, hq => cases hq; exact k7
    | 8, hq => cases hq; exact k8
    | 9, hq => cases hq; exact k9
    | 10, hq => cases hq; exact k10
    | 11, hq => cases hq; exact k11
    | 12, hq => cases hq; exact k12
    | k + 13, hq => simp [vwCl] at hq
  · match k, hq with
    | 0, hq => cases hq; exact ⟨a0, n0⟩
    | 1, hq => cases hq; exact ⟨a1, n1⟩
    | 2, hq => cases hq; exact ⟨a2, n2⟩
    | 3, hq => cases hq; exact ⟨a3, n3⟩
    | 4, hq => cases hq; exact ⟨a4, n4⟩
    | k + 5, hq => simp at hq
