theorem w_98 : (Jvm.Cond.selects "ClockForTalkModel" ({ cls := "ClockForTalkModel", name := "bestAll", desc := "()I" } : Jvm.MethodName) ({ cls := "ClockForTalkModel", name := "bestAll", desc := "()I" } : Jvm.MethodName)) ∈ li_ws := li_mem 98 (by decide +kernel) (by decide +kernel)
theorem w_1423 : (Jvm.Cond.fieldLink "ClockForTalkModel" (35 : Nat) "ClockForTalkModel" "otherRule" "[B") ∈ li_ws := li_mem 1423 (by decide +kernel) (by decide +kernel)
theorem w_1951 : (Jvm.Cond.methodLink "ClockForTalkModel" (408 : Nat) ({ cls := "ClockForTalkModel", name := "bestAll", desc := "()I" } : Jvm.MethodName)) ∈ li_ws := li_mem 1951 (by decide +kernel) (by decide +kernel)
theorem w_1953 : (Jvm.Cond.instanceMethod ({ cls := "ClockForTalkModel", name := "bestAll", desc := "()I" } : Jvm.MethodName)) ∈ li_ws := li_mem 1953 (by decide +kernel) (by decide +kernel)
theorem w_1954 : (Jvm.Cond.code ({ cls := "ClockForTalkModel", name := "bestAll", desc := "()I" } : Jvm.MethodName) prog_13_method_100_code (3 : Nat) (Option.some Jvm.ClassFile.FieldType.int)) ∈ li_ws := li_mem 1954 (by decide +kernel) (by decide +kernel)
theorem dX12_bestAll_0 : decode cX12_bestAll 0 = .ok (.aload_n 0, 1) := by decide +kernel
theorem dX12_bestAll_1 : decode cX12_bestAll 1 = .ok (.invokevirtual 330, 3) := by decide +kernel
theorem dX12_bestAll_4 : decode cX12_bestAll 4 = .ok (.iconst 0, 1) := by decide +kernel
theorem dX12_bestAll_5 : decode cX12_bestAll 5 = .ok (.istore_n 1, 1) := by decide +kernel
theorem dX12_bestAll_6 : decode cX12_bestAll 6 = .ok (.iconst 0, 1) := by decide +kernel
theorem dX12_bestAll_7 : decode cX12_bestAll 7 = .ok (.istore_n 2, 1) := by decide +kernel
theorem dX12_bestAll_8 : decode cX12_bestAll 8 = .ok (.iload_n 2, 1) := by decide +kernel
theorem dX12_bestAll_9 : decode cX12_bestAll 9 = .ok (.aload_n 0, 1) := by decide +kernel
theorem dX12_bestAll_10 : decode cX12_bestAll 10 = .ok (.getfield 110, 3) := by decide +kernel
theorem dX12_bestAll_13 : decode cX12_bestAll 13 = .ok (.if_icmp .ge 36, 3) := by decide +kernel
theorem dX12_bestAll_16 : decode cX12_bestAll 16 = .ok (.iload_n 1, 1) := by decide +kernel
theorem dX12_bestAll_17 : decode cX12_bestAll 17 = .ok (.aload_n 0, 1) := by decide +kernel
theorem dX12_bestAll_18 : decode cX12_bestAll 18 = .ok (.aload_n 0, 1) := by decide +kernel
theorem dX12_bestAll_19 : decode cX12_bestAll 19 = .ok (.aload_n 0, 1) := by decide +kernel
theorem dX12_bestAll_20 : decode cX12_bestAll 20 = .ok (.iload_n 2, 1) := by decide +kernel
theorem dX12_bestAll_21 : decode cX12_bestAll 21 = .ok (.invokevirtual 333, 3) := by decide +kernel
theorem dX12_bestAll_24 : decode cX12_bestAll 24 = .ok (.aload_n 0, 1) := by decide +kernel
theorem dX12_bestAll_25 : decode cX12_bestAll 25 = .ok (.invokevirtual 336, 3) := by decide +kernel
theorem dX12_bestAll_28 : decode cX12_bestAll 28 = .ok (.iand, 1) := by decide +kernel
theorem dX12_bestAll_29 : decode cX12_bestAll 29 = .ok (.aload_n 0, 1) := by decide +kernel
theorem dX12_bestAll_30 : decode cX12_bestAll 30 = .ok (.getfield 9, 3) := by decide +kernel
theorem dX12_bestAll_33 : decode cX12_bestAll 33 = .ok (.iload_n 2, 1) := by decide +kernel
theorem dX12_bestAll_34 : decode cX12_bestAll 34 = .ok (.iaload, 1) := by decide +kernel
theorem dX12_bestAll_35 : decode cX12_bestAll 35 = .ok (.invokevirtual 339, 3) := by decide +kernel
theorem dX12_bestAll_38 : decode cX12_bestAll 38 = .ok (.invokevirtual 327, 3) := by decide +kernel
theorem dX12_bestAll_41 : decode cX12_bestAll 41 = .ok (.iadd, 1) := by decide +kernel
theorem dX12_bestAll_42 : decode cX12_bestAll 42 = .ok (.istore_n 1, 1) := by decide +kernel
theorem dX12_bestAll_43 : decode cX12_bestAll 43 = .ok (.iinc 2 1, 3) := by decide +kernel
theorem dX12_bestAll_46 : decode cX12_bestAll 46 = .ok (.goto (-38), 3) := by decide +kernel
theorem dX12_bestAll_49 : decode cX12_bestAll 49 = .ok (.iload_n 1, 1) := by decide +kernel
theorem dX12_bestAll_50 : decode cX12_bestAll 50 = .ok (.ireturn, 1) := by decide +kernel
abbrev YX12_bestAll : li_Y := (yX12_bestAll, cX12_bestAll, 3, (some .int))
theorem dX12_rate_0 : decode cX12_rate 0 = .ok (.aload_n 0, 1) := by decide +kernel
theorem dX12_rate_1 : decode cX12_rate 1 = .ok (.iconst 0, 1) := by decide +kernel
theorem dX12_rate_2 : decode cX12_rate 2 = .ok (.putfield 103, 3) := by decide +kernel
theorem dX12_rate_5 : decode cX12_rate 5 = .ok (.aload_n 0, 1) := by decide +kernel
theorem dX12_rate_6 : decode cX12_rate 6 = .ok (.getfield 124, 3) := by decide +kernel
theorem dX12_rate_9 : decode cX12_rate 9 = .ok (.istore_n 1, 1) := by decide +kernel
theorem dX12_rate_10 : decode cX12_rate 10 = .ok (.aload_n 0, 1) := by decide +kernel
theorem dX12_rate_11 : decode cX12_rate 11 = .ok (.invokevirtual 202, 3) := by decide +kernel
theorem dX12_rate_14 : decode cX12_rate 14 = .ok (.ifCond .ne 12, 3) := by decide +kernel
theorem dX12_rate_17 : decode cX12_rate 17 = .ok (.sipush (-10000), 3) := by decide +kernel
theorem dX12_rate_20 : decode cX12_rate 20 = .ok (.aload_n 0, 1) := by decide +kernel
theorem dX12_rate_21 : decode cX12_rate 21 = .ok (.getfield 139, 3) := by decide +kernel
theorem dX12_rate_24 : decode cX12_rate 24 = .ok (.isub, 1) := by decide +kernel
theorem dX12_rate_25 : decode cX12_rate 25 = .ok (.ireturn, 1) := by decide +kernel
theorem dX12_rate_26 : decode cX12_rate 26 = .ok (.aload_n 0, 1) := by decide +kernel
theorem dX12_rate_27 : decode cX12_rate 27 = .ok (.invokevirtual 408, 3) := by decide +kernel
theorem dX12_rate_30 : decode cX12_rate 30 = .ok (.istore_n 2, 1) := by decide +kernel
theorem dX12_rate_31 : decode cX12_rate 31 = .ok (.aload_n 0, 1) := by decide +kernel
theorem dX12_rate_32 : decode cX12_rate 32 = .ok (.getfield 205, 3) := by decide +kernel
theorem dX12_rate_35 : decode cX12_rate 35 = .ok (.istore_n 3, 1) := by decide +kernel
theorem dX12_rate_36 : decode cX12_rate 36 = .ok (.aload_n 0, 1) := by decide +kernel
theorem dX12_rate_37 : decode cX12_rate 37 = .ok (.getfield 32, 3) := by decide +kernel
theorem dX12_rate_40 : decode cX12_rate 40 = .ok (.astore 4, 2) := by decide +kernel
theorem dX12_rate_42 : decode cX12_rate 42 = .ok (.aload_n 0, 1) := by decide +kernel
theorem dX12_rate_43 : decode cX12_rate 43 = .ok (.aload_n 0, 1) := by decide +kernel
theorem dX12_rate_44 : decode cX12_rate 44 = .ok (.getfield 35, 3) := by decide +kernel
theorem dX12_rate_47 : decode cX12_rate 47 = .ok (.putfield 32, 3) := by decide +kernel
theorem dX12_rate_50 : decode cX12_rate 50 = .ok (.iconst 0, 1) := by decide +kernel
theorem dX12_rate_51 : decode cX12_rate 51 = .ok (.istore 5, 2) := by decide +kernel
theorem dX12_rate_53 : decode cX12_rate 53 = .ok (.iload 5, 2) := by decide +kernel
theorem dX12_rate_55 : decode cX12_rate 55 = .ok (.iload_n 1, 1) := by decide +kernel
theorem dX12_rate_56 : decode cX12_rate 56 = .ok (.if_icmp .ge 23, 3) := by decide +kernel
theorem dX12_rate_59 : decode cX12_rate 59 = .ok (.aload_n 0, 1) := by decide +kernel
theorem dX12_rate_60 : decode cX12_rate 60 = .ok (.getfield 32, 3) := by decide +kernel
theorem dX12_rate_63 : decode cX12_rate 63 = .ok (.iload 5, 2) := by decide +kernel
theorem dX12_rate_65 : decode cX12_rate 65 = .ok (.aload_n 0, 1) := by decide +kernel
theorem dX12_rate_66 : decode cX12_rate 66 = .ok (.getfield 22, 3) := by decide +kernel
theorem dX12_rate_69 : decode cX12_rate 69 = .ok (.iload 5, 2) := by decide +kernel
theorem dX12_rate_71 : decode cX12_rate 71 = .ok (.baload, 1) := by decide +kernel
theorem dX12_rate_72 : decode cX12_rate 72 = .ok (.bastore, 1) := by decide +kernel
theorem dX12_rate_73 : decode cX12_rate 73 = .ok (.iinc 5 1, 3) := by decide +kernel
theorem dX12_rate_76 : decode cX12_rate 76 = .ok (.goto (-23), 3) := by decide +kernel
theorem dX12_rate_79 : decode cX12_rate 79 = .ok (.aload_n 0, 1) := by decide +kernel
theorem dX12_rate_80 : decode cX12_rate 80 = .ok (.iload_n 1, 1) := by decide +kernel
theorem dX12_rate_81 : decode cX12_rate 81 = .ok (.putfield 205, 3) := by decide +kernel
theorem dX12_rate_84 : decode cX12_rate 84 = .ok (.aload_n 0, 1) := by decide +kernel
theorem dX12_rate_85 : decode cX12_rate 85 = .ok (.invokevirtual 408, 3) := by decide +kernel
theorem dX12_rate_88 : decode cX12_rate 88 = .ok (.istore 5, 2) := by decide +kernel
theorem dX12_rate_90 : decode cX12_rate 90 = .ok (.aload_n 0, 1) := by decide +kernel
theorem dX12_rate_91 : decode cX12_rate 91 = .ok (.aload 4, 2) := by decide +kernel
theorem dX12_rate_93 : decode cX12_rate 93 = .ok (.putfield 32, 3) := by decide +kernel
theorem dX12_rate_96 : decode cX12_rate 96 = .ok (.aload_n 0, 1) := by decide +kernel
theorem dX12_rate_97 : decode cX12_rate 97 = .ok (.iload_n 3, 1) := by decide +kernel
theorem dX12_rate_98 : decode cX12_rate 98 = .ok (.putfield 205, 3) := by decide +kernel
theorem dX12_rate_101 : decode cX12_rate 101 = .ok (.aload_n 0, 1) := by decide +kernel
theorem dX12_rate_102 : decode cX12_rate 102 = .ok (.iconst 0, 1) := by decide +kernel
theorem dX12_rate_103 : decode cX12_rate 103 = .ok (.putfield 107, 3) := by decide +kernel
theorem dX12_rate_106 : decode cX12_rate 106 = .ok (.aload_n 0, 1) := by decide +kernel
theorem dX12_rate_107 : decode cX12_rate 107 = .ok (.iload 5, 2) := by decide +kernel
theorem dX12_rate_109 : decode cX12_rate 109 = .ok (.invokevirtual 308, 3) := by decide +kernel
theorem dX12_rate_112 : decode cX12_rate 112 = .ok (.aload_n 0, 1) := by decide +kernel
theorem dX12_rate_113 : decode cX12_rate 113 = .ok (.iload_n 2, 1) := by decide +kernel
theorem dX12_rate_114 : decode cX12_rate 114 = .ok (.invokevirtual 308, 3) := by decide +kernel
theorem dX12_rate_117 : decode cX12_rate 117 = .ok (.iload 5, 2) := by decide +kernel
theorem dX12_rate_119 : decode cX12_rate 119 = .ok (.iload_n 2, 1) := by decide +kernel
theorem dX12_rate_120 : decode cX12_rate 120 = .ok (.isub, 1) := by decide +kernel
theorem dX12_rate_121 : decode cX12_rate 121 = .ok (.ireturn, 1) := by decide +kernel
abbrev YX12_rate : li_Y := (yX12_rate, cX12_rate, 6, (some .int))
set_option maxRecDepth 100000 in
set_option maxHeartbeats 4000000 in
theorem k_X12_bestAll {l : Launch} {Z : li_Z} (d : Nat) (hd : 344 ≤ d) (M0 : li_M) (hJ : li_J M0) : li_Met l Z YX12_bestAll d [.ref (Z.2.2 175)] M0 (fun r M' => (∃ x : Int32, r = some (.int x)) ∧ li_fs (fun i k => i = 185 ∨ i = 189 ∨ i = 1000 ∨ (i = 175 ∧ k = 12) ∨ (i = 175 ∧ k = 13) ∨ (i = 175 ∧ k = 14) ∨ (i = 175 ∧ k = 15) ∨ (i = 175 ∧ k = 20)) M0 M' ∧ li_J M') := by
  refine li_enter (by decide +kernel) (Nat.le_of_ble_eq_true rfl) ?_
  show li_T l Z YX12_bestAll d 0 [(0, .ref (Z.2.2 175))] [] M0 _
  have hf : li_fs (fun i k => i = 185 ∨ i = 189 ∨ i = 1000 ∨ (i = 175 ∧ k = 12) ∨ (i = 175 ∧ k = 13) ∨ (i = 175 ∧ k = 14) ∨ (i = 175 ∧ k = 15) ∨ (i = 175 ∧ k = 20)) M0 M0 := li_fs_refl
  refine li_aload_n 0 dX12_bestAll_0 rfl ?_
  refine li_callV (n := 0) (As := []) dX12_bestAll_1 (k_X12_layLeast (d - 1) (by omega)  M0 hJ ) (by omega) (Nat.le_of_ble_eq_true rfl) w_1807 w_1809 w_80 w_112 w_1810 (by decide +kernel) rfl (by decide) sh_175 rfl rfl (Nat.le_of_ble_eq_true rfl) (fun r M2 h3 => ?_)
  obtain ⟨rfl, h3, jM2⟩ := h3
  have hf := li_fs_trans hf h3 (fun i k => fun h => Or.elim h (fun h => Or.inl h) (fun h => Or.elim h (fun h => Or.inr (Or.inl h)) (fun h => Or.elim h (fun h => Or.inr (Or.inr (Or.inl h))) (fun h => Or.elim h (fun h => Or.inr (Or.inr (Or.inr (Or.inl h)))) (fun h => Or.elim h (fun h => Or.inr (Or.inr (Or.inr (Or.inr (Or.inl h))))) (fun h => Or.elim h (fun h => Or.inr (Or.inr (Or.inr (Or.inr (Or.inr (Or.inl h)))))) (fun h => Or.elim h (fun h => Or.inr (Or.inr (Or.inr (Or.inr (Or.inr (Or.inr (Or.inl h))))))) (fun h => Or.inr (Or.inr (Or.inr (Or.inr (Or.inr (Or.inr (Or.inr h))))))))))))))
  have hJ := jM2
  refine li_iconst 0 dX12_bestAll_4 (by decide) ?_
  refine li_istore_n [(1, .int 0), (0, .ref (Z.2.2 175))] dX12_bestAll_5 (by decide) rfl ?_
  refine li_iconst 0 dX12_bestAll_6 (by decide) ?_
  refine li_istore_n [(2, .int 0), (1, .int 0), (0, .ref (Z.2.2 175))] dX12_bestAll_7 (by decide) rfl ?_
  have L8 : ∀ (n : Nat) (x4 : Int32) (x5 : Int32) (M6 : li_M), (6 - (x4 : Int32).toInt).toNat < n → li_fs (fun i k => i = 185 ∨ i = 189 ∨ i = 1000 ∨ (i = 175 ∧ k = 12) ∨ (i = 175 ∧ k = 13) ∨ (i = 175 ∧ k = 14) ∨ (i = 175 ∧ k = 15) ∨ (i = 175 ∧ k = 20)) M0 M6 → li_J M6 → 0 ≤ (x4 : Int32).toInt → li_T l Z YX12_bestAll d 8 [(2, .int x4), (1, .int x5), (0, .ref (Z.2.2 175))] [] M6 (fun r M' => (∃ x : Int32, r = some (.int x)) ∧ li_fs (fun i k => i = 185 ∨ i = 189 ∨ i = 1000 ∨ (i = 175 ∧ k = 12) ∨ (i = 175 ∧ k = 13) ∨ (i = 175 ∧ k = 14) ∨ (i = 175 ∧ k = 15) ∨ (i = 175 ∧ k = 20)) M0 M' ∧ li_J M') := by
    intro n
    induction n with
    | zero => intro x4 x5 M6 hn; exact absurd hn (Nat.not_lt_zero _)
    | succ n ih8 =>
      intro x4 x5 M6 hn hf hJ hi
      have gx4 := tl_rg x4
      have gx5 := tl_rg x5
      refine li_iload_n 0 dX12_bestAll_8 rfl ?_
      refine li_aload_n 2 dX12_bestAll_9 rfl ?_
      refine li_geti (k := 1) (N := 52) (T := TX12) (C0 := RX12) dX12_bestAll_10 (by decide) sh_175 rfl rfl (by decide) li_in12 w_1405 ?_
      refine li_top (fun x7 ex7 => ?_)
      have gx7 : 0 ≤ x7.toInt ∧ x7.toInt ≤ 6 := by rw [ex7]; exact J_sl1 hJ
      have sx7 : x7.toInt = (M0.1 175 1).toInt := tl_slot (ex7.trans (hf.1 175 1 (show ¬ (175 = 185 ∨ 175 = 189 ∨ 175 = 1000 ∨ (175 = 175 ∧ 1 = 12) ∨ (175 = 175 ∧ 1 = 13) ∨ (175 = 175 ∧ 1 = 14) ∨ (175 = 175 ∧ 1 = 15) ∨ (175 = 175 ∧ 1 = 20)) by decide)))
      refine li_icmp_ge 49 dX12_bestAll_13 (by decide) (fun c8 => ?_) (fun c8 => ?_)
      · have tc8 : x7.toInt ≤ x4.toInt := tl_le c8
        refine li_iload_n 1 dX12_bestAll_49 rfl ?_
        exact li_iret dX12_bestAll_50 rfl rfl ⟨⟨_, rfl⟩, hf, hJ⟩
      · have tc8 : x4.toInt < x7.toInt := tl_nle c8
        refine li_iload_n 1 dX12_bestAll_16 rfl ?_
        refine li_aload_n 2 dX12_bestAll_17 rfl ?_
        refine li_aload_n 2 dX12_bestAll_18 rfl ?_
        refine li_aload_n 2 dX12_bestAll_19 rfl ?_
        refine li_iload_n 0 dX12_bestAll_20 rfl ?_
        refine li_callV (n := 1) (As := [.int x4]) dX12_bestAll_21 (k_X12_thingsOf (d - 1) (by omega) x4 M6 hJ ) (by omega) (Nat.le_of_ble_eq_true rfl) w_1815 w_1817 w_82 w_112 w_1818 (by decide +kernel) rfl (by decide) sh_175 rfl rfl (Nat.le_of_ble_eq_true rfl) (fun r M10 h11 => ?_)
        obtain ⟨⟨x9, rfl, qx9⟩, h11, jM10⟩ := h11
        have gx9 := tl_rg x9
        have hf := li_fs_trans hf h11 (fun i k h => False.elim h)
        have hJ := jM10
        refine li_aload_n 2 dX12_bestAll_24 rfl ?_
        refine li_callV (n := 0) (As := []) dX12_bestAll_25 (k_X12_today (d - 1) (by omega)  M10 hJ ) (by omega) (Nat.le_of_ble_eq_true rfl) w_1819 w_1821 w_83 w_112 w_1822 (by decide +kernel) rfl (by decide) sh_175 rfl rfl (Nat.le_of_ble_eq_true rfl) (fun r M13 h14 => ?_)
        obtain ⟨⟨x12, rfl, qx12⟩, h14, jM13⟩ := h14
        have gx12 := tl_rg x12
        have hf := li_fs_trans hf h14 (fun i k h => False.elim h)
        have hJ := jM13
        refine li_iand dX12_bestAll_28 ?_
        refine li_top (fun x15 ex15 => ?_)
        first | (have tx15 := tl_andR ex15 (by omega)) | (have tx15 := tl_andL ex15 (by omega)) | skip
        refine li_aload_n 2 dX12_bestAll_29 rfl ?_
        refine li_getr (k := 0) (N := 52) (T := TX12) (C0 := RX12) dX12_bestAll_30 (by decide) sh_175 rfl rfl (by decide) (by decide) li_in12 w_1404 ?_
        refine li_iload_n 0 dX12_bestAll_33 rfl ?_
        refine li_iald dX12_bestAll_34 (by decide) sh_176 (tl_in (by omega)) ?_
        refine li_top (fun x16 ex16 => ?_)
        have gx16 := tl_rg x16
        try (have ox16 : (x4 : Int32).toInt % 51 = (x4 : Int32).toInt := by omega)
        have lx16 : ((x4 : Int32).toInt % 51 = 20 → 0 ≤ x16.toInt ∧ x16.toInt ≤ 6) ∧ (21 ≤ (x4 : Int32).toInt % 51 → ((x4 : Int32).toInt % 51 - 21) % 5 < 2 → 0 ≤ x16.toInt ∧ x16.toInt ≤ 5) := hJ.ldLed (by unfold li_led; omega) ex16 (by omega)
        refine li_callV (n := 2) (As := [.int x15, .int x16]) dX12_bestAll_35 (k_X12_bestSet (d - 1) (by omega) x15 x16 M13 hJ (by omega)) (by omega) (Nat.le_of_ble_eq_true rfl) w_1823 w_1825 w_84 w_112 w_1826 (by decide +kernel) rfl (by decide) sh_175 rfl rfl (Nat.le_of_ble_eq_true rfl) (fun r M18 h19 => ?_)
        obtain ⟨⟨x17, rfl⟩, h19, jM18⟩ := h19
        have gx17 := tl_rg x17
        have hf := li_fs_trans hf h19 (fun i k h => False.elim h)
        have hJ := jM18
        refine li_callV (n := 1) (As := [.int x17]) dX12_bestAll_38 (k_X12_worthOf (d - 1) (by omega) x17 M18 hJ ) (by omega) (Nat.le_of_ble_eq_true rfl) w_1831 w_1833 w_86 w_112 w_1834 (by decide +kernel) rfl (by decide) sh_175 rfl rfl (Nat.le_of_ble_eq_true rfl) (fun r M21 h22 => ?_)
        obtain ⟨⟨x20, rfl⟩, h22, jM21⟩ := h22
        have gx20 := tl_rg x20
        have hf := li_fs_trans hf h22 (fun i k h => False.elim h)
        have hJ := jM21
        refine li_iadd dX12_bestAll_41 ?_
        refine li_top (fun x23 ex23 => ?_)
        try (have tx23 : x23.toInt = (x5 : Int32).toInt + (x20 : Int32).toInt := tl_add ex23 (by omega))
        refine li_istore_n [(1, .int x23), (2, .int x4), (0, .ref (Z.2.2 175))] dX12_bestAll_42 (by decide) rfl ?_
        obtain ⟨x24, ex24⟩ : ∃ y : Int32, y = x4 + 1 := ⟨_, rfl⟩
        have z1 : (1 : Int32).toInt = 1 := rfl
        try (have tx24 : x24.toInt = (x4 : Int32).toInt + (1 : Int32).toInt := tl_add ex24 (by omega))
        refine li_iinc 1 [(2, .int x24), (1, .int x23), (0, .ref (Z.2.2 175))] x24 dX12_bestAll_43 rfl (by rw [ex24]; rfl) (by decide) rfl ?_
        refine li_goto 8 dX12_bestAll_46 (by decide) ?_
        refine li_pick [0, 1, 2] [(2, .int x24), (1, .int x23), (0, .ref (Z.2.2 175))] rfl ?_
        exact ih8 x24 x23 M21 (by omega) hf hJ (by omega)
  have z0 : (0 : Int32).toInt = 0 := rfl
  have z0 : (0 : Int32).toInt = 0 := rfl
  exact L8 _ 0 0 M2 (Nat.lt_succ_self _) hf hJ (by omega)
