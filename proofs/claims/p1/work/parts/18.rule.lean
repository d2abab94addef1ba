theorem w_107 : (Jvm.Cond.initialized "ClockForTalk$Rule") ∈ li_ws := li_mem 107 (by decide +kernel) (by decide +kernel)
theorem w_315 : (Jvm.Cond.fieldLink "ClockForTalk$Rule" (9 : Nat) "ClockForTalk$Rule" "steps" "[I") ∈ li_ws := li_mem 315 (by decide +kernel) (by decide +kernel)
theorem w_316 : (Jvm.Cond.fieldLink "ClockForTalk$Rule" (15 : Nat) "ClockForTalk$Rule" "stack" "[I") ∈ li_ws := li_mem 316 (by decide +kernel) (by decide +kernel)
theorem w_317 : (Jvm.Cond.fieldLink "ClockForTalk$Rule" (18 : Nat) "ClockForTalk$Rule" "given" "[I") ∈ li_ws := li_mem 317 (by decide +kernel) (by decide +kernel)
theorem w_319 : (Jvm.Cond.fieldLink "ClockForTalk$Rule" (21 : Nat) "ClockForTalk$Rule" "length" "I") ∈ li_ws := li_mem 319 (by decide +kernel) (by decide +kernel)
theorem w_544 : (Jvm.Cond.methodLink "ClockForTalk$Rule" (31 : Nat) ({ cls := "ClockForTalk$Text", name := "atEnd", desc := "()Z" } : Jvm.MethodName)) ∈ li_ws := li_mem 544 (by decide +kernel) (by decide +kernel)
theorem w_751 : (Jvm.Cond.methodLink "ClockForTalk$Rule" (25 : Nat) ({ cls := "java/lang/System", name := "arraycopy", desc := "(Ljava/lang/Object;ILjava/lang/Object;II)V" } : Jvm.MethodName)) ∈ li_ws := li_mem 751 (by decide +kernel) (by decide +kernel)
theorem w_832 : (Jvm.Cond.methodLink "ClockForTalk$Rule" (97 : Nat) ({ cls := "ClockForTalk$Rule", name := "usual", desc := "(II)I" } : Jvm.MethodName)) ∈ li_ws := li_mem 832 (by decide +kernel) (by decide +kernel)
theorem w_833 : (Jvm.Cond.static ({ cls := "ClockForTalk$Rule", name := "usual", desc := "(II)I" } : Jvm.MethodName)) ∈ li_ws := li_mem 833 (by decide +kernel) (by decide +kernel)
theorem w_834 : (Jvm.Cond.code ({ cls := "ClockForTalk$Rule", name := "usual", desc := "(II)I" } : Jvm.MethodName) prog_7_method_12_code (2 : Nat) (Option.some Jvm.ClassFile.FieldType.int)) ∈ li_ws := li_mem 834 (by decide +kernel) (by decide +kernel)
theorem w_835 : (Jvm.Cond.methodLink "ClockForTalk$Rule" (101 : Nat) ({ cls := "ClockForTalk$Rule", name := "reckon", desc := "(III)I" } : Jvm.MethodName)) ∈ li_ws := li_mem 835 (by decide +kernel) (by decide +kernel)
theorem w_836 : (Jvm.Cond.static ({ cls := "ClockForTalk$Rule", name := "reckon", desc := "(III)I" } : Jvm.MethodName)) ∈ li_ws := li_mem 836 (by decide +kernel) (by decide +kernel)
theorem w_837 : (Jvm.Cond.code ({ cls := "ClockForTalk$Rule", name := "reckon", desc := "(III)I" } : Jvm.MethodName) prog_7_method_13_code (3 : Nat) (Option.some Jvm.ClassFile.FieldType.int)) ∈ li_ws := li_mem 837 (by decide +kernel) (by decide +kernel)
theorem dX6_readAll_0 : decode cX6_readAll 0 = .ok (.aload_n 0, 1) := by decide +kernel
theorem dX6_readAll_1 : decode cX6_readAll 1 = .ok (.iconst 0, 1) := by decide +kernel
theorem dX6_readAll_2 : decode cX6_readAll 2 = .ok (.putfield 21, 3) := by decide +kernel
theorem dX6_readAll_5 : decode cX6_readAll 5 = .ok (.aload_n 1, 1) := by decide +kernel
theorem dX6_readAll_6 : decode cX6_readAll 6 = .ok (.invokevirtual 31, 3) := by decide +kernel
theorem dX6_readAll_9 : decode cX6_readAll 9 = .ok (.ifCond .ne 19, 3) := by decide +kernel
theorem dX6_readAll_28 : decode cX6_readAll 28 = .ok (.iconst 1, 1) := by decide +kernel
theorem dX6_readAll_29 : decode cX6_readAll 29 = .ok (.goto 4, 3) := by decide +kernel
theorem dX6_readAll_33 : decode cX6_readAll 33 = .ok (.ireturn, 1) := by decide +kernel
abbrev YX6_readAll : li_Y := (yX6_readAll, cX6_readAll, 2, (some .boolean))
theorem dX6_copyFrom_0 : decode cX6_copyFrom 0 = .ok (.aload_n 0, 1) := by decide +kernel
theorem dX6_copyFrom_1 : decode cX6_copyFrom 1 = .ok (.aload_n 1, 1) := by decide +kernel
theorem dX6_copyFrom_2 : decode cX6_copyFrom 2 = .ok (.getfield 21, 3) := by decide +kernel
theorem dX6_copyFrom_5 : decode cX6_copyFrom 5 = .ok (.putfield 21, 3) := by decide +kernel
theorem dX6_copyFrom_8 : decode cX6_copyFrom 8 = .ok (.aload_n 1, 1) := by decide +kernel
theorem dX6_copyFrom_9 : decode cX6_copyFrom 9 = .ok (.getfield 9, 3) := by decide +kernel
theorem dX6_copyFrom_12 : decode cX6_copyFrom 12 = .ok (.iconst 0, 1) := by decide +kernel
theorem dX6_copyFrom_13 : decode cX6_copyFrom 13 = .ok (.aload_n 0, 1) := by decide +kernel
theorem dX6_copyFrom_14 : decode cX6_copyFrom 14 = .ok (.getfield 9, 3) := by decide +kernel
theorem dX6_copyFrom_17 : decode cX6_copyFrom 17 = .ok (.iconst 0, 1) := by decide +kernel
theorem dX6_copyFrom_18 : decode cX6_copyFrom 18 = .ok (.bipush 80, 2) := by decide +kernel
theorem dX6_copyFrom_20 : decode cX6_copyFrom 20 = .ok (.invokestatic 25, 3) := by decide +kernel
theorem dX6_copyFrom_23 : decode cX6_copyFrom 23 = .ok (.return_, 1) := by decide +kernel
abbrev YX6_copyFrom : li_Y := (yX6_copyFrom, cX6_copyFrom, 2, none)
theorem dX6_evaluate_0 : decode cX6_evaluate 0 = .ok (.aload_n 0, 1) := by decide +kernel
theorem dX6_evaluate_1 : decode cX6_evaluate 1 = .ok (.getfield 21, 3) := by decide +kernel
theorem dX6_evaluate_4 : decode cX6_evaluate 4 = .ok (.ifCond .ne 23, 3) := by decide +kernel
theorem dX6_evaluate_7 : decode cX6_evaluate 7 = .ok (.aload_n 0, 1) := by decide +kernel
theorem dX6_evaluate_8 : decode cX6_evaluate 8 = .ok (.getfield 18, 3) := by decide +kernel
theorem dX6_evaluate_11 : decode cX6_evaluate 11 = .ok (.iconst 0, 1) := by decide +kernel
theorem dX6_evaluate_12 : decode cX6_evaluate 12 = .ok (.invokestatic 93, 3) := by decide +kernel
theorem dX6_evaluate_15 : decode cX6_evaluate 15 = .ok (.aload_n 0, 1) := by decide +kernel
theorem dX6_evaluate_16 : decode cX6_evaluate 16 = .ok (.getfield 18, 3) := by decide +kernel
theorem dX6_evaluate_19 : decode cX6_evaluate 19 = .ok (.iconst 1, 1) := by decide +kernel
theorem dX6_evaluate_20 : decode cX6_evaluate 20 = .ok (.invokestatic 93, 3) := by decide +kernel
theorem dX6_evaluate_23 : decode cX6_evaluate 23 = .ok (.invokestatic 97, 3) := by decide +kernel
theorem dX6_evaluate_26 : decode cX6_evaluate 26 = .ok (.ireturn, 1) := by decide +kernel
theorem dX6_evaluate_27 : decode cX6_evaluate 27 = .ok (.iconst 0, 1) := by decide +kernel
theorem dX6_evaluate_28 : decode cX6_evaluate 28 = .ok (.istore_n 1, 1) := by decide +kernel
theorem dX6_evaluate_29 : decode cX6_evaluate 29 = .ok (.iconst 0, 1) := by decide +kernel
theorem dX6_evaluate_30 : decode cX6_evaluate 30 = .ok (.istore_n 2, 1) := by decide +kernel
theorem dX6_evaluate_31 : decode cX6_evaluate 31 = .ok (.iload_n 2, 1) := by decide +kernel
theorem dX6_evaluate_32 : decode cX6_evaluate 32 = .ok (.aload_n 0, 1) := by decide +kernel
theorem dX6_evaluate_33 : decode cX6_evaluate 33 = .ok (.getfield 21, 3) := by decide +kernel
theorem dX6_evaluate_36 : decode cX6_evaluate 36 = .ok (.if_icmp .ge 136, 3) := by decide +kernel
theorem dX6_evaluate_39 : decode cX6_evaluate 39 = .ok (.aload_n 0, 1) := by decide +kernel
theorem dX6_evaluate_40 : decode cX6_evaluate 40 = .ok (.getfield 9, 3) := by decide +kernel
theorem dX6_evaluate_43 : decode cX6_evaluate 43 = .ok (.iload_n 2, 1) := by decide +kernel
theorem dX6_evaluate_44 : decode cX6_evaluate 44 = .ok (.invokestatic 93, 3) := by decide +kernel
theorem dX6_evaluate_47 : decode cX6_evaluate 47 = .ok (.istore_n 3, 1) := by decide +kernel
theorem dX6_evaluate_48 : decode cX6_evaluate 48 = .ok (.iload_n 3, 1) := by decide +kernel
theorem dX6_evaluate_49 : decode cX6_evaluate 49 = .ok (.sipush 1000, 3) := by decide +kernel
theorem dX6_evaluate_52 : decode cX6_evaluate 52 = .ok (.if_icmp .lt 29, 3) := by decide +kernel
theorem dX6_evaluate_55 : decode cX6_evaluate 55 = .ok (.aload_n 0, 1) := by decide +kernel
theorem dX6_evaluate_56 : decode cX6_evaluate 56 = .ok (.getfield 15, 3) := by decide +kernel
theorem dX6_evaluate_59 : decode cX6_evaluate 59 = .ok (.iload_n 1, 1) := by decide +kernel
theorem dX6_evaluate_60 : decode cX6_evaluate 60 = .ok (.iinc 1 1, 3) := by decide +kernel
theorem dX6_evaluate_63 : decode cX6_evaluate 63 = .ok (.aload_n 0, 1) := by decide +kernel
theorem dX6_evaluate_64 : decode cX6_evaluate 64 = .ok (.getfield 18, 3) := by decide +kernel
theorem dX6_evaluate_67 : decode cX6_evaluate 67 = .ok (.iload_n 3, 1) := by decide +kernel
theorem dX6_evaluate_68 : decode cX6_evaluate 68 = .ok (.sipush 1000, 3) := by decide +kernel
theorem dX6_evaluate_71 : decode cX6_evaluate 71 = .ok (.isub, 1) := by decide +kernel
theorem dX6_evaluate_72 : decode cX6_evaluate 72 = .ok (.invokestatic 93, 3) := by decide +kernel
theorem dX6_evaluate_75 : decode cX6_evaluate 75 = .ok (.invokestatic 41, 3) := by decide +kernel
theorem dX6_evaluate_78 : decode cX6_evaluate 78 = .ok (.goto 88, 3) := by decide +kernel
theorem dX6_evaluate_81 : decode cX6_evaluate 81 = .ok (.iload_n 3, 1) := by decide +kernel
theorem dX6_evaluate_82 : decode cX6_evaluate 82 = .ok (.ifCond .lt 18, 3) := by decide +kernel
theorem dX6_evaluate_85 : decode cX6_evaluate 85 = .ok (.aload_n 0, 1) := by decide +kernel
theorem dX6_evaluate_86 : decode cX6_evaluate 86 = .ok (.getfield 15, 3) := by decide +kernel
theorem dX6_evaluate_89 : decode cX6_evaluate 89 = .ok (.iload_n 1, 1) := by decide +kernel
theorem dX6_evaluate_90 : decode cX6_evaluate 90 = .ok (.iinc 1 1, 3) := by decide +kernel
theorem dX6_evaluate_93 : decode cX6_evaluate 93 = .ok (.iload_n 3, 1) := by decide +kernel
theorem dX6_evaluate_94 : decode cX6_evaluate 94 = .ok (.invokestatic 41, 3) := by decide +kernel
theorem dX6_evaluate_97 : decode cX6_evaluate 97 = .ok (.goto 69, 3) := by decide +kernel
theorem dX6_evaluate_100 : decode cX6_evaluate 100 = .ok (.iload_n 3, 1) := by decide +kernel
theorem dX6_evaluate_101 : decode cX6_evaluate 101 = .ok (.bipush (-126), 2) := by decide +kernel
theorem dX6_evaluate_103 : decode cX6_evaluate 103 = .ok (.if_icmp .ne 27, 3) := by decide +kernel
theorem dX6_evaluate_106 : decode cX6_evaluate 106 = .ok (.aload_n 0, 1) := by decide +kernel
theorem dX6_evaluate_107 : decode cX6_evaluate 107 = .ok (.getfield 15, 3) := by decide +kernel
theorem dX6_evaluate_110 : decode cX6_evaluate 110 = .ok (.iload_n 1, 1) := by decide +kernel
theorem dX6_evaluate_111 : decode cX6_evaluate 111 = .ok (.iconst 1, 1) := by decide +kernel
theorem dX6_evaluate_112 : decode cX6_evaluate 112 = .ok (.isub, 1) := by decide +kernel
theorem dX6_evaluate_113 : decode cX6_evaluate 113 = .ok (.aload_n 0, 1) := by decide +kernel
theorem dX6_evaluate_114 : decode cX6_evaluate 114 = .ok (.getfield 15, 3) := by decide +kernel
theorem dX6_evaluate_117 : decode cX6_evaluate 117 = .ok (.iload_n 1, 1) := by decide +kernel
theorem dX6_evaluate_118 : decode cX6_evaluate 118 = .ok (.iconst 1, 1) := by decide +kernel
theorem dX6_evaluate_119 : decode cX6_evaluate 119 = .ok (.isub, 1) := by decide +kernel
theorem dX6_evaluate_120 : decode cX6_evaluate 120 = .ok (.invokestatic 93, 3) := by decide +kernel
theorem dX6_evaluate_123 : decode cX6_evaluate 123 = .ok (.ineg, 1) := by decide +kernel
theorem dX6_evaluate_124 : decode cX6_evaluate 124 = .ok (.invokestatic 41, 3) := by decide +kernel
theorem dX6_evaluate_127 : decode cX6_evaluate 127 = .ok (.goto 39, 3) := by decide +kernel
theorem dX6_evaluate_130 : decode cX6_evaluate 130 = .ok (.iinc 1 (-1), 3) := by decide +kernel
theorem dX6_evaluate_133 : decode cX6_evaluate 133 = .ok (.aload_n 0, 1) := by decide +kernel
theorem dX6_evaluate_134 : decode cX6_evaluate 134 = .ok (.getfield 15, 3) := by decide +kernel
theorem dX6_evaluate_137 : decode cX6_evaluate 137 = .ok (.iload_n 1, 1) := by decide +kernel
theorem dX6_evaluate_138 : decode cX6_evaluate 138 = .ok (.iconst 1, 1) := by decide +kernel
theorem dX6_evaluate_139 : decode cX6_evaluate 139 = .ok (.isub, 1) := by decide +kernel
theorem dX6_evaluate_140 : decode cX6_evaluate 140 = .ok (.iload_n 3, 1) := by decide +kernel
theorem dX6_evaluate_141 : decode cX6_evaluate 141 = .ok (.ineg, 1) := by decide +kernel
theorem dX6_evaluate_142 : decode cX6_evaluate 142 = .ok (.aload_n 0, 1) := by decide +kernel
theorem dX6_evaluate_143 : decode cX6_evaluate 143 = .ok (.getfield 15, 3) := by decide +kernel
theorem dX6_evaluate_146 : decode cX6_evaluate 146 = .ok (.iload_n 1, 1) := by decide +kernel
theorem dX6_evaluate_147 : decode cX6_evaluate 147 = .ok (.iconst 1, 1) := by decide +kernel
theorem dX6_evaluate_148 : decode cX6_evaluate 148 = .ok (.isub, 1) := by decide +kernel
theorem dX6_evaluate_149 : decode cX6_evaluate 149 = .ok (.invokestatic 93, 3) := by decide +kernel
theorem dX6_evaluate_152 : decode cX6_evaluate 152 = .ok (.aload_n 0, 1) := by decide +kernel
theorem dX6_evaluate_153 : decode cX6_evaluate 153 = .ok (.getfield 15, 3) := by decide +kernel
theorem dX6_evaluate_156 : decode cX6_evaluate 156 = .ok (.iload_n 1, 1) := by decide +kernel
theorem dX6_evaluate_157 : decode cX6_evaluate 157 = .ok (.invokestatic 93, 3) := by decide +kernel
theorem dX6_evaluate_160 : decode cX6_evaluate 160 = .ok (.invokestatic 101, 3) := by decide +kernel
theorem dX6_evaluate_163 : decode cX6_evaluate 163 = .ok (.invokestatic 41, 3) := by decide +kernel
theorem dX6_evaluate_166 : decode cX6_evaluate 166 = .ok (.iinc 2 1, 3) := by decide +kernel
theorem dX6_evaluate_169 : decode cX6_evaluate 169 = .ok (.goto (-138), 3) := by decide +kernel
theorem dX6_evaluate_172 : decode cX6_evaluate 172 = .ok (.aload_n 0, 1) := by decide +kernel
theorem dX6_evaluate_173 : decode cX6_evaluate 173 = .ok (.getfield 15, 3) := by decide +kernel
theorem dX6_evaluate_176 : decode cX6_evaluate 176 = .ok (.iconst 0, 1) := by decide +kernel
theorem dX6_evaluate_177 : decode cX6_evaluate 177 = .ok (.invokestatic 93, 3) := by decide +kernel
theorem dX6_evaluate_180 : decode cX6_evaluate 180 = .ok (.sipush 999, 3) := by decide +kernel
theorem dX6_evaluate_183 : decode cX6_evaluate 183 = .ok (.invokestatic 105, 3) := by decide +kernel
theorem dX6_evaluate_186 : decode cX6_evaluate 186 = .ok (.ireturn, 1) := by decide +kernel
abbrev YX6_evaluate : li_Y := (yX6_evaluate, cX6_evaluate, 4, (some .int))
set_option maxRecDepth 100000 in
set_option maxHeartbeats 4000000 in
theorem k_X6_copyFrom {l : Launch} {Z : li_Z} (d : Nat) (hd : 1 ≤ d) (M0 : li_M) : li_Met l Z YX6_copyFrom d [.ref (Z.2.2 144), .ref (Z.2.2 151)] M0 (li_SV (fun i => i = 144 ∨ i = 145) M0) := by
  refine li_enter (by decide +kernel) (Nat.le_of_ble_eq_true rfl) ?_
  show li_T l Z YX6_copyFrom d 0 [(0, .ref (Z.2.2 144)), (1, .ref (Z.2.2 151))] [] M0 _
  have hf : li_fr (fun i => i = 144 ∨ i = 145) M0 M0 := li_fr_refl
  refine li_aload_n 0 dX6_copyFrom_0 rfl ?_
  refine li_aload_n 1 dX6_copyFrom_1 rfl ?_
  refine li_geti (k := 3) (N := 4) (T := TX6) (C0 := RX6) dX6_copyFrom_2 (by decide) sh_151 rfl rfl (by decide) li_in6 w_319 ?_
  refine li_top (fun x1 ex1 => ?_)
  refine li_puti (k := 3) (N := 4) (T := TX6) (C0 := RX6) dX6_copyFrom_5 (by decide) sh_144 rfl rfl (by decide) li_in6 tyX6_ok nmX6 rfl rfl rfl rfl w_319 ?_
  refine li_nm (fun M2 eM2 => ?_)
  have hf := li_fr_ui hf (show 144 = 144 ∨ 144 = 145 by omega) eM2
  refine li_aload_n 1 dX6_copyFrom_8 rfl ?_
  refine li_getr (k := 0) (N := 4) (T := TX6) (C0 := RX6) dX6_copyFrom_9 (by decide) sh_151 rfl rfl (by decide) (by decide) li_in6 w_315 ?_
  refine li_iconst 0 dX6_copyFrom_12 (by decide) ?_
  refine li_aload_n 0 dX6_copyFrom_13 rfl ?_
  refine li_getr (k := 0) (N := 4) (T := TX6) (C0 := RX6) dX6_copyFrom_14 (by decide) sh_144 rfl rfl (by decide) (by decide) li_in6 w_315 ?_
  refine li_iconst 0 dX6_copyFrom_17 (by decide) ?_
  refine li_bipush 80 dX6_copyFrom_18 (by decide) ?_
  refine li_copyI dX6_copyFrom_20 (by omega) w_751 w_753 w_752 w_118 (by decide) sh_152 (by decide) sh_145 (by decide) (by decide) (by decide) (Nat.le_of_ble_eq_true rfl) ?_
  refine li_nm (fun M3 eM3 => ?_)
  have hf := li_fr_uc hf (show 145 = 144 ∨ 145 = 145 by omega) eM3
  exact li_vret dX6_copyFrom_23 rfl ⟨rfl, hf⟩
set_option maxRecDepth 100000 in
set_option maxHeartbeats 4000000 in
theorem k_X6_evaluate {l : Launch} {Z : li_Z} (d : Nat) (hd : 2 ≤ d) {r : Nat} (hr : li_ru r) (M0 : li_M) : li_Met l Z YX6_evaluate d [.ref (Z.2.2 r)] M0 (li_SI (fun i => i = r + 2) M0) := by
  refine li_enter (by decide +kernel) (Nat.le_of_ble_eq_true rfl) ?_
  show li_T l Z YX6_evaluate d 0 [(0, .ref (Z.2.2 r))] [] M0 _
  have hf : li_fr (fun i => i = r + 2) M0 M0 := li_fr_refl
  refine li_aload_n 0 dX6_evaluate_0 rfl ?_
  refine li_geti (k := 3) (N := 4) (T := TX6) (C0 := RX6) dX6_evaluate_1 (snR0 hr) (shR0 hr) rfl rfl (by decide) li_in6 w_319 ?_
  refine li_top (fun x1 ex1 => ?_)
  refine li_if_ne 27 dX6_evaluate_4 (by decide) (fun c2 => ?_) (fun c2 => ?_)
  · refine li_iconst 0 dX6_evaluate_27 (by decide) ?_
    refine li_istore_n [(1, .int 0), (0, .ref (Z.2.2 r))] dX6_evaluate_28 (by decide) rfl ?_
    refine li_iconst 0 dX6_evaluate_29 (by decide) ?_
    refine li_istore_n [(2, .int 0), (1, .int 0), (0, .ref (Z.2.2 r))] dX6_evaluate_30 (by decide) rfl ?_
    have L31 : ∀ (n : Nat) (x3 : Int32) (x4 : Int32) (M5 : li_M), (2147483647 - (x3 : Int32).toInt).toNat < n → li_fr (fun i => i = r + 2) M0 M5 → li_T l Z YX6_evaluate d 31 [(2, .int x3), (1, .int x4), (0, .ref (Z.2.2 r))] [] M5 (li_SI (fun i => i = r + 2) M0) := by
      intro n
      induction n with
      | zero => intro x3 x4 M5 hn; exact absurd hn (Nat.not_lt_zero _)
      | succ n ih31 =>
        intro x3 x4 M5 hn hf
        refine li_iload_n 0 dX6_evaluate_31 rfl ?_
        refine li_aload_n 2 dX6_evaluate_32 rfl ?_
        refine li_geti (k := 3) (N := 4) (T := TX6) (C0 := RX6) dX6_evaluate_33 (snR0 hr) (shR0 hr) rfl rfl (by decide) li_in6 w_319 ?_
        refine li_top (fun x6 ex6 => ?_)
        refine li_icmp_ge 172 dX6_evaluate_36 (by decide) (fun c7 => ?_) (fun c7 => ?_)
        · refine li_aload_n 2 dX6_evaluate_172 rfl ?_
          refine li_getr (k := 1) (N := 4) (T := TX6) (C0 := RX6) dX6_evaluate_173 (snR0 hr) (shR0 hr) rfl rfl (lkR2 hr) (by decide) li_in6 w_316 ?_
          refine li_iconst 0 dX6_evaluate_176 (by decide) ?_
          refine li_callN (n := 2) (As := [.ref (Z.2.2 (r + 2)), .int 0]) dX6_evaluate_177 (k_X11_at (d - 1) (by omega) (snR2 hr) (shR2 hr) (by decide) 0 M5) (by omega) (Nat.le_of_ble_eq_true rfl) nw_18 w_569 w_101 w_570 (by decide +kernel) rfl rfl (Nat.le_of_ble_eq_true rfl) (fun r M9 h10 => ?_)
          obtain ⟨⟨x8, rfl⟩, h10⟩ := h10
          have hf := li_fr_trans hf h10 (fun i h => False.elim h)
          refine li_sipush 999 dX6_evaluate_180 (by decide) ?_
          refine li_callN (n := 2) (As := [.int x8, .int 999]) dX6_evaluate_183 (k_X11_clamp (d - 1) (by omega) x8 999 M9) (by omega) (Nat.le_of_ble_eq_true rfl) nw_19 w_772 w_101 w_773 (by decide +kernel) rfl rfl (Nat.le_of_ble_eq_true rfl) (fun r M12 h13 => ?_)
          obtain ⟨⟨x11, rfl⟩, h13⟩ := h13
          have hf := li_fr_trans hf h13 (fun i h => False.elim h)
          exact li_iret dX6_evaluate_186 rfl rfl ⟨⟨_, rfl⟩, hf⟩
        · refine li_aload_n 2 dX6_evaluate_39 rfl ?_
          refine li_getr (k := 0) (N := 4) (T := TX6) (C0 := RX6) dX6_evaluate_40 (snR0 hr) (shR0 hr) rfl rfl (lkR1 hr) (by decide) li_in6 w_315 ?_
          refine li_iload_n 0 dX6_evaluate_43 rfl ?_
          refine li_callN (n := 2) (As := [.ref (Z.2.2 (r + 1)), .int x3]) dX6_evaluate_44 (k_X11_at (d - 1) (by omega) (snR1 hr) (shR1 hr) (by decide) x3 M5) (by omega) (Nat.le_of_ble_eq_true rfl) nw_18 w_569 w_101 w_570 (by decide +kernel) rfl rfl (Nat.le_of_ble_eq_true rfl) (fun r M15 h16 => ?_)
          obtain ⟨⟨x14, rfl⟩, h16⟩ := h16
          have hf := li_fr_trans hf h16 (fun i h => False.elim h)
          refine li_istore_n [(3, .int x14), (2, .int x3), (1, .int x4), (0, .ref (Z.2.2 r))] dX6_evaluate_47 (by decide) rfl ?_
          refine li_iload_n 0 dX6_evaluate_48 rfl ?_
          refine li_sipush 1000 dX6_evaluate_49 (by decide) ?_
          have J166 : ∀ (x18 : Int32) (M19 : li_M), li_fr (fun i => i = r + 2) M0 M19 → li_T l Z YX6_evaluate d 166 [(3, .int x14), (2, .int x3), (1, .int x18), (0, .ref (Z.2.2 r))] [] M19 (li_SI (fun i => i = r + 2) M0) := by
            intro x18 M19 hf
            obtain ⟨x20, ex20⟩ : ∃ y : Int32, y = x3 + 1 := ⟨_, rfl⟩
            refine li_iinc 1 [(2, .int x20), (3, .int x14), (1, .int x18), (0, .ref (Z.2.2 r))] x20 dX6_evaluate_166 rfl (by rw [ex20]; rfl) (by decide) rfl ?_
            refine li_goto 31 dX6_evaluate_169 (by decide) ?_
            refine li_pick [0, 2, 3] [(2, .int x20), (1, .int x18), (0, .ref (Z.2.2 r))] rfl ?_
            exact ih31 x20 x18 M19 (by have h9 := li_up (li_gt c7); rw [← ex20] at h9; omega) hf
          refine li_icmp_lt 81 dX6_evaluate_52 (by decide) (fun c17 => ?_) (fun c17 => ?_)
          · refine li_iload_n 0 dX6_evaluate_81 rfl ?_
            refine li_if_lt 100 dX6_evaluate_82 (by decide) (fun c21 => ?_) (fun c21 => ?_)
            · refine li_iload_n 0 dX6_evaluate_100 rfl ?_
              refine li_bipush (-126) dX6_evaluate_101 (by decide) ?_
              refine li_icmp_ne 130 dX6_evaluate_103 (by decide) (fun c22 => ?_) (fun c22 => ?_)
              · obtain ⟨x23, ex23⟩ : ∃ y : Int32, y = x4 + (-1) := ⟨_, rfl⟩
                refine li_iinc 2 [(1, .int x23), (3, .int x14), (2, .int x3), (0, .ref (Z.2.2 r))] x23 dX6_evaluate_130 rfl (by rw [ex23]; rfl) (by decide) rfl ?_
                refine li_aload_n 3 dX6_evaluate_133 rfl ?_
                refine li_getr (k := 1) (N := 4) (T := TX6) (C0 := RX6) dX6_evaluate_134 (snR0 hr) (shR0 hr) rfl rfl (lkR2 hr) (by decide) li_in6 w_316 ?_
                refine li_iload_n 0 dX6_evaluate_137 rfl ?_
                refine li_iconst 1 dX6_evaluate_138 (by decide) ?_
                refine li_isub dX6_evaluate_139 ?_
                refine li_top (fun x24 ex24 => ?_)
                refine li_iload_n 1 dX6_evaluate_140 rfl ?_
                refine li_ineg dX6_evaluate_141 ?_
                refine li_top (fun x25 ex25 => ?_)
                refine li_aload_n 3 dX6_evaluate_142 rfl ?_
                refine li_getr (k := 1) (N := 4) (T := TX6) (C0 := RX6) dX6_evaluate_143 (snR0 hr) (shR0 hr) rfl rfl (lkR2 hr) (by decide) li_in6 w_316 ?_
                refine li_iload_n 0 dX6_evaluate_146 rfl ?_
                refine li_iconst 1 dX6_evaluate_147 (by decide) ?_
                refine li_isub dX6_evaluate_148 ?_
                refine li_top (fun x26 ex26 => ?_)
                refine li_callN (n := 2) (As := [.ref (Z.2.2 (r + 2)), .int x26]) dX6_evaluate_149 (k_X11_at (d - 1) (by omega) (snR2 hr) (shR2 hr) (by decide) x26 M15) (by omega) (Nat.le_of_ble_eq_true rfl) nw_18 w_569 w_101 w_570 (by decide +kernel) rfl rfl (Nat.le_of_ble_eq_true rfl) (fun r M28 h29 => ?_)
                obtain ⟨⟨x27, rfl⟩, h29⟩ := h29
                have hf := li_fr_trans hf h29 (fun i h => False.elim h)
                refine li_aload_n 3 dX6_evaluate_152 rfl ?_
                refine li_getr (k := 1) (N := 4) (T := TX6) (C0 := RX6) dX6_evaluate_153 (snR0 hr) (shR0 hr) rfl rfl (lkR2 hr) (by decide) li_in6 w_316 ?_
                refine li_iload_n 0 dX6_evaluate_156 rfl ?_
                refine li_callN (n := 2) (As := [.ref (Z.2.2 (r + 2)), .int x23]) dX6_evaluate_157 (k_X11_at (d - 1) (by omega) (snR2 hr) (shR2 hr) (by decide) x23 M28) (by omega) (Nat.le_of_ble_eq_true rfl) nw_18 w_569 w_101 w_570 (by decide +kernel) rfl rfl (Nat.le_of_ble_eq_true rfl) (fun r M31 h32 => ?_)
                obtain ⟨⟨x30, rfl⟩, h32⟩ := h32
                have hf := li_fr_trans hf h32 (fun i h => False.elim h)
                refine li_callS (n := 3) (As := [.int x25, .int x27, .int x30]) dX6_evaluate_160 (k_X6_reckon (d - 1) (by omega) x25 x27 x30 M31) (by omega) (Nat.le_of_ble_eq_true rfl) w_835 w_836 w_107 w_837 (by decide +kernel) rfl rfl (Nat.le_of_ble_eq_true rfl) (fun r M34 h35 => ?_)
                obtain ⟨⟨x33, rfl⟩, h35⟩ := h35
                have hf := li_fr_trans hf h35 (fun i h => False.elim h)
                refine li_callN (n := 3) (As := [.ref (Z.2.2 (r + 2)), .int x24, .int x33]) dX6_evaluate_163 (k_X11_put (d - 1) (by omega) (snR2 hr) (shR2 hr) (by decide) x24 x33 M34) (by omega) (Nat.le_of_ble_eq_true rfl) nw_9 w_522 w_101 w_523 (by decide +kernel) rfl rfl (Nat.le_of_ble_eq_true rfl) (fun r M37 h38 => ?_)
                obtain ⟨rfl, h38⟩ := h38
                have hf := li_fr_trans hf h38 (fun i (h : i = r + 2) => (show i = r + 2 by omega))
                refine li_pick [1, 2, 0, 3] [(3, .int x14), (2, .int x3), (1, .int x23), (0, .ref (Z.2.2 r))] rfl ?_
                exact J166 x23 M37 hf
              · refine li_aload_n 3 dX6_evaluate_106 rfl ?_
                refine li_getr (k := 1) (N := 4) (T := TX6) (C0 := RX6) dX6_evaluate_107 (snR0 hr) (shR0 hr) rfl rfl (lkR2 hr) (by decide) li_in6 w_316 ?_
                refine li_iload_n 2 dX6_evaluate_110 rfl ?_
                refine li_iconst 1 dX6_evaluate_111 (by decide) ?_
                refine li_isub dX6_evaluate_112 ?_
                refine li_top (fun x39 ex39 => ?_)
                refine li_aload_n 3 dX6_evaluate_113 rfl ?_
                refine li_getr (k := 1) (N := 4) (T := TX6) (C0 := RX6) dX6_evaluate_114 (snR0 hr) (shR0 hr) rfl rfl (lkR2 hr) (by decide) li_in6 w_316 ?_
                refine li_iload_n 2 dX6_evaluate_117 rfl ?_
                refine li_iconst 1 dX6_evaluate_118 (by decide) ?_
                refine li_isub dX6_evaluate_119 ?_
                refine li_top (fun x40 ex40 => ?_)
                refine li_callN (n := 2) (As := [.ref (Z.2.2 (r + 2)), .int x40]) dX6_evaluate_120 (k_X11_at (d - 1) (by omega) (snR2 hr) (shR2 hr) (by decide) x40 M15) (by omega) (Nat.le_of_ble_eq_true rfl) nw_18 w_569 w_101 w_570 (by decide +kernel) rfl rfl (Nat.le_of_ble_eq_true rfl) (fun r M42 h43 => ?_)
                obtain ⟨⟨x41, rfl⟩, h43⟩ := h43
                have hf := li_fr_trans hf h43 (fun i h => False.elim h)
                refine li_ineg dX6_evaluate_123 ?_
                refine li_top (fun x44 ex44 => ?_)
                refine li_callN (n := 3) (As := [.ref (Z.2.2 (r + 2)), .int x39, .int x44]) dX6_evaluate_124 (k_X11_put (d - 1) (by omega) (snR2 hr) (shR2 hr) (by decide) x39 x44 M42) (by omega) (Nat.le_of_ble_eq_true rfl) nw_9 w_522 w_101 w_523 (by decide +kernel) rfl rfl (Nat.le_of_ble_eq_true rfl) (fun r M46 h47 => ?_)
                obtain ⟨rfl, h47⟩ := h47
                have hf := li_fr_trans hf h47 (fun i (h : i = r + 2) => (show i = r + 2 by omega))
                refine li_goto 166 dX6_evaluate_127 (by decide) ?_
                refine li_pick [0, 1, 2, 3] [(3, .int x14), (2, .int x3), (1, .int x4), (0, .ref (Z.2.2 r))] rfl ?_
                exact J166 x4 M46 hf
            · refine li_aload_n 3 dX6_evaluate_85 rfl ?_
              refine li_getr (k := 1) (N := 4) (T := TX6) (C0 := RX6) dX6_evaluate_86 (snR0 hr) (shR0 hr) rfl rfl (lkR2 hr) (by decide) li_in6 w_316 ?_
              refine li_iload_n 2 dX6_evaluate_89 rfl ?_
              obtain ⟨x48, ex48⟩ : ∃ y : Int32, y = x4 + 1 := ⟨_, rfl⟩
              refine li_iinc 2 [(1, .int x48), (3, .int x14), (2, .int x3), (0, .ref (Z.2.2 r))] x48 dX6_evaluate_90 rfl (by rw [ex48]; rfl) (by decide) rfl ?_
              refine li_iload_n 1 dX6_evaluate_93 rfl ?_
              refine li_callN (n := 3) (As := [.ref (Z.2.2 (r + 2)), .int x4, .int x14]) dX6_evaluate_94 (k_X11_put (d - 1) (by omega) (snR2 hr) (shR2 hr) (by decide) x4 x14 M15) (by omega) (Nat.le_of_ble_eq_true rfl) nw_9 w_522 w_101 w_523 (by decide +kernel) rfl rfl (Nat.le_of_ble_eq_true rfl) (fun r M50 h51 => ?_)
              obtain ⟨rfl, h51⟩ := h51
              have hf := li_fr_trans hf h51 (fun i (h : i = r + 2) => (show i = r + 2 by omega))
              refine li_goto 166 dX6_evaluate_97 (by decide) ?_
              refine li_pick [1, 2, 0, 3] [(3, .int x14), (2, .int x3), (1, .int x48), (0, .ref (Z.2.2 r))] rfl ?_
              exact J166 x48 M50 hf
          · refine li_aload_n 3 dX6_evaluate_55 rfl ?_
            refine li_getr (k := 1) (N := 4) (T := TX6) (C0 := RX6) dX6_evaluate_56 (snR0 hr) (shR0 hr) rfl rfl (lkR2 hr) (by decide) li_in6 w_316 ?_
            refine li_iload_n 2 dX6_evaluate_59 rfl ?_
            obtain ⟨x52, ex52⟩ : ∃ y : Int32, y = x4 + 1 := ⟨_, rfl⟩
            refine li_iinc 2 [(1, .int x52), (3, .int x14), (2, .int x3), (0, .ref (Z.2.2 r))] x52 dX6_evaluate_60 rfl (by rw [ex52]; rfl) (by decide) rfl ?_
            refine li_aload_n 3 dX6_evaluate_63 rfl ?_
            refine li_getr (k := 2) (N := 4) (T := TX6) (C0 := RX6) dX6_evaluate_64 (snR0 hr) (shR0 hr) rfl rfl (lkR3 hr) (by decide) li_in6 w_317 ?_
            refine li_iload_n 1 dX6_evaluate_67 rfl ?_
            refine li_sipush 1000 dX6_evaluate_68 (by decide) ?_
            refine li_isub dX6_evaluate_71 ?_
            refine li_top (fun x53 ex53 => ?_)
            refine li_callN (n := 2) (As := [.ref (Z.2.2 (r + 3)), .int x53]) dX6_evaluate_72 (k_X11_at (d - 1) (by omega) (snR3 hr) (shR3 hr) (by decide) x53 M15) (by omega) (Nat.le_of_ble_eq_true rfl) nw_18 w_569 w_101 w_570 (by decide +kernel) rfl rfl (Nat.le_of_ble_eq_true rfl) (fun r M55 h56 => ?_)
            obtain ⟨⟨x54, rfl⟩, h56⟩ := h56
            have hf := li_fr_trans hf h56 (fun i h => False.elim h)
            refine li_callN (n := 3) (As := [.ref (Z.2.2 (r + 2)), .int x4, .int x54]) dX6_evaluate_75 (k_X11_put (d - 1) (by omega) (snR2 hr) (shR2 hr) (by decide) x4 x54 M55) (by omega) (Nat.le_of_ble_eq_true rfl) nw_9 w_522 w_101 w_523 (by decide +kernel) rfl rfl (Nat.le_of_ble_eq_true rfl) (fun r M58 h59 => ?_)
            obtain ⟨rfl, h59⟩ := h59
            have hf := li_fr_trans hf h59 (fun i (h : i = r + 2) => (show i = r + 2 by omega))
            refine li_goto 166 dX6_evaluate_78 (by decide) ?_
            refine li_pick [1, 2, 0, 3] [(3, .int x14), (2, .int x3), (1, .int x52), (0, .ref (Z.2.2 r))] rfl ?_
            exact J166 x52 M58 hf
    exact L31 _ 0 0 M0 (Nat.lt_succ_self _) hf
  · refine li_aload_n 0 dX6_evaluate_7 rfl ?_
    refine li_getr (k := 2) (N := 4) (T := TX6) (C0 := RX6) dX6_evaluate_8 (snR0 hr) (shR0 hr) rfl rfl (lkR3 hr) (by decide) li_in6 w_317 ?_
    refine li_iconst 0 dX6_evaluate_11 (by decide) ?_
    refine li_callN (n := 2) (As := [.ref (Z.2.2 (r + 3)), .int 0]) dX6_evaluate_12 (k_X11_at (d - 1) (by omega) (snR3 hr) (shR3 hr) (by decide) 0 M0) (by omega) (Nat.le_of_ble_eq_true rfl) nw_18 w_569 w_101 w_570 (by decide +kernel) rfl rfl (Nat.le_of_ble_eq_true rfl) (fun r M61 h62 => ?_)
    obtain ⟨⟨x60, rfl⟩, h62⟩ := h62
    have hf := li_fr_trans hf h62 (fun i h => False.elim h)
    refine li_aload_n 0 dX6_evaluate_15 rfl ?_
    refine li_getr (k := 2) (N := 4) (T := TX6) (C0 := RX6) dX6_evaluate_16 (snR0 hr) (shR0 hr) rfl rfl (lkR3 hr) (by decide) li_in6 w_317 ?_
    refine li_iconst 1 dX6_evaluate_19 (by decide) ?_
    refine li_callN (n := 2) (As := [.ref (Z.2.2 (r + 3)), .int 1]) dX6_evaluate_20 (k_X11_at (d - 1) (by omega) (snR3 hr) (shR3 hr) (by decide) 1 M61) (by omega) (Nat.le_of_ble_eq_true rfl) nw_18 w_569 w_101 w_570 (by decide +kernel) rfl rfl (Nat.le_of_ble_eq_true rfl) (fun r M64 h65 => ?_)
    obtain ⟨⟨x63, rfl⟩, h65⟩ := h65
    have hf := li_fr_trans hf h65 (fun i h => False.elim h)
    refine li_callS (n := 2) (As := [.int x60, .int x63]) dX6_evaluate_23 (k_X6_usual (d - 1) (by omega) x60 x63 M64) (by omega) (Nat.le_of_ble_eq_true rfl) w_832 w_833 w_107 w_834 (by decide +kernel) rfl rfl (Nat.le_of_ble_eq_true rfl) (fun r M67 h68 => ?_)
    obtain ⟨⟨x66, rfl⟩, h68⟩ := h68
    have hf := li_fr_trans hf h68 (fun i h => False.elim h)
    exact li_iret dX6_evaluate_26 rfl rfl ⟨⟨_, rfl⟩, hf⟩
