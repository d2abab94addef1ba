theorem w_118 : (Jvm.Cond.initialized "java/lang/System") ∈ li_ws := li_mem 118 (by decide +kernel) (by decide +kernel)
theorem w_752 : (Jvm.Cond.static ({ cls := "java/lang/System", name := "arraycopy", desc := "(Ljava/lang/Object;ILjava/lang/Object;II)V" } : Jvm.MethodName)) ∈ li_ws := li_mem 752 (by decide +kernel) (by decide +kernel)
theorem w_753 : (Jvm.Cond.native ({ cls := "java/lang/System", name := "arraycopy", desc := "(Ljava/lang/Object;ILjava/lang/Object;II)V" } : Jvm.MethodName)) ∈ li_ws := li_mem 753 (by decide +kernel) (by decide +kernel)
theorem w_851 : (Jvm.Cond.methodLink "ClockForTalk$Ledger" (47 : Nat) ({ cls := "java/lang/System", name := "arraycopy", desc := "(Ljava/lang/Object;ILjava/lang/Object;II)V" } : Jvm.MethodName)) ∈ li_ws := li_mem 851 (by decide +kernel) (by decide +kernel)
theorem dX4_copyFrom_0 : decode cX4_copyFrom 0 = .ok (.aload_n 1, 1) := by decide +kernel
theorem dX4_copyFrom_1 : decode cX4_copyFrom 1 = .ok (.ifnonnull 4, 3) := by decide +kernel
theorem dX4_copyFrom_5 : decode cX4_copyFrom 5 = .ok (.aload_n 0, 1) := by decide +kernel
theorem dX4_copyFrom_6 : decode cX4_copyFrom 6 = .ok (.aload_n 1, 1) := by decide +kernel
theorem dX4_copyFrom_7 : decode cX4_copyFrom 7 = .ok (.getfield 34, 3) := by decide +kernel
theorem dX4_copyFrom_10 : decode cX4_copyFrom 10 = .ok (.putfield 34, 3) := by decide +kernel
theorem dX4_copyFrom_13 : decode cX4_copyFrom 13 = .ok (.aload_n 0, 1) := by decide +kernel
theorem dX4_copyFrom_14 : decode cX4_copyFrom 14 = .ok (.aload_n 1, 1) := by decide +kernel
theorem dX4_copyFrom_15 : decode cX4_copyFrom 15 = .ok (.getfield 38, 3) := by decide +kernel
theorem dX4_copyFrom_18 : decode cX4_copyFrom 18 = .ok (.putfield 38, 3) := by decide +kernel
theorem dX4_copyFrom_21 : decode cX4_copyFrom 21 = .ok (.aload_n 0, 1) := by decide +kernel
theorem dX4_copyFrom_22 : decode cX4_copyFrom 22 = .ok (.aload_n 1, 1) := by decide +kernel
theorem dX4_copyFrom_23 : decode cX4_copyFrom 23 = .ok (.getfield 41, 3) := by decide +kernel
theorem dX4_copyFrom_26 : decode cX4_copyFrom 26 = .ok (.putfield 41, 3) := by decide +kernel
theorem dX4_copyFrom_29 : decode cX4_copyFrom 29 = .ok (.aload_n 0, 1) := by decide +kernel
theorem dX4_copyFrom_30 : decode cX4_copyFrom 30 = .ok (.aload_n 1, 1) := by decide +kernel
theorem dX4_copyFrom_31 : decode cX4_copyFrom 31 = .ok (.getfield 44, 3) := by decide +kernel
theorem dX4_copyFrom_34 : decode cX4_copyFrom 34 = .ok (.putfield 44, 3) := by decide +kernel
theorem dX4_copyFrom_37 : decode cX4_copyFrom 37 = .ok (.aload_n 1, 1) := by decide +kernel
theorem dX4_copyFrom_38 : decode cX4_copyFrom 38 = .ok (.getfield 9, 3) := by decide +kernel
theorem dX4_copyFrom_41 : decode cX4_copyFrom 41 = .ok (.iconst 0, 1) := by decide +kernel
theorem dX4_copyFrom_42 : decode cX4_copyFrom 42 = .ok (.aload_n 0, 1) := by decide +kernel
theorem dX4_copyFrom_43 : decode cX4_copyFrom 43 = .ok (.getfield 9, 3) := by decide +kernel
theorem dX4_copyFrom_46 : decode cX4_copyFrom 46 = .ok (.iconst 0, 1) := by decide +kernel
theorem dX4_copyFrom_47 : decode cX4_copyFrom 47 = .ok (.bipush 6, 2) := by decide +kernel
theorem dX4_copyFrom_49 : decode cX4_copyFrom 49 = .ok (.invokestatic 47, 3) := by decide +kernel
theorem dX4_copyFrom_52 : decode cX4_copyFrom 52 = .ok (.aload_n 1, 1) := by decide +kernel
theorem dX4_copyFrom_53 : decode cX4_copyFrom 53 = .ok (.getfield 15, 3) := by decide +kernel
theorem dX4_copyFrom_56 : decode cX4_copyFrom 56 = .ok (.iconst 0, 1) := by decide +kernel
theorem dX4_copyFrom_57 : decode cX4_copyFrom 57 = .ok (.aload_n 0, 1) := by decide +kernel
theorem dX4_copyFrom_58 : decode cX4_copyFrom 58 = .ok (.getfield 15, 3) := by decide +kernel
theorem dX4_copyFrom_61 : decode cX4_copyFrom 61 = .ok (.iconst 0, 1) := by decide +kernel
theorem dX4_copyFrom_62 : decode cX4_copyFrom 62 = .ok (.bipush 6, 2) := by decide +kernel
theorem dX4_copyFrom_64 : decode cX4_copyFrom 64 = .ok (.invokestatic 47, 3) := by decide +kernel
theorem dX4_copyFrom_67 : decode cX4_copyFrom 67 = .ok (.aload_n 1, 1) := by decide +kernel
theorem dX4_copyFrom_68 : decode cX4_copyFrom 68 = .ok (.getfield 18, 3) := by decide +kernel
theorem dX4_copyFrom_71 : decode cX4_copyFrom 71 = .ok (.iconst 0, 1) := by decide +kernel
theorem dX4_copyFrom_72 : decode cX4_copyFrom 72 = .ok (.aload_n 0, 1) := by decide +kernel
theorem dX4_copyFrom_73 : decode cX4_copyFrom 73 = .ok (.getfield 18, 3) := by decide +kernel
theorem dX4_copyFrom_76 : decode cX4_copyFrom 76 = .ok (.iconst 0, 1) := by decide +kernel
theorem dX4_copyFrom_77 : decode cX4_copyFrom 77 = .ok (.bipush 6, 2) := by decide +kernel
theorem dX4_copyFrom_79 : decode cX4_copyFrom 79 = .ok (.invokestatic 47, 3) := by decide +kernel
theorem dX4_copyFrom_82 : decode cX4_copyFrom 82 = .ok (.aload_n 1, 1) := by decide +kernel
theorem dX4_copyFrom_83 : decode cX4_copyFrom 83 = .ok (.getfield 22, 3) := by decide +kernel
theorem dX4_copyFrom_86 : decode cX4_copyFrom 86 = .ok (.iconst 0, 1) := by decide +kernel
theorem dX4_copyFrom_87 : decode cX4_copyFrom 87 = .ok (.aload_n 0, 1) := by decide +kernel
theorem dX4_copyFrom_88 : decode cX4_copyFrom 88 = .ok (.getfield 22, 3) := by decide +kernel
theorem dX4_copyFrom_91 : decode cX4_copyFrom 91 = .ok (.iconst 0, 1) := by decide +kernel
theorem dX4_copyFrom_92 : decode cX4_copyFrom 92 = .ok (.bipush 6, 2) := by decide +kernel
theorem dX4_copyFrom_94 : decode cX4_copyFrom 94 = .ok (.invokestatic 47, 3) := by decide +kernel
theorem dX4_copyFrom_97 : decode cX4_copyFrom 97 = .ok (.aload_n 1, 1) := by decide +kernel
theorem dX4_copyFrom_98 : decode cX4_copyFrom 98 = .ok (.getfield 25, 3) := by decide +kernel
theorem dX4_copyFrom_101 : decode cX4_copyFrom 101 = .ok (.iconst 0, 1) := by decide +kernel
theorem dX4_copyFrom_102 : decode cX4_copyFrom 102 = .ok (.aload_n 0, 1) := by decide +kernel
theorem dX4_copyFrom_103 : decode cX4_copyFrom 103 = .ok (.getfield 25, 3) := by decide +kernel
theorem dX4_copyFrom_106 : decode cX4_copyFrom 106 = .ok (.iconst 0, 1) := by decide +kernel
theorem dX4_copyFrom_107 : decode cX4_copyFrom 107 = .ok (.bipush 6, 2) := by decide +kernel
theorem dX4_copyFrom_109 : decode cX4_copyFrom 109 = .ok (.invokestatic 47, 3) := by decide +kernel
theorem dX4_copyFrom_112 : decode cX4_copyFrom 112 = .ok (.aload_n 1, 1) := by decide +kernel
theorem dX4_copyFrom_113 : decode cX4_copyFrom 113 = .ok (.getfield 28, 3) := by decide +kernel
theorem dX4_copyFrom_116 : decode cX4_copyFrom 116 = .ok (.iconst 0, 1) := by decide +kernel
theorem dX4_copyFrom_117 : decode cX4_copyFrom 117 = .ok (.aload_n 0, 1) := by decide +kernel
theorem dX4_copyFrom_118 : decode cX4_copyFrom 118 = .ok (.getfield 28, 3) := by decide +kernel
theorem dX4_copyFrom_121 : decode cX4_copyFrom 121 = .ok (.iconst 0, 1) := by decide +kernel
theorem dX4_copyFrom_122 : decode cX4_copyFrom 122 = .ok (.bipush 6, 2) := by decide +kernel
theorem dX4_copyFrom_124 : decode cX4_copyFrom 124 = .ok (.invokestatic 47, 3) := by decide +kernel
theorem dX4_copyFrom_127 : decode cX4_copyFrom 127 = .ok (.aload_n 1, 1) := by decide +kernel
theorem dX4_copyFrom_128 : decode cX4_copyFrom 128 = .ok (.getfield 31, 3) := by decide +kernel
theorem dX4_copyFrom_131 : decode cX4_copyFrom 131 = .ok (.iconst 0, 1) := by decide +kernel
theorem dX4_copyFrom_132 : decode cX4_copyFrom 132 = .ok (.aload_n 0, 1) := by decide +kernel
theorem dX4_copyFrom_133 : decode cX4_copyFrom 133 = .ok (.getfield 31, 3) := by decide +kernel
theorem dX4_copyFrom_136 : decode cX4_copyFrom 136 = .ok (.iconst 0, 1) := by decide +kernel
theorem dX4_copyFrom_137 : decode cX4_copyFrom 137 = .ok (.bipush 6, 2) := by decide +kernel
theorem dX4_copyFrom_139 : decode cX4_copyFrom 139 = .ok (.invokestatic 47, 3) := by decide +kernel
theorem dX4_copyFrom_142 : decode cX4_copyFrom 142 = .ok (.return_, 1) := by decide +kernel
abbrev YX4_copyFrom : li_Y := (yX4_copyFrom, cX4_copyFrom, 2, none)
set_option maxRecDepth 100000 in
set_option maxHeartbeats 4000000 in
theorem k_X4_copyFrom {l : Launch} {Z : li_Z} (d : Nat) (hd : 1 ≤ d) {b : Nat} (hb : li_lg b) {o : Nat} (ho : li_lg o) (M0 : li_M) : li_Met l Z YX4_copyFrom d [.ref (Z.2.2 b), .ref (Z.2.2 o)] M0 (li_SV (fun i => i = b ∨ i = b + 1 ∨ i = b + 2 ∨ i = b + 3 ∨ i = b + 4 ∨ i = b + 5 ∨ i = b + 6 ∨ i = b + 7) M0) := by
  refine li_enter (by decide +kernel) (Nat.le_of_ble_eq_true rfl) ?_
  show li_T l Z YX4_copyFrom d 0 [(0, .ref (Z.2.2 b)), (1, .ref (Z.2.2 o))] [] M0 _
  have hf : li_fr (fun i => i = b ∨ i = b + 1 ∨ i = b + 2 ∨ i = b + 3 ∨ i = b + 4 ∨ i = b + 5 ∨ i = b + 6 ∨ i = b + 7) M0 M0 := li_fr_refl
  refine li_aload_n 1 dX4_copyFrom_0 rfl ?_
  refine li_ifnonnull 5 dX4_copyFrom_1 (by decide) ?_
  refine li_aload_n 0 dX4_copyFrom_5 rfl ?_
  refine li_aload_n 1 dX4_copyFrom_6 rfl ?_
  refine li_geti (k := 0) (N := 11) (T := TX4) (C0 := RX4) dX4_copyFrom_7 (snL0 ho) (shL0 ho) rfl rfl (by decide) li_in4 w_229 ?_
  refine li_top (fun x1 ex1 => ?_)
  refine li_puti (k := 0) (N := 11) (T := TX4) (C0 := RX4) dX4_copyFrom_10 (snL0 hb) (shL0 hb) rfl rfl (by decide) li_in4 tyX4_ok nmX4 rfl rfl rfl rfl w_229 ?_
  refine li_nm (fun M2 eM2 => ?_)
  have hf := li_fr_ui hf (show b = b ∨ b = b + 1 ∨ b = b + 2 ∨ b = b + 3 ∨ b = b + 4 ∨ b = b + 5 ∨ b = b + 6 ∨ b = b + 7 by omega) eM2
  refine li_aload_n 0 dX4_copyFrom_13 rfl ?_
  refine li_aload_n 1 dX4_copyFrom_14 rfl ?_
  refine li_geti (k := 1) (N := 11) (T := TX4) (C0 := RX4) dX4_copyFrom_15 (snL0 ho) (shL0 ho) rfl rfl (by decide) li_in4 w_232 ?_
  refine li_top (fun x3 ex3 => ?_)
  refine li_puti (k := 1) (N := 11) (T := TX4) (C0 := RX4) dX4_copyFrom_18 (snL0 hb) (shL0 hb) rfl rfl (by decide) li_in4 tyX4_ok nmX4 rfl rfl rfl rfl w_232 ?_
  refine li_nm (fun M4 eM4 => ?_)
  have hf := li_fr_ui hf (show b = b ∨ b = b + 1 ∨ b = b + 2 ∨ b = b + 3 ∨ b = b + 4 ∨ b = b + 5 ∨ b = b + 6 ∨ b = b + 7 by omega) eM4
  refine li_aload_n 0 dX4_copyFrom_21 rfl ?_
  refine li_aload_n 1 dX4_copyFrom_22 rfl ?_
  refine li_geti (k := 2) (N := 11) (T := TX4) (C0 := RX4) dX4_copyFrom_23 (snL0 ho) (shL0 ho) rfl rfl (by decide) li_in4 w_235 ?_
  refine li_top (fun x5 ex5 => ?_)
  refine li_puti (k := 2) (N := 11) (T := TX4) (C0 := RX4) dX4_copyFrom_26 (snL0 hb) (shL0 hb) rfl rfl (by decide) li_in4 tyX4_ok nmX4 rfl rfl rfl rfl w_235 ?_
  refine li_nm (fun M6 eM6 => ?_)
  have hf := li_fr_ui hf (show b = b ∨ b = b + 1 ∨ b = b + 2 ∨ b = b + 3 ∨ b = b + 4 ∨ b = b + 5 ∨ b = b + 6 ∨ b = b + 7 by omega) eM6
  refine li_aload_n 0 dX4_copyFrom_29 rfl ?_
  refine li_aload_n 1 dX4_copyFrom_30 rfl ?_
  refine li_geti (k := 3) (N := 11) (T := TX4) (C0 := RX4) dX4_copyFrom_31 (snL0 ho) (shL0 ho) rfl rfl (by decide) li_in4 w_237 ?_
  refine li_top (fun x7 ex7 => ?_)
  refine li_puti (k := 3) (N := 11) (T := TX4) (C0 := RX4) dX4_copyFrom_34 (snL0 hb) (shL0 hb) rfl rfl (by decide) li_in4 tyX4_ok nmX4 rfl rfl rfl rfl w_237 ?_
  refine li_nm (fun M8 eM8 => ?_)
  have hf := li_fr_ui hf (show b = b ∨ b = b + 1 ∨ b = b + 2 ∨ b = b + 3 ∨ b = b + 4 ∨ b = b + 5 ∨ b = b + 6 ∨ b = b + 7 by omega) eM8
  refine li_aload_n 1 dX4_copyFrom_37 rfl ?_
  refine li_getr (k := 4) (N := 11) (T := TX4) (C0 := RX4) dX4_copyFrom_38 (snL0 ho) (shL0 ho) rfl rfl (lkL1 ho) (by decide) li_in4 w_239 ?_
  refine li_iconst 0 dX4_copyFrom_41 (by decide) ?_
  refine li_aload_n 0 dX4_copyFrom_42 rfl ?_
  refine li_getr (k := 4) (N := 11) (T := TX4) (C0 := RX4) dX4_copyFrom_43 (snL0 hb) (shL0 hb) rfl rfl (lkL1 hb) (by decide) li_in4 w_239 ?_
  refine li_iconst 0 dX4_copyFrom_46 (by decide) ?_
  refine li_bipush 6 dX4_copyFrom_47 (by decide) ?_
  refine li_copyI dX4_copyFrom_49 (by omega) w_851 w_753 w_752 w_118 (snL1 ho) (shL1 ho) (snL1 hb) (shL1 hb) (by decide) (by decide) (by decide) (Nat.le_of_ble_eq_true rfl) ?_
  refine li_nm (fun M9 eM9 => ?_)
  have hf := li_fr_uc hf (show b + 1 = b ∨ b + 1 = b + 1 ∨ b + 1 = b + 2 ∨ b + 1 = b + 3 ∨ b + 1 = b + 4 ∨ b + 1 = b + 5 ∨ b + 1 = b + 6 ∨ b + 1 = b + 7 by omega) eM9
  refine li_aload_n 1 dX4_copyFrom_52 rfl ?_
  refine li_getr (k := 5) (N := 11) (T := TX4) (C0 := RX4) dX4_copyFrom_53 (snL0 ho) (shL0 ho) rfl rfl (lkL2 ho) (by decide) li_in4 w_244 ?_
  refine li_iconst 0 dX4_copyFrom_56 (by decide) ?_
  refine li_aload_n 0 dX4_copyFrom_57 rfl ?_
  refine li_getr (k := 5) (N := 11) (T := TX4) (C0 := RX4) dX4_copyFrom_58 (snL0 hb) (shL0 hb) rfl rfl (lkL2 hb) (by decide) li_in4 w_244 ?_
  refine li_iconst 0 dX4_copyFrom_61 (by decide) ?_
  refine li_bipush 6 dX4_copyFrom_62 (by decide) ?_
  refine li_copyI dX4_copyFrom_64 (by omega) w_851 w_753 w_752 w_118 (snL2 ho) (shL2 ho) (snL2 hb) (shL2 hb) (by decide) (by decide) (by decide) (Nat.le_of_ble_eq_true rfl) ?_
  refine li_nm (fun M10 eM10 => ?_)
  have hf := li_fr_uc hf (show b + 2 = b ∨ b + 2 = b + 1 ∨ b + 2 = b + 2 ∨ b + 2 = b + 3 ∨ b + 2 = b + 4 ∨ b + 2 = b + 5 ∨ b + 2 = b + 6 ∨ b + 2 = b + 7 by omega) eM10
  refine li_aload_n 1 dX4_copyFrom_67 rfl ?_
  refine li_getr (k := 6) (N := 11) (T := TX4) (C0 := RX4) dX4_copyFrom_68 (snL0 ho) (shL0 ho) rfl rfl (lkL3 ho) (by decide) li_in4 w_246 ?_
  refine li_iconst 0 dX4_copyFrom_71 (by decide) ?_
  refine li_aload_n 0 dX4_copyFrom_72 rfl ?_
  refine li_getr (k := 6) (N := 11) (T := TX4) (C0 := RX4) dX4_copyFrom_73 (snL0 hb) (shL0 hb) rfl rfl (lkL3 hb) (by decide) li_in4 w_246 ?_
  refine li_iconst 0 dX4_copyFrom_76 (by decide) ?_
  refine li_bipush 6 dX4_copyFrom_77 (by decide) ?_
  refine li_copyL dX4_copyFrom_79 (by omega) w_851 w_753 w_752 w_118 (snL3 ho) (shL3 ho) (snL3 hb) (shL3 hb) (by decide) (by decide) (by decide) (Nat.le_of_ble_eq_true rfl) ?_
  refine li_nm (fun M11 eM11 => ?_)
  have hf := li_fr_ucL hf (show b + 3 = b ∨ b + 3 = b + 1 ∨ b + 3 = b + 2 ∨ b + 3 = b + 3 ∨ b + 3 = b + 4 ∨ b + 3 = b + 5 ∨ b + 3 = b + 6 ∨ b + 3 = b + 7 by omega) eM11
  refine li_aload_n 1 dX4_copyFrom_82 rfl ?_
  refine li_getr (k := 7) (N := 11) (T := TX4) (C0 := RX4) dX4_copyFrom_83 (snL0 ho) (shL0 ho) rfl rfl (lkL4 ho) (by decide) li_in4 w_248 ?_
  refine li_iconst 0 dX4_copyFrom_86 (by decide) ?_
  refine li_aload_n 0 dX4_copyFrom_87 rfl ?_
  refine li_getr (k := 7) (N := 11) (T := TX4) (C0 := RX4) dX4_copyFrom_88 (snL0 hb) (shL0 hb) rfl rfl (lkL4 hb) (by decide) li_in4 w_248 ?_
  refine li_iconst 0 dX4_copyFrom_91 (by decide) ?_
  refine li_bipush 6 dX4_copyFrom_92 (by decide) ?_
  refine li_copyI dX4_copyFrom_94 (by omega) w_851 w_753 w_752 w_118 (snL4 ho) (shL4 ho) (snL4 hb) (shL4 hb) (by decide) (by decide) (by decide) (Nat.le_of_ble_eq_true rfl) ?_
  refine li_nm (fun M12 eM12 => ?_)
  have hf := li_fr_uc hf (show b + 4 = b ∨ b + 4 = b + 1 ∨ b + 4 = b + 2 ∨ b + 4 = b + 3 ∨ b + 4 = b + 4 ∨ b + 4 = b + 5 ∨ b + 4 = b + 6 ∨ b + 4 = b + 7 by omega) eM12
  refine li_aload_n 1 dX4_copyFrom_97 rfl ?_
  refine li_getr (k := 8) (N := 11) (T := TX4) (C0 := RX4) dX4_copyFrom_98 (snL0 ho) (shL0 ho) rfl rfl (lkL5 ho) (by decide) li_in4 w_250 ?_
  refine li_iconst 0 dX4_copyFrom_101 (by decide) ?_
  refine li_aload_n 0 dX4_copyFrom_102 rfl ?_
  refine li_getr (k := 8) (N := 11) (T := TX4) (C0 := RX4) dX4_copyFrom_103 (snL0 hb) (shL0 hb) rfl rfl (lkL5 hb) (by decide) li_in4 w_250 ?_
  refine li_iconst 0 dX4_copyFrom_106 (by decide) ?_
  refine li_bipush 6 dX4_copyFrom_107 (by decide) ?_
  refine li_copyI dX4_copyFrom_109 (by omega) w_851 w_753 w_752 w_118 (snL5 ho) (shL5 ho) (snL5 hb) (shL5 hb) (by decide) (by decide) (by decide) (Nat.le_of_ble_eq_true rfl) ?_
  refine li_nm (fun M13 eM13 => ?_)
  have hf := li_fr_uc hf (show b + 5 = b ∨ b + 5 = b + 1 ∨ b + 5 = b + 2 ∨ b + 5 = b + 3 ∨ b + 5 = b + 4 ∨ b + 5 = b + 5 ∨ b + 5 = b + 6 ∨ b + 5 = b + 7 by omega) eM13
  refine li_aload_n 1 dX4_copyFrom_112 rfl ?_
  refine li_getr (k := 9) (N := 11) (T := TX4) (C0 := RX4) dX4_copyFrom_113 (snL0 ho) (shL0 ho) rfl rfl (lkL6 ho) (by decide) li_in4 w_252 ?_
  refine li_iconst 0 dX4_copyFrom_116 (by decide) ?_
  refine li_aload_n 0 dX4_copyFrom_117 rfl ?_
  refine li_getr (k := 9) (N := 11) (T := TX4) (C0 := RX4) dX4_copyFrom_118 (snL0 hb) (shL0 hb) rfl rfl (lkL6 hb) (by decide) li_in4 w_252 ?_
  refine li_iconst 0 dX4_copyFrom_121 (by decide) ?_
  refine li_bipush 6 dX4_copyFrom_122 (by decide) ?_
  refine li_copyI dX4_copyFrom_124 (by omega) w_851 w_753 w_752 w_118 (snL6 ho) (shL6 ho) (snL6 hb) (shL6 hb) (by decide) (by decide) (by decide) (Nat.le_of_ble_eq_true rfl) ?_
  refine li_nm (fun M14 eM14 => ?_)
  have hf := li_fr_uc hf (show b + 6 = b ∨ b + 6 = b + 1 ∨ b + 6 = b + 2 ∨ b + 6 = b + 3 ∨ b + 6 = b + 4 ∨ b + 6 = b + 5 ∨ b + 6 = b + 6 ∨ b + 6 = b + 7 by omega) eM14
  refine li_aload_n 1 dX4_copyFrom_127 rfl ?_
  refine li_getr (k := 10) (N := 11) (T := TX4) (C0 := RX4) dX4_copyFrom_128 (snL0 ho) (shL0 ho) rfl rfl (lkL7 ho) (by decide) li_in4 w_254 ?_
  refine li_iconst 0 dX4_copyFrom_131 (by decide) ?_
  refine li_aload_n 0 dX4_copyFrom_132 rfl ?_
  refine li_getr (k := 10) (N := 11) (T := TX4) (C0 := RX4) dX4_copyFrom_133 (snL0 hb) (shL0 hb) rfl rfl (lkL7 hb) (by decide) li_in4 w_254 ?_
  refine li_iconst 0 dX4_copyFrom_136 (by decide) ?_
  refine li_bipush 6 dX4_copyFrom_137 (by decide) ?_
  refine li_copyL dX4_copyFrom_139 (by omega) w_851 w_753 w_752 w_118 (snL7 ho) (shL7 ho) (snL7 hb) (shL7 hb) (by decide) (by decide) (by decide) (Nat.le_of_ble_eq_true rfl) ?_
  refine li_nm (fun M15 eM15 => ?_)
  have hf := li_fr_ucL hf (show b + 7 = b ∨ b + 7 = b + 1 ∨ b + 7 = b + 2 ∨ b + 7 = b + 3 ∨ b + 7 = b + 4 ∨ b + 7 = b + 5 ∨ b + 7 = b + 6 ∨ b + 7 = b + 7 by omega) eM15
  exact li_vret dX4_copyFrom_142 rfl ⟨rfl, hf⟩
