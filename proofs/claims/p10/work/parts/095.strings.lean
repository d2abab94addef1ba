theorem w_114 : (Jvm.Cond.initialized "java/lang/String") ∈ li_ws := li_mem 114 (by decide +kernel) (by decide +kernel)
theorem w_115 : (Jvm.Cond.initialized "java/lang/StringLatin1") ∈ li_ws := li_mem 115 (by decide +kernel) (by decide +kernel)
theorem w_116 : (Jvm.Cond.initialized "jdk/internal/util/Preconditions") ∈ li_ws := li_mem 116 (by decide +kernel) (by decide +kernel)
theorem w_584 : (Jvm.Cond.methodLink "java/lang/String" (335 : Nat) ({ cls := "java/lang/String", name := "coder", desc := "()B" } : Jvm.MethodName)) ∈ li_ws := li_mem 584 (by decide +kernel) (by decide +kernel)
theorem w_585 : (Jvm.Cond.instanceMethod ({ cls := "java/lang/String", name := "coder", desc := "()B" } : Jvm.MethodName)) ∈ li_ws := li_mem 585 (by decide +kernel) (by decide +kernel)
theorem w_586 : (Jvm.Cond.selects "java/lang/String" ({ cls := "java/lang/String", name := "coder", desc := "()B" } : Jvm.MethodName) ({ cls := "java/lang/String", name := "coder", desc := "()B" } : Jvm.MethodName)) ∈ li_ws := li_mem 586 (by decide +kernel) (by decide +kernel)
theorem w_587 : (Jvm.Cond.code ({ cls := "java/lang/String", name := "coder", desc := "()B" } : Jvm.MethodName) prog_21_method_152_code (1 : Nat) (Option.some Jvm.ClassFile.FieldType.byte)) ∈ li_ws := li_mem 587 (by decide +kernel) (by decide +kernel)
theorem w_588 : (Jvm.Cond.fieldLink "java/lang/String" (38 : Nat) "java/lang/String" "COMPACT_STRINGS" "Z") ∈ li_ws := li_mem 588 (by decide +kernel) (by decide +kernel)
theorem w_594 : (Jvm.Cond.methodLink "java/lang/String" (492 : Nat) ({ cls := "java/lang/String", name := "isLatin1", desc := "()Z" } : Jvm.MethodName)) ∈ li_ws := li_mem 594 (by decide +kernel) (by decide +kernel)
theorem w_595 : (Jvm.Cond.instanceMethod ({ cls := "java/lang/String", name := "isLatin1", desc := "()Z" } : Jvm.MethodName)) ∈ li_ws := li_mem 595 (by decide +kernel) (by decide +kernel)
theorem w_596 : (Jvm.Cond.selects "java/lang/String" ({ cls := "java/lang/String", name := "isLatin1", desc := "()Z" } : Jvm.MethodName) ({ cls := "java/lang/String", name := "isLatin1", desc := "()Z" } : Jvm.MethodName)) ∈ li_ws := li_mem 596 (by decide +kernel) (by decide +kernel)
theorem w_597 : (Jvm.Cond.code ({ cls := "java/lang/String", name := "isLatin1", desc := "()Z" } : Jvm.MethodName) prog_21_method_154_code (1 : Nat) (Option.some Jvm.ClassFile.FieldType.boolean)) ∈ li_ws := li_mem 597 (by decide +kernel) (by decide +kernel)
theorem w_598 : (Jvm.Cond.methodLink "java/lang/String" (495 : Nat) ({ cls := "java/lang/StringLatin1", name := "charAt", desc := "([BI)C" } : Jvm.MethodName)) ∈ li_ws := li_mem 598 (by decide +kernel) (by decide +kernel)
theorem w_599 : (Jvm.Cond.static ({ cls := "java/lang/StringLatin1", name := "charAt", desc := "([BI)C" } : Jvm.MethodName)) ∈ li_ws := li_mem 599 (by decide +kernel) (by decide +kernel)
theorem w_600 : (Jvm.Cond.code ({ cls := "java/lang/StringLatin1", name := "charAt", desc := "([BI)C" } : Jvm.MethodName) prog_22_method_2_code (2 : Nat) (Option.some Jvm.ClassFile.FieldType.char)) ∈ li_ws := li_mem 600 (by decide +kernel) (by decide +kernel)
theorem w_601 : (Jvm.Cond.methodLink "java/lang/StringLatin1" (9 : Nat) ({ cls := "java/lang/String", name := "checkIndex", desc := "(II)V" } : Jvm.MethodName)) ∈ li_ws := li_mem 601 (by decide +kernel) (by decide +kernel)
theorem w_602 : (Jvm.Cond.static ({ cls := "java/lang/String", name := "checkIndex", desc := "(II)V" } : Jvm.MethodName)) ∈ li_ws := li_mem 602 (by decide +kernel) (by decide +kernel)
theorem w_603 : (Jvm.Cond.code ({ cls := "java/lang/String", name := "checkIndex", desc := "(II)V" } : Jvm.MethodName) prog_21_method_155_code (2 : Nat) (Option.none : Option Jvm.ClassFile.FieldType)) ∈ li_ws := li_mem 603 (by decide +kernel) (by decide +kernel)
theorem w_604 : (Jvm.Cond.fieldLink "java/lang/String" (1053 : Nat) "jdk/internal/util/Preconditions" "SIOOBE_FORMATTER" "Ljava/util/function/BiFunction;") ∈ li_ws := li_mem 604 (by decide +kernel) (by decide +kernel)
theorem w_606 : (Jvm.Cond.methodLink "java/lang/String" (1059 : Nat) ({ cls := "jdk/internal/util/Preconditions", name := "checkIndex", desc := "(IILjava/util/function/BiFunction;)I" } : Jvm.MethodName)) ∈ li_ws := li_mem 606 (by decide +kernel) (by decide +kernel)
theorem w_607 : (Jvm.Cond.static ({ cls := "jdk/internal/util/Preconditions", name := "checkIndex", desc := "(IILjava/util/function/BiFunction;)I" } : Jvm.MethodName)) ∈ li_ws := li_mem 607 (by decide +kernel) (by decide +kernel)
theorem w_608 : (Jvm.Cond.code ({ cls := "jdk/internal/util/Preconditions", name := "checkIndex", desc := "(IILjava/util/function/BiFunction;)I" } : Jvm.MethodName) prog_29_method_11_code (3 : Nat) (Option.some Jvm.ClassFile.FieldType.int)) ∈ li_ws := li_mem 608 (by decide +kernel) (by decide +kernel)
theorem w_2000 : (Jvm.Cond.fieldLink "java/lang/String" (9 : Nat) "java/lang/String" "value" "[B") ∈ li_ws := li_mem 2000 (by decide +kernel) (by decide +kernel)
theorem w_2001 : (Jvm.Cond.fieldLink "java/lang/String" (15 : Nat) "java/lang/String" "coder" "B") ∈ li_ws := li_mem 2001 (by decide +kernel) (by decide +kernel)
abbrev YJ0_length_8abf5 : li_Y := (yJ0_length_8abf5, cJ0_length_8abf5, 1, (some .int))
theorem dJ0_length_8abf5_0 : decode cJ0_length_8abf5 0 = .ok (.aload_n 0, 1) := by decide +kernel
theorem dJ0_length_8abf5_1 : decode cJ0_length_8abf5 1 = .ok (.getfield 9, 3) := by decide +kernel
theorem dJ0_length_8abf5_4 : decode cJ0_length_8abf5 4 = .ok (.arraylength, 1) := by decide +kernel
theorem dJ0_length_8abf5_5 : decode cJ0_length_8abf5 5 = .ok (.aload_n 0, 1) := by decide +kernel
theorem dJ0_length_8abf5_6 : decode cJ0_length_8abf5 6 = .ok (.invokevirtual 335, 3) := by decide +kernel
theorem dJ0_length_8abf5_9 : decode cJ0_length_8abf5 9 = .ok (.ishr, 1) := by decide +kernel
theorem dJ0_length_8abf5_10 : decode cJ0_length_8abf5 10 = .ok (.ireturn, 1) := by decide +kernel
abbrev YJ0_coder_7d493 : li_Y := (yJ0_coder_7d493, cJ0_coder_7d493, 1, (some .byte))
theorem dJ0_coder_7d493_0 : decode cJ0_coder_7d493 0 = .ok (.getstatic 38, 3) := by decide +kernel
theorem dJ0_coder_7d493_3 : decode cJ0_coder_7d493 3 = .ok (.ifCond .eq 10, 3) := by decide +kernel
theorem dJ0_coder_7d493_6 : decode cJ0_coder_7d493 6 = .ok (.aload_n 0, 1) := by decide +kernel
theorem dJ0_coder_7d493_7 : decode cJ0_coder_7d493 7 = .ok (.getfield 15, 3) := by decide +kernel
theorem dJ0_coder_7d493_10 : decode cJ0_coder_7d493 10 = .ok (.goto 4, 3) := by decide +kernel
theorem dJ0_coder_7d493_14 : decode cJ0_coder_7d493 14 = .ok (.ireturn, 1) := by decide +kernel
abbrev YJ0_charAt_5068e : li_Y := (yJ0_charAt_5068e, cJ0_charAt_5068e, 2, (some .char))
theorem dJ0_charAt_5068e_0 : decode cJ0_charAt_5068e 0 = .ok (.aload_n 0, 1) := by decide +kernel
theorem dJ0_charAt_5068e_1 : decode cJ0_charAt_5068e 1 = .ok (.invokevirtual 492, 3) := by decide +kernel
theorem dJ0_charAt_5068e_4 : decode cJ0_charAt_5068e 4 = .ok (.ifCond .eq 12, 3) := by decide +kernel
theorem dJ0_charAt_5068e_7 : decode cJ0_charAt_5068e 7 = .ok (.aload_n 0, 1) := by decide +kernel
theorem dJ0_charAt_5068e_8 : decode cJ0_charAt_5068e 8 = .ok (.getfield 9, 3) := by decide +kernel
theorem dJ0_charAt_5068e_11 : decode cJ0_charAt_5068e 11 = .ok (.iload_n 1, 1) := by decide +kernel
theorem dJ0_charAt_5068e_12 : decode cJ0_charAt_5068e 12 = .ok (.invokestatic 495, 3) := by decide +kernel
theorem dJ0_charAt_5068e_15 : decode cJ0_charAt_5068e 15 = .ok (.ireturn, 1) := by decide +kernel
abbrev YJ0_isLatin1_aae02 : li_Y := (yJ0_isLatin1_aae02, cJ0_isLatin1_aae02, 1, (some .boolean))
theorem dJ0_isLatin1_aae02_0 : decode cJ0_isLatin1_aae02 0 = .ok (.getstatic 38, 3) := by decide +kernel
theorem dJ0_isLatin1_aae02_3 : decode cJ0_isLatin1_aae02 3 = .ok (.ifCond .eq 14, 3) := by decide +kernel
theorem dJ0_isLatin1_aae02_6 : decode cJ0_isLatin1_aae02 6 = .ok (.aload_n 0, 1) := by decide +kernel
theorem dJ0_isLatin1_aae02_7 : decode cJ0_isLatin1_aae02 7 = .ok (.getfield 15, 3) := by decide +kernel
theorem dJ0_isLatin1_aae02_10 : decode cJ0_isLatin1_aae02 10 = .ok (.ifCond .ne 7, 3) := by decide +kernel
theorem dJ0_isLatin1_aae02_13 : decode cJ0_isLatin1_aae02 13 = .ok (.iconst 1, 1) := by decide +kernel
theorem dJ0_isLatin1_aae02_14 : decode cJ0_isLatin1_aae02 14 = .ok (.goto 4, 3) := by decide +kernel
theorem dJ0_isLatin1_aae02_18 : decode cJ0_isLatin1_aae02 18 = .ok (.ireturn, 1) := by decide +kernel
abbrev YJ1_charAt_3b067 : li_Y := (yJ1_charAt_3b067, cJ1_charAt_3b067, 2, (some .char))
theorem dJ1_charAt_3b067_0 : decode cJ1_charAt_3b067 0 = .ok (.iload_n 1, 1) := by decide +kernel
theorem dJ1_charAt_3b067_1 : decode cJ1_charAt_3b067 1 = .ok (.aload_n 0, 1) := by decide +kernel
theorem dJ1_charAt_3b067_2 : decode cJ1_charAt_3b067 2 = .ok (.arraylength, 1) := by decide +kernel
theorem dJ1_charAt_3b067_3 : decode cJ1_charAt_3b067 3 = .ok (.invokestatic 9, 3) := by decide +kernel
theorem dJ1_charAt_3b067_6 : decode cJ1_charAt_3b067 6 = .ok (.aload_n 0, 1) := by decide +kernel
theorem dJ1_charAt_3b067_7 : decode cJ1_charAt_3b067 7 = .ok (.iload_n 1, 1) := by decide +kernel
theorem dJ1_charAt_3b067_8 : decode cJ1_charAt_3b067 8 = .ok (.baload, 1) := by decide +kernel
theorem dJ1_charAt_3b067_9 : decode cJ1_charAt_3b067 9 = .ok (.sipush 255, 3) := by decide +kernel
theorem dJ1_charAt_3b067_12 : decode cJ1_charAt_3b067 12 = .ok (.iand, 1) := by decide +kernel
theorem dJ1_charAt_3b067_13 : decode cJ1_charAt_3b067 13 = .ok (.i2c, 1) := by decide +kernel
theorem dJ1_charAt_3b067_14 : decode cJ1_charAt_3b067 14 = .ok (.ireturn, 1) := by decide +kernel
abbrev YJ0_checkIndex_df160 : li_Y := (yJ0_checkIndex_df160, cJ0_checkIndex_df160, 2, none)
theorem dJ0_checkIndex_df160_0 : decode cJ0_checkIndex_df160 0 = .ok (.iload_n 0, 1) := by decide +kernel
theorem dJ0_checkIndex_df160_1 : decode cJ0_checkIndex_df160 1 = .ok (.iload_n 1, 1) := by decide +kernel
theorem dJ0_checkIndex_df160_2 : decode cJ0_checkIndex_df160 2 = .ok (.getstatic 1053, 3) := by decide +kernel
theorem dJ0_checkIndex_df160_5 : decode cJ0_checkIndex_df160 5 = .ok (.invokestatic 1059, 3) := by decide +kernel
theorem dJ0_checkIndex_df160_8 : decode cJ0_checkIndex_df160 8 = .ok (.pop, 1) := by decide +kernel
theorem dJ0_checkIndex_df160_9 : decode cJ0_checkIndex_df160 9 = .ok (.return_, 1) := by decide +kernel
abbrev YJ3_checkIndex_8e157 : li_Y := (yJ3_checkIndex_8e157, cJ3_checkIndex_8e157, 3, (some .int))
theorem dJ3_checkIndex_8e157_0 : decode cJ3_checkIndex_8e157 0 = .ok (.iload_n 0, 1) := by decide +kernel
theorem dJ3_checkIndex_8e157_1 : decode cJ3_checkIndex_8e157 1 = .ok (.ifCond .lt 8, 3) := by decide +kernel
theorem dJ3_checkIndex_8e157_4 : decode cJ3_checkIndex_8e157 4 = .ok (.iload_n 0, 1) := by decide +kernel
theorem dJ3_checkIndex_8e157_5 : decode cJ3_checkIndex_8e157 5 = .ok (.iload_n 1, 1) := by decide +kernel
theorem dJ3_checkIndex_8e157_6 : decode cJ3_checkIndex_8e157 6 = .ok (.if_icmp .lt 10, 3) := by decide +kernel
theorem dJ3_checkIndex_8e157_16 : decode cJ3_checkIndex_8e157 16 = .ok (.iload_n 0, 1) := by decide +kernel
theorem dJ3_checkIndex_8e157_17 : decode cJ3_checkIndex_8e157 17 = .ok (.ireturn, 1) := by decide +kernel
section LIST
variable {l : Launch} {Z : li_Z} {Y Y' : li_Y} {d d' pc ix : Nat} {lo : List (Nat × Value)} {st rest : List Value} {M : li_M} {Q Q' : Option Value → li_M → Prop}
theorem li_compact (hd : decode Y.2.1 pc = .ok (.getstatic ix, 3)) (hw : Cond.fieldLink Y.1.cls ix "java/lang/String" "COMPACT_STRINGS" "Z" ∈ li_ws) (kk : li_T l Z Y d (pc + 3) lo (.int 1 :: st) M Q) : li_T l Z Y d pc lo st M Q :=
  fun p e s m args below meth c C K H locs ls hH hS hl => va_gets C.1 C.2.1 (C := "java/lang/String") (n := "COMPACT_STRINGS") (d := "Z") (ref := "java/lang/String") K.2.2.2.1.2.2.2.1 hS C.2.2.2.1 (C.2.2.2.2.1 _ hw) (fun _ h => h) hd (kk p e s m args below meth c C K H locs ls hH hS hl)
theorem li_sioobe (hd : decode Y.2.1 pc = .ok (.getstatic ix, 3)) (hw : Cond.fieldLink Y.1.cls ix "jdk/internal/util/Preconditions" "SIOOBE_FORMATTER" "Ljava/util/function/BiFunction;" ∈ li_ws) (kk : ∀ v : Value, (v = .null ∨ ∃ t : Nat, v = .ref t) → li_T l Z Y d (pc + 3) lo (v :: st) M Q) : li_T l Z Y d pc lo st M Q := by
  intro p e s m args below meth c C K H locs ls hH hS hl
  rcases K.2.2.2.1.2.2.2.2 with h | ⟨t, h⟩
  · exact va_gets C.1 C.2.1 (ref := "jdk/internal/util/Preconditions") h hS C.2.2.2.1 (C.2.2.2.2.1 _ hw) (fun _ h => h) hd (kk .null (Or.inl rfl) p e s m args below meth c C K H locs ls hH hS hl)
  · exact va_gets C.1 C.2.1 (ref := "jdk/internal/util/Preconditions") h hS C.2.2.2.1 (C.2.2.2.2.1 _ hw) (fun _ h => h) hd (kk (.ref t) (Or.inr ⟨t, rfl⟩) p e s m args below meth c C K H locs ls hH hS hl)
theorem li_getV {i : Nat} (hi : i < 4) (hd : decode Y.2.1 pc = .ok (.getfield ix, 3)) (hw : Cond.fieldLink Y.1.cls ix "java/lang/String" "value" "[B" ∈ li_ws) (kk : li_T l Z Y d (pc + 3) lo (.ref (Z.2.2 (2200 + i)) :: st) M Q) : li_T l Z Y d pc lo (.ref (Z.2.2 (2100 + i)) :: st) M Q :=
  fun p e s m args below meth c C K H locs ls hH hS hl => vk_getf C.1 C.2.1 (ref := "java/lang/String") (K.2.2.2.1.2.2.1.1 i hi).2.2.1 hS C.2.2.2.1 (C.2.2.2.2.1 _ hw) (fun _ h => h) hd (kk p e s m args below meth c C K H locs ls hH hS hl)
theorem li_getC {i : Nat} (hi : i < 4) (hd : decode Y.2.1 pc = .ok (.getfield ix, 3)) (hw : Cond.fieldLink Y.1.cls ix "java/lang/String" "coder" "B" ∈ li_ws) (kk : li_T l Z Y d (pc + 3) lo (.int 0 :: st) M Q) : li_T l Z Y d pc lo (.ref (Z.2.2 (2100 + i)) :: st) M Q :=
  fun p e s m args below meth c C K H locs ls hH hS hl => vk_getf C.1 C.2.1 (ref := "java/lang/String") (K.2.2.2.1.2.2.1.1 i hi).2.1 hS C.2.2.2.1 (C.2.2.2.2.1 _ hw) (fun _ h => h) hd (kk p e s m args below meth c C K H locs ls hH hS hl)
theorem li_alenS {i : Nat} (hi : i < 4) (hd : decode Y.2.1 pc = .ok (.arraylength, 1)) (kk : li_T l Z Y d (pc + 1) lo (.int (nI (li_len.getD i 0)) :: st) M Q) : li_T l Z Y d pc lo (.ref (Z.2.2 (2200 + i)) :: st) M Q := by
  intro p e s m args below meth c C K H locs ls hH hS hl
  obtain ⟨cell, h1, h2, h3, h4, h5, h6, h7⟩ := va_T.kept (K.2.2.2.1.2.2.1.1 i hi).2.2.2 hS.2.1
  exact W.alen C.1 C.2.1 h1 h2 (n := nI (li_len.getD i 0)) h5 rfl rfl hd (kk p e s m args below meth c C K H locs ls hH hS hl)
theorem li_baldS {i : Nat} {k : Int32} (hi : i < 4) (hk : vp_in k (li_len.getD i 0)) (hd : decode Y.2.1 pc = .ok (.baload, 1)) (kk : li_T l Z Y d (pc + 1) lo (.int ((li_byt.getD i []).getD k.toNatClampNeg 0) :: st) M Q) : li_T l Z Y d pc lo (.int k :: .ref (Z.2.2 (2200 + i)) :: st) M Q := by
  intro p e s m args below meth c C K H locs ls hH hS hl
  obtain ⟨cell, h1, h2, h3, h4, h5, h6, h7⟩ := va_T.kept (K.2.2.2.1.2.2.1.1 i hi).2.2.2 hS.2.1
  have hlt : k.toNatClampNeg < li_len.getD i 0 := Nat.not_le.mp fun q => hk (Or.inr q)
  exact W.bald C.1 C.2.1 h1 h2 h3 (fun q => hk (q.elim Or.inl (fun q => Or.inr (by omega)))) (h6 _ hlt) rfl rfl hd (kk p e s m args below meth c C K H locs ls hH hS hl)
theorem li_callT {As : List Value} {i n : Nat} (hi : i < 4) (hd : decode Y.2.1 pc = .ok (.invokevirtual ix, 3)) (hM : li_Met l Z Y' d' (.ref (Z.2.2 (2100 + i)) :: As) M Q') (hdd : d' + 1 ≤ d) (hml : Y'.2.2.1 ≤ 41) (hcl : Y'.1.cls = "java/lang/String")
    (w1 : Cond.methodLink Y.1.cls ix Y'.1 ∈ li_ws) (w2 : Cond.instanceMethod Y'.1 ∈ li_ws) (w3 : Cond.selects Y'.1.cls Y'.1 Y'.1 ∈ li_ws) (w4 : Cond.initialized Y'.1.cls ∈ li_ws) (w5 : Cond.code Y'.1 Y'.2.1 Y'.2.2.1 Y'.2.2.2 ∈ li_ws)
    (hy : Y'.1.cls ≠ "java/lang/invoke/MethodHandle" ∧ Y'.1.cls ≠ "java/lang/invoke/VarHandle" ∧ (parseMethodDescriptor Y'.1.desc).map (fun d => d.parameters.length) = some n) (hn : As.length = n)
    (hst : st = As.reverse ++ .ref (Z.2.2 (2100 + i)) :: rest) (hcat : (rest.map fun v => v.category).sum ≤ 8)
    (kk : ∀ (r : Option Value) (M' : li_M), Q' r M' → li_T l Z Y d (pc + 3) lo (r.toList ++ rest) M' Q) : li_T l Z Y d pc lo st M Q := by
  intro p e s m args below meth c C K H locs ls hH hS hl
  have hrun := va_runV (R := li_rm d) (e := e) (below := below) (meth := meth) (locs := locs) (cells := 0) (slots := 0) (As := As) (rest := rest) (n := n) (g := F0 m pc ls st) (index := ix) (own := Y.1.cls) (C := Y'.1.cls) (b := Z.2.2 (2100 + i)) (H := H) (Ts := li_ws)
    ⟨C.1, C.2.1, C.2.2.1, C.2.2.2.1, C.2.2.2.2.1⟩ hM
    (cwV n C.2.2.2.2.1 (fun w hw => by
      rcases List.mem_append.mp (by unfold wsV at hw; exact hw) with h | h
      · have hm : w ∈ li_ws := by
          simp only [List.mem_cons, List.not_mem_nil, or_false] at h
          rcases h with rfl | rfl | rfl | rfl
          · exact w1
          · exact w2
          · exact w3
          · exact w4
        exact ⟨hm, good_of_word (List.mem_filter.mp hm).2⟩
      · exact li_good w5 w h) rfl rfl rfl ⟨rfl, hy⟩ ⟨hdd, by show 8 + (Y'.2.2.1 + 11) + 60 * d' ≤ 60 * d; omega⟩)
    ⟨li_blind, by rw [hcl]; exact vk_recv (i := i) K.2.2.2.1.2.2.1 hi hS, fun U hU hW => ⟨rfl, by rw [hU]; exact hH, li_K_warm hW hU hS K⟩⟩ rfl hn hl.1 hst (lv_room hcat) hd ⟨Nat.le_refl _, Nat.le_refl _⟩
  exact li_behind hrun hS (fun r M' H1 locs1 hq hH1 hS1 => kk r M' hq p e s m args below meth c C K H1 locs1 ls hH1 hS1 hl)
end LIST
theorem x_J3_checkIndex {l : Launch} {Z : li_Z} (d : Nat) (hd : 1 ≤ d) (i n : Int32) (v : Value) (hv : v = .null ∨ ∃ t : Nat, v = .ref t) (h1 : 0 ≤ i) (h2 : i < n) (M0 : li_M) : li_Met l Z YJ3_checkIndex_8e157 d [.int i, .int n, v] M0 (fun r M' => r = some (.int i) ∧ M' = M0) := by
  refine li_enter (by decide +kernel) (by rcases hv with rfl | ⟨t, rfl⟩ <;> exact Nat.le_of_ble_eq_true rfl) ?_
  have e : lv_args 0 [.int i, .int n, v] = [(0, .int i), (1, .int n), (2, v)] := by rcases hv with rfl | ⟨t, rfl⟩ <;> rfl
  rw [e]
  refine li_iload_n 0 dJ3_checkIndex_8e157_0 rfl ?_
  refine li_if_lt 9 dJ3_checkIndex_8e157_1 (by decide) (fun c => absurd h1 (Int32.not_le.mpr c)) (fun c => ?_)
  refine li_iload_n 0 dJ3_checkIndex_8e157_4 rfl ?_
  refine li_iload_n 1 dJ3_checkIndex_8e157_5 rfl ?_
  refine li_icmp_lt 16 dJ3_checkIndex_8e157_6 (by decide) (fun c => ?_) (fun c => absurd h2 c)
  refine li_iload_n 0 dJ3_checkIndex_8e157_16 rfl ?_
  exact li_iret dJ3_checkIndex_8e157_17 rfl rfl ⟨rfl, rfl⟩
theorem x_J0_checkIndex {l : Launch} {Z : li_Z} (d : Nat) (hd : 2 ≤ d) (i n : Int32) (h1 : 0 ≤ i) (h2 : i < n) (M0 : li_M) : li_Met l Z YJ0_checkIndex_df160 d [.int i, .int n] M0 (fun r M' => r = none ∧ M' = M0) := by
  refine li_enter (by decide +kernel) (Nat.le_of_ble_eq_true rfl) ?_
  show li_T l Z YJ0_checkIndex_df160 d 0 [(0, .int i), (1, .int n)] [] M0 _
  refine li_iload_n 0 dJ0_checkIndex_df160_0 rfl ?_
  refine li_iload_n 1 dJ0_checkIndex_df160_1 rfl ?_
  refine li_sioobe dJ0_checkIndex_df160_2 w_604 (fun v hv => ?_)
  refine li_callS (n := 3) (As := [.int i, .int n, v]) dJ0_checkIndex_df160_5 (x_J3_checkIndex (d - 1) (by omega) i n v hv h1 h2 M0) (by omega) (Nat.le_of_ble_eq_true rfl) w_606 w_607 w_116 w_608 (by decide +kernel) rfl rfl (Nat.le_of_ble_eq_true rfl) (fun r M1 hq => ?_)
  obtain ⟨rfl, rfl⟩ := hq
  refine li_pop dJ0_checkIndex_df160_8 rfl ?_
  exact li_vret dJ0_checkIndex_df160_9 rfl ⟨rfl, rfl⟩
theorem x_J0_coder {l : Launch} {Z : li_Z} (d : Nat) {i : Nat} (hi : i < 4) (M0 : li_M) : li_Met l Z YJ0_coder_7d493 d [.ref (Z.2.2 (2100 + i))] M0 (fun r M' => r = some (.int 0) ∧ M' = M0) := by
  refine li_enter (by decide +kernel) (Nat.le_of_ble_eq_true rfl) ?_
  show li_T l Z YJ0_coder_7d493 d 0 [(0, .ref (Z.2.2 (2100 + i)))] [] M0 _
  refine li_compact dJ0_coder_7d493_0 w_588 ?_
  refine li_if_eq 13 dJ0_coder_7d493_3 (by decide) (fun c => absurd c (by decide)) (fun c => ?_)
  refine li_aload_n 0 dJ0_coder_7d493_6 rfl ?_
  refine li_getC hi dJ0_coder_7d493_7 w_2001 ?_
  refine li_goto 14 dJ0_coder_7d493_10 (by decide) ?_
  exact li_iret dJ0_coder_7d493_14 rfl rfl ⟨rfl, rfl⟩
theorem x_J0_isLatin1 {l : Launch} {Z : li_Z} (d : Nat) {i : Nat} (hi : i < 4) (M0 : li_M) : li_Met l Z YJ0_isLatin1_aae02 d [.ref (Z.2.2 (2100 + i))] M0 (fun r M' => r = some (.int 1) ∧ M' = M0) := by
  refine li_enter (by decide +kernel) (Nat.le_of_ble_eq_true rfl) ?_
  show li_T l Z YJ0_isLatin1_aae02 d 0 [(0, .ref (Z.2.2 (2100 + i)))] [] M0 _
  refine li_compact dJ0_isLatin1_aae02_0 w_588 ?_
  refine li_if_eq 17 dJ0_isLatin1_aae02_3 (by decide) (fun c => absurd c (by decide)) (fun c => ?_)
  refine li_aload_n 0 dJ0_isLatin1_aae02_6 rfl ?_
  refine li_getC hi dJ0_isLatin1_aae02_7 w_2001 ?_
  refine li_if_ne 17 dJ0_isLatin1_aae02_10 (by decide) (fun c => absurd rfl c) (fun c => ?_)
  refine li_iconst 1 dJ0_isLatin1_aae02_13 (by decide) ?_
  refine li_goto 18 dJ0_isLatin1_aae02_14 (by decide) ?_
  exact li_iret dJ0_isLatin1_aae02_18 rfl rfl ⟨rfl, rfl⟩
theorem x_J0_length {l : Launch} {Z : li_Z} (d : Nat) (hd : 2 ≤ d) {i : Nat} (hi : i < 4) (M0 : li_M) : li_Met l Z YJ0_length_8abf5 d [.ref (Z.2.2 (2100 + i))] M0 (fun r M' => r = some (.int (nI (li_len.getD i 0))) ∧ M' = M0) := by
  refine li_enter (by decide +kernel) (Nat.le_of_ble_eq_true rfl) ?_
  show li_T l Z YJ0_length_8abf5 d 0 [(0, .ref (Z.2.2 (2100 + i)))] [] M0 _
  refine li_aload_n 0 dJ0_length_8abf5_0 rfl ?_
  refine li_getV hi dJ0_length_8abf5_1 w_2000 ?_
  refine li_alenS hi dJ0_length_8abf5_4 ?_
  refine li_aload_n 0 dJ0_length_8abf5_5 rfl ?_
  refine li_callT (n := 0) (As := []) hi dJ0_length_8abf5_6 (x_J0_coder (d - 1) hi M0) (by omega) (Nat.le_of_ble_eq_true rfl) rfl w_584 w_585 w_586 w_114 w_587 (by decide +kernel) rfl rfl (Nat.le_of_ble_eq_true rfl) (fun r M1 hq => ?_)
  obtain ⟨rfl, rfl⟩ := hq
  refine li_ishr dJ0_length_8abf5_9 ?_
  exact li_iret dJ0_length_8abf5_10 rfl rfl ⟨by rw [sb_shr0], rfl⟩
def li_ch (i : Nat) (k : Int32) : Int32 := (((li_byt.getD i []).getD k.toNatClampNeg 0 &&& 255).toUInt32 % 65536).toInt32
theorem x_J1_charAt {l : Launch} {Z : li_Z} (d : Nat) (hd : 3 ≤ d) {i : Nat} (hi : i < 4) (k : Int32) (h1 : 0 ≤ k.toInt) (h2 : k.toInt < (li_len.getD i 0 : Nat)) (M0 : li_M) : li_Met l Z YJ1_charAt_3b067 d [.ref (Z.2.2 (2200 + i)), .int k] M0 (fun r M' => r = some (.int (li_ch i k)) ∧ M' = M0) := by
  have hl4 : li_len.getD i 0 < 7 := by rcases (show i = 0 ∨ i = 1 ∨ i = 2 ∨ i = 3 by omega) with rfl | rfl | rfl | rfl <;> decide
  have g2 : k < nI (li_len.getD i 0) := Int32.lt_iff_toInt_lt.mpr (by rw [nI_toInt (by omega)]; exact h2)
  refine li_enter (by decide +kernel) (Nat.le_of_ble_eq_true rfl) ?_
  show li_T l Z YJ1_charAt_3b067 d 0 [(0, .ref (Z.2.2 (2200 + i))), (1, .int k)] [] M0 _
  refine li_iload_n 1 dJ1_charAt_3b067_0 rfl ?_
  refine li_aload_n 0 dJ1_charAt_3b067_1 rfl ?_
  refine li_alenS hi dJ1_charAt_3b067_2 ?_
  refine li_callS (n := 2) (As := [.int k, .int (nI (li_len.getD i 0))]) dJ1_charAt_3b067_3 (x_J0_checkIndex (d - 1) (by omega) k _ (Int32.le_iff_toInt_le.mpr h1) g2 M0) (by omega) (Nat.le_of_ble_eq_true rfl) w_601 w_602 w_114 w_603 (by decide +kernel) rfl rfl (Nat.le_of_ble_eq_true rfl) (fun r M1 hq => ?_)
  obtain ⟨rfl, rfl⟩ := hq
  refine li_aload_n 0 dJ1_charAt_3b067_6 rfl ?_
  refine li_iload_n 1 dJ1_charAt_3b067_7 rfl ?_
  refine li_baldS hi (tl_in ⟨h1, h2⟩) dJ1_charAt_3b067_8 ?_
  refine li_sipush 255 dJ1_charAt_3b067_9 (by decide) ?_
  refine li_iand dJ1_charAt_3b067_12 ?_
  refine li_i2c dJ1_charAt_3b067_13 ?_
  exact li_iret dJ1_charAt_3b067_14 rfl (pk_nc _) ⟨rfl, rfl⟩
theorem x_J0_charAt {l : Launch} {Z : li_Z} (d : Nat) (hd : 4 ≤ d) {i : Nat} (hi : i < 4) (k : Int32) (h1 : 0 ≤ k.toInt) (h2 : k.toInt < (li_len.getD i 0 : Nat)) (M0 : li_M) : li_Met l Z YJ0_charAt_5068e d [.ref (Z.2.2 (2100 + i)), .int k] M0 (fun r M' => r = some (.int (li_ch i k)) ∧ M' = M0) := by
  refine li_enter (by decide +kernel) (Nat.le_of_ble_eq_true rfl) ?_
  show li_T l Z YJ0_charAt_5068e d 0 [(0, .ref (Z.2.2 (2100 + i))), (1, .int k)] [] M0 _
  refine li_aload_n 0 dJ0_charAt_5068e_0 rfl ?_
  refine li_callT (n := 0) (As := []) hi dJ0_charAt_5068e_1 (x_J0_isLatin1 (d - 1) hi M0) (by omega) (Nat.le_of_ble_eq_true rfl) rfl w_594 w_595 w_596 w_114 w_597 (by decide +kernel) rfl rfl (Nat.le_of_ble_eq_true rfl) (fun r M1 hq => ?_)
  obtain ⟨rfl, rfl⟩ := hq
  refine li_if_eq 16 dJ0_charAt_5068e_4 (by decide) (fun c => absurd c (by decide)) (fun c => ?_)
  refine li_aload_n 0 dJ0_charAt_5068e_7 rfl ?_
  refine li_getV hi dJ0_charAt_5068e_8 w_2000 ?_
  refine li_iload_n 1 dJ0_charAt_5068e_11 rfl ?_
  refine li_callS (n := 2) (As := [.ref (Z.2.2 (2200 + i)), .int k]) dJ0_charAt_5068e_12 (x_J1_charAt (d - 1) (by omega) hi k h1 h2 M1) (by omega) (Nat.le_of_ble_eq_true rfl) w_598 w_599 w_115 w_600 (by decide +kernel) rfl rfl (Nat.le_of_ble_eq_true rfl) (fun r M1 hq => ?_)
  obtain ⟨rfl, rfl⟩ := hq
  exact li_iret dJ0_charAt_5068e_15 rfl (pk_nc _) ⟨rfl, rfl⟩
theorem tl_b {x : Int32} (h : x = 0 ∨ x = 1) : x.toInt = 0 ∨ x.toInt = 1 := by rcases h with rfl | rfl; exact Or.inl rfl; exact Or.inr rfl
theorem k_J0_length {l : Launch} {Z : li_Z} (d : Nat) (hd : 2 ≤ d) {i : Nat} (hi : i < 4) (M0 : li_M) : li_Met l Z YJ0_length_8abf5 d [.ref (Z.2.2 (2100 + i))] M0 (fun r M' => (∃ x : Int32, r = some (.int x) ∧ x.toInt = (li_len.getD i 0 : Nat)) ∧ li_fr (fun _ => False) M0 M') :=
  li_mono (fun r M' h => ⟨⟨_, h.1, nI_toInt (by rcases (show i = 0 ∨ i = 1 ∨ i = 2 ∨ i = 3 by omega) with rfl | rfl | rfl | rfl <;> decide)⟩, by rw [h.2]; exact li_fr_refl⟩) (x_J0_length d hd hi M0)
theorem k_J0_charAt {l : Launch} {Z : li_Z} (d : Nat) (hd : 4 ≤ d) {i : Nat} (hi : i < 4) (k : Int32) (h1 : 0 ≤ k.toInt) (h2 : k.toInt < (li_len.getD i 0 : Nat)) (M0 : li_M) : li_Met l Z YJ0_charAt_5068e d [.ref (Z.2.2 (2100 + i)), .int k] M0 (li_SI (fun _ => False) M0) := li_mono (fun r M' h => ⟨⟨_, h.1⟩, by rw [h.2]; exact li_fr_refl⟩) (x_J0_charAt d hd hi k h1 h2 M0)
