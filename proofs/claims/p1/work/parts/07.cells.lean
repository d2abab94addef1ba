theorem sh_0 : li_sh 0 = .inl (11, [some 1, some 3, some 5, some 13, some 21, some 144, some 151, some 148, some 155, some 158, some 163, some 171, some 174]) := by decide +kernel
theorem sh_1 : li_sh 1 = .inl (7, [some 2, none, none]) := by decide +kernel
theorem sh_2 : li_sh 2 = .inr (0, 80) := by decide +kernel
theorem sh_3 : li_sh 3 = .inl (5, [some 4, none]) := by decide +kernel
theorem sh_4 : li_sh 4 = .inr (0, 14) := by decide +kernel
theorem sh_5 : li_sh 5 = .inl (8, [none, none, some 6, some 7, some 8, some 9, some 10, some 11, some 12]) := by decide +kernel
theorem sh_6 : li_sh 6 = .inr (0, 6) := by decide +kernel
theorem sh_7 : li_sh 7 = .inr (0, 6) := by decide +kernel
theorem sh_8 : li_sh 8 = .inr (0, 8) := by decide +kernel
theorem sh_9 : li_sh 9 = .inr (0, 8) := by decide +kernel
theorem sh_10 : li_sh 10 = .inr (0, 8) := by decide +kernel
theorem sh_13 : li_sh 13 = .inl (4, [none, none, none, none, some 14, some 15, some 16, some 17, some 18, some 19, some 20]) := by decide +kernel
theorem sh_14 : li_sh 14 = .inr (0, 6) := by decide +kernel
theorem sh_15 : li_sh 15 = .inr (0, 6) := by decide +kernel
theorem sh_16 : li_sh 16 = .inr (1, 6) := by decide +kernel
theorem sh_21 : li_sh 21 = .inl (3, [some 22, some 23, some 24, none, none, none]) := by decide +kernel
theorem sh_22 : li_sh 22 = .inr (132, 12) := by decide +kernel
theorem sh_23 : li_sh 23 = .inr (228, 2) := by decide +kernel
theorem sh_24 : li_sh 24 = .inl (4, [none, none, none, none, some 25, some 26, some 27, some 28, some 29, some 30, some 31]) := by decide +kernel
theorem sh_144 : li_sh 144 = .inl (6, [some 145, some 146, some 147, none]) := by decide +kernel
theorem sh_145 : li_sh 145 = .inr (0, 80) := by decide +kernel
theorem sh_148 : li_sh 148 = .inl (0, [some 5, some 13, some 144, some 149, some 150, none, none, none]) := by decide +kernel
theorem sh_151 : li_sh 151 = .inl (6, [some 152, some 153, some 154, none]) := by decide +kernel
theorem sh_152 : li_sh 152 = .inr (0, 80) := by decide +kernel
theorem sh_163 : li_sh 163 = .inl (10, [some 164, some 165, some 166, some 167, some 168, some 169, some 170, none]) := by decide +kernel
theorem sh_164 : li_sh 164 = .inr (0, 30) := by decide +kernel
theorem sh_165 : li_sh 165 = .inr (0, 30) := by decide +kernel
theorem sh_171 : li_sh 171 = .inl (2, [some 5, some 13, some 148, some 172, some 173, none, none, none, none]) := by decide +kernel
theorem sh_175 : li_sh 175 = .inl (12, [some 176, none, some 177, some 178, none, some 179, some 180, none, some 181, none, none, some 1000, none, none, none, none, some 182, some 1001, none, some 184, none, some 185, some 186, none, some 187, none, none, some 188, none, some 189, some 190, some 191, none, none, some 192, none, some 193, some 194, none, some 195, none, some 196, some 197, none, some 198, some 199, none, some 200, none, some 201, some 202, some 203]) := by decide +kernel
theorem sh_176 : li_sh 176 = .inr (0, 51) := by decide +kernel
theorem sh_178 : li_sh 178 = .inr (0, 6) := by decide +kernel
theorem sh_180 : li_sh 180 = .inr (2, 80) := by decide +kernel
theorem sh_181 : li_sh 181 = .inr (0, 20) := by decide +kernel
theorem sh_186 : li_sh 186 = .inr (0, 612) := by decide +kernel
theorem sh_187 : li_sh 187 = .inr (0, 51) := by decide +kernel
theorem sh_192 : li_sh 192 = .inr (3, 37210) := by decide +kernel
theorem sh_200 : li_sh 200 = .inr (0, 51) := by decide +kernel
theorem sh_201 : li_sh 201 = .inr (0, 102) := by decide +kernel
theorem sh_202 : li_sh 202 = .inr (3, 2) := by decide +kernel
theorem sh_203 : li_sh 203 = .inr (0, 2) := by decide +kernel
def li_lg (b : Nat) : Prop := b = 13 ∨ b = 24 ∨ b = 32 ∨ b = 40 ∨ b = 48 ∨ b = 56 ∨ b = 64 ∨ b = 72 ∨ b = 80 ∨ b = 88 ∨ b = 96 ∨ b = 104 ∨ b = 112 ∨ b = 120 ∨ b = 128 ∨ b = 136
theorem shL0 {b : Nat} (h : li_lg b) : li_sh (b) = .inl (4, [none, none, none, none, some (b + 1), some (b + 2), some (b + 3), some (b + 4), some (b + 5), some (b + 6), some (b + 7)]) := by rcases h with rfl | rfl | rfl | rfl | rfl | rfl | rfl | rfl | rfl | rfl | rfl | rfl | rfl | rfl | rfl | rfl <;> decide +kernel
theorem snL0 {b : Nat} (h : li_lg b) : b < li_N := by rcases h with rfl | rfl | rfl | rfl | rfl | rfl | rfl | rfl | rfl | rfl | rfl | rfl | rfl | rfl | rfl | rfl <;> decide +kernel
theorem shL1 {b : Nat} (h : li_lg b) : li_sh (b + 1) = .inr (0, 6) := by rcases h with rfl | rfl | rfl | rfl | rfl | rfl | rfl | rfl | rfl | rfl | rfl | rfl | rfl | rfl | rfl | rfl <;> decide +kernel
theorem snL1 {b : Nat} (h : li_lg b) : b + 1 < li_N := by rcases h with rfl | rfl | rfl | rfl | rfl | rfl | rfl | rfl | rfl | rfl | rfl | rfl | rfl | rfl | rfl | rfl <;> decide +kernel
theorem lkL1 {b : Nat} (h : li_lg b) : b + 1 < 1000 := by rcases h with rfl | rfl | rfl | rfl | rfl | rfl | rfl | rfl | rfl | rfl | rfl | rfl | rfl | rfl | rfl | rfl <;> decide +kernel
theorem shL2 {b : Nat} (h : li_lg b) : li_sh (b + 2) = .inr (0, 6) := by rcases h with rfl | rfl | rfl | rfl | rfl | rfl | rfl | rfl | rfl | rfl | rfl | rfl | rfl | rfl | rfl | rfl <;> decide +kernel
theorem snL2 {b : Nat} (h : li_lg b) : b + 2 < li_N := by rcases h with rfl | rfl | rfl | rfl | rfl | rfl | rfl | rfl | rfl | rfl | rfl | rfl | rfl | rfl | rfl | rfl <;> decide +kernel
theorem lkL2 {b : Nat} (h : li_lg b) : b + 2 < 1000 := by rcases h with rfl | rfl | rfl | rfl | rfl | rfl | rfl | rfl | rfl | rfl | rfl | rfl | rfl | rfl | rfl | rfl <;> decide +kernel
theorem shL3 {b : Nat} (h : li_lg b) : li_sh (b + 3) = .inr (1, 6) := by rcases h with rfl | rfl | rfl | rfl | rfl | rfl | rfl | rfl | rfl | rfl | rfl | rfl | rfl | rfl | rfl | rfl <;> decide +kernel
theorem snL3 {b : Nat} (h : li_lg b) : b + 3 < li_N := by rcases h with rfl | rfl | rfl | rfl | rfl | rfl | rfl | rfl | rfl | rfl | rfl | rfl | rfl | rfl | rfl | rfl <;> decide +kernel
theorem lkL3 {b : Nat} (h : li_lg b) : b + 3 < 1000 := by rcases h with rfl | rfl | rfl | rfl | rfl | rfl | rfl | rfl | rfl | rfl | rfl | rfl | rfl | rfl | rfl | rfl <;> decide +kernel
theorem shL4 {b : Nat} (h : li_lg b) : li_sh (b + 4) = .inr (0, 6) := by rcases h with rfl | rfl | rfl | rfl | rfl | rfl | rfl | rfl | rfl | rfl | rfl | rfl | rfl | rfl | rfl | rfl <;> decide +kernel
theorem snL4 {b : Nat} (h : li_lg b) : b + 4 < li_N := by rcases h with rfl | rfl | rfl | rfl | rfl | rfl | rfl | rfl | rfl | rfl | rfl | rfl | rfl | rfl | rfl | rfl <;> decide +kernel
theorem lkL4 {b : Nat} (h : li_lg b) : b + 4 < 1000 := by rcases h with rfl | rfl | rfl | rfl | rfl | rfl | rfl | rfl | rfl | rfl | rfl | rfl | rfl | rfl | rfl | rfl <;> decide +kernel
theorem shL5 {b : Nat} (h : li_lg b) : li_sh (b + 5) = .inr (0, 6) := by rcases h with rfl | rfl | rfl | rfl | rfl | rfl | rfl | rfl | rfl | rfl | rfl | rfl | rfl | rfl | rfl | rfl <;> decide +kernel
theorem snL5 {b : Nat} (h : li_lg b) : b + 5 < li_N := by rcases h with rfl | rfl | rfl | rfl | rfl | rfl | rfl | rfl | rfl | rfl | rfl | rfl | rfl | rfl | rfl | rfl <;> decide +kernel
theorem lkL5 {b : Nat} (h : li_lg b) : b + 5 < 1000 := by rcases h with rfl | rfl | rfl | rfl | rfl | rfl | rfl | rfl | rfl | rfl | rfl | rfl | rfl | rfl | rfl | rfl <;> decide +kernel
theorem shL6 {b : Nat} (h : li_lg b) : li_sh (b + 6) = .inr (0, 6) := by rcases h with rfl | rfl | rfl | rfl | rfl | rfl | rfl | rfl | rfl | rfl | rfl | rfl | rfl | rfl | rfl | rfl <;> decide +kernel
theorem snL6 {b : Nat} (h : li_lg b) : b + 6 < li_N := by rcases h with rfl | rfl | rfl | rfl | rfl | rfl | rfl | rfl | rfl | rfl | rfl | rfl | rfl | rfl | rfl | rfl <;> decide +kernel
theorem lkL6 {b : Nat} (h : li_lg b) : b + 6 < 1000 := by rcases h with rfl | rfl | rfl | rfl | rfl | rfl | rfl | rfl | rfl | rfl | rfl | rfl | rfl | rfl | rfl | rfl <;> decide +kernel
theorem shL7 {b : Nat} (h : li_lg b) : li_sh (b + 7) = .inr (1, 6) := by rcases h with rfl | rfl | rfl | rfl | rfl | rfl | rfl | rfl | rfl | rfl | rfl | rfl | rfl | rfl | rfl | rfl <;> decide +kernel
theorem snL7 {b : Nat} (h : li_lg b) : b + 7 < li_N := by rcases h with rfl | rfl | rfl | rfl | rfl | rfl | rfl | rfl | rfl | rfl | rfl | rfl | rfl | rfl | rfl | rfl <;> decide +kernel
theorem lkL7 {b : Nat} (h : li_lg b) : b + 7 < 1000 := by rcases h with rfl | rfl | rfl | rfl | rfl | rfl | rfl | rfl | rfl | rfl | rfl | rfl | rfl | rfl | rfl | rfl <;> decide +kernel
def li_ru (r : Nat) : Prop := r = 144 ∨ r = 151
theorem shR0 {r : Nat} (h : li_ru r) : li_sh (r) = .inl (6, [some (r + 1), some (r + 2), some (r + 3), none]) := by rcases h with rfl | rfl <;> decide +kernel
theorem snR0 {r : Nat} (h : li_ru r) : r < li_N := by rcases h with rfl | rfl <;> decide +kernel
theorem lkR0 {r : Nat} (h : li_ru r) : r < 1000 := by rcases h with rfl | rfl <;> decide +kernel
theorem shR1 {r : Nat} (h : li_ru r) : li_sh (r + 1) = .inr (0, 80) := by rcases h with rfl | rfl <;> decide +kernel
theorem snR1 {r : Nat} (h : li_ru r) : r + 1 < li_N := by rcases h with rfl | rfl <;> decide +kernel
theorem lkR1 {r : Nat} (h : li_ru r) : r + 1 < 1000 := by rcases h with rfl | rfl <;> decide +kernel
theorem shR2 {r : Nat} (h : li_ru r) : li_sh (r + 2) = .inr (0, 80) := by rcases h with rfl | rfl <;> decide +kernel
theorem snR2 {r : Nat} (h : li_ru r) : r + 2 < li_N := by rcases h with rfl | rfl <;> decide +kernel
theorem lkR2 {r : Nat} (h : li_ru r) : r + 2 < 1000 := by rcases h with rfl | rfl <;> decide +kernel
theorem shR3 {r : Nat} (h : li_ru r) : li_sh (r + 3) = .inr (0, 6) := by rcases h with rfl | rfl <;> decide +kernel
theorem snR3 {r : Nat} (h : li_ru r) : r + 3 < li_N := by rcases h with rfl | rfl <;> decide +kernel
theorem lkR3 {r : Nat} (h : li_ru r) : r + 3 < 1000 := by rcases h with rfl | rfl <;> decide +kernel
def li_co (c : Nat) : Prop := c = 148 ∨ c = 155
theorem shC0 {c : Nat} (h : li_co c) : li_sh (c) = .inl (0, [some (5), some (13), some (c - 4), some (c + 1), some (c + 2), none, none, none]) := by rcases h with rfl | rfl <;> decide +kernel
theorem snC0 {c : Nat} (h : li_co c) : c < li_N := by rcases h with rfl | rfl <;> decide +kernel
theorem li_co_ru {c : Nat} (h : li_co c) : li_ru (c - 4) := by rcases h with rfl | rfl; exact Or.inl rfl; exact Or.inr rfl
theorem lgb_13 : li_lg 13 := by unfold li_lg; omega
theorem lgb_24 : li_lg 24 := by unfold li_lg; omega
theorem cob_148 : li_co 148 := by unfold li_co; omega
theorem cob_155 : li_co 155 := by unfold li_co; omega
theorem lg_ring {n : Nat} (h : n < 12) : li_lg (32 + 8 * n) := by unfold li_lg; omega
theorem lg_kept {n : Nat} (h : n < 2) : li_lg (128 + 8 * n) := by unfold li_lg; omega
theorem nw_0 : (Jvm.Cond.methodLinkNest "ClockForTalk" (11 : Nat) ({ cls := "ClockForTalk$Text", name := "<init>", desc := "()V" } : Jvm.MethodName) "ClockForTalk") ∈ li_nw := List.mem_of_getElem? (i := 0) rfl
theorem nw_1 : (Jvm.Cond.methodLinkNest "ClockForTalk" (18 : Nat) ({ cls := "ClockForTalk$Row", name := "<init>", desc := "()V" } : Jvm.MethodName) "ClockForTalk") ∈ li_nw := List.mem_of_getElem? (i := 1) rfl
theorem nw_2 : (Jvm.Cond.methodLinkNest "ClockForTalk" (25 : Nat) ({ cls := "ClockForTalk$Town", name := "<init>", desc := "()V" } : Jvm.MethodName) "ClockForTalk") ∈ li_nw := List.mem_of_getElem? (i := 2) rfl
theorem nw_3 : (Jvm.Cond.methodLinkNest "ClockForTalk" (32 : Nat) ({ cls := "ClockForTalk$Ledger", name := "<init>", desc := "()V" } : Jvm.MethodName) "ClockForTalk") ∈ li_nw := List.mem_of_getElem? (i := 3) rfl
theorem nw_4 : (Jvm.Cond.methodLinkNest "ClockForTalk$History" (18 : Nat) ({ cls := "ClockForTalk$Ledger", name := "<init>", desc := "()V" } : Jvm.MethodName) "ClockForTalk") ∈ li_nw := List.mem_of_getElem? (i := 4) rfl
theorem nw_5 : (Jvm.Cond.methodLinkNest "ClockForTalk" (46 : Nat) ({ cls := "ClockForTalk$Rule", name := "<init>", desc := "()V" } : Jvm.MethodName) "ClockForTalk") ∈ li_nw := List.mem_of_getElem? (i := 5) rfl
theorem nw_6 : (Jvm.Cond.methodLinkNest "ClockForTalk" (56 : Nat) ({ cls := "ClockForTalk$Wordings", name := "<init>", desc := "()V" } : Jvm.MethodName) "ClockForTalk") ∈ li_nw := List.mem_of_getElem? (i := 6) rfl
theorem nw_7 : (Jvm.Cond.methodLinkNest "ClockForTalk$Text" (19 : Nat) ({ cls := "ClockForTalk", name := "put", desc := "([III)V" } : Jvm.MethodName) "ClockForTalk") ∈ li_nw := List.mem_of_getElem? (i := 7) rfl
theorem nw_9 : (Jvm.Cond.methodLinkNest "ClockForTalk$Rule" (41 : Nat) ({ cls := "ClockForTalk", name := "put", desc := "([III)V" } : Jvm.MethodName) "ClockForTalk") ∈ li_nw := List.mem_of_getElem? (i := 9) rfl
theorem nw_13 : (Jvm.Cond.methodLinkNest "ClockForTalk$Ledger" (61 : Nat) ({ cls := "ClockForTalk", name := "at", desc := "([II)I" } : Jvm.MethodName) "ClockForTalk") ∈ li_nw := List.mem_of_getElem? (i := 13) rfl
theorem nw_14 : (Jvm.Cond.methodLinkNest "ClockForTalk$Ledger" (65 : Nat) ({ cls := "ClockForTalk", name := "put", desc := "([III)V" } : Jvm.MethodName) "ClockForTalk") ∈ li_nw := List.mem_of_getElem? (i := 14) rfl
theorem nw_15 : (Jvm.Cond.methodLinkNest "ClockForTalk$Town" (44 : Nat) ({ cls := "ClockForTalk", name := "at", desc := "([II)I" } : Jvm.MethodName) "ClockForTalk") ∈ li_nw := List.mem_of_getElem? (i := 15) rfl
theorem nw_16 : (Jvm.Cond.methodLinkNest "ClockForTalk$Costs" (39 : Nat) ({ cls := "ClockForTalk", name := "at", desc := "([II)I" } : Jvm.MethodName) "ClockForTalk") ∈ li_nw := List.mem_of_getElem? (i := 16) rfl
theorem nw_17 : (Jvm.Cond.methodLinkNest "ClockForTalk$Costs" (56 : Nat) ({ cls := "ClockForTalk", name := "put", desc := "([III)V" } : Jvm.MethodName) "ClockForTalk") ∈ li_nw := List.mem_of_getElem? (i := 17) rfl
theorem nw_18 : (Jvm.Cond.methodLinkNest "ClockForTalk$Rule" (93 : Nat) ({ cls := "ClockForTalk", name := "at", desc := "([II)I" } : Jvm.MethodName) "ClockForTalk") ∈ li_nw := List.mem_of_getElem? (i := 18) rfl
theorem nw_19 : (Jvm.Cond.methodLinkNest "ClockForTalk$Rule" (105 : Nat) ({ cls := "ClockForTalk", name := "clamp", desc := "(II)I" } : Jvm.MethodName) "ClockForTalk") ∈ li_nw := List.mem_of_getElem? (i := 19) rfl
theorem nw_21 : (Jvm.Cond.methodLinkNest "ClockForTalk$Ledger" (94 : Nat) ({ cls := "ClockForTalk", name := "wordAt", desc := "([JI)J" } : Jvm.MethodName) "ClockForTalk") ∈ li_nw := List.mem_of_getElem? (i := 21) rfl
theorem nw_23 : (Jvm.Cond.methodLinkNest "ClockForTalk$Row" (15 : Nat) ({ cls := "ClockForTalk", name := "put", desc := "([III)V" } : Jvm.MethodName) "ClockForTalk") ∈ li_nw := List.mem_of_getElem? (i := 23) rfl
theorem nw_37 : (Jvm.Cond.methodLinkNest "ClockForTalk$History" (43 : Nat) ({ cls := "ClockForTalk", name := "holds", desc := "(II)Z" } : Jvm.MethodName) "ClockForTalk") ∈ li_nw := List.mem_of_getElem? (i := 37) rfl

theorem tl_lt {x y : Int32} (h : x < y) : x.toInt < y.toInt := Int32.lt_iff_toInt_lt.mp h
theorem tl_le {x y : Int32} (h : x ≤ y) : x.toInt ≤ y.toInt := Int32.le_iff_toInt_le.mp h
theorem tl_nlt {x y : Int32} (h : ¬ x < y) : y.toInt ≤ x.toInt := tl_le (Int32.not_lt.mp h)
theorem tl_nle {x y : Int32} (h : ¬ x ≤ y) : y.toInt < x.toInt := tl_lt (Int32.not_le.mp h)
theorem tl_eq {x y : Int32} (h : x = y) : x.toInt = y.toInt := by rw [h]
theorem tl_ne {x y : Int32} (h : ¬ x = y) : ¬ x.toInt = y.toInt := fun e => h (Int32.toInt_inj.mp e)
theorem tl_rg (x : Int32) : -2147483648 ≤ x.toInt ∧ x.toInt ≤ 2147483647 := ⟨by have := Int32.le_toInt x; omega, by have := Int32.toInt_lt x; omega⟩
theorem tl_add {x y z : Int32} (h : z = x + y) : (-2147483648 ≤ x.toInt + y.toInt ∧ x.toInt + y.toInt ≤ 2147483647) → z.toInt = x.toInt + y.toInt := by
  intro hb
  rw [h, Int32.toInt_add, Int.bmod_eq_of_le (by omega) (by omega)]
theorem tl_sub {x y z : Int32} (h : z = x - y) : (-2147483648 ≤ x.toInt - y.toInt ∧ x.toInt - y.toInt ≤ 2147483647) → z.toInt = x.toInt - y.toInt := by
  intro hb
  rw [h, Int32.toInt_sub, Int.bmod_eq_of_le (by omega) (by omega)]
theorem tl_mul {x y z : Int32} (h : z = x * y) : (-2147483648 ≤ x.toInt * y.toInt ∧ x.toInt * y.toInt ≤ 2147483647) → z.toInt = x.toInt * y.toInt := by
  intro hb
  rw [h, Int32.toInt_mul, Int.bmod_eq_of_le (by omega) (by omega)]
theorem tl_in {i : Int32} {n : Nat} (h : 0 ≤ i.toInt ∧ i.toInt < n) : vp_in i n := vp_in_iff.mpr h
theorem tl_min {x y z : Int32} (h : z = if y < x then y else x) : (y.toInt < x.toInt → z.toInt = y.toInt) ∧ (x.toInt ≤ y.toInt → z.toInt = x.toInt) := by
  by_cases c : y < x
  · rw [if_pos c] at h; subst h; exact ⟨fun _ => rfl, fun q => absurd (tl_lt c) (by omega)⟩
  · rw [if_neg c] at h; subst h; exact ⟨fun q => absurd (tl_nlt c) (by omega), fun _ => rfl⟩
theorem tl_max {x y z : Int32} (h : z = if x < y then y else x) : (x.toInt < y.toInt → z.toInt = y.toInt) ∧ (y.toInt ≤ x.toInt → z.toInt = x.toInt) := by
  by_cases c : x < y
  · rw [if_pos c] at h; subst h; exact ⟨fun _ => rfl, fun q => absurd (tl_lt c) (by omega)⟩
  · rw [if_neg c] at h; subst h; exact ⟨fun q => absurd (tl_nlt c) (by omega), fun _ => rfl⟩
