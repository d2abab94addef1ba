def li_cx (g g0 : Nat → Int32) : Prop := g = g0
theorem li_cx_tr {g g' g0 g0' : Nat → Int32} (hg : g' = g) (h0 : g0' = g0) (hZq : li_cx g g0) : li_cx g' g0' := by
  subst hg; subst h0; exact hZq
abbrev li_gn (g hZq : Nat → Int32) (len k c : Int) : Prop := li_gk g hZq len k c
abbrev li_gm (g hZq : Nat → Int32) (len k c : Int) : Prop := li_gk g hZq len k c
theorem li_gn_tr {g g' hZq h' : Nat → Int32} {len len' k k' c c' : Int} (hg : g' = g) (hh : h' = hZq) (h1 : len' = len) (h2 : k' = k) (h3 : 0 ≤ c' → 0 ≤ c) (a : li_gn g hZq len k c) : li_gn g' h' len' k' c' := li_gk_tr hg hh h1 h2 h3 a
theorem li_gm_tr {g g' hZq h' : Nat → Int32} {len len' k k' c c' : Int} (hg : g' = g) (hh : h' = hZq) (h1 : len' = len) (h2 : k' = k) (h3 : 0 ≤ c' → 0 ≤ c) (a : li_gm g hZq len k c) : li_gm g' h' len' k' c' := li_gk_tr hg hh h1 h2 h3 a

set_option maxRecDepth 100000 in
set_option maxHeartbeats 4000000 in
theorem k12_X12_grammar_J141 {l : Launch} {Z : li_Z} (d : Nat) (hdZq : 4 ≤ d) (M0 : li_M) (TY L0Zq : Int) (hTY : TY = (M0.1 175 7).toInt) (hL0 : L0Zq = (M0.1 175 38).toInt) (OK QQ MM : Int) (Pgl_M0 : li_gl (M0.1 180) (TY) (10) (0) (0) (OK) (QQ) (MM)) (hBZq : Nat → Int32) (hhB : li_by (M0.1 180) = hBZq) (g3Zq : Nat → Int32) (hg3 : M0.1 193 = g3Zq) : ∀ (x11 : Int32) (x12 : Int32) (M13 : li_M), li_fs (fun i k => i = 193 ∨ i = 194 ∨ i = 1000 ∨ (i = 175 ∧ k = 10) ∨ (i = 175 ∧ k = 12) ∨ (i = 175 ∧ k = 13) ∨ (i = 175 ∧ k = 14) ∨ (i = 175 ∧ k = 15) ∨ (i = 175 ∧ k = 38) ∨ (i = 175 ∧ k = 7)) M0 M13 → li_J M13 → (x12 : Int32).toInt ≤ 11 ∧ (x12 : Int32).toInt ≤ 11 + (M13.1 175 15).toInt ∧ li_hd (¬ (M13.1 175 15).toInt = -1 → 0 < TY ∧ OK = 0 ∧ QQ = (M13.1 175 15).toInt ∧ QQ ≤ TY) ∧ li_hd ((M13.1 175 15).toInt = -1 → (TY = 0 ∧ (x12 : Int32).toInt = 0 ∧ (M13.1 175 14).toInt = 0) ∨ (0 < TY ∧ TY ≤ (M13.1 175 14).toInt ∧ OK = 1 ∧ QQ = (M13.1 175 14).toInt ∧ MM = (x12 : Int32).toInt) ∨ ((M13.1 175 14).toInt < TY ∧ OK = 0 ∧ QQ = (M13.1 175 14).toInt)) ∧ (M13.1 175 14).toInt ≤ TY ∧ (M13.1 175 12).toInt = TY ∧ (M13.1 175 13).toInt = 80 ∧ 0 ≤ (x12 : Int32).toInt ∧ (M13.1 175 38).toInt = L0Zq ∧ (M13.1 175 7).toInt = 0 → li_gn (M13.1 194) (hBZq) (TY) (3 * (x12 : Int32).toInt) (-1 - (M13.1 175 15).toInt) → li_cx (M13.1 193) (g3Zq) → M13.2.2 0 = some 180 → li_T l Z YX12_grammar d 141 [(2, .int x11), (1, .int x12), (0, .ref (Z.2.2 175))] [] M13 (fun r M' => (∃ x : Int32, r = some (.int x) ∧ (((TY = 0 ∧ x.toInt = 0) ∨ (0 < TY ∧ OK = 1 ∧ x.toInt = MM) ∨ (0 < TY ∧ OK = 0 ∧ x.toInt = -1 - QQ ∧ 0 ≤ QQ ∧ QQ ≤ TY)) ∧ ((x.toInt < 0 ∧ (M'.1 175 38).toInt = L0Zq ∧ M'.1 193 = g3Zq) ∨ (0 ≤ x.toInt ∧ (M'.1 175 38).toInt = x.toInt ∧ li_gk (M'.1 193) hBZq TY (3 * x.toInt) (x.toInt))))) ∧ li_fs (fun i k => i = 193 ∨ i = 194 ∨ i = 1000 ∨ (i = 175 ∧ k = 10) ∨ (i = 175 ∧ k = 12) ∨ (i = 175 ∧ k = 13) ∨ (i = 175 ∧ k = 14) ∨ (i = 175 ∧ k = 15) ∨ (i = 175 ∧ k = 38) ∨ (i = 175 ∧ k = 7)) M0 M' ∧ li_J M' ∧ (M'.1 175 7).toInt = 0) := by
  intro x11 x12 M13 hf hJ hiZq Pgn_M13 Pcx_M13 bM13
  have gx11 := tl_rg x11
  have gx12 := tl_rg x12
  have rM13_7 := J_sl7 (M := M13) hJ
  have rM13_12 := J_sl12 (M := M13) hJ
  have rM13_13 := J_sl13 (M := M13) hJ
  have rM13_14 := J_sl14 (M := M13) hJ
  have rM13_15 := J_sl15 (M := M13) hJ
  have rM13_38 := J_sl38 (M := M13) hJ
  unfold li_hd at hiZq
  refine li_aload_n 2 dX12_grammar_141 rfl ?_
  refine li_geti (k := 14) (N := 52) (T := TX12) (C0 := RX12) dX12_grammar_142 (by decide) sh_175 rfl rfl (by decide) li_in12 w_1418 ?_
  refine li_top (fun x14 ex14 => ?_)
  have gx14 : 0 ≤ x14.toInt ∧ x14.toInt ≤ 81 := by rw [ex14]; exact J_sl14 hJ
  have mx14 : x14.toInt = (M13.1 175 14).toInt := tl_slot ex14
  refine li_aload_n 2 dX12_grammar_145 rfl ?_
  refine li_geti (k := 12) (N := 52) (T := TX12) (C0 := RX12) dX12_grammar_146 (by decide) sh_175 rfl rfl (by decide) li_in12 w_1416 ?_
  refine li_top (fun x15 ex15 => ?_)
  have gx15 : 0 ≤ x15.toInt ∧ x15.toInt ≤ 80 := by rw [ex15]; exact J_sl12 hJ
  have mx15 : x15.toInt = (M13.1 175 12).toInt := tl_slot ex15
  have J160 : ∀  (M17 : li_M), li_fs (fun i k => i = 193 ∨ i = 194 ∨ i = 1000 ∨ (i = 175 ∧ k = 10) ∨ (i = 175 ∧ k = 12) ∨ (i = 175 ∧ k = 13) ∨ (i = 175 ∧ k = 14) ∨ (i = 175 ∧ k = 15) ∨ (i = 175 ∧ k = 38) ∨ (i = 175 ∧ k = 7)) M0 M17 → li_J M17 → (x12 : Int32).toInt ≤ 11 ∧ (x12 : Int32).toInt ≤ 11 + (M17.1 175 15).toInt ∧ 0 ≤ (x12 : Int32).toInt ∧ ((M17.1 175 15).toInt = -1 → (TY = 0 ∧ (x12 : Int32).toInt = 0) ∨ (0 < TY ∧ OK = 1 ∧ MM = (x12 : Int32).toInt)) ∧ (¬ (M17.1 175 15).toInt = -1 → 0 < TY ∧ OK = 0 ∧ QQ = (M17.1 175 15).toInt ∧ QQ ≤ TY) ∧ (M17.1 175 38).toInt = L0Zq ∧ (M17.1 175 7).toInt = 0 → li_gn (M17.1 194) (hBZq) (TY) (3 * (x12 : Int32).toInt) (-1 - (M17.1 175 15).toInt) → li_cx (M17.1 193) (g3Zq) → li_T l Z YX12_grammar d 160 [(2, .int x11), (1, .int x12), (0, .ref (Z.2.2 175))] [] M17 (fun r M' => (∃ x : Int32, r = some (.int x) ∧ (((TY = 0 ∧ x.toInt = 0) ∨ (0 < TY ∧ OK = 1 ∧ x.toInt = MM) ∨ (0 < TY ∧ OK = 0 ∧ x.toInt = -1 - QQ ∧ 0 ≤ QQ ∧ QQ ≤ TY)) ∧ ((x.toInt < 0 ∧ (M'.1 175 38).toInt = L0Zq ∧ M'.1 193 = g3Zq) ∨ (0 ≤ x.toInt ∧ (M'.1 175 38).toInt = x.toInt ∧ li_gk (M'.1 193) hBZq TY (3 * x.toInt) (x.toInt))))) ∧ li_fs (fun i k => i = 193 ∨ i = 194 ∨ i = 1000 ∨ (i = 175 ∧ k = 10) ∨ (i = 175 ∧ k = 12) ∨ (i = 175 ∧ k = 13) ∨ (i = 175 ∧ k = 14) ∨ (i = 175 ∧ k = 15) ∨ (i = 175 ∧ k = 38) ∨ (i = 175 ∧ k = 7)) M0 M' ∧ li_J M' ∧ (M'.1 175 7).toInt = 0) := by
    try clear mx15
    try clear gx15
    try clear ex15
    try clear mx14
    try clear gx14
    try clear ex14
    try clear rM13_38
    try clear rM13_15
    try clear rM13_14
    try clear rM13_13
    try clear rM13_12
    try clear rM13_7
    try clear hiZq
    intro  M17 hf hJ hiZq Pgn_M17 Pcx_M17
    have rM17_7 := J_sl7 (M := M17) hJ
    have rM17_15 := J_sl15 (M := M17) hJ
    have rM17_38 := J_sl38 (M := M17) hJ
    refine li_aload_n 2 dX12_grammar_160 rfl ?_
    refine li_callV (n := 0) (As := []) dX12_grammar_161 (k_X12_fine (d - 1) (by omega)  M17 hJ ) (by omega) (Nat.le_of_ble_eq_true rfl) w_1581 w_1583 w_43 w_112 w_1584 (by decide +kernel) rfl (by decide) sh_175 rfl rfl (Nat.le_of_ble_eq_true rfl) (fun r M19 h20 => ?_)
    obtain ⟨qx18, h20, jM19⟩ := h20
    have hf := li_fs_trans hf h20 (fun i k hZq => False.elim hZq)
    have kM19 : (li_hr M19).toInt = (li_hr M17).toInt := li_hr_fs h20 id id id id (fun _ _ _ => id) (by assumption)
    have hJ := jM19
    have rM19_7 := J_sl7 (M := M19) hJ
    have rM19_15 := J_sl15 (M := M19) hJ
    have rM19_38 := J_sl38 (M := M19) hJ
    have mM19_7 : (M19.1 175 7).toInt = (M17.1 175 7).toInt := tl_slot (h20.1 175 7 id)
    have mM19_15 : (M19.1 175 15).toInt = (M17.1 175 15).toInt := tl_slot (h20.1 175 15 id)
    have mM19_38 : (M19.1 175 38).toInt = (M17.1 175 38).toInt := tl_slot (h20.1 175 38 id)
    have Pgn_M19 : li_gn (M19.1 194) (hBZq) (TY) (3 * (x12 : Int32).toInt) (-1 - (M19.1 175 15).toInt) := li_gn_tr (funext fun i => h20.1 194 i id) rfl rfl (Int.le_antisymm (by omega) (by omega)) (fun h9 => by omega) Pgn_M17
    have Pcx_M19 : li_cx (M19.1 193) (g3Zq) := li_cx_tr (funext fun i => h20.1 193 i id) rfl Pcx_M17
    rcases qx18 with ⟨rfl, qx18⟩ | ⟨rfl, qx18⟩
    · skip
      refine li_if_ne 174 dX12_grammar_164 (by decide) (fun c => ?_) (fun c => absurd c (by decide))
      refine li_iconst 0 dX12_grammar_174 (by decide) ?_
      refine li_istore_n [(3, .int 0), (2, .int x11), (1, .int x12), (0, .ref (Z.2.2 175))] dX12_grammar_175 (by decide) rfl ?_
      have L176 : ∀ (n : Nat) (x22 : Int32) (M23 : li_M), (30 - (x22 : Int32).toInt).toNat < n → li_fs (fun i k => i = 193 ∨ i = 194 ∨ i = 1000 ∨ (i = 175 ∧ k = 10) ∨ (i = 175 ∧ k = 12) ∨ (i = 175 ∧ k = 13) ∨ (i = 175 ∧ k = 14) ∨ (i = 175 ∧ k = 15) ∨ (i = 175 ∧ k = 38) ∨ (i = 175 ∧ k = 7)) M0 M23 → li_J M23 → 0 ≤ (x22 : Int32).toInt ∧ 0 ≤ (x12 : Int32).toInt ∧ (x12 : Int32).toInt ≤ 10 ∧ ((TY = 0 ∧ (x12 : Int32).toInt = 0) ∨ (0 < TY ∧ OK = 1 ∧ MM = (x12 : Int32).toInt)) ∧ (x22 : Int32).toInt ≤ 3 * (x12 : Int32).toInt ∧ (M23.1 175 38).toInt = L0Zq ∧ (M23.1 175 7).toInt = 0 → li_gn (M23.1 194) (hBZq) (TY) (3 * (x12 : Int32).toInt) (0) → li_gm (M23.1 193) (hBZq) (TY) ((x22 : Int32).toInt) (0) → li_T l Z YX12_grammar d 176 [(3, .int x22), (2, .int x11), (1, .int x12), (0, .ref (Z.2.2 175))] [] M23 (fun r M' => (∃ x : Int32, r = some (.int x) ∧ (((TY = 0 ∧ x.toInt = 0) ∨ (0 < TY ∧ OK = 1 ∧ x.toInt = MM) ∨ (0 < TY ∧ OK = 0 ∧ x.toInt = -1 - QQ ∧ 0 ≤ QQ ∧ QQ ≤ TY)) ∧ ((x.toInt < 0 ∧ (M'.1 175 38).toInt = L0Zq ∧ M'.1 193 = g3Zq) ∨ (0 ≤ x.toInt ∧ (M'.1 175 38).toInt = x.toInt ∧ li_gk (M'.1 193) hBZq TY (3 * x.toInt) (x.toInt))))) ∧ li_fs (fun i k => i = 193 ∨ i = 194 ∨ i = 1000 ∨ (i = 175 ∧ k = 10) ∨ (i = 175 ∧ k = 12) ∨ (i = 175 ∧ k = 13) ∨ (i = 175 ∧ k = 14) ∨ (i = 175 ∧ k = 15) ∨ (i = 175 ∧ k = 38) ∨ (i = 175 ∧ k = 7)) M0 M' ∧ li_J M' ∧ (M'.1 175 7).toInt = 0) := by
        try clear c
        try clear mM19_38
        try clear mM19_15
        try clear mM19_7
        try clear rM19_38
        try clear rM19_15
        try clear rM19_7
        try clear kM19
        try clear qx18
        try clear h20
        try clear jM19
        try clear rM17_38
        try clear rM17_15
        try clear rM17_7
        try clear mx15
        try clear gx15
        try clear ex15
        try clear mx14
        try clear gx14
        try clear ex14
        try clear rM13_38
        try clear rM13_15
        try clear rM13_14
        try clear rM13_13
        try clear rM13_12
        try clear rM13_7
        try clear hiZq
        try clear hiZq
        intro n
        induction n with
        | zero => intro x22 M23 hn; exact absurd hn (Nat.not_lt_zero _)
        | succ n ih176 =>
          intro x22 M23 hn hf hJ hiZq Pgn_M23 Pgm_M23
          have gx22 := tl_rg x22
          have rM23_7 := J_sl7 (M := M23) hJ
          have rM23_38 := J_sl38 (M := M23) hJ
          refine li_iload_n 0 dX12_grammar_176 rfl ?_
          refine li_iconst 3 dX12_grammar_177 (by decide) ?_
          refine li_iload_n 2 dX12_grammar_178 rfl ?_
          refine li_imul dX12_grammar_179 ?_
          refine li_top (fun x24 ex24 => ?_)
          have z3 : (3 : Int32).toInt = 3 := rfl
          try (have tx24 : x24.toInt = 3 * (x12 : Int32).toInt := tl_mul ex24 (show -2147483648 ≤ 3 * (x12 : Int32).toInt ∧ 3 * (x12 : Int32).toInt ≤ 2147483647 from ⟨(by omega), (by omega)⟩))
          refine li_icmp_ge 201 dX12_grammar_180 (by decide) (fun c25Zq => ?_) (fun c25Zq => ?_)
          · have tc25 : x24.toInt ≤ x22.toInt := tl_le c25Zq
            refine li_aload_n 3 dX12_grammar_201 rfl ?_
            refine li_iload_n 2 dX12_grammar_202 rfl ?_
            refine li_puti (k := 38) (N := 52) (T := TX12) (C0 := RX12) dX12_grammar_203 (by decide) sh_175 rfl rfl (by decide) li_in12 tyX12_ok nmX12 rfl rfl rfl rfl w_1442 ?_
            refine li_nm (fun M26 eM26 => ?_)
            have hf := li_fs_ui hf (Or.inr (Or.inr (Or.inr (Or.inr (Or.inr (Or.inr (Or.inr (Or.inr (Or.inl ⟨rfl, rfl⟩))))))))) eM26
            have hJ := J_pt38 hJ (show 0 ≤ (x12 : Int32).toInt ∧ (x12 : Int32).toInt ≤ 10 from ⟨(by omega), (by omega)⟩) eM26
            have rM26_7 := J_sl7 (M := M26) hJ
            have rM26_38 := J_sl38 (M := M26) hJ
            have mM26_7 : (M26.1 175 7).toInt = (M23.1 175 7).toInt := by rw [eM26, li_ui_at, if_pos rfl, if_neg (by decide)]
            have mM26_38 : (M26.1 175 38).toInt = x12.toInt := by rw [eM26, li_ui_at, if_pos rfl, if_pos rfl]
            have Pgn_M26 : li_gn (M26.1 194) (hBZq) (TY) (3 * (x12 : Int32).toInt) (0) := li_gn_tr (li_cell_ui eM26 (by decide)) rfl rfl (Int.le_antisymm (by omega) (by omega)) (fun h9 => by omega) Pgn_M23
            have Pgm_M26 : li_gm (M26.1 193) (hBZq) (TY) ((x22 : Int32).toInt) (0) := li_gm_tr (li_cell_ui eM26 (by decide)) rfl rfl (Int.le_antisymm (by omega) (by omega)) (fun h9 => by omega) Pgm_M23
            refine li_iload_n 2 dX12_grammar_206 rfl ?_
            exact li_iret dX12_grammar_207 rfl rfl ⟨⟨_, rfl, (by refine ⟨by omega, ?_⟩; first | exact Or.inl ⟨by omega, by omega, Pcx_M26⟩ | exact Or.inr ⟨by omega, by omega, li_gk_tr rfl rfl rfl (by omega) (fun h9 => by omega) Pgm_M26⟩)⟩, hf, hJ, (by omega)⟩
          · have tc25 : x22.toInt < x24.toInt := tl_nle c25Zq
            refine li_aload_n 3 dX12_grammar_183 rfl ?_
            refine li_getr (k := 36) (N := 52) (T := TX12) (C0 := RX12) dX12_grammar_184 (by decide) sh_175 rfl rfl (by decide) (by decide) li_in12 w_1440 ?_
            refine li_iload_n 0 dX12_grammar_187 rfl ?_
            refine li_aload_n 3 dX12_grammar_188 rfl ?_
            refine li_getr (k := 37) (N := 52) (T := TX12) (C0 := RX12) dX12_grammar_189 (by decide) sh_175 rfl rfl (by decide) (by decide) li_in12 w_1441 ?_
            refine li_iload_n 0 dX12_grammar_192 rfl ?_
            refine li_iald dX12_grammar_193 (by decide) sh_194 (tl_in ⟨by omega, by omega⟩) ?_
            refine li_top (fun x27 ex27 => ?_)
            have gx27 := tl_rg x27
            have cl9 := li_cl (i := x22) (by omega)
            have lv9 := Pgn_M23 (by omega) (x22).toNatClampNeg (by omega)
            rw [← ex27, show (((x22).toNatClampNeg : Nat) : Int) = (x22 : Int32).toInt from cl9] at lv9
            refine li_iast dX12_grammar_194 (by decide) sh_193 (tl_in ⟨by omega, by omega⟩) ?_
            refine li_nm (fun M28 eM28 => ?_)
            have hf := li_fs_ui hf (Or.inl rfl) eM28
            have hJ := hJ.st (by decide) (li_el_free (by first | (unfold li_led; decide) | (unfold li_led; omega)) (by decide) (by decide) (by first | (unfold li_rq; decide) | (unfold li_rq; omega))) eM28
            have rM28_7 := J_sl7 (M := M28) hJ
            have rM28_38 := J_sl38 (M := M28) hJ
            have mM28_7 : (M28.1 175 7).toInt = (M23.1 175 7).toInt := by rw [eM28, li_ui_at, if_neg (by decide)]
            have mM28_38 : (M28.1 175 38).toInt = (M23.1 175 38).toInt := by rw [eM28, li_ui_at, if_neg (by decide)]
            have Pgn_M28 : li_gn (M28.1 194) (hBZq) (TY) (3 * (x12 : Int32).toInt) (0) := li_gn_tr (li_cell_ui eM28 (by decide)) rfl rfl (Int.le_antisymm (by omega) (by omega)) (fun h9 => by omega) Pgn_M23
            have Pgm_M28 : li_gm (M28.1 193) (hBZq) (TY) ((x22 : Int32).toInt + 1) (0) := li_gk_stJ Pgm_M23 eM28 rfl (by omega) (fun h9 => h9) (fun h9 => lv9) rfl
            obtain ⟨x29, ex29⟩ : ∃ y : Int32, y = x22 + 1 := ⟨_, rfl⟩
            have z1 : (1 : Int32).toInt = 1 := rfl
            try (have tx29 : x29.toInt = (x22 : Int32).toInt + (1 : Int32).toInt := tl_add ex29 ⟨by omega, by omega⟩)
            refine li_iinc 0 [(3, .int x29), (2, .int x11), (1, .int x12), (0, .ref (Z.2.2 175))] x29 dX12_grammar_195 rfl (by rw [ex29]; rfl) (by decide) rfl ?_
            refine li_goto 176 dX12_grammar_198 (by decide) ?_
            refine li_pick [0, 1, 2, 3] [(3, .int x29), (2, .int x11), (1, .int x12), (0, .ref (Z.2.2 175))] rfl ?_
            exact ih176 x29 M28 (by omega) hf hJ ⟨(by omega), (by omega), (by omega), (by omega), (by omega), (Int.le_antisymm (by omega) (by omega)), (Int.le_antisymm (by omega) (by omega))⟩ (by first | exact li_gn_tr rfl rfl rfl (Int.le_antisymm (by omega) (by omega)) (fun h9 => by omega) Pgn_M28 | exact li_gk_0 (by omega) | exact li_gk_no (by omega)) (by first | exact li_gm_tr rfl rfl rfl (Int.le_antisymm (by omega) (by omega)) (fun h9 => by omega) Pgm_M28 | exact li_gk_0 (by omega))
      have z0 : (0 : Int32).toInt = 0 := rfl
      exact L176 _ 0 M19 (Nat.lt_succ_self _) hf hJ ⟨(by omega), (by omega), (by omega), (by omega), (by omega), (Int.le_antisymm (by omega) (by omega)), (Int.le_antisymm (by omega) (by omega))⟩ (by first | exact li_gn_tr rfl rfl rfl (Int.le_antisymm (by omega) (by omega)) (fun h9 => by omega) Pgn_M19 | exact li_gk_0 (by omega) | exact li_gk_no (by omega)) (by first | exact li_gk_0 (by omega))
    · skip
      refine li_if_ne 174 dX12_grammar_164 (by decide) (fun c => absurd rfl c) (fun c => ?_)
      refine li_iconst (-1) dX12_grammar_167 (by decide) ?_
      refine li_aload_n 2 dX12_grammar_168 rfl ?_
      refine li_geti (k := 15) (N := 52) (T := TX12) (C0 := RX12) dX12_grammar_169 (by decide) sh_175 rfl rfl (by decide) li_in12 w_1419 ?_
      refine li_top (fun x31 ex31 => ?_)
      have gx31 : -1 ≤ x31.toInt ∧ x31.toInt ≤ 81 := by rw [ex31]; exact J_sl15 hJ
      have mx31 : x31.toInt = (M19.1 175 15).toInt := tl_slot ex31
      refine li_isub dX12_grammar_172 ?_
      refine li_top (fun x32 ex32 => ?_)
      have zm1 : ((-1) : Int32).toInt = -1 := rfl
      try (have tx32 : x32.toInt = ((-1) : Int32).toInt - (x31 : Int32).toInt := tl_sub ex32 ⟨by omega, by omega⟩)
      exact li_iret dX12_grammar_173 rfl rfl ⟨⟨_, rfl, (by refine ⟨by omega, ?_⟩; first | exact Or.inl ⟨by omega, by omega, Pcx_M19⟩ | exact Or.inr ⟨by omega, by omega, li_gk_tr rfl rfl rfl (by omega) (fun h9 => by omega) Pgm_M19⟩)⟩, hf, hJ, (by omega)⟩
  refine li_icmp_ge 160 dX12_grammar_149 (by decide) (fun c16 => ?_) (fun c16 => ?_)
  · have tc16 : x15.toInt ≤ x14.toInt := tl_le c16
    refine li_pick [0, 1, 2] [(2, .int x11), (1, .int x12), (0, .ref (Z.2.2 175))] rfl ?_
    exact J160  M13 hf hJ ⟨(by omega), (by omega), (by omega), (fun hq0 => (by omega)), (fun hq0 => ⟨(by omega), (Int.le_antisymm (by omega) (by omega)), (Int.le_antisymm (by omega) (by omega)), (by omega)⟩), (Int.le_antisymm (by omega) (by omega)), (Int.le_antisymm (by omega) (by omega))⟩ (by first | exact li_gn_tr rfl rfl rfl (Int.le_antisymm (by omega) (by omega)) (fun h9 => by omega) Pgn_M13 | exact li_gk_0 (by omega) | exact li_gk_no (by omega)) (by first | exact li_cx_tr rfl rfl Pcx_M13)
  · have tc16 : x14.toInt < x15.toInt := tl_nle c16
    refine li_aload_n 2 dX12_grammar_152 rfl ?_
    refine li_aload_n 2 dX12_grammar_153 rfl ?_
    refine li_geti (k := 14) (N := 52) (T := TX12) (C0 := RX12) dX12_grammar_154 (by decide) sh_175 rfl rfl (by decide) li_in12 w_1418 ?_
    refine li_top (fun x33 ex33 => ?_)
    have gx33 : 0 ≤ x33.toInt ∧ x33.toInt ≤ 81 := by rw [ex33]; exact J_sl14 hJ
    have mx33 : x33.toInt = (M13.1 175 14).toInt := tl_slot ex33
    refine li_callV (n := 1) (As := [.int x33]) dX12_grammar_157 (k_X12_fault (d - 1) (by omega) x33 M13 hJ ⟨by omega, by omega⟩) (by omega) (Nat.le_of_ble_eq_true rfl) w_1585 w_1587 w_44 w_112 w_1588 (by decide +kernel) rfl (by decide) sh_175 rfl rfl (Nat.le_of_ble_eq_true rfl) (fun r M35 h36 => ?_)
    obtain ⟨rfl, h36, jM35, nM35⟩ := h36
    have hf := li_fs_trans hf h36 (fun i k => fun hZq => Or.inr (Or.inr (Or.inr (Or.inr (Or.inr (Or.inr (Or.inr (Or.inl hZq))))))))
    have kM35 : (li_hr M35).toInt = (li_hr M13).toInt := li_hr_fs h36 (show ¬ ((175 = 175 ∧ 12 = 15)) by decide) (show ¬ ((175 = 175 ∧ 13 = 15)) by decide) (show ¬ ((175 = 175 ∧ 14 = 15)) by decide) (show ¬ ((1000 = 175 ∧ 0 = 15)) by decide) (fun q i hZq => (show ¬ ((q = 175 ∧ i = 15)) by first | (unfold li_rq at hZq; rcases hZq with rfl | rfl | rfl <;> simp; done) | (unfold li_rq at hZq; omega))) (by assumption)
    have hJ := jM35
    have rM35_7 := J_sl7 (M := M35) hJ
    have rM35_12 := J_sl12 (M := M35) hJ
    have rM35_13 := J_sl13 (M := M35) hJ
    have rM35_14 := J_sl14 (M := M35) hJ
    have rM35_15 := J_sl15 (M := M35) hJ
    have rM35_38 := J_sl38 (M := M35) hJ
    have mM35_7 : (M35.1 175 7).toInt = (M13.1 175 7).toInt := tl_slot (h36.1 175 7 (show ¬ ((175 = 175 ∧ 7 = 15)) by decide))
    have mM35_12 : (M35.1 175 12).toInt = (M13.1 175 12).toInt := tl_slot (h36.1 175 12 (show ¬ ((175 = 175 ∧ 12 = 15)) by decide))
    have mM35_13 : (M35.1 175 13).toInt = (M13.1 175 13).toInt := tl_slot (h36.1 175 13 (show ¬ ((175 = 175 ∧ 13 = 15)) by decide))
    have mM35_14 : (M35.1 175 14).toInt = (M13.1 175 14).toInt := tl_slot (h36.1 175 14 (show ¬ ((175 = 175 ∧ 14 = 15)) by decide))
    have mM35_38 : (M35.1 175 38).toInt = (M13.1 175 38).toInt := tl_slot (h36.1 175 38 (show ¬ ((175 = 175 ∧ 38 = 15)) by decide))
    have Pgn_M35 : li_gn (M35.1 194) (hBZq) (TY) (3 * (x12 : Int32).toInt) (-1 - (M35.1 175 15).toInt) := li_gn_tr (funext fun i => h36.1 194 i (show ¬ ((194 = 175 ∧ i = 15)) by first | (simp; done) | omega)) rfl rfl (Int.le_antisymm (by omega) (by omega)) (fun h9 => by omega) Pgn_M13
    have Pcx_M35 : li_cx (M35.1 193) (g3Zq) := li_cx_tr (funext fun i => h36.1 193 i (show ¬ ((193 = 175 ∧ i = 15)) by first | (simp; done) | omega)) rfl Pcx_M13
    have bM35 : M35.2.2 0 = some 180 := (h36.2.2 0 (fun h9 => by first | exact (h9 : False).elim | (simp at h9; done) | omega)).trans bM13
    refine li_pick [0, 1, 2] [(2, .int x11), (1, .int x12), (0, .ref (Z.2.2 175))] rfl ?_
    exact J160  M35 hf hJ ⟨(by omega), (by omega), (by omega), (fun hq0 => (by omega)), (fun hq0 => ⟨(by omega), (Int.le_antisymm (by omega) (by omega)), (Int.le_antisymm (by omega) (by omega)), (by omega)⟩), (Int.le_antisymm (by omega) (by omega)), (Int.le_antisymm (by omega) (by omega))⟩ (by first | exact li_gn_tr rfl rfl rfl (Int.le_antisymm (by omega) (by omega)) (fun h9 => by omega) Pgn_M35 | exact li_gk_0 (by omega) | exact li_gk_no (by omega)) (by first | exact li_cx_tr rfl rfl Pcx_M35)
