abbrev li_pl (g : Nat → Int32) (e k p n ok q m : Int) : Prop := li_pq (li_by g) e k p n ok q m
theorem li_pl_tr {g g' : Nat → Int32} {e e' k k' p p' n n' ok ok' q q' m m' : Int} (hg : g' = g) (h1 : e' = e) (h2 : k' = k) (h3 : p' = p) (h4 : n' = n) (h5 : ok' = ok) (h6 : q' = q) (h7 : m' = m) (h : li_pl g e k p n ok q m) : li_pl g' e' k' p' n' ok' q' m' := li_pq_tr (congrArg li_by hg) h1 h2 h3 h4 h5 h6 h7 h
def li_pw (g : Nat → Int32) (e k p n ok q m w mo : Int) : Prop := mo = 1 → w = -1 → li_pl g e k p n ok q m
theorem li_pw_tr {g g' : Nat → Int32} {e e' k k' p p' n n' ok ok' q q' m m' w w' mo mo' : Int} (hg : g' = g) (h1 : e' = e) (h2 : k' = k) (h3 : p' = p) (h4 : n' = n) (h5 : ok' = ok) (h6 : q' = q) (h7 : m' = m) (h8 : w' = w) (h9 : mo' = mo) (h : li_pw g e k p n ok q m w mo) : li_pw g' e' k' p' n' ok' q' m' w' mo' := fun a b => li_pl_tr hg h1 h2 h3 h4 h5 h6 h7 (h (h9.symm.trans a) (h8.symm.trans b))
theorem li_pw_0 {g g' : Nat → Int32} {e e' k k' p p' n n' ok q m w mo : Int} (h : li_pl g e k p n ok q m) (hg : g' = g) (h1 : e' = e) (h2 : k' = k) (h3 : p' = p) (h4 : n' = n) : li_pw g' e' k' p' n' ok q m w mo := fun _ _ => li_pl_tr hg h1 h2 h3 h4 rfl rfl rfl h
def li_px (g : Nat → Int32) (e k p n ok q m w h : Int) : Prop := w = -1 → h = 59 → li_pl g e k (p + 1) n ok q m
theorem li_px_tr {g g' : Nat → Int32} {e e' k k' p p' n n' ok ok' q q' m m' w w' h h' : Int} (hg : g' = g) (h1 : e' = e) (h2 : k' = k) (h3 : p' = p) (h4 : n' = n) (h5 : ok' = ok) (h6 : q' = q) (h7 : m' = m) (h8 : w' = w) (h9 : h' = h) (hx : li_px g e k p n ok q m w h) : li_px g' e' k' p' n' ok' q' m' w' h' := fun a b => li_pl_tr hg h1 h2 (by rw [h3]) h4 h5 h6 h7 (hx (h8.symm.trans a) (h9.symm.trans b))
theorem li_px_no {g : Nat → Int32} {e k p n ok q m w h : Int} (hw : ¬ w = -1) : li_px g e k p n ok q m w h := fun a => absurd a hw
theorem li_pw_px {g g' : Nat → Int32} {e e' k k' p p' n n' ok q m w w' h mo : Int} (hx : li_px g e k p n ok q m w h) (hg : g' = g) (h1 : e' = e) (h2 : k' = k) (h4 : n' = n) (hm : mo = 1 → w' = -1 → w = -1 ∧ h = 59 ∧ p' = p + 1) : li_pw g' e' k' p' n' ok q m w' mo := fun a b => by
  obtain ⟨c, d, f⟩ := hm a b
  exact li_pl_tr hg h1 h2 f h4 rfl rfl rfl (hx c d)
theorem li_pq_a {g : Nat → Int32} {e k p n ok q m R1 Q1 : Int} (h : li_pq g e k p n ok q m) (hk : 0 < k) (h1 : li_nq g e 2 (-1) p R1 Q1) : (R1 < 0 → ok = 0 ∧ q = Q1) ∧ (0 ≤ R1 → ¬ rd_ch g e Q1 = 58 → ok = 0 ∧ q = Q1) := by
  obtain ⟨R2, Q2, h2⟩ : ∃ r q, li_nq g e 3 (-1) (Q1 + 1) r q := li_nq_self
  have := li_pq_r h hk h1 h2
  exact ⟨fun a => by omega, fun a b => by omega⟩
theorem li_pq_b {g : Nat → Int32} {e k p n ok q m R1 Q1 P R2 Q2 : Int} (h : li_pq g e k p n ok q m) (hk : 0 < k) (h1 : li_nq g e 2 (-1) p R1 Q1) (h2 : li_nq g e 3 (-1) P R2 Q2) : P = Q1 + 1 → 0 ≤ R1 → rd_ch g e Q1 = 58 → (R2 < 0 ∧ ok = 0 ∧ q = Q2) ∨ (0 ≤ R2 ∧ e ≤ Q2 ∧ rd_ch g e Q2 = -1 ∧ ok = 1 ∧ q = Q2 ∧ m = n + 1) ∨ (0 ≤ R2 ∧ Q2 < e ∧ ¬ rd_ch g e Q2 = 59 ∧ ok = 0 ∧ q = Q2) ∨ (0 ≤ R2 ∧ Q2 < e ∧ rd_ch g e Q2 = 59) := by
  intro a b c
  subst a
  have z := li_pq_r h hk h1 h2
  have y : e ≤ Q2 → rd_ch g e Q2 = -1 := fun w => rd_no w
  by_cases w : e ≤ Q2
  · have := y w
    omega
  · omega

set_option maxRecDepth 100000 in
set_option maxHeartbeats 4000000 in
theorem k5_X12_people_J117 {l : Launch} {Z : li_Z} (d : Nat) (hd : 5 ≤ d) (M0 : li_M) (TY PE : Int) (hTY : TY = (M0.1 175 7).toInt) (hPE : PE = (M0.1 175 1).toInt) (OK QQ MM : Int) (Ppl_M0 : li_pl (M0.1 180) (min TY 76) (6 - PE) (0) (0) (OK) (QQ) (MM)) : ∀ (x9 : Int32) (x10 : Int32) (M11 : li_M), li_fs (fun i k => i = 176 ∨ i = 177 ∨ i = 178 ∨ i = 182 ∨ i = 1000 ∨ (i = 175 ∧ k = 1) ∨ (i = 175 ∧ k = 10) ∨ (i = 175 ∧ k = 12) ∨ (i = 175 ∧ k = 13) ∨ (i = 175 ∧ k = 14) ∨ (i = 175 ∧ k = 15) ∨ (i = 175 ∧ k = 23) ∨ (i = 175 ∧ k = 48) ∨ (i = 175 ∧ k = 7)) M0 M11 → li_J M11 → 1 ≤ (x10 : Int32).toInt ∧ (M11.1 175 1).toInt + (x10 : Int32).toInt ≤ 7 ∧ (M11.1 175 1).toInt + (x10 : Int32).toInt ≤ 7 + (M11.1 175 15).toInt ∧ (¬ (M11.1 175 15).toInt = -1 → OK = 0 ∧ QQ = (M11.1 175 15).toInt) ∧ ((M11.1 175 15).toInt = -1 → ((min TY 76) ≤ (M11.1 175 14).toInt ∧ OK = 1 ∧ QQ = (M11.1 175 14).toInt ∧ MM = (x10 : Int32).toInt) ∨ ((M11.1 175 14).toInt < (min TY 76) ∧ OK = 0 ∧ QQ = (M11.1 175 14).toInt)) ∧ (M11.1 175 14).toInt ≤ (min TY 76) ∧ (M11.1 175 12).toInt = TY ∧ (M11.1 175 13).toInt = 76 ∧ (M11.1 175 1).toInt = PE ∧ 0 ≤ PE ∧ 1 ≤ TY ∧ (M11.1 175 7).toInt = 0 → M11.2.2 0 = some 180 → li_T l Z YX12_people d 117 [(2, .int x9), (1, .int x10), (0, .ref (Z.2.2 175))] [] M11 (fun r M' => (∃ x : Int32, r = some (.int x) ∧ (((TY = 0 ∧ x.toInt = 0) ∨ (0 < TY ∧ OK = 1 ∧ TY ≤ 76 ∧ x.toInt = MM) ∨ (0 < TY ∧ OK = 1 ∧ 76 < TY ∧ x.toInt = -77) ∨ (0 < TY ∧ OK = 0 ∧ x.toInt = -1 - QQ ∧ 0 ≤ QQ)) ∧ ((0 < x.toInt ∧ (M'.1 175 1).toInt = PE + x.toInt) ∨ (x.toInt ≤ 0 ∧ (M'.1 175 1).toInt = PE)))) ∧ li_fs (fun i k => i = 176 ∨ i = 177 ∨ i = 178 ∨ i = 182 ∨ i = 1000 ∨ (i = 175 ∧ k = 1) ∨ (i = 175 ∧ k = 10) ∨ (i = 175 ∧ k = 12) ∨ (i = 175 ∧ k = 13) ∨ (i = 175 ∧ k = 14) ∨ (i = 175 ∧ k = 15) ∨ (i = 175 ∧ k = 23) ∨ (i = 175 ∧ k = 48) ∨ (i = 175 ∧ k = 7)) M0 M' ∧ li_J M' ∧ (M'.1 175 7).toInt = 0) := by
  intro x9 x10 M11 hf hJ hi bM11
  have gx9 := tl_rg x9
  have gx10 := tl_rg x10
  have rM11_1 := J_sl1 (M := M11) hJ
  have rM11_7 := J_sl7 (M := M11) hJ
  have rM11_12 := J_sl12 (M := M11) hJ
  have rM11_13 := J_sl13 (M := M11) hJ
  have rM11_14 := J_sl14 (M := M11) hJ
  have rM11_15 := J_sl15 (M := M11) hJ
  refine li_aload_n 2 dX12_people_117 rfl ?_
  refine li_geti (k := 14) (N := 52) (T := TX12) (C0 := RX12) dX12_people_118 (by decide) sh_175 rfl rfl (by decide) li_in12 w_1418 ?_
  refine li_top (fun x12 ex12 => ?_)
  have gx12 : 0 ≤ x12.toInt ∧ x12.toInt ≤ 81 := by rw [ex12]; exact J_sl14 hJ
  have mx12 : x12.toInt = (M11.1 175 14).toInt := tl_slot ex12
  refine li_aload_n 2 dX12_people_121 rfl ?_
  refine li_geti (k := 12) (N := 52) (T := TX12) (C0 := RX12) dX12_people_122 (by decide) sh_175 rfl rfl (by decide) li_in12 w_1416 ?_
  refine li_top (fun x13 ex13 => ?_)
  have gx13 : 0 ≤ x13.toInt ∧ x13.toInt ≤ 80 := by rw [ex13]; exact J_sl12 hJ
  have mx13 : x13.toInt = (M11.1 175 12).toInt := tl_slot ex13
  have J136 : ∀  (M15 : li_M), li_fs (fun i k => i = 176 ∨ i = 177 ∨ i = 178 ∨ i = 182 ∨ i = 1000 ∨ (i = 175 ∧ k = 1) ∨ (i = 175 ∧ k = 10) ∨ (i = 175 ∧ k = 12) ∨ (i = 175 ∧ k = 13) ∨ (i = 175 ∧ k = 14) ∨ (i = 175 ∧ k = 15) ∨ (i = 175 ∧ k = 23) ∨ (i = 175 ∧ k = 48) ∨ (i = 175 ∧ k = 7)) M0 M15 → li_J M15 → 1 ≤ (x10 : Int32).toInt ∧ (M15.1 175 1).toInt + (x10 : Int32).toInt ≤ 7 ∧ (M15.1 175 1).toInt + (x10 : Int32).toInt ≤ 7 + (M15.1 175 15).toInt ∧ ((M15.1 175 15).toInt = -1 → OK = 1 ∧ MM = (x10 : Int32).toInt ∧ TY ≤ 76) ∧ (¬ (M15.1 175 15).toInt = -1 → (OK = 0 ∧ QQ = (M15.1 175 15).toInt) ∨ (OK = 1 ∧ 76 < TY ∧ (M15.1 175 15).toInt = 76)) ∧ (M15.1 175 1).toInt = PE ∧ 0 ≤ PE ∧ 1 ≤ TY ∧ (M15.1 175 7).toInt = 0 → li_T l Z YX12_people d 136 [(2, .int x9), (1, .int x10), (0, .ref (Z.2.2 175))] [] M15 (fun r M' => (∃ x : Int32, r = some (.int x) ∧ (((TY = 0 ∧ x.toInt = 0) ∨ (0 < TY ∧ OK = 1 ∧ TY ≤ 76 ∧ x.toInt = MM) ∨ (0 < TY ∧ OK = 1 ∧ 76 < TY ∧ x.toInt = -77) ∨ (0 < TY ∧ OK = 0 ∧ x.toInt = -1 - QQ ∧ 0 ≤ QQ)) ∧ ((0 < x.toInt ∧ (M'.1 175 1).toInt = PE + x.toInt) ∨ (x.toInt ≤ 0 ∧ (M'.1 175 1).toInt = PE)))) ∧ li_fs (fun i k => i = 176 ∨ i = 177 ∨ i = 178 ∨ i = 182 ∨ i = 1000 ∨ (i = 175 ∧ k = 1) ∨ (i = 175 ∧ k = 10) ∨ (i = 175 ∧ k = 12) ∨ (i = 175 ∧ k = 13) ∨ (i = 175 ∧ k = 14) ∨ (i = 175 ∧ k = 15) ∨ (i = 175 ∧ k = 23) ∨ (i = 175 ∧ k = 48) ∨ (i = 175 ∧ k = 7)) M0 M' ∧ li_J M' ∧ (M'.1 175 7).toInt = 0) := by
    try clear mx13
    try clear gx13
    try clear ex13
    try clear mx12
    try clear gx12
    try clear ex12
    try clear rM11_15
    try clear rM11_14
    try clear rM11_13
    try clear rM11_12
    try clear rM11_7
    try clear rM11_1
    try clear hi
    intro  M15 hf hJ hi
    have rM15_1 := J_sl1 (M := M15) hJ
    have rM15_7 := J_sl7 (M := M15) hJ
    have rM15_15 := J_sl15 (M := M15) hJ
    refine li_aload_n 2 dX12_people_136 rfl ?_
    refine li_callV (n := 0) (As := []) dX12_people_137 (k_X12_fine (d - 1) (by omega)  M15 hJ ) (by omega) (Nat.le_of_ble_eq_true rfl) w_1581 w_1583 w_43 w_112 w_1584 (by decide +kernel) rfl (by decide) sh_175 rfl rfl (Nat.le_of_ble_eq_true rfl) (fun r M17 h18 => ?_)
    obtain ⟨qx16, h18, jM17⟩ := h18
    have hf := li_fs_trans hf h18 (fun i k h => False.elim h)
    have kM17 : (li_hr M17).toInt = (li_hr M15).toInt := li_hr_fs h18 id id id id (fun _ _ _ => id) (by assumption)
    have hJ := jM17
    have rM17_1 := J_sl1 (M := M17) hJ
    have rM17_7 := J_sl7 (M := M17) hJ
    have rM17_15 := J_sl15 (M := M17) hJ
    have mM17_1 : (M17.1 175 1).toInt = (M15.1 175 1).toInt := tl_slot (h18.1 175 1 id)
    have mM17_7 : (M17.1 175 7).toInt = (M15.1 175 7).toInt := tl_slot (h18.1 175 7 id)
    have mM17_15 : (M17.1 175 15).toInt = (M15.1 175 15).toInt := tl_slot (h18.1 175 15 id)
    rcases qx16 with ⟨rfl, qx16⟩ | ⟨rfl, qx16⟩
    · skip
      refine li_if_ne 150 dX12_people_140 (by decide) (fun c => ?_) (fun c => absurd c (by decide))
      refine li_iconst 0 dX12_people_150 (by decide) ?_
      refine li_istore_n [(3, .int 0), (2, .int x9), (1, .int x10), (0, .ref (Z.2.2 175))] dX12_people_151 (by decide) rfl ?_
      have L152 : ∀ (n : Nat) (x20 : Int32) (M21 : li_M), ((x10 : Int32).toInt - (x20 : Int32).toInt).toNat < n → li_fs (fun i k => i = 176 ∨ i = 177 ∨ i = 178 ∨ i = 182 ∨ i = 1000 ∨ (i = 175 ∧ k = 1) ∨ (i = 175 ∧ k = 10) ∨ (i = 175 ∧ k = 12) ∨ (i = 175 ∧ k = 13) ∨ (i = 175 ∧ k = 14) ∨ (i = 175 ∧ k = 15) ∨ (i = 175 ∧ k = 23) ∨ (i = 175 ∧ k = 48) ∨ (i = 175 ∧ k = 7)) M0 M21 → li_J M21 → 0 ≤ (x20 : Int32).toInt ∧ (x20 : Int32).toInt ≤ (x10 : Int32).toInt ∧ (M21.1 175 1).toInt + (x10 : Int32).toInt - (x20 : Int32).toInt ≤ 6 ∧ (M21.1 175 1).toInt = PE + (x20 : Int32).toInt ∧ 0 ≤ PE ∧ OK = 1 ∧ MM = (x10 : Int32).toInt ∧ 1 ≤ (x10 : Int32).toInt ∧ TY ≤ 76 ∧ 1 ≤ TY ∧ (M21.1 175 7).toInt = 0 → li_T l Z YX12_people d 152 [(3, .int x20), (2, .int x9), (1, .int x10), (0, .ref (Z.2.2 175))] [] M21 (fun r M' => (∃ x : Int32, r = some (.int x) ∧ (((TY = 0 ∧ x.toInt = 0) ∨ (0 < TY ∧ OK = 1 ∧ TY ≤ 76 ∧ x.toInt = MM) ∨ (0 < TY ∧ OK = 1 ∧ 76 < TY ∧ x.toInt = -77) ∨ (0 < TY ∧ OK = 0 ∧ x.toInt = -1 - QQ ∧ 0 ≤ QQ)) ∧ ((0 < x.toInt ∧ (M'.1 175 1).toInt = PE + x.toInt) ∨ (x.toInt ≤ 0 ∧ (M'.1 175 1).toInt = PE)))) ∧ li_fs (fun i k => i = 176 ∨ i = 177 ∨ i = 178 ∨ i = 182 ∨ i = 1000 ∨ (i = 175 ∧ k = 1) ∨ (i = 175 ∧ k = 10) ∨ (i = 175 ∧ k = 12) ∨ (i = 175 ∧ k = 13) ∨ (i = 175 ∧ k = 14) ∨ (i = 175 ∧ k = 15) ∨ (i = 175 ∧ k = 23) ∨ (i = 175 ∧ k = 48) ∨ (i = 175 ∧ k = 7)) M0 M' ∧ li_J M' ∧ (M'.1 175 7).toInt = 0) := by
        try clear c
        try clear mM17_15
        try clear mM17_7
        try clear mM17_1
        try clear rM17_15
        try clear rM17_7
        try clear rM17_1
        try clear kM17
        try clear qx16
        try clear h18
        try clear jM17
        try clear rM15_15
        try clear rM15_7
        try clear rM15_1
        try clear mx13
        try clear gx13
        try clear ex13
        try clear mx12
        try clear gx12
        try clear ex12
        try clear rM11_15
        try clear rM11_14
        try clear rM11_13
        try clear rM11_12
        try clear rM11_7
        try clear rM11_1
        try clear hi
        try clear hi
        intro n
        induction n with
        | zero => intro x20 M21 hn; exact absurd hn (Nat.not_lt_zero _)
        | succ n ih152 =>
          intro x20 M21 hn hf hJ hi
          have gx20 := tl_rg x20
          have rM21_1 := J_sl1 (M := M21) hJ
          have rM21_7 := J_sl7 (M := M21) hJ
          refine li_iload_n 0 dX12_people_152 rfl ?_
          refine li_iload_n 2 dX12_people_153 rfl ?_
          refine li_icmp_ge 254 dX12_people_154 (by decide) (fun c22 => ?_) (fun c22 => ?_)
          · have tc22 : x10.toInt ≤ x20.toInt := tl_le c22
            refine li_aload_n 3 dX12_people_254 rfl ?_
            refine li_iconst 0 dX12_people_255 (by decide) ?_
            refine li_puti (k := 23) (N := 52) (T := TX12) (C0 := RX12) dX12_people_256 (by decide) sh_175 rfl rfl (by decide) li_in12 tyX12_ok nmX12 rfl rfl rfl rfl w_1427 ?_
            refine li_nm (fun M23 eM23 => ?_)
            have hf := li_fs_ui hf (Or.inr (Or.inr (Or.inr (Or.inr (Or.inr (Or.inr (Or.inr (Or.inr (Or.inr (Or.inr (Or.inr (Or.inl ⟨rfl, rfl⟩)))))))))))) eM23
            have z0 : (0 : Int32).toInt = 0 := rfl
            have hJ := J_pt23 hJ (show 0 ≤ (0 : Int32).toInt ∧ (0 : Int32).toInt ≤ 12 from ⟨(by omega), (by omega)⟩) eM23
            have rM23_1 := J_sl1 (M := M23) hJ
            have rM23_7 := J_sl7 (M := M23) hJ
            have mM23_1 : (M23.1 175 1).toInt = (M21.1 175 1).toInt := by rw [eM23, li_ui_at, if_pos rfl, if_neg (by decide)]
            have mM23_7 : (M23.1 175 7).toInt = (M21.1 175 7).toInt := by rw [eM23, li_ui_at, if_pos rfl, if_neg (by decide)]
            refine li_aload_n 3 dX12_people_259 rfl ?_
            refine li_dup dX12_people_260 rfl ?_
            refine li_geti (k := 48) (N := 52) (T := TX12) (C0 := RX12) dX12_people_261 (by decide) sh_175 rfl rfl (by decide) li_in12 w_1452 ?_
            refine li_top (fun x24 ex24 => ?_)
            have gx24 := tl_rg x24
            have mx24 : x24.toInt = (M23.1 175 48).toInt := tl_slot ex24
            refine li_iconst 1 dX12_people_264 (by decide) ?_
            refine li_iadd dX12_people_265 ?_
            refine li_top (fun x25 ex25 => ?_)
            have z1 : (1 : Int32).toInt = 1 := rfl
            try (have tx25 : x25.toInt = (x24 : Int32).toInt + (1 : Int32).toInt := tl_add ex25 ⟨by omega, by omega⟩)
            refine li_puti (k := 48) (N := 52) (T := TX12) (C0 := RX12) dX12_people_266 (by decide) sh_175 rfl rfl (by decide) li_in12 tyX12_ok nmX12 rfl rfl rfl rfl w_1452 ?_
            refine li_nm (fun M26 eM26 => ?_)
            have hf := li_fs_ui hf (Or.inr (Or.inr (Or.inr (Or.inr (Or.inr (Or.inr (Or.inr (Or.inr (Or.inr (Or.inr (Or.inr (Or.inr (Or.inl ⟨rfl, rfl⟩))))))))))))) eM26
            have hJ := hJ.put (k := 48) (by decide) (rg_free rfl) eM26
            have rM26_1 := J_sl1 (M := M26) hJ
            have rM26_7 := J_sl7 (M := M26) hJ
            have mM26_1 : (M26.1 175 1).toInt = (M23.1 175 1).toInt := by rw [eM26, li_ui_at, if_pos rfl, if_neg (by decide)]
            have mM26_7 : (M26.1 175 7).toInt = (M23.1 175 7).toInt := by rw [eM26, li_ui_at, if_pos rfl, if_neg (by decide)]
            refine li_iload_n 2 dX12_people_269 rfl ?_
            exact li_iret dX12_people_270 rfl rfl ⟨⟨_, rfl, (by refine ⟨?_, ?_⟩ <;> omega)⟩, hf, hJ, (by omega)⟩
          · have tc22 : x20.toInt < x10.toInt := tl_nle c22
            refine li_aload_n 3 dX12_people_157 rfl ?_
            refine li_getr (k := 2) (N := 52) (T := TX12) (C0 := RX12) dX12_people_158 (by decide) sh_175 rfl rfl (by decide) (by decide) li_in12 w_1406 ?_
            refine li_aload_n 3 dX12_people_161 rfl ?_
            refine li_geti (k := 1) (N := 52) (T := TX12) (C0 := RX12) dX12_people_162 (by decide) sh_175 rfl rfl (by decide) li_in12 w_1405 ?_
            refine li_top (fun x27 ex27 => ?_)
            have gx27 : 0 ≤ x27.toInt ∧ x27.toInt ≤ 6 := by rw [ex27]; exact J_sl1 hJ
            have mx27 : x27.toInt = (M21.1 175 1).toInt := tl_slot ex27
            refine li_aload_n 3 dX12_people_165 rfl ?_
            refine li_getr (k := 16) (N := 52) (T := TX12) (C0 := RX12) dX12_people_166 (by decide) sh_175 rfl rfl (by decide) (by decide) li_in12 w_1420 ?_
            refine li_iconst 2 dX12_people_169 (by decide) ?_
            refine li_iload_n 0 dX12_people_170 rfl ?_
            refine li_imul dX12_people_171 ?_
            refine li_top (fun x28 ex28 => ?_)
            have z2 : (2 : Int32).toInt = 2 := rfl
            try (have tx28 : x28.toInt = 2 * (x20 : Int32).toInt := tl_mul ex28 (show -2147483648 ≤ 2 * (x20 : Int32).toInt ∧ 2 * (x20 : Int32).toInt ≤ 2147483647 from ⟨(by omega), (by omega)⟩))
            refine li_iald dX12_people_172 (by decide) sh_182 (tl_in ⟨by omega, by omega⟩) ?_
            refine li_top (fun x29 ex29 => ?_)
            have gx29 := tl_rg x29
            refine li_iast dX12_people_173 (by decide) sh_177 (tl_in ⟨by omega, by omega⟩) ?_
            refine li_nm (fun M30 eM30 => ?_)
            have hf := li_fs_ui hf (Or.inr (Or.inl rfl)) eM30
            have hJ := hJ.st (by decide) (li_el_free (by first | (unfold li_led; decide) | (unfold li_led; omega)) (by decide) (by decide) (by first | (unfold li_rq; decide) | (unfold li_rq; omega))) eM30
            have rM30_1 := J_sl1 (M := M30) hJ
            have rM30_7 := J_sl7 (M := M30) hJ
            have mM30_1 : (M30.1 175 1).toInt = (M21.1 175 1).toInt := by rw [eM30, li_ui_at, if_neg (by decide)]
            have mM30_7 : (M30.1 175 7).toInt = (M21.1 175 7).toInt := by rw [eM30, li_ui_at, if_neg (by decide)]
            refine li_aload_n 3 dX12_people_174 rfl ?_
            refine li_getr (k := 3) (N := 52) (T := TX12) (C0 := RX12) dX12_people_175 (by decide) sh_175 rfl rfl (by decide) (by decide) li_in12 w_1407 ?_
            refine li_aload_n 3 dX12_people_178 rfl ?_
            refine li_geti (k := 1) (N := 52) (T := TX12) (C0 := RX12) dX12_people_179 (by decide) sh_175 rfl rfl (by decide) li_in12 w_1405 ?_
            refine li_top (fun x31 ex31 => ?_)
            have gx31 : 0 ≤ x31.toInt ∧ x31.toInt ≤ 6 := by rw [ex31]; exact J_sl1 hJ
            have mx31 : x31.toInt = (M30.1 175 1).toInt := tl_slot ex31
            refine li_aload_n 3 dX12_people_182 rfl ?_
            refine li_getr (k := 16) (N := 52) (T := TX12) (C0 := RX12) dX12_people_183 (by decide) sh_175 rfl rfl (by decide) (by decide) li_in12 w_1420 ?_
            refine li_iconst 2 dX12_people_186 (by decide) ?_
            refine li_iload_n 0 dX12_people_187 rfl ?_
            refine li_imul dX12_people_188 ?_
            refine li_top (fun x32 ex32 => ?_)
            have z2 : (2 : Int32).toInt = 2 := rfl
            try (have tx32 : x32.toInt = 2 * (x20 : Int32).toInt := tl_mul ex32 (show -2147483648 ≤ 2 * (x20 : Int32).toInt ∧ 2 * (x20 : Int32).toInt ≤ 2147483647 from ⟨(by omega), (by omega)⟩))
            refine li_iconst 1 dX12_people_189 (by decide) ?_
            refine li_iadd dX12_people_190 ?_
            refine li_top (fun x33 ex33 => ?_)
            have z1 : (1 : Int32).toInt = 1 := rfl
            try (have tx33 : x33.toInt = (x32 : Int32).toInt + (1 : Int32).toInt := tl_add ex33 ⟨by omega, by omega⟩)
            refine li_iald dX12_people_191 (by decide) sh_182 (tl_in ⟨by omega, by omega⟩) ?_
            refine li_top (fun x34 ex34 => ?_)
            have gx34 := tl_rg x34
            refine li_iast dX12_people_192 (by decide) sh_178 (tl_in ⟨by omega, by omega⟩) ?_
            refine li_nm (fun M35 eM35 => ?_)
            have hf := li_fs_ui hf (Or.inr (Or.inr (Or.inl rfl))) eM35
            have hJ := hJ.st (by decide) (li_el_free (by first | (unfold li_led; decide) | (unfold li_led; omega)) (by decide) (by decide) (by first | (unfold li_rq; decide) | (unfold li_rq; omega))) eM35
            have rM35_1 := J_sl1 (M := M35) hJ
            have rM35_7 := J_sl7 (M := M35) hJ
            have mM35_1 : (M35.1 175 1).toInt = (M30.1 175 1).toInt := by rw [eM35, li_ui_at, if_neg (by decide)]
            have mM35_7 : (M35.1 175 7).toInt = (M30.1 175 7).toInt := by rw [eM35, li_ui_at, if_neg (by decide)]
            refine li_aload_n 3 dX12_people_193 rfl ?_
            refine li_getr (k := 0) (N := 52) (T := TX12) (C0 := RX12) dX12_people_194 (by decide) sh_175 rfl rfl (by decide) (by decide) li_in12 w_1404 ?_
            refine li_aload_n 3 dX12_people_197 rfl ?_
            refine li_geti (k := 1) (N := 52) (T := TX12) (C0 := RX12) dX12_people_198 (by decide) sh_175 rfl rfl (by decide) li_in12 w_1405 ?_
            refine li_top (fun x36 ex36 => ?_)
            have gx36 : 0 ≤ x36.toInt ∧ x36.toInt ≤ 6 := by rw [ex36]; exact J_sl1 hJ
            have mx36 : x36.toInt = (M35.1 175 1).toInt := tl_slot ex36
            refine li_aload_n 3 dX12_people_201 rfl ?_
            refine li_getr (k := 16) (N := 52) (T := TX12) (C0 := RX12) dX12_people_202 (by decide) sh_175 rfl rfl (by decide) (by decide) li_in12 w_1420 ?_
            refine li_iconst 2 dX12_people_205 (by decide) ?_
            refine li_iload_n 0 dX12_people_206 rfl ?_
            refine li_imul dX12_people_207 ?_
            refine li_top (fun x37 ex37 => ?_)
            have z2 : (2 : Int32).toInt = 2 := rfl
            try (have tx37 : x37.toInt = 2 * (x20 : Int32).toInt := tl_mul ex37 (show -2147483648 ≤ 2 * (x20 : Int32).toInt ∧ 2 * (x20 : Int32).toInt ≤ 2147483647 from ⟨(by omega), (by omega)⟩))
            refine li_iconst 1 dX12_people_208 (by decide) ?_
            refine li_iadd dX12_people_209 ?_
            refine li_top (fun x38 ex38 => ?_)
            have z1 : (1 : Int32).toInt = 1 := rfl
            try (have tx38 : x38.toInt = (x37 : Int32).toInt + (1 : Int32).toInt := tl_add ex38 ⟨by omega, by omega⟩)
            refine li_iald dX12_people_210 (by decide) sh_182 (tl_in ⟨by omega, by omega⟩) ?_
            refine li_top (fun x39 ex39 => ?_)
            have gx39 := tl_rg x39
            refine li_iast dX12_people_211 (by decide) sh_176 (tl_in ⟨by omega, by omega⟩) ?_
            refine li_nm (fun M40 eM40 => ?_)
            have hf := li_fs_ui hf (Or.inl rfl) eM40
            try (have oM40 : (x36 : Int32).toInt % 51 = (x36 : Int32).toInt := by omega)
            have hJ := hJ.st (by decide) (li_el_led (by first | (unfold li_led; decide) | (unfold li_led; omega)) (by omega) (show ((x36 : Int32).toInt % 51 = 20 → 0 ≤ (x39 : Int32).toInt ∧ (x39 : Int32).toInt ≤ 6) ∧ (21 ≤ (x36 : Int32).toInt % 51 → ((x36 : Int32).toInt % 51 - 21) % 5 < 2 → 0 ≤ (x39 : Int32).toInt ∧ (x39 : Int32).toInt ≤ 5) from ⟨(fun hq0 => ⟨(by omega), (by omega)⟩), (fun hq0 hq1 => ⟨(by omega), (by omega)⟩)⟩)) eM40
            have rM40_1 := J_sl1 (M := M40) hJ
            have rM40_7 := J_sl7 (M := M40) hJ
            have mM40_1 : (M40.1 175 1).toInt = (M35.1 175 1).toInt := by rw [eM40, li_ui_at, if_neg (by decide)]
            have mM40_7 : (M40.1 175 7).toInt = (M35.1 175 7).toInt := by rw [eM40, li_ui_at, if_neg (by decide)]
            refine li_aload_n 3 dX12_people_212 rfl ?_
            refine li_getr (k := 0) (N := 52) (T := TX12) (C0 := RX12) dX12_people_213 (by decide) sh_175 rfl rfl (by decide) (by decide) li_in12 w_1404 ?_
            refine li_bipush 6 dX12_people_216 (by decide) ?_
            refine li_aload_n 3 dX12_people_218 rfl ?_
            refine li_geti (k := 1) (N := 52) (T := TX12) (C0 := RX12) dX12_people_219 (by decide) sh_175 rfl rfl (by decide) li_in12 w_1405 ?_
            refine li_top (fun x41 ex41 => ?_)
            have gx41 : 0 ≤ x41.toInt ∧ x41.toInt ≤ 6 := by rw [ex41]; exact J_sl1 hJ
            have mx41 : x41.toInt = (M40.1 175 1).toInt := tl_slot ex41
            refine li_iadd dX12_people_222 ?_
            refine li_top (fun x42 ex42 => ?_)
            have z6 : (6 : Int32).toInt = 6 := rfl
            try (have tx42 : x42.toInt = (6 : Int32).toInt + (x41 : Int32).toInt := tl_add ex42 ⟨by omega, by omega⟩)
            refine li_iconst 0 dX12_people_223 (by decide) ?_
            have z0 : (0 : Int32).toInt = 0 := rfl
            refine li_iast dX12_people_224 (by decide) sh_176 (tl_in ⟨by omega, by omega⟩) ?_
            refine li_nm (fun M43 eM43 => ?_)
            have hf := li_fs_ui hf (Or.inl rfl) eM43
            try (have oM43 : (x42 : Int32).toInt % 51 = (x42 : Int32).toInt := by omega)
            have hJ := hJ.st (by decide) (li_el_led (by first | (unfold li_led; decide) | (unfold li_led; omega)) (by omega) (show ((x42 : Int32).toInt % 51 = 20 → 0 ≤ (0 : Int32).toInt ∧ (0 : Int32).toInt ≤ 6) ∧ (21 ≤ (x42 : Int32).toInt % 51 → ((x42 : Int32).toInt % 51 - 21) % 5 < 2 → 0 ≤ (0 : Int32).toInt ∧ (0 : Int32).toInt ≤ 5) from ⟨(fun hq0 => ⟨(by omega), (by omega)⟩), (fun hq0 hq1 => ⟨(by omega), (by omega)⟩)⟩)) eM43
            have rM43_1 := J_sl1 (M := M43) hJ
            have rM43_7 := J_sl7 (M := M43) hJ
            have mM43_1 : (M43.1 175 1).toInt = (M40.1 175 1).toInt := by rw [eM43, li_ui_at, if_neg (by decide)]
            have mM43_7 : (M43.1 175 7).toInt = (M40.1 175 7).toInt := by rw [eM43, li_ui_at, if_neg (by decide)]
            refine li_aload_n 3 dX12_people_225 rfl ?_
            refine li_getr (k := 0) (N := 52) (T := TX12) (C0 := RX12) dX12_people_226 (by decide) sh_175 rfl rfl (by decide) (by decide) li_in12 w_1404 ?_
            refine li_bipush 12 dX12_people_229 (by decide) ?_
            refine li_aload_n 3 dX12_people_231 rfl ?_
            refine li_geti (k := 1) (N := 52) (T := TX12) (C0 := RX12) dX12_people_232 (by decide) sh_175 rfl rfl (by decide) li_in12 w_1405 ?_
            refine li_top (fun x44 ex44 => ?_)
            have gx44 : 0 ≤ x44.toInt ∧ x44.toInt ≤ 6 := by rw [ex44]; exact J_sl1 hJ
            have mx44 : x44.toInt = (M43.1 175 1).toInt := tl_slot ex44
            refine li_iadd dX12_people_235 ?_
            refine li_top (fun x45 ex45 => ?_)
            have z12 : (12 : Int32).toInt = 12 := rfl
            try (have tx45 : x45.toInt = (12 : Int32).toInt + (x44 : Int32).toInt := tl_add ex45 ⟨by omega, by omega⟩)
            refine li_iconst 0 dX12_people_236 (by decide) ?_
            have z0 : (0 : Int32).toInt = 0 := rfl
            refine li_iast dX12_people_237 (by decide) sh_176 (tl_in ⟨by omega, by omega⟩) ?_
            refine li_nm (fun M46 eM46 => ?_)
            have hf := li_fs_ui hf (Or.inl rfl) eM46
            try (have oM46 : (x45 : Int32).toInt % 51 = (x45 : Int32).toInt := by omega)
            have hJ := hJ.st (by decide) (li_el_led (by first | (unfold li_led; decide) | (unfold li_led; omega)) (by omega) (show ((x45 : Int32).toInt % 51 = 20 → 0 ≤ (0 : Int32).toInt ∧ (0 : Int32).toInt ≤ 6) ∧ (21 ≤ (x45 : Int32).toInt % 51 → ((x45 : Int32).toInt % 51 - 21) % 5 < 2 → 0 ≤ (0 : Int32).toInt ∧ (0 : Int32).toInt ≤ 5) from ⟨(fun hq0 => ⟨(by omega), (by omega)⟩), (fun hq0 hq1 => ⟨(by omega), (by omega)⟩)⟩)) eM46
            have rM46_1 := J_sl1 (M := M46) hJ
            have rM46_7 := J_sl7 (M := M46) hJ
            have mM46_1 : (M46.1 175 1).toInt = (M43.1 175 1).toInt := by rw [eM46, li_ui_at, if_neg (by decide)]
            have mM46_7 : (M46.1 175 7).toInt = (M43.1 175 7).toInt := by rw [eM46, li_ui_at, if_neg (by decide)]
            refine li_aload_n 3 dX12_people_238 rfl ?_
            refine li_dup dX12_people_239 rfl ?_
            refine li_geti (k := 1) (N := 52) (T := TX12) (C0 := RX12) dX12_people_240 (by decide) sh_175 rfl rfl (by decide) li_in12 w_1405 ?_
            refine li_top (fun x47 ex47 => ?_)
            have gx47 : 0 ≤ x47.toInt ∧ x47.toInt ≤ 6 := by rw [ex47]; exact J_sl1 hJ
            have mx47 : x47.toInt = (M46.1 175 1).toInt := tl_slot ex47
            refine li_iconst 1 dX12_people_243 (by decide) ?_
            refine li_iadd dX12_people_244 ?_
            refine li_top (fun x48 ex48 => ?_)
            have z1 : (1 : Int32).toInt = 1 := rfl
            try (have tx48 : x48.toInt = (x47 : Int32).toInt + (1 : Int32).toInt := tl_add ex48 ⟨by omega, by omega⟩)
            refine li_puti (k := 1) (N := 52) (T := TX12) (C0 := RX12) dX12_people_245 (by decide) sh_175 rfl rfl (by decide) li_in12 tyX12_ok nmX12 rfl rfl rfl rfl w_1405 ?_
            refine li_nm (fun M49 eM49 => ?_)
            have hf := li_fs_ui hf (Or.inr (Or.inr (Or.inr (Or.inr (Or.inr (Or.inl ⟨rfl, rfl⟩)))))) eM49
            have hJ := J_pt1 hJ (show 0 ≤ (x48 : Int32).toInt ∧ (x48 : Int32).toInt ≤ 6 from ⟨(by omega), (by omega)⟩) eM49
            have rM49_1 := J_sl1 (M := M49) hJ
            have rM49_7 := J_sl7 (M := M49) hJ
            have mM49_1 : (M49.1 175 1).toInt = x48.toInt := by rw [eM49, li_ui_at, if_pos rfl, if_pos rfl]
            have mM49_7 : (M49.1 175 7).toInt = (M46.1 175 7).toInt := by rw [eM49, li_ui_at, if_pos rfl, if_neg (by decide)]
            obtain ⟨x50, ex50⟩ : ∃ y : Int32, y = x20 + 1 := ⟨_, rfl⟩
            have z1 : (1 : Int32).toInt = 1 := rfl
            try (have tx50 : x50.toInt = (x20 : Int32).toInt + (1 : Int32).toInt := tl_add ex50 ⟨by omega, by omega⟩)
            refine li_iinc 0 [(3, .int x50), (2, .int x9), (1, .int x10), (0, .ref (Z.2.2 175))] x50 dX12_people_248 rfl (by rw [ex50]; rfl) (by decide) rfl ?_
            refine li_goto 152 dX12_people_251 (by decide) ?_
            refine li_pick [0, 1, 2, 3] [(3, .int x50), (2, .int x9), (1, .int x10), (0, .ref (Z.2.2 175))] rfl ?_
            exact ih152 x50 M49 (by omega) hf hJ ⟨(by omega), (by omega), (by omega), (Int.le_antisymm (by omega) (by omega)), (by omega), (Int.le_antisymm (by omega) (by omega)), (Int.le_antisymm (by omega) (by omega)), (by omega), (by omega), (by omega), (Int.le_antisymm (by omega) (by omega))⟩
      have z0 : (0 : Int32).toInt = 0 := rfl
      exact L152 _ 0 M17 (Nat.lt_succ_self _) hf hJ ⟨(by omega), (by omega), (by omega), (Int.le_antisymm (by omega) (by omega)), (by omega), (Int.le_antisymm (by omega) (by omega)), (Int.le_antisymm (by omega) (by omega)), (by omega), (by omega), (by omega), (Int.le_antisymm (by omega) (by omega))⟩
    · skip
      refine li_if_ne 150 dX12_people_140 (by decide) (fun c => absurd rfl c) (fun c => ?_)
      refine li_iconst (-1) dX12_people_143 (by decide) ?_
      refine li_aload_n 2 dX12_people_144 rfl ?_
      refine li_geti (k := 15) (N := 52) (T := TX12) (C0 := RX12) dX12_people_145 (by decide) sh_175 rfl rfl (by decide) li_in12 w_1419 ?_
      refine li_top (fun x52 ex52 => ?_)
      have gx52 : -1 ≤ x52.toInt ∧ x52.toInt ≤ 81 := by rw [ex52]; exact J_sl15 hJ
      have mx52 : x52.toInt = (M17.1 175 15).toInt := tl_slot ex52
      refine li_isub dX12_people_148 ?_
      refine li_top (fun x53 ex53 => ?_)
      have zm1 : ((-1) : Int32).toInt = -1 := rfl
      try (have tx53 : x53.toInt = ((-1) : Int32).toInt - (x52 : Int32).toInt := tl_sub ex53 ⟨by omega, by omega⟩)
      exact li_iret dX12_people_149 rfl rfl ⟨⟨_, rfl, (by refine ⟨?_, ?_⟩ <;> omega)⟩, hf, hJ, (by omega)⟩
  refine li_icmp_ge 136 dX12_people_125 (by decide) (fun c14 => ?_) (fun c14 => ?_)
  · have tc14 : x13.toInt ≤ x12.toInt := tl_le c14
    refine li_pick [0, 1, 2] [(2, .int x9), (1, .int x10), (0, .ref (Z.2.2 175))] rfl ?_
    exact J136  M11 hf hJ ⟨(by omega), (by omega), (by omega), (fun hq0 => ⟨(Int.le_antisymm (by omega) (by omega)), (Int.le_antisymm (by omega) (by omega)), (by omega)⟩), (fun hq0 => (by omega)), (Int.le_antisymm (by omega) (by omega)), (by omega), (by omega), (Int.le_antisymm (by omega) (by omega))⟩
  · have tc14 : x12.toInt < x13.toInt := tl_nle c14
    refine li_aload_n 2 dX12_people_128 rfl ?_
    refine li_aload_n 2 dX12_people_129 rfl ?_
    refine li_geti (k := 14) (N := 52) (T := TX12) (C0 := RX12) dX12_people_130 (by decide) sh_175 rfl rfl (by decide) li_in12 w_1418 ?_
    refine li_top (fun x54 ex54 => ?_)
    have gx54 : 0 ≤ x54.toInt ∧ x54.toInt ≤ 81 := by rw [ex54]; exact J_sl14 hJ
    have mx54 : x54.toInt = (M11.1 175 14).toInt := tl_slot ex54
    refine li_callV (n := 1) (As := [.int x54]) dX12_people_133 (k_X12_fault (d - 1) (by omega) x54 M11 hJ ⟨by omega, by omega⟩) (by omega) (Nat.le_of_ble_eq_true rfl) w_1585 w_1587 w_44 w_112 w_1588 (by decide +kernel) rfl (by decide) sh_175 rfl rfl (Nat.le_of_ble_eq_true rfl) (fun r M56 h57 => ?_)
    obtain ⟨rfl, h57, jM56, nM56⟩ := h57
    have hf := li_fs_trans hf h57 (fun i k => fun h => Or.inr (Or.inr (Or.inr (Or.inr (Or.inr (Or.inr (Or.inr (Or.inr (Or.inr (Or.inr (Or.inl h)))))))))))
    have kM56 : (li_hr M56).toInt = (li_hr M11).toInt := li_hr_fs h57 (show ¬ ((175 = 175 ∧ 12 = 15)) by decide) (show ¬ ((175 = 175 ∧ 13 = 15)) by decide) (show ¬ ((175 = 175 ∧ 14 = 15)) by decide) (show ¬ ((1000 = 175 ∧ 0 = 15)) by decide) (fun q i h => (show ¬ ((q = 175 ∧ i = 15)) by first | (unfold li_rq at h; rcases h with rfl | rfl | rfl <;> simp; done) | (unfold li_rq at h; omega))) (by assumption)
    have hJ := jM56
    have rM56_1 := J_sl1 (M := M56) hJ
    have rM56_7 := J_sl7 (M := M56) hJ
    have rM56_12 := J_sl12 (M := M56) hJ
    have rM56_13 := J_sl13 (M := M56) hJ
    have rM56_14 := J_sl14 (M := M56) hJ
    have rM56_15 := J_sl15 (M := M56) hJ
    have mM56_1 : (M56.1 175 1).toInt = (M11.1 175 1).toInt := tl_slot (h57.1 175 1 (show ¬ ((175 = 175 ∧ 1 = 15)) by decide))
    have mM56_7 : (M56.1 175 7).toInt = (M11.1 175 7).toInt := tl_slot (h57.1 175 7 (show ¬ ((175 = 175 ∧ 7 = 15)) by decide))
    have mM56_12 : (M56.1 175 12).toInt = (M11.1 175 12).toInt := tl_slot (h57.1 175 12 (show ¬ ((175 = 175 ∧ 12 = 15)) by decide))
    have mM56_13 : (M56.1 175 13).toInt = (M11.1 175 13).toInt := tl_slot (h57.1 175 13 (show ¬ ((175 = 175 ∧ 13 = 15)) by decide))
    have mM56_14 : (M56.1 175 14).toInt = (M11.1 175 14).toInt := tl_slot (h57.1 175 14 (show ¬ ((175 = 175 ∧ 14 = 15)) by decide))
    have bM56 : M56.2.2 0 = some 180 := (h57.2.2 0 (fun h9 => by first | exact (h9 : False).elim | (simp at h9; done) | omega)).trans bM11
    refine li_pick [0, 1, 2] [(2, .int x9), (1, .int x10), (0, .ref (Z.2.2 175))] rfl ?_
    exact J136  M56 hf hJ ⟨(by omega), (by omega), (by omega), (fun hq0 => ⟨(Int.le_antisymm (by omega) (by omega)), (Int.le_antisymm (by omega) (by omega)), (by omega)⟩), (fun hq0 => (by omega)), (Int.le_antisymm (by omega) (by omega)), (by omega), (by omega), (Int.le_antisymm (by omega) (by omega))⟩
