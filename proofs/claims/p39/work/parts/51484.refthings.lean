abbrev li_uh (g : Nat → Int32) (e P k p n m : Int) : Prop := li_tl (li_by g) e P k p n m
theorem li_uh_tr {g g' : Nat → Int32} {e e' P P'Zq k k' p p' n n' m m' : Int} (hg : g' = g) (h1 : e' = e) (h2 : P'Zq = P) (h3 : k' = k) (h4 : p' = p) (h5 : n' = n) (h6 : m' = m) (hZq : li_uh g e P k p n m) : li_uh g' e' P'Zq k' p' n' m' := li_tl_tr (congrArg li_by hg) h1 h2 h3 h4 h5 h6 hZq
def li_uw (g : Nat → Int32) (e P k p n m wZq mo : Int) : Prop := mo = 1 → wZq = -1 → li_uh g e P k p n m
theorem li_uw_tr {g g' : Nat → Int32} {e e' P P'Zq k k' p p' n n' m m' wZq w' mo mo' : Int} (hg : g' = g) (h1 : e' = e) (h2 : P'Zq = P) (h3 : k' = k) (h4 : p' = p) (h5 : n' = n) (h6 : m' = m) (h8 : w' = wZq) (h9 : mo' = mo) (hZq : li_uw g e P k p n m wZq mo) : li_uw g' e' P'Zq k' p' n' m' w' mo' := fun a b => li_uh_tr hg h1 h2 h3 h4 h5 h6 (hZq (h9.symm.trans a) (h8.symm.trans b))
theorem li_uw_0 {g g' : Nat → Int32} {e e' P P'Zq k k' p p' n n' m wZq mo : Int} (hZq : li_uh g e P k p n m) (hg : g' = g) (h1 : e' = e) (h2 : P'Zq = P) (h3 : k' = k) (h4 : p' = p) (h5 : n' = n) : li_uw g' e' P'Zq k' p' n' m wZq mo := fun _ _ => li_uh_tr hg h1 h2 h3 h4 h5 rfl hZq
def li_ux (g : Nat → Int32) (e P k p n m wZq hZq : Int) : Prop := wZq = -1 → hZq = 59 → li_uh g e P k (p + 1) n m
theorem li_ux_tr {g g' : Nat → Int32} {e e' P P'Zq k k' p p' n n' m m' wZq w' hZq h' : Int} (hg : g' = g) (h1 : e' = e) (h2 : P'Zq = P) (h3 : k' = k) (h4 : p' = p) (h5 : n' = n) (h6 : m' = m) (h8 : w' = wZq) (h9 : h' = hZq) (hx : li_ux g e P k p n m wZq hZq) : li_ux g' e' P'Zq k' p' n' m' w' h' := fun a b => li_uh_tr hg h1 h2 h3 (by rw [h4]) h5 h6 (hx (h8.symm.trans a) (h9.symm.trans b))
theorem li_ux_no {g : Nat → Int32} {e P k p n m wZq hZq : Int} (hw : ¬ wZq = -1) : li_ux g e P k p n m wZq hZq := fun a => absurd a hw
theorem li_uw_ux {g g' : Nat → Int32} {e e' P P'Zq k k' p p' n n' m wZq w' hZq mo : Int} (hx : li_ux g e P k p n m wZq hZq) (hg : g' = g) (h1 : e' = e) (h2 : P'Zq = P) (h3 : k' = k) (h5 : n' = n) (hmZq : mo = 1 → w' = -1 → wZq = -1 ∧ hZq = 59 ∧ p' = p + 1) : li_uw g' e' P'Zq k' p' n' m w' mo := fun a b => by
  obtain ⟨c, d, f⟩ := hmZq a b
  exact li_uh_tr hg h1 h2 h3 f h5 rfl (hx c d)

set_option maxRecDepth 100000 in
set_option maxHeartbeats 4000000 in
theorem k10_X12_things_J90 {l : Launch} {Z : li_Z} (d : Nat) (hdZq : 6 ≤ d) (M0 : li_M) (TY PEZq TH CAZq : Int) (hTY : TY = (M0.1 175 7).toInt) (hPEZq : PEZq = (M0.1 175 1).toInt) (hTH : TH = (M0.1 175 4).toInt) (hCA : CAZq = (M0.1 175 48).toInt) (hCB : 0 ≤ CAZq ∧ CAZq ≤ 3000) (MM : Int) (Puh_M0 : li_uh (M0.1 180) (min TY 76) (PEZq) (8 - TH) (0) (0) (MM)) : ∀ (x9 : Int32) (x10 : Int32) (M11 : li_M), li_fs (fun i k => i = 179 ∨ i = 182 ∨ i = 1000 ∨ (i = 175 ∧ k = 10) ∨ (i = 175 ∧ k = 12) ∨ (i = 175 ∧ k = 13) ∨ (i = 175 ∧ k = 14) ∨ (i = 175 ∧ k = 15) ∨ (i = 175 ∧ k = 23) ∨ (i = 175 ∧ k = 4) ∨ (i = 175 ∧ k = 48) ∨ (i = 175 ∧ k = 7)) M0 M11 → li_J M11 → 1 ≤ (x10 : Int32).toInt ∧ (M11.1 175 4).toInt + (x10 : Int32).toInt ≤ 9 ∧ (M11.1 175 4).toInt + (x10 : Int32).toInt ≤ 9 + (M11.1 175 15).toInt ∧ (¬ (M11.1 175 15).toInt = -1 → MM = -1) ∧ ((M11.1 175 15).toInt = -1 → ((min TY 76) ≤ (M11.1 175 14).toInt ∧ MM = (x10 : Int32).toInt) ∨ ((M11.1 175 14).toInt < (min TY 76) ∧ MM = -1)) ∧ (M11.1 175 14).toInt ≤ (min TY 76) ∧ (M11.1 175 12).toInt = TY ∧ (M11.1 175 13).toInt = 76 ∧ (M11.1 175 1).toInt = PEZq ∧ (M11.1 175 4).toInt = TH ∧ 1 ≤ TY ∧ (M11.1 175 48).toInt = CAZq ∧ (M11.1 175 7).toInt = 0 → li_cq (M11.1 182) ((M11.1 175 15).toInt) ((x10 : Int32).toInt) → M11.2.2 0 = some 180 → li_T l Z YX12_things d 90 [(2, .int x9), (1, .int x10), (0, .ref (Z.2.2 175))] [] M11 (fun r M' => (∃ x : Int32, r = some (.int x) ∧ (((TY = 0 ∧ x.toInt = 0) ∨ (0 < TY ∧ TY ≤ 76 ∧ 0 < MM ∧ x.toInt = MM) ∨ (0 < TY ∧ (76 < TY ∨ MM = -1) ∧ x.toInt < 0)) ∧ ((0 < x.toInt ∧ (M'.1 175 4).toInt = TH + x.toInt ∧ (M'.1 175 48).toInt = CAZq + 1) ∨ (x.toInt ≤ 0 ∧ (M'.1 175 4).toInt = TH ∧ (M'.1 175 48).toInt = CAZq)))) ∧ li_fs (fun i k => i = 179 ∨ i = 182 ∨ i = 1000 ∨ (i = 175 ∧ k = 10) ∨ (i = 175 ∧ k = 12) ∨ (i = 175 ∧ k = 13) ∨ (i = 175 ∧ k = 14) ∨ (i = 175 ∧ k = 15) ∨ (i = 175 ∧ k = 23) ∨ (i = 175 ∧ k = 4) ∨ (i = 175 ∧ k = 48) ∨ (i = 175 ∧ k = 7)) M0 M' ∧ li_J M' ∧ (M'.1 175 7).toInt = 0) := by
  intro x9 x10 M11 hf hJ hiZq Pcq_M11 bM11
  have gx9 := tl_rg x9
  have gx10 := tl_rg x10
  have rM11_1 := J_sl1 (M := M11) hJ
  have rM11_4 := J_sl4 (M := M11) hJ
  have rM11_7 := J_sl7 (M := M11) hJ
  have rM11_12 := J_sl12 (M := M11) hJ
  have rM11_13 := J_sl13 (M := M11) hJ
  have rM11_14 := J_sl14 (M := M11) hJ
  have rM11_15 := J_sl15 (M := M11) hJ
  have mM11_1 : (M11.1 175 1).toInt = (M0.1 175 1).toInt := tl_slot (hf.1 175 1 (show ¬ (175 = 179 ∨ 175 = 182 ∨ 175 = 1000 ∨ (175 = 175 ∧ 1 = 10) ∨ (175 = 175 ∧ 1 = 12) ∨ (175 = 175 ∧ 1 = 13) ∨ (175 = 175 ∧ 1 = 14) ∨ (175 = 175 ∧ 1 = 15) ∨ (175 = 175 ∧ 1 = 23) ∨ (175 = 175 ∧ 1 = 4) ∨ (175 = 175 ∧ 1 = 48) ∨ (175 = 175 ∧ 1 = 7)) by decide))
  refine li_aload_n 2 dX12_things_90 rfl ?_
  refine li_geti (k := 14) (N := 52) (T := TX12) (C0 := RX12) dX12_things_91 (by decide) sh_175 rfl rfl (by decide) li_in12 w_1418 ?_
  refine li_top (fun x12 ex12 => ?_)
  have gx12 : 0 ≤ x12.toInt ∧ x12.toInt ≤ 81 := by rw [ex12]; exact J_sl14 hJ
  have mx12 : x12.toInt = (M11.1 175 14).toInt := tl_slot ex12
  refine li_aload_n 2 dX12_things_94 rfl ?_
  refine li_geti (k := 12) (N := 52) (T := TX12) (C0 := RX12) dX12_things_95 (by decide) sh_175 rfl rfl (by decide) li_in12 w_1416 ?_
  refine li_top (fun x13 ex13 => ?_)
  have gx13 : 0 ≤ x13.toInt ∧ x13.toInt ≤ 80 := by rw [ex13]; exact J_sl12 hJ
  have mx13 : x13.toInt = (M11.1 175 12).toInt := tl_slot ex13
  have J109 : ∀  (M15 : li_M), li_fs (fun i k => i = 179 ∨ i = 182 ∨ i = 1000 ∨ (i = 175 ∧ k = 10) ∨ (i = 175 ∧ k = 12) ∨ (i = 175 ∧ k = 13) ∨ (i = 175 ∧ k = 14) ∨ (i = 175 ∧ k = 15) ∨ (i = 175 ∧ k = 23) ∨ (i = 175 ∧ k = 4) ∨ (i = 175 ∧ k = 48) ∨ (i = 175 ∧ k = 7)) M0 M15 → li_J M15 → 1 ≤ (x10 : Int32).toInt ∧ (M15.1 175 4).toInt + (x10 : Int32).toInt ≤ 9 ∧ (M15.1 175 4).toInt + (x10 : Int32).toInt ≤ 9 + (M15.1 175 15).toInt ∧ ((M15.1 175 15).toInt = -1 → MM = (x10 : Int32).toInt ∧ TY ≤ 76) ∧ (¬ (M15.1 175 15).toInt = -1 → MM = -1 ∨ 76 < TY) ∧ (M15.1 175 4).toInt = TH ∧ 1 ≤ TY ∧ (M15.1 175 48).toInt = CAZq ∧ (M15.1 175 7).toInt = 0 → li_cq (M15.1 182) ((M15.1 175 15).toInt) ((x10 : Int32).toInt) → li_T l Z YX12_things d 109 [(2, .int x9), (1, .int x10), (0, .ref (Z.2.2 175))] [] M15 (fun r M' => (∃ x : Int32, r = some (.int x) ∧ (((TY = 0 ∧ x.toInt = 0) ∨ (0 < TY ∧ TY ≤ 76 ∧ 0 < MM ∧ x.toInt = MM) ∨ (0 < TY ∧ (76 < TY ∨ MM = -1) ∧ x.toInt < 0)) ∧ ((0 < x.toInt ∧ (M'.1 175 4).toInt = TH + x.toInt ∧ (M'.1 175 48).toInt = CAZq + 1) ∨ (x.toInt ≤ 0 ∧ (M'.1 175 4).toInt = TH ∧ (M'.1 175 48).toInt = CAZq)))) ∧ li_fs (fun i k => i = 179 ∨ i = 182 ∨ i = 1000 ∨ (i = 175 ∧ k = 10) ∨ (i = 175 ∧ k = 12) ∨ (i = 175 ∧ k = 13) ∨ (i = 175 ∧ k = 14) ∨ (i = 175 ∧ k = 15) ∨ (i = 175 ∧ k = 23) ∨ (i = 175 ∧ k = 4) ∨ (i = 175 ∧ k = 48) ∨ (i = 175 ∧ k = 7)) M0 M' ∧ li_J M' ∧ (M'.1 175 7).toInt = 0) := by
    try clear mx13
    try clear gx13
    try clear ex13
    try clear mx12
    try clear gx12
    try clear ex12
    try clear mM11_1
    try clear rM11_15
    try clear rM11_14
    try clear rM11_13
    try clear rM11_12
    try clear rM11_7
    try clear rM11_4
    try clear rM11_1
    try clear hiZq
    intro  M15 hf hJ hiZq Pcq_M15
    have rM15_4 := J_sl4 (M := M15) hJ
    have rM15_7 := J_sl7 (M := M15) hJ
    have rM15_15 := J_sl15 (M := M15) hJ
    refine li_aload_n 2 dX12_things_109 rfl ?_
    refine li_callV (n := 0) (As := []) dX12_things_110 (k_X12_fine (d - 1) (by omega)  M15 hJ ) (by omega) (Nat.le_of_ble_eq_true rfl) w_1581 w_1583 w_43 w_112 w_1584 (by decide +kernel) rfl (by decide) sh_175 rfl rfl (Nat.le_of_ble_eq_true rfl) (fun r M17 h18 => ?_)
    obtain ⟨qx16, h18, jM17⟩ := h18
    have hf := li_fs_trans hf h18 (fun i k hZq => False.elim hZq)
    have kM17 : (li_hr M17).toInt = (li_hr M15).toInt := li_hr_fs h18 id id id id (fun _ _ _ => id) (by assumption)
    have hJ := jM17
    have rM17_4 := J_sl4 (M := M17) hJ
    have rM17_7 := J_sl7 (M := M17) hJ
    have rM17_15 := J_sl15 (M := M17) hJ
    have mM17_4 : (M17.1 175 4).toInt = (M15.1 175 4).toInt := tl_slot (h18.1 175 4 id)
    have mM17_7 : (M17.1 175 7).toInt = (M15.1 175 7).toInt := tl_slot (h18.1 175 7 id)
    have mM17_15 : (M17.1 175 15).toInt = (M15.1 175 15).toInt := tl_slot (h18.1 175 15 id)
    have mM17_48 : (M17.1 175 48).toInt = (M15.1 175 48).toInt := tl_slot (h18.1 175 48 id)
    have Pcq_M17 : li_cq (M17.1 182) ((M17.1 175 15).toInt) ((x10 : Int32).toInt) := li_cq_tr (funext fun i => h18.1 182 i id) (fun h9 => by omega) (by omega) Pcq_M15
    rcases qx16 with ⟨rfl, qx16⟩ | ⟨rfl, qx16⟩
    · skip
      refine li_if_ne 123 dX12_things_113 (by decide) (fun c => ?_) (fun c => absurd c (by decide))
      refine li_iconst 0 dX12_things_123 (by decide) ?_
      refine li_istore_n [(3, .int 0), (2, .int x9), (1, .int x10), (0, .ref (Z.2.2 175))] dX12_things_124 (by decide) rfl ?_
      have L125 : ∀ (n : Nat) (x20 : Int32) (M21 : li_M), (40 - (x20 : Int32).toInt).toNat < n → li_fs (fun i k => i = 179 ∨ i = 182 ∨ i = 1000 ∨ (i = 175 ∧ k = 10) ∨ (i = 175 ∧ k = 12) ∨ (i = 175 ∧ k = 13) ∨ (i = 175 ∧ k = 14) ∨ (i = 175 ∧ k = 15) ∨ (i = 175 ∧ k = 23) ∨ (i = 175 ∧ k = 4) ∨ (i = 175 ∧ k = 48) ∨ (i = 175 ∧ k = 7)) M0 M21 → li_J M21 → 0 ≤ (x20 : Int32).toInt ∧ (M21.1 175 15).toInt = -1 ∧ (M21.1 175 4).toInt + (x10 : Int32).toInt ≤ 8 ∧ (M21.1 175 4).toInt = TH ∧ MM = (x10 : Int32).toInt ∧ 1 ≤ (x10 : Int32).toInt ∧ TY ≤ 76 ∧ 1 ≤ TY ∧ (M21.1 175 48).toInt = CAZq ∧ (M21.1 175 7).toInt = 0 → li_cq (M21.1 182) ((M21.1 175 15).toInt) ((x10 : Int32).toInt) → li_T l Z YX12_things d 125 [(3, .int x20), (2, .int x9), (1, .int x10), (0, .ref (Z.2.2 175))] [] M21 (fun r M' => (∃ x : Int32, r = some (.int x) ∧ (((TY = 0 ∧ x.toInt = 0) ∨ (0 < TY ∧ TY ≤ 76 ∧ 0 < MM ∧ x.toInt = MM) ∨ (0 < TY ∧ (76 < TY ∨ MM = -1) ∧ x.toInt < 0)) ∧ ((0 < x.toInt ∧ (M'.1 175 4).toInt = TH + x.toInt ∧ (M'.1 175 48).toInt = CAZq + 1) ∨ (x.toInt ≤ 0 ∧ (M'.1 175 4).toInt = TH ∧ (M'.1 175 48).toInt = CAZq)))) ∧ li_fs (fun i k => i = 179 ∨ i = 182 ∨ i = 1000 ∨ (i = 175 ∧ k = 10) ∨ (i = 175 ∧ k = 12) ∨ (i = 175 ∧ k = 13) ∨ (i = 175 ∧ k = 14) ∨ (i = 175 ∧ k = 15) ∨ (i = 175 ∧ k = 23) ∨ (i = 175 ∧ k = 4) ∨ (i = 175 ∧ k = 48) ∨ (i = 175 ∧ k = 7)) M0 M' ∧ li_J M' ∧ (M'.1 175 7).toInt = 0) := by
        try clear c
        try clear mM17_48
        try clear mM17_15
        try clear mM17_7
        try clear mM17_4
        try clear rM17_15
        try clear rM17_7
        try clear rM17_4
        try clear kM17
        try clear qx16
        try clear h18
        try clear jM17
        try clear rM15_15
        try clear rM15_7
        try clear rM15_4
        try clear mx13
        try clear gx13
        try clear ex13
        try clear mx12
        try clear gx12
        try clear ex12
        try clear mM11_1
        try clear rM11_15
        try clear rM11_14
        try clear rM11_13
        try clear rM11_12
        try clear rM11_7
        try clear rM11_4
        try clear rM11_1
        try clear hiZq
        try clear hiZq
        intro n
        induction n with
        | zero => intro x20 M21 hn; exact absurd hn (Nat.not_lt_zero _)
        | succ n ih125 =>
          intro x20 M21 hn hf hJ hiZq Pcq_M21
          have gx20 := tl_rg x20
          have rM21_4 := J_sl4 (M := M21) hJ
          have rM21_7 := J_sl7 (M := M21) hJ
          have rM21_15 := J_sl15 (M := M21) hJ
          refine li_iload_n 0 dX12_things_125 rfl ?_
          refine li_iconst 5 dX12_things_126 (by decide) ?_
          refine li_iload_n 2 dX12_things_127 rfl ?_
          refine li_imul dX12_things_128 ?_
          refine li_top (fun x22 ex22 => ?_)
          have z5 : (5 : Int32).toInt = 5 := rfl
          try (have tx22 : x22.toInt = 5 * (x10 : Int32).toInt := tl_mul ex22 (show -2147483648 ≤ 5 * (x10 : Int32).toInt ∧ 5 * (x10 : Int32).toInt ≤ 2147483647 from ⟨(by omega), (by omega)⟩))
          refine li_icmp_ge 157 dX12_things_129 (by decide) (fun c23Zq => ?_) (fun c23Zq => ?_)
          · have tc23 : x22.toInt ≤ x20.toInt := tl_le c23Zq
            refine li_aload_n 3 dX12_things_157 rfl ?_
            refine li_dup dX12_things_158 rfl ?_
            refine li_geti (k := 4) (N := 52) (T := TX12) (C0 := RX12) dX12_things_159 (by decide) sh_175 rfl rfl (by decide) li_in12 w_1408 ?_
            refine li_top (fun x24 ex24 => ?_)
            have gx24 : 0 ≤ x24.toInt ∧ x24.toInt ≤ 8 := by rw [ex24]; exact J_sl4 hJ
            have mx24 : x24.toInt = (M21.1 175 4).toInt := tl_slot ex24
            refine li_iload_n 2 dX12_things_162 rfl ?_
            refine li_iadd dX12_things_163 ?_
            refine li_top (fun x25 ex25 => ?_)
            try (have tx25 : x25.toInt = (x24 : Int32).toInt + (x10 : Int32).toInt := tl_add ex25 ⟨by omega, by omega⟩)
            refine li_puti (k := 4) (N := 52) (T := TX12) (C0 := RX12) dX12_things_164 (by decide) sh_175 rfl rfl (by decide) li_in12 tyX12_ok nmX12 rfl rfl rfl rfl w_1408 ?_
            refine li_nm (fun M26 eM26 => ?_)
            have hf := li_fs_ui hf (Or.inr (Or.inr (Or.inr (Or.inr (Or.inr (Or.inr (Or.inr (Or.inr (Or.inr (Or.inl ⟨rfl, rfl⟩)))))))))) eM26
            have hJ := J_pt4 hJ (show 0 ≤ (x25 : Int32).toInt ∧ (x25 : Int32).toInt ≤ 8 from ⟨(by omega), (by omega)⟩) eM26
            have rM26_4 := J_sl4 (M := M26) hJ
            have rM26_7 := J_sl7 (M := M26) hJ
            have rM26_15 := J_sl15 (M := M26) hJ
            have mM26_4 : (M26.1 175 4).toInt = x25.toInt := by rw [eM26, li_ui_at, if_pos rfl, if_pos rfl]
            have mM26_7 : (M26.1 175 7).toInt = (M21.1 175 7).toInt := by rw [eM26, li_ui_at, if_pos rfl, if_neg (by decide)]
            have mM26_15 : (M26.1 175 15).toInt = (M21.1 175 15).toInt := by rw [eM26, li_ui_at, if_pos rfl, if_neg (by decide)]
            have mM26_48 : (M26.1 175 48).toInt = (M21.1 175 48).toInt := by rw [eM26, li_ui_at, if_pos rfl, if_neg (by decide)]
            have Pcq_M26 : li_cq (M26.1 182) ((M26.1 175 15).toInt) ((x10 : Int32).toInt) := li_cq_tr (li_cell_ui eM26 (by decide)) (fun h9 => by omega) (by omega) Pcq_M21
            refine li_aload_n 3 dX12_things_167 rfl ?_
            refine li_iconst 0 dX12_things_168 (by decide) ?_
            refine li_puti (k := 23) (N := 52) (T := TX12) (C0 := RX12) dX12_things_169 (by decide) sh_175 rfl rfl (by decide) li_in12 tyX12_ok nmX12 rfl rfl rfl rfl w_1427 ?_
            refine li_nm (fun M27 eM27 => ?_)
            have hf := li_fs_ui hf (Or.inr (Or.inr (Or.inr (Or.inr (Or.inr (Or.inr (Or.inr (Or.inr (Or.inl ⟨rfl, rfl⟩))))))))) eM27
            have z0 : (0 : Int32).toInt = 0 := rfl
            have hJ := J_pt23 hJ (show 0 ≤ (0 : Int32).toInt ∧ (0 : Int32).toInt ≤ 12 from ⟨(by omega), (by omega)⟩) eM27
            have rM27_4 := J_sl4 (M := M27) hJ
            have rM27_7 := J_sl7 (M := M27) hJ
            have rM27_15 := J_sl15 (M := M27) hJ
            have mM27_4 : (M27.1 175 4).toInt = (M26.1 175 4).toInt := by rw [eM27, li_ui_at, if_pos rfl, if_neg (by decide)]
            have mM27_7 : (M27.1 175 7).toInt = (M26.1 175 7).toInt := by rw [eM27, li_ui_at, if_pos rfl, if_neg (by decide)]
            have mM27_15 : (M27.1 175 15).toInt = (M26.1 175 15).toInt := by rw [eM27, li_ui_at, if_pos rfl, if_neg (by decide)]
            have mM27_48 : (M27.1 175 48).toInt = (M26.1 175 48).toInt := by rw [eM27, li_ui_at, if_pos rfl, if_neg (by decide)]
            have Pcq_M27 : li_cq (M27.1 182) ((M27.1 175 15).toInt) ((x10 : Int32).toInt) := li_cq_tr (li_cell_ui eM27 (by decide)) (fun h9 => by omega) (by omega) Pcq_M26
            refine li_aload_n 3 dX12_things_172 rfl ?_
            refine li_dup dX12_things_173 rfl ?_
            refine li_geti (k := 48) (N := 52) (T := TX12) (C0 := RX12) dX12_things_174 (by decide) sh_175 rfl rfl (by decide) li_in12 w_1452 ?_
            refine li_top (fun x28 ex28 => ?_)
            have gx28 := tl_rg x28
            have mx28 : x28.toInt = (M27.1 175 48).toInt := tl_slot ex28
            refine li_iconst 1 dX12_things_177 (by decide) ?_
            refine li_iadd dX12_things_178 ?_
            refine li_top (fun x29 ex29 => ?_)
            have z1 : (1 : Int32).toInt = 1 := rfl
            try (have tx29 : x29.toInt = (x28 : Int32).toInt + (1 : Int32).toInt := tl_add ex29 ⟨by omega, by omega⟩)
            refine li_puti (k := 48) (N := 52) (T := TX12) (C0 := RX12) dX12_things_179 (by decide) sh_175 rfl rfl (by decide) li_in12 tyX12_ok nmX12 rfl rfl rfl rfl w_1452 ?_
            refine li_nm (fun M30 eM30 => ?_)
            have hf := li_fs_ui hf (Or.inr (Or.inr (Or.inr (Or.inr (Or.inr (Or.inr (Or.inr (Or.inr (Or.inr (Or.inr (Or.inl ⟨rfl, rfl⟩))))))))))) eM30
            have hJ := hJ.put (k := 48) (by decide) (rg_free rfl) eM30
            have rM30_4 := J_sl4 (M := M30) hJ
            have rM30_7 := J_sl7 (M := M30) hJ
            have rM30_15 := J_sl15 (M := M30) hJ
            have mM30_4 : (M30.1 175 4).toInt = (M27.1 175 4).toInt := by rw [eM30, li_ui_at, if_pos rfl, if_neg (by decide)]
            have mM30_7 : (M30.1 175 7).toInt = (M27.1 175 7).toInt := by rw [eM30, li_ui_at, if_pos rfl, if_neg (by decide)]
            have mM30_15 : (M30.1 175 15).toInt = (M27.1 175 15).toInt := by rw [eM30, li_ui_at, if_pos rfl, if_neg (by decide)]
            have mM30_48 : (M30.1 175 48).toInt = x29.toInt := by rw [eM30, li_ui_at, if_pos rfl, if_pos rfl]
            have Pcq_M30 : li_cq (M30.1 182) ((M30.1 175 15).toInt) ((x10 : Int32).toInt) := li_cq_tr (li_cell_ui eM30 (by decide)) (fun h9 => by omega) (by omega) Pcq_M27
            refine li_iload_n 2 dX12_things_182 rfl ?_
            exact li_iret dX12_things_183 rfl rfl ⟨⟨_, rfl, (by refine ⟨?_, ?_⟩ <;> omega)⟩, hf, hJ, (by omega)⟩
          · have tc23 : x20.toInt < x22.toInt := tl_nle c23Zq
            refine li_aload_n 3 dX12_things_132 rfl ?_
            refine li_getr (k := 5) (N := 52) (T := TX12) (C0 := RX12) dX12_things_133 (by decide) sh_175 rfl rfl (by decide) (by decide) li_in12 w_1409 ?_
            refine li_iconst 5 dX12_things_136 (by decide) ?_
            refine li_aload_n 3 dX12_things_137 rfl ?_
            refine li_geti (k := 4) (N := 52) (T := TX12) (C0 := RX12) dX12_things_138 (by decide) sh_175 rfl rfl (by decide) li_in12 w_1408 ?_
            refine li_top (fun x31 ex31 => ?_)
            have gx31 : 0 ≤ x31.toInt ∧ x31.toInt ≤ 8 := by rw [ex31]; exact J_sl4 hJ
            have mx31 : x31.toInt = (M21.1 175 4).toInt := tl_slot ex31
            refine li_imul dX12_things_141 ?_
            refine li_top (fun x32 ex32 => ?_)
            have z5 : (5 : Int32).toInt = 5 := rfl
            try (have tx32 : x32.toInt = 5 * (x31 : Int32).toInt := tl_mul ex32 (show -2147483648 ≤ 5 * (x31 : Int32).toInt ∧ 5 * (x31 : Int32).toInt ≤ 2147483647 from ⟨(by omega), (by omega)⟩))
            refine li_iload_n 0 dX12_things_142 rfl ?_
            refine li_iadd dX12_things_143 ?_
            refine li_top (fun x33 ex33 => ?_)
            try (have tx33 : x33.toInt = (x32 : Int32).toInt + (x20 : Int32).toInt := tl_add ex33 ⟨by omega, by omega⟩)
            refine li_aload_n 3 dX12_things_144 rfl ?_
            refine li_getr (k := 16) (N := 52) (T := TX12) (C0 := RX12) dX12_things_145 (by decide) sh_175 rfl rfl (by decide) (by decide) li_in12 w_1420 ?_
            refine li_iload_n 0 dX12_things_148 rfl ?_
            refine li_iald dX12_things_149 (by decide) sh_182 (tl_in ⟨by omega, by omega⟩) ?_
            refine li_top (fun x34 ex34 => ?_)
            have gx34 := tl_rg x34
            have lx34 := li_cq_ld Pcq_M21 (by omega) ex34 (by omega) (by omega)
            refine li_iast dX12_things_150 (by decide) sh_179 (tl_in ⟨by omega, by omega⟩) ?_
            refine li_nm (fun M35 eM35 => ?_)
            have hf := li_fs_ui hf (Or.inl rfl) eM35
            have hJ := hJ.st (by decide) (li_el_thing (by omega) (show (x33 : Int32).toInt % 5 < 2 → 0 ≤ (x34 : Int32).toInt ∧ (x34 : Int32).toInt ≤ 5 from (fun hq0 => ⟨(by omega), (by omega)⟩))) eM35
            have rM35_4 := J_sl4 (M := M35) hJ
            have rM35_7 := J_sl7 (M := M35) hJ
            have rM35_15 := J_sl15 (M := M35) hJ
            have mM35_4 : (M35.1 175 4).toInt = (M21.1 175 4).toInt := by rw [eM35, li_ui_at, if_neg (by decide)]
            have mM35_7 : (M35.1 175 7).toInt = (M21.1 175 7).toInt := by rw [eM35, li_ui_at, if_neg (by decide)]
            have mM35_15 : (M35.1 175 15).toInt = (M21.1 175 15).toInt := by rw [eM35, li_ui_at, if_neg (by decide)]
            have mM35_48 : (M35.1 175 48).toInt = (M21.1 175 48).toInt := by rw [eM35, li_ui_at, if_neg (by decide)]
            have Pcq_M35 : li_cq (M35.1 182) ((M35.1 175 15).toInt) ((x10 : Int32).toInt) := li_cq_tr (li_cell_ui eM35 (by decide)) (fun h9 => by omega) (by omega) Pcq_M21
            obtain ⟨x36, ex36⟩ : ∃ y : Int32, y = x20 + 1 := ⟨_, rfl⟩
            have z1 : (1 : Int32).toInt = 1 := rfl
            try (have tx36 : x36.toInt = (x20 : Int32).toInt + (1 : Int32).toInt := tl_add ex36 ⟨by omega, by omega⟩)
            refine li_iinc 0 [(3, .int x36), (2, .int x9), (1, .int x10), (0, .ref (Z.2.2 175))] x36 dX12_things_151 rfl (by rw [ex36]; rfl) (by decide) rfl ?_
            refine li_goto 125 dX12_things_154 (by decide) ?_
            refine li_pick [0, 1, 2, 3] [(3, .int x36), (2, .int x9), (1, .int x10), (0, .ref (Z.2.2 175))] rfl ?_
            exact ih125 x36 M35 (by omega) hf hJ ⟨(by omega), (Int.le_antisymm (by omega) (by omega)), (by omega), (Int.le_antisymm (by omega) (by omega)), (Int.le_antisymm (by omega) (by omega)), (by omega), (by omega), (by omega), (Int.le_antisymm (by omega) (by omega)), (Int.le_antisymm (by omega) (by omega))⟩ (by first | exact li_cq_tr rfl (fun h9 => by omega) (by omega) Pcq_M35 | exact li_cq_bad (by omega) | exact li_cq_0 (by omega))
      have z0 : (0 : Int32).toInt = 0 := rfl
      exact L125 _ 0 M17 (Nat.lt_succ_self _) hf hJ ⟨(by omega), (Int.le_antisymm (by omega) (by omega)), (by omega), (Int.le_antisymm (by omega) (by omega)), (Int.le_antisymm (by omega) (by omega)), (by omega), (by omega), (by omega), (Int.le_antisymm (by omega) (by omega)), (Int.le_antisymm (by omega) (by omega))⟩ (by first | exact li_cq_tr rfl (fun h9 => by omega) (by omega) Pcq_M17 | exact li_cq_bad (by omega) | exact li_cq_0 (by omega))
    · skip
      refine li_if_ne 123 dX12_things_113 (by decide) (fun c => absurd rfl c) (fun c => ?_)
      refine li_iconst (-1) dX12_things_116 (by decide) ?_
      refine li_aload_n 2 dX12_things_117 rfl ?_
      refine li_geti (k := 15) (N := 52) (T := TX12) (C0 := RX12) dX12_things_118 (by decide) sh_175 rfl rfl (by decide) li_in12 w_1419 ?_
      refine li_top (fun x38 ex38 => ?_)
      have gx38 : -1 ≤ x38.toInt ∧ x38.toInt ≤ 81 := by rw [ex38]; exact J_sl15 hJ
      have mx38 : x38.toInt = (M17.1 175 15).toInt := tl_slot ex38
      refine li_isub dX12_things_121 ?_
      refine li_top (fun x39 ex39 => ?_)
      have zm1 : ((-1) : Int32).toInt = -1 := rfl
      try (have tx39 : x39.toInt = ((-1) : Int32).toInt - (x38 : Int32).toInt := tl_sub ex39 ⟨by omega, by omega⟩)
      exact li_iret dX12_things_122 rfl rfl ⟨⟨_, rfl, (by refine ⟨?_, ?_⟩ <;> omega)⟩, hf, hJ, (by omega)⟩
  refine li_icmp_ge 109 dX12_things_98 (by decide) (fun c14Zq => ?_) (fun c14Zq => ?_)
  · have tc14 : x13.toInt ≤ x12.toInt := tl_le c14Zq
    refine li_pick [0, 1, 2] [(2, .int x9), (1, .int x10), (0, .ref (Z.2.2 175))] rfl ?_
    exact J109  M11 hf hJ ⟨(by omega), (by omega), (by omega), (fun hq0 => ⟨(Int.le_antisymm (by omega) (by omega)), (by omega)⟩), (fun hq0 => (by omega)), (Int.le_antisymm (by omega) (by omega)), (by omega), (Int.le_antisymm (by omega) (by omega)), (Int.le_antisymm (by omega) (by omega))⟩ (by first | exact li_cq_tr rfl (fun h9 => by omega) (by omega) Pcq_M11 | exact li_cq_bad (by omega) | exact li_cq_0 (by omega))
  · have tc14 : x12.toInt < x13.toInt := tl_nle c14Zq
    refine li_aload_n 2 dX12_things_101 rfl ?_
    refine li_aload_n 2 dX12_things_102 rfl ?_
    refine li_geti (k := 14) (N := 52) (T := TX12) (C0 := RX12) dX12_things_103 (by decide) sh_175 rfl rfl (by decide) li_in12 w_1418 ?_
    refine li_top (fun x40 ex40 => ?_)
    have gx40 : 0 ≤ x40.toInt ∧ x40.toInt ≤ 81 := by rw [ex40]; exact J_sl14 hJ
    have mx40 : x40.toInt = (M11.1 175 14).toInt := tl_slot ex40
    refine li_callV (n := 1) (As := [.int x40]) dX12_things_106 (k_X12_fault (d - 1) (by omega) x40 M11 hJ ⟨by omega, by omega⟩) (by omega) (Nat.le_of_ble_eq_true rfl) w_1585 w_1587 w_44 w_112 w_1588 (by decide +kernel) rfl (by decide) sh_175 rfl rfl (Nat.le_of_ble_eq_true rfl) (fun r M42 h43 => ?_)
    obtain ⟨rfl, h43, jM42, nM42⟩ := h43
    have hf := li_fs_trans hf h43 (fun i k => fun hZq => Or.inr (Or.inr (Or.inr (Or.inr (Or.inr (Or.inr (Or.inr (Or.inl hZq))))))))
    have kM42 : (li_hr M42).toInt = (li_hr M11).toInt := li_hr_fs h43 (show ¬ ((175 = 175 ∧ 12 = 15)) by decide) (show ¬ ((175 = 175 ∧ 13 = 15)) by decide) (show ¬ ((175 = 175 ∧ 14 = 15)) by decide) (show ¬ ((1000 = 175 ∧ 0 = 15)) by decide) (fun q i hZq => (show ¬ ((q = 175 ∧ i = 15)) by first | (unfold li_rq at hZq; rcases hZq with rfl | rfl | rfl <;> simp; done) | (unfold li_rq at hZq; omega))) (by assumption)
    have hJ := jM42
    have rM42_1 := J_sl1 (M := M42) hJ
    have rM42_4 := J_sl4 (M := M42) hJ
    have rM42_7 := J_sl7 (M := M42) hJ
    have rM42_12 := J_sl12 (M := M42) hJ
    have rM42_13 := J_sl13 (M := M42) hJ
    have rM42_14 := J_sl14 (M := M42) hJ
    have rM42_15 := J_sl15 (M := M42) hJ
    have mM42_1 : (M42.1 175 1).toInt = (M11.1 175 1).toInt := tl_slot (h43.1 175 1 (show ¬ ((175 = 175 ∧ 1 = 15)) by decide))
    have mM42_4 : (M42.1 175 4).toInt = (M11.1 175 4).toInt := tl_slot (h43.1 175 4 (show ¬ ((175 = 175 ∧ 4 = 15)) by decide))
    have mM42_7 : (M42.1 175 7).toInt = (M11.1 175 7).toInt := tl_slot (h43.1 175 7 (show ¬ ((175 = 175 ∧ 7 = 15)) by decide))
    have mM42_12 : (M42.1 175 12).toInt = (M11.1 175 12).toInt := tl_slot (h43.1 175 12 (show ¬ ((175 = 175 ∧ 12 = 15)) by decide))
    have mM42_13 : (M42.1 175 13).toInt = (M11.1 175 13).toInt := tl_slot (h43.1 175 13 (show ¬ ((175 = 175 ∧ 13 = 15)) by decide))
    have mM42_14 : (M42.1 175 14).toInt = (M11.1 175 14).toInt := tl_slot (h43.1 175 14 (show ¬ ((175 = 175 ∧ 14 = 15)) by decide))
    have mM42_48 : (M42.1 175 48).toInt = (M11.1 175 48).toInt := tl_slot (h43.1 175 48 (show ¬ ((175 = 175 ∧ 48 = 15)) by decide))
    have Pcq_M42 : li_cq (M42.1 182) ((M42.1 175 15).toInt) ((x10 : Int32).toInt) := li_cq_tr (funext fun i => h43.1 182 i (show ¬ ((182 = 175 ∧ i = 15)) by first | (simp; done) | omega)) (fun h9 => by omega) (by omega) Pcq_M11
    have bM42 : M42.2.2 0 = some 180 := (h43.2.2 0 (fun h9 => by first | exact (h9 : False).elim | (simp at h9; done) | omega)).trans bM11
    refine li_pick [0, 1, 2] [(2, .int x9), (1, .int x10), (0, .ref (Z.2.2 175))] rfl ?_
    exact J109  M42 hf hJ ⟨(by omega), (by omega), (by omega), (fun hq0 => ⟨(Int.le_antisymm (by omega) (by omega)), (by omega)⟩), (fun hq0 => (by omega)), (Int.le_antisymm (by omega) (by omega)), (by omega), (Int.le_antisymm (by omega) (by omega)), (Int.le_antisymm (by omega) (by omega))⟩ (by first | exact li_cq_tr rfl (fun h9 => by omega) (by omega) Pcq_M42 | exact li_cq_bad (by omega) | exact li_cq_0 (by omega))
