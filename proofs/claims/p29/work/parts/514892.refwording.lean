theorem by_let {M : li_M} (hJ : li_J M) {x i : Int32} {len k : Int} (e : x = M.1 180 i.toNatClampNeg) (hiZq : i.toInt = k) (h0 : 0 ≤ k) (hk : k < len) : (97 ≤ x.toInt ∧ x.toInt ≤ 103 → rd_ch (li_by (M.1 180)) len k = x.toInt) ∧ (¬ (97 ≤ x.toInt ∧ x.toInt ≤ 103) → ¬ (97 ≤ rd_ch (li_by (M.1 180)) len k ∧ rd_ch (li_by (M.1 180)) len k ≤ 103)) := by
  have h9 := li_cl (i := i) (by omega)
  have b := hJ.byte (q := 180) (by unfold li_rq; omega) i.toNatClampNeg
  rw [← e] at b
  have c : rd_ch (li_by (M.1 180)) len k = (x &&& 255).toInt := by
    unfold rd_ch
    rw [if_pos hk, show k.toNat = i.toNatClampNeg by omega]
    show (M.1 180 i.toNatClampNeg &&& 255).toInt = _
    rw [← e]
  rw [c]
  constructor
  · intro r
    rcases (show x.toInt = 97 ∨ x.toInt = 98 ∨ x.toInt = 99 ∨ x.toInt = 100 ∨ x.toInt = 101 ∨ x.toInt = 102 ∨ x.toInt = 103 by omega) with q | q | q | q | q | q | q
    · rw [show x = 97 from Int32.toInt_inj.mp q]; decide
    · rw [show x = 98 from Int32.toInt_inj.mp q]; decide
    · rw [show x = 99 from Int32.toInt_inj.mp q]; decide
    · rw [show x = 100 from Int32.toInt_inj.mp q]; decide
    · rw [show x = 101 from Int32.toInt_inj.mp q]; decide
    · rw [show x = 102 from Int32.toInt_inj.mp q]; decide
    · rw [show x = 103 from Int32.toInt_inj.mp q]; decide
  · intro r s
    have t := tl_byte b (by omega)
    rw [← t] at s
    exact r s
abbrev li_lr (g : Nat → Int32) (len k p q : Int) : Prop := li_lq (li_by g) len k p q
theorem li_lr_tr {g g' : Nat → Int32} {len len' k k' p p' q q' : Int} (hg : g' = g) (h1 : len' = len) (h2 : k' = k) (h3 : p' = p) (h4 : q' = q) (hZq : li_lr g len k p q) : li_lr g' len' k' p' q' := li_lq_tr (congrArg li_by hg) h1 h2 h3 h4 hZq
def li_jl (g GZq : Nat → Int32) (l : Int) (a b x : Int32) : Prop := x = cy_jl GZq a b l.toNat
theorem li_jl_tr {g g' GZq G' : Nat → Int32} {l l' : Int} {a a' b b' x x' : Int32} (hg : g' = g) (h1 : G' = GZq) (h2 : l' = l) (h3 : a' = a) (h4 : b' = b) (h5 : x' = x) (hZq : li_jl g GZq l a b x) : li_jl g' G' l' a' b' x' := by
  subst hg; subst h1; subst h2; subst h3; subst h4; subst h5; exact hZq
theorem li_jl_0 {g GZq : Nat → Int32} {l : Int} {a b : Int32} (hl : l = 0) : li_jl g GZq l a b 0 := by subst hl; rfl
def li_js (g GZq : Nat → Int32) (l : Int) (a b x y : Int32) : Prop := x ||| y = cy_jl GZq a b (l + 1).toNat
theorem li_js_yes {g GZq : Nat → Int32} {l : Int} {a b x y u v wZq : Int32} (hZq : li_jl g GZq l a b x) (hl : 0 ≤ l) (hu : u = GZq (3 * l).toNat) (hv : v = GZq (3 * l + 1).toNat) (hw : wZq = GZq (3 * l + 2).toNat) (haZq : lb_bit a u.toInt.toNat = true) (hbZq : lb_bit b v.toInt.toNat = true) (hy : y = 1 <<< (wZq &&& 31)) : li_js g GZq l a b x y := by
  unfold li_js
  unfold li_jl at hZq
  rw [show (l + 1).toNat = l.toNat + 1 by omega, cy_jl, if_pos ⟨by rw [show 3 * l.toNat = (3 * l).toNat by omega, ← hu]; exact haZq, by rw [show 3 * l.toNat + 1 = (3 * l + 1).toNat by omega, ← hv]; exact hbZq⟩, show 3 * l.toNat + 2 = (3 * l + 2).toNat by omega, ← hw, ← hZq, hy]
theorem li_js_no {g GZq : Nat → Int32} {l : Int} {a b x y u : Int32} (hZq : li_jl g GZq l a b x) (hl : 0 ≤ l) (hu : u = GZq (3 * l).toNat) (haZq : ¬ lb_bit a u.toInt.toNat = true) (hy : y = 0) : li_js g GZq l a b x y := by
  unfold li_js
  unfold li_jl at hZq
  rw [show (l + 1).toNat = l.toNat + 1 by omega, cy_jl, if_neg (fun zZq => haZq (by rw [hu, show (3 * l).toNat = 3 * l.toNat by omega]; exact zZq.1)), ← hZq, hy, Int32.or_zero]
theorem li_js_no2 {g GZq : Nat → Int32} {l : Int} {a b x y v : Int32} (hZq : li_jl g GZq l a b x) (hl : 0 ≤ l) (hv : v = GZq (3 * l + 1).toNat) (hbZq : ¬ lb_bit b v.toInt.toNat = true) (hy : y = 0) : li_js g GZq l a b x y := by
  unfold li_js
  unfold li_jl at hZq
  rw [show (l + 1).toNat = l.toNat + 1 by omega, cy_jl, if_neg (fun zZq => hbZq (by rw [hv, show (3 * l + 1).toNat = 3 * l.toNat + 1 by omega]; exact zZq.2)), ← hZq, hy, Int32.or_zero]
theorem li_jl_go {g GZq : Nat → Int32} {l l' : Int} {a b x y zZq : Int32} (hZq : li_js g GZq l a b x y) (e : zZq = x ||| y) (hl : l' = l + 1) : li_jl g GZq l' a b zZq := by
  subst hl
  unfold li_jl
  rw [e]
  exact hZq
/-- a place's sets, so manyZq cutsZq in -/
def li_cu (T GZq X : Nat → Int32) (m f s c : Int) (b : Int32) : Prop := b = (if s = 1 then 1 <<< (X f.toNat &&& 31) else cy_cf T GZq m.toNat f.toNat s.toNat (c - 1).toNat)
theorem li_cu_tr {T T' GZq G' X X' : Nat → Int32} {m m' f f' s s' c c' : Int} {b b' : Int32} (hTZq : T' = T) (h1 : G' = GZq) (h2 : X' = X) (h3 : m' = m) (h4 : f' = f) (h5 : s' = s) (h6 : c' = c) (h7 : b' = b) (hZq : li_cu T GZq X m f s c b) : li_cu T' G' X' m' f' s' c' b' := by
  subst hTZq; subst h1; subst h2; subst h3; subst h4; subst h5; subst h6; subst h7; exact hZq
theorem li_cu_1 {T GZq X : Nat → Int32} {m f s c : Int} {b y : Int32} (hs : s = 1) (hbZq : b = 1 <<< (y &&& 31)) (hy : y = X f.toNat) : li_cu T GZq X m f s c b := by
  unfold li_cu
  rw [if_pos hs, hbZq, hy]
theorem li_cu_0 {T GZq X : Nat → Int32} {m f s c : Int} {b : Int32} (hs : ¬ s = 1) (hbZq : b = 0) (hcZq : c = 1) : li_cu T GZq X m f s c b := by
  unfold li_cu
  rw [if_neg hs, hbZq, hcZq]
  rfl
theorem li_cu_st {T GZq X : Nat → Int32} {m f s c c' : Int} {b b' x y zZq : Int32} (hZq : li_cu T GZq X m f s c b) (hs : 2 ≤ s) (hcZq : 1 ≤ c) (hcs : c ≤ s) (hf : 0 ≤ f) (ex : x = T (16 * f + c).toNat) (ey : y = T (16 * (f + c) + (s - c)).toNat) (ez : zZq = cy_jl GZq x y m.toNat) (eb : b' = b ||| zZq) (ec : c' = c + 1) : li_cu T GZq X m f s c' b' := by
  unfold li_cu at hZq ⊢
  rw [if_neg (by omega)] at hZq ⊢
  subst ec
  rw [show (c + 1 - 1).toNat = (c - 1).toNat + 1 by omega, cy_cf, eb, hZq, ez, ex, ey, show (c - 1).toNat + 1 = c.toNat by omega, show (16 * f + c).toNat = 16 * f.toNat + c.toNat by omega, show (16 * (f + c) + (s - c)).toNat = 16 * (f.toNat + c.toNat) + (s.toNat - c.toNat) by omega]
theorem li_cu_end {T GZq X : Nat → Int32} {m f s c : Int} {b : Int32} (hZq : li_cu T GZq X m f s c b) (hs : 1 ≤ s) (hcZq : s ≤ c) (hc' : c ≤ s) : b = cy_v T GZq X m.toNat s.toNat f.toNat := by
  unfold li_cu at hZq
  unfold cy_v
  by_cases d : s = 1
  · rw [if_pos d] at hZq
    rw [if_pos (by omega)]
    exact hZq
  · rw [if_neg d] at hZq
    rw [if_neg (by omega), hZq, show (c - 1).toNat = s.toNat - 1 by omega]
abbrev li_cz (T GZq X : Nat → Int32) (m n SZq FZq : Int) : Prop := li_cy T GZq X m n SZq FZq
theorem li_cz_tr {T T' GZq G' X X' : Nat → Int32} {m m' n n' SZq S' FZq F' : Int} (hTZq : T' = T) (h1 : G' = GZq) (h2 : X' = X) (h3 : m' = m) (h4 : n' = n) (h5 : S' = SZq) (h6 : F' = FZq) (hZq : li_cz T GZq X m n SZq FZq) : li_cz T' G' X' m' n' S' F' := li_cy_tr hTZq h1 h2 h3 h4 h5 h6 hZq
theorem ui_is {M M' : li_M} {c : Nat} {jZq : Nat} {v : Int32} (e : M' = li_ui M c jZq v) : ∀ k : Nat, M'.1 c k = if k = jZq then v else M.1 c k := fun k => by
  rw [e, li_ui_at, if_pos rfl]

set_option maxRecDepth 100000 in
set_option maxHeartbeats 4000000 in
theorem k13_X12_has {l : Launch} {Z : li_Z} (d : Nat) (hdZq : 1 ≤ d) (p1Zq p2Zq : Int32) (M0 : li_M) (hJ : li_J M0) (h1 : 0 ≤ p2Zq.toInt ∧ p2Zq.toInt ≤ 31) : li_Met l Z YX12_has d [.int p1Zq, .int p2Zq] M0 (fun r M' => ((r = some (.int 1) ∧ (lb_bit p1Zq p2Zq.toInt.toNat = true)) ∨ (r = some (.int 0) ∧ (¬ lb_bit p1Zq p2Zq.toInt.toNat = true))) ∧ li_fs (fun i k => False) M0 M' ∧ li_J M') := by
  refine li_enter (by decide +kernel) (Nat.le_of_ble_eq_true rfl) ?_
  show li_T l Z YX12_has d 0 [(0, .int p1Zq), (1, .int p2Zq)] [] M0 _
  have hf : li_fs (fun i k => False) M0 M0 := li_fs_refl
  have gp1 := tl_rg p1Zq
  have gp2 := tl_rg p2Zq
  refine li_iload_n 0 dX12_has_0 rfl ?_
  refine li_iload_n 1 dX12_has_1 rfl ?_
  refine li_ishr dX12_has_2 ?_
  refine li_top (fun x1Zq ex1 => ?_)
  refine li_iconst 1 dX12_has_3 (by decide) ?_
  refine li_iand dX12_has_4 ?_
  refine li_top (fun x2Zq ex2Zq => ?_)
  have z1 : (1 : Int32).toInt = 1 := rfl
  have tx2 := tl_and1 ex2Zq
  refine li_iconst 1 dX12_has_5 (by decide) ?_
  refine li_icmp_ne 13 dX12_has_6 (by decide) (fun c3 => ?_) (fun c3 => ?_)
  · have tc3 : ¬ x2Zq.toInt = 1 := tl_ne c3
    have hbZq := lb_hasnt h1 ex1 ex2Zq (fun h9 => by have h8 := congrArg Int32.toInt h9; have h7 : (1 : Int32).toInt = 1 := rfl; omega)
    refine li_iconst 0 dX12_has_13 (by decide) ?_
    have z0 : (0 : Int32).toInt = 0 := rfl
    exact li_iret dX12_has_14 rfl (li_nz (Or.inl rfl)) ⟨Or.inr ⟨rfl, (by exact hbZq)⟩, hf, hJ⟩
  · have tc3 : x2Zq.toInt = 1 := tl_eq c3
    have hbZq := lb_has h1 ex1 ex2Zq (Int32.toInt_inj.mp (show x2Zq.toInt = (1 : Int32).toInt by omega))
    refine li_iconst 1 dX12_has_9 (by decide) ?_
    refine li_goto 14 dX12_has_10 (by decide) ?_
    have z1 : (1 : Int32).toInt = 1 := rfl
    exact li_iret dX12_has_14 rfl (li_nz (Or.inr rfl)) ⟨Or.inl ⟨rfl, (by exact hbZq)⟩, hf, hJ⟩
set_option maxRecDepth 100000 in
set_option maxHeartbeats 4000000 in
theorem k13_X12_joined {l : Launch} {Z : li_Z} (d : Nat) (hdZq : 2 ≤ d) (p1Zq p2Zq : Int32) (M0 : li_M) (hJ : li_J M0) (GZq : Nat → Int32) (hG : M0.1 193 = GZq) (m : Int) (hmZq : m = (M0.1 175 38).toInt) (hmr : 0 ≤ m ∧ m ≤ 10) (hGr : ∀ i : Nat, (i : Int) < 3 * m → 0 ≤ (GZq i).toInt ∧ (GZq i).toInt ≤ 6) : li_Met l Z YX12_joined d [.ref (Z.2.2 175), .int p1Zq, .int p2Zq] M0 (fun r M' => (∃ x : Int32, r = some (.int x) ∧ (x = cy_jl GZq p1Zq p2Zq m.toNat)) ∧ li_fs (fun i k => False) M0 M' ∧ li_J M') := by
  refine li_enter (by decide +kernel) (Nat.le_of_ble_eq_true rfl) ?_
  show li_T l Z YX12_joined d 0 [(0, .ref (Z.2.2 175)), (1, .int p1Zq), (2, .int p2Zq)] [] M0 _
  have hf : li_fs (fun i k => False) M0 M0 := li_fs_refl
  have gp1 := tl_rg p1Zq
  have gp2 := tl_rg p2Zq
  have rM0_38 := J_sl38 (M := M0) hJ
  refine li_iconst 0 dX12_joined_0 (by decide) ?_
  refine li_istore_n [(3, .int 0), (0, .ref (Z.2.2 175)), (1, .int p1Zq), (2, .int p2Zq)] dX12_joined_1 (by decide) rfl ?_
  refine li_iconst 0 dX12_joined_2 (by decide) ?_
  refine li_istore [(4, .int 0), (3, .int 0), (0, .ref (Z.2.2 175)), (1, .int p1Zq), (2, .int p2Zq)] dX12_joined_3 (by decide) rfl ?_
  have L5Zq : ∀ (n : Nat) (x1Zq : Int32) (x2Zq : Int32) (M3Zq : li_M), (m - (x1Zq : Int32).toInt).toNat < n → li_fs (fun i k => False) M0 M3Zq → li_J M3Zq → 0 ≤ (x1Zq : Int32).toInt ∧ (x1Zq : Int32).toInt ≤ m ∧ (M3Zq.1 175 38).toInt = m → li_jl (M3Zq.1 193) (GZq) ((x1Zq : Int32).toInt) (p1Zq) (p2Zq) ((x2Zq : Int32)) → li_T l Z YX12_joined d 5 [(4, .int x1Zq), (3, .int x2Zq), (0, .ref (Z.2.2 175)), (1, .int p1Zq), (2, .int p2Zq)] [] M3Zq (fun r M' => (∃ x : Int32, r = some (.int x) ∧ (x = cy_jl GZq p1Zq p2Zq m.toNat)) ∧ li_fs (fun i k => False) M0 M' ∧ li_J M') := by
    intro n
    induction n with
    | zero => intro x1Zq x2Zq M3Zq hn; exact absurd hn (Nat.not_lt_zero _)
    | succ n ih5 =>
      intro x1Zq x2Zq M3Zq hn hf hJ hiZq Pjl_M3
      have gx1 := tl_rg x1Zq
      have gx2 := tl_rg x2Zq
      have rM3_38 := J_sl38 (M := M3Zq) hJ
      have mM3_38 : (M3Zq.1 175 38).toInt = (M0.1 175 38).toInt := tl_slot (hf.1 175 38 id)
      refine li_iload 0 dX12_joined_5 rfl ?_
      refine li_aload_n 2 dX12_joined_7 rfl ?_
      refine li_geti (k := 38) (N := 52) (T := TX12) (C0 := RX12) dX12_joined_8 (by decide) sh_175 rfl rfl (by decide) li_in12 w_1442 ?_
      refine li_top (fun x4Zq ex4 => ?_)
      have gx4 : 0 ≤ x4Zq.toInt ∧ x4Zq.toInt ≤ 10 := by rw [ex4]; exact J_sl38 hJ
      have mx4 : x4Zq.toInt = (M3Zq.1 175 38).toInt := tl_slot ex4
      have sx4 : x4Zq.toInt = (M0.1 175 38).toInt := tl_slot (ex4.trans (hf.1 175 38 id))
      refine li_icmp_ge 74 dX12_joined_11 (by decide) (fun c5Zq => ?_) (fun c5Zq => ?_)
      · have tc5 : x4Zq.toInt ≤ x1Zq.toInt := tl_le c5Zq
        have jl9 : x2Zq = cy_jl GZq p1Zq p2Zq m.toNat := by have h9 := Pjl_M3; unfold li_jl at h9; rw [h9, show (x1Zq : Int32).toInt = m by omega]
        refine li_iload_n 1 dX12_joined_74 rfl ?_
        exact li_iret dX12_joined_75 rfl rfl ⟨⟨_, rfl, (by exact jl9)⟩, hf, hJ⟩
      · have tc5 : x1Zq.toInt < x4Zq.toInt := tl_nle c5Zq
        have jl0 := Pjl_M3
        refine li_iload_n 1 dX12_joined_14 rfl ?_
        refine li_iload_n 3 dX12_joined_15 rfl ?_
        refine li_aload_n 2 dX12_joined_16 rfl ?_
        refine li_getr (k := 36) (N := 52) (T := TX12) (C0 := RX12) dX12_joined_17 (by decide) sh_175 rfl rfl (by decide) (by decide) li_in12 w_1440 ?_
        refine li_iconst 3 dX12_joined_20 (by decide) ?_
        refine li_iload 0 dX12_joined_21 rfl ?_
        refine li_imul dX12_joined_23 ?_
        refine li_top (fun x6 ex6 => ?_)
        have z3 : (3 : Int32).toInt = 3 := rfl
        try (have tx6 : x6.toInt = 3 * (x1Zq : Int32).toInt := tl_mul ex6 (show -2147483648 ≤ 3 * (x1Zq : Int32).toInt ∧ 3 * (x1Zq : Int32).toInt ≤ 2147483647 by omega))
        refine li_iald dX12_joined_24 (by decide) sh_193 (tl_in (by omega)) ?_
        refine li_top (fun x7 ex7 => ?_)
        have gx7 := tl_rg x7
        have ga1 : x7 = GZq (3 * (x1Zq : Int32).toInt).toNat := by rw [ex7, show M3Zq.1 193 = GZq from (funext fun i => hf.1 193 i (by first | exact id | omega)).trans hG]; exact nat_at (Int.le_antisymm (by omega) (by omega)) (by omega)
        have rga1 := hGr (3 * (x1Zq : Int32).toInt).toNat (by omega)
        rw [← ga1] at rga1
        refine li_callS (n := 2) (As := [.int p1Zq, .int x7]) dX12_joined_25 (k13_X12_has (d - 1) (by omega) p1Zq x7 M3Zq hJ ⟨by omega, by omega⟩) (by omega) (Nat.le_of_ble_eq_true rfl) w_1734 w_1735 w_112 w_1736 (by decide +kernel) rfl rfl (Nat.le_of_ble_eq_true rfl) (fun r M9Zq h10 => ?_)
        obtain ⟨qx8, h10, jM9⟩ := h10
        have hf := li_fs_trans hf h10 (fun i k hZq => False.elim hZq)
        have hJ := jM9
        have rM9_38 := J_sl38 (M := M9Zq) hJ
        have mM9_38 : (M9Zq.1 175 38).toInt = (M3Zq.1 175 38).toInt := tl_slot (h10.1 175 38 id)
        have Pjl_M9 : li_jl (M9Zq.1 193) (GZq) ((x1Zq : Int32).toInt) (p1Zq) (p2Zq) ((x2Zq : Int32)) := li_jl_tr (funext fun i => h10.1 193 i id) rfl (Int.le_antisymm (by omega) (by omega)) rfl rfl rfl Pjl_M3
        rcases qx8 with ⟨rfl, qx8⟩ | ⟨rfl, qx8⟩
        · skip
          refine li_if_eq 65 dX12_joined_28 (by decide) (fun c => absurd c (by decide)) (fun c => ?_)
          have hy1 := qx8
          refine li_iload_n 4 dX12_joined_31 rfl ?_
          refine li_aload_n 2 dX12_joined_32 rfl ?_
          refine li_getr (k := 36) (N := 52) (T := TX12) (C0 := RX12) dX12_joined_33 (by decide) sh_175 rfl rfl (by decide) (by decide) li_in12 w_1440 ?_
          refine li_iconst 3 dX12_joined_36 (by decide) ?_
          refine li_iload 0 dX12_joined_37 rfl ?_
          refine li_imul dX12_joined_39 ?_
          refine li_top (fun x12 ex12 => ?_)
          have z3 : (3 : Int32).toInt = 3 := rfl
          try (have tx12 : x12.toInt = 3 * (x1Zq : Int32).toInt := tl_mul ex12 (show -2147483648 ≤ 3 * (x1Zq : Int32).toInt ∧ 3 * (x1Zq : Int32).toInt ≤ 2147483647 by omega))
          refine li_iconst 1 dX12_joined_40 (by decide) ?_
          refine li_iadd dX12_joined_41 ?_
          refine li_top (fun x13 ex13 => ?_)
          have z1 : (1 : Int32).toInt = 1 := rfl
          try (have tx13 : x13.toInt = (x12 : Int32).toInt + (1 : Int32).toInt := tl_add ex13 (by omega))
          refine li_iald dX12_joined_42 (by decide) sh_193 (tl_in (by omega)) ?_
          refine li_top (fun x14 ex14 => ?_)
          have gx14 := tl_rg x14
          have ga2 : x14 = GZq (3 * (x1Zq : Int32).toInt + 1).toNat := by rw [ex14, show M9Zq.1 193 = GZq from (funext fun i => hf.1 193 i (by first | exact id | omega)).trans hG]; exact nat_at (Int.le_antisymm (by omega) (by omega)) (by omega)
          have rga2 := hGr (3 * (x1Zq : Int32).toInt + 1).toNat (by omega)
          rw [← ga2] at rga2
          refine li_callS (n := 2) (As := [.int p2Zq, .int x14]) dX12_joined_43 (k13_X12_has (d - 1) (by omega) p2Zq x14 M9Zq hJ ⟨by omega, by omega⟩) (by omega) (Nat.le_of_ble_eq_true rfl) w_1734 w_1735 w_112 w_1736 (by decide +kernel) rfl rfl (Nat.le_of_ble_eq_true rfl) (fun r M16 h17 => ?_)
          obtain ⟨qx15, h17, jM16⟩ := h17
          have hf := li_fs_trans hf h17 (fun i k hZq => False.elim hZq)
          have hJ := jM16
          have rM16_38 := J_sl38 (M := M16) hJ
          have mM16_38 : (M16.1 175 38).toInt = (M9Zq.1 175 38).toInt := tl_slot (h17.1 175 38 id)
          have Pjl_M16 : li_jl (M16.1 193) (GZq) ((x1Zq : Int32).toInt) (p1Zq) (p2Zq) ((x2Zq : Int32)) := li_jl_tr (funext fun i => h17.1 193 i id) rfl (Int.le_antisymm (by omega) (by omega)) rfl rfl rfl Pjl_M9
          rcases qx15 with ⟨rfl, qx15⟩ | ⟨rfl, qx15⟩
          · skip
            refine li_if_eq 65 dX12_joined_46 (by decide) (fun c => absurd c (by decide)) (fun c => ?_)
            have hy2 := qx15
            refine li_iconst 1 dX12_joined_49 (by decide) ?_
            refine li_aload_n 2 dX12_joined_50 rfl ?_
            refine li_getr (k := 36) (N := 52) (T := TX12) (C0 := RX12) dX12_joined_51 (by decide) sh_175 rfl rfl (by decide) (by decide) li_in12 w_1440 ?_
            refine li_iconst 3 dX12_joined_54 (by decide) ?_
            refine li_iload 0 dX12_joined_55 rfl ?_
            refine li_imul dX12_joined_57 ?_
            refine li_top (fun x19 ex19 => ?_)
            have z3 : (3 : Int32).toInt = 3 := rfl
            try (have tx19 : x19.toInt = 3 * (x1Zq : Int32).toInt := tl_mul ex19 (show -2147483648 ≤ 3 * (x1Zq : Int32).toInt ∧ 3 * (x1Zq : Int32).toInt ≤ 2147483647 by omega))
            refine li_iconst 2 dX12_joined_58 (by decide) ?_
            refine li_iadd dX12_joined_59 ?_
            refine li_top (fun x20 ex20 => ?_)
            have z2 : (2 : Int32).toInt = 2 := rfl
            try (have tx20 : x20.toInt = (x19 : Int32).toInt + (2 : Int32).toInt := tl_add ex20 (by omega))
            refine li_iald dX12_joined_60 (by decide) sh_193 (tl_in (by omega)) ?_
            refine li_top (fun x21 ex21 => ?_)
            have gx21 := tl_rg x21
            have ga3 : x21 = GZq (3 * (x1Zq : Int32).toInt + 2).toNat := by rw [ex21, show M16.1 193 = GZq from (funext fun i => hf.1 193 i (by first | exact id | omega)).trans hG]; exact nat_at (Int.le_antisymm (by omega) (by omega)) (by omega)
            have rga3 := hGr (3 * (x1Zq : Int32).toInt + 2).toNat (by omega)
            rw [← ga3] at rga3
            refine li_ishl dX12_joined_61 ?_
            refine li_top (fun x22 ex22 => ?_)
            have z1 : (1 : Int32).toInt = 1 := rfl
            try (have tx22 := tl_shl255 ex22 (by omega))
            have or1 := ex22
            refine li_goto 66 dX12_joined_62 (by decide) ?_
            refine li_ior dX12_joined_66 ?_
            refine li_top (fun x23 ex23 => ?_)
            try (have tx23 := tl_or255 ex23 (by omega) (by omega))
            have or9 := ex23
            refine li_istore_n [(3, .int x23), (4, .int x1Zq), (0, .ref (Z.2.2 175)), (1, .int p1Zq), (2, .int p2Zq)] dX12_joined_67 (by decide) rfl ?_
            obtain ⟨x24, ex24⟩ : ∃ y : Int32, y = x1Zq + 1 := ⟨_, rfl⟩
            have z1 : (1 : Int32).toInt = 1 := rfl
            try (have tx24 : x24.toInt = (x1Zq : Int32).toInt + (1 : Int32).toInt := tl_add ex24 (by omega))
            refine li_iinc 1 [(4, .int x24), (3, .int x23), (0, .ref (Z.2.2 175)), (1, .int p1Zq), (2, .int p2Zq)] x24 dX12_joined_68 rfl (by rw [ex24]; rfl) (by decide) rfl ?_
            refine li_goto 5 dX12_joined_71 (by decide) ?_
            refine li_pick [0, 1, 2, 3, 4] [(4, .int x24), (3, .int x23), (0, .ref (Z.2.2 175)), (1, .int p1Zq), (2, .int p2Zq)] rfl ?_
            exact ih5 x24 x23 M16 (by omega) hf hJ (by omega) (by first | exact li_jl_go (li_js_yes jl0 (by omega) ga1 ga2 ga3 hy1 hy2 or1) or9 ((Int.le_antisymm (by omega) (by omega))) | exact li_jl_go (li_js_no2 jl0 (by omega) ga2 (by assumption) rfl) or9 ((Int.le_antisymm (by omega) (by omega))) | exact li_jl_go (li_js_no jl0 (by omega) ga1 (by assumption) rfl) or9 ((Int.le_antisymm (by omega) (by omega))) | exact li_jl_0 ((Int.le_antisymm (by omega) (by omega))) | exact li_jl_tr rfl rfl (Int.le_antisymm (by omega) (by omega)) rfl rfl rfl Pjl_M16)
          · skip
            refine li_if_eq 65 dX12_joined_46 (by decide) (fun c => ?_) (fun c => absurd rfl c)
            refine li_iconst 0 dX12_joined_65 (by decide) ?_
            refine li_ior dX12_joined_66 ?_
            refine li_top (fun x26 ex26 => ?_)
            have z0 : (0 : Int32).toInt = 0 := rfl
            try (have tx26 := tl_or255 ex26 (by omega) (by omega))
            have or9 := ex26
            refine li_istore_n [(3, .int x26), (4, .int x1Zq), (0, .ref (Z.2.2 175)), (1, .int p1Zq), (2, .int p2Zq)] dX12_joined_67 (by decide) rfl ?_
            obtain ⟨x27, ex27⟩ : ∃ y : Int32, y = x1Zq + 1 := ⟨_, rfl⟩
            have z1 : (1 : Int32).toInt = 1 := rfl
            try (have tx27 : x27.toInt = (x1Zq : Int32).toInt + (1 : Int32).toInt := tl_add ex27 (by omega))
            refine li_iinc 1 [(4, .int x27), (3, .int x26), (0, .ref (Z.2.2 175)), (1, .int p1Zq), (2, .int p2Zq)] x27 dX12_joined_68 rfl (by rw [ex27]; rfl) (by decide) rfl ?_
            refine li_goto 5 dX12_joined_71 (by decide) ?_
            refine li_pick [0, 1, 2, 3, 4] [(4, .int x27), (3, .int x26), (0, .ref (Z.2.2 175)), (1, .int p1Zq), (2, .int p2Zq)] rfl ?_
            exact ih5 x27 x26 M16 (by omega) hf hJ (by omega) (by first | exact li_jl_go (li_js_yes jl0 (by omega) ga1 ga2 ga3 hy1 hy2 or1) or9 ((Int.le_antisymm (by omega) (by omega))) | exact li_jl_go (li_js_no2 jl0 (by omega) ga2 (by assumption) rfl) or9 ((Int.le_antisymm (by omega) (by omega))) | exact li_jl_go (li_js_no jl0 (by omega) ga1 (by assumption) rfl) or9 ((Int.le_antisymm (by omega) (by omega))) | exact li_jl_0 ((Int.le_antisymm (by omega) (by omega))) | exact li_jl_tr rfl rfl (Int.le_antisymm (by omega) (by omega)) rfl rfl rfl Pjl_M16)
        · skip
          refine li_if_eq 65 dX12_joined_28 (by decide) (fun c => ?_) (fun c => absurd rfl c)
          refine li_iconst 0 dX12_joined_65 (by decide) ?_
          refine li_ior dX12_joined_66 ?_
          refine li_top (fun x29 ex29 => ?_)
          have z0 : (0 : Int32).toInt = 0 := rfl
          try (have tx29 := tl_or255 ex29 (by omega) (by omega))
          have or9 := ex29
          refine li_istore_n [(3, .int x29), (4, .int x1Zq), (0, .ref (Z.2.2 175)), (1, .int p1Zq), (2, .int p2Zq)] dX12_joined_67 (by decide) rfl ?_
          obtain ⟨x30, ex30⟩ : ∃ y : Int32, y = x1Zq + 1 := ⟨_, rfl⟩
          have z1 : (1 : Int32).toInt = 1 := rfl
          try (have tx30 : x30.toInt = (x1Zq : Int32).toInt + (1 : Int32).toInt := tl_add ex30 (by omega))
          refine li_iinc 1 [(4, .int x30), (3, .int x29), (0, .ref (Z.2.2 175)), (1, .int p1Zq), (2, .int p2Zq)] x30 dX12_joined_68 rfl (by rw [ex30]; rfl) (by decide) rfl ?_
          refine li_goto 5 dX12_joined_71 (by decide) ?_
          refine li_pick [0, 1, 2, 3, 4] [(4, .int x30), (3, .int x29), (0, .ref (Z.2.2 175)), (1, .int p1Zq), (2, .int p2Zq)] rfl ?_
          exact ih5 x30 x29 M9Zq (by omega) hf hJ (by omega) (by first | exact li_jl_go (li_js_yes jl0 (by omega) ga1 ga2 ga3 hy1 hy2 or1) or9 ((Int.le_antisymm (by omega) (by omega))) | exact li_jl_go (li_js_no2 jl0 (by omega) ga2 (by assumption) rfl) or9 ((Int.le_antisymm (by omega) (by omega))) | exact li_jl_go (li_js_no jl0 (by omega) ga1 (by assumption) rfl) or9 ((Int.le_antisymm (by omega) (by omega))) | exact li_jl_0 ((Int.le_antisymm (by omega) (by omega))) | exact li_jl_tr rfl rfl (Int.le_antisymm (by omega) (by omega)) rfl rfl rfl Pjl_M9)
  have z0 : (0 : Int32).toInt = 0 := rfl
  have z0 : (0 : Int32).toInt = 0 := rfl
  exact L5Zq _ 0 0 M0 (Nat.lt_succ_self _) hf hJ (by omega) (by first | exact li_jl_go (li_js_yes jl0 (by omega) ga1 ga2 ga3 hy1 hy2 or1) or9 ((Int.le_antisymm (by omega) (by omega))) | exact li_jl_go (li_js_no2 jl0 (by omega) ga2 (by assumption) rfl) or9 ((Int.le_antisymm (by omega) (by omega))) | exact li_jl_go (li_js_no jl0 (by omega) ga1 (by assumption) rfl) or9 ((Int.le_antisymm (by omega) (by omega))) | exact li_jl_0 ((Int.le_antisymm (by omega) (by omega))))

set_option maxRecDepth 100000 in
set_option maxHeartbeats 4000000 in
theorem k13_X12_readWording {l : Launch} {Z : li_Z} (d : Nat) (hdZq : 3 ≤ d) (M0 : li_M) (hJ : li_J M0) (TY Q : Int) (hTY : TY = (M0.1 175 7).toInt) (Plr_M0 : li_lr (M0.1 180) (TY) (80) (0) (Q)) (GZq : Nat → Int32) (hG : M0.1 193 = GZq) (m : Int) (hmZq : m = (M0.1 175 38).toInt) (hmr : 0 ≤ m ∧ m ≤ 10) (hGr : ∀ i : Nat, (i : Int) < 3 * m → 0 ≤ (GZq i).toInt ∧ (GZq i).toInt ≤ 6) : li_Met l Z YX12_readWording d [.ref (Z.2.2 175)] M0 (fun r M' => (∃ x : Int32, r = some (.int x) ∧ ((((TY = 0 ∧ x.toInt = -1) ∨ (0 < TY ∧ Q < TY ∧ Q ≤ 14 ∧ x.toInt = -1 - Q) ∨ (0 < TY ∧ Q < TY ∧ 14 < Q ∧ x.toInt = -15) ∨ (0 < TY ∧ Q = TY ∧ 14 < TY ∧ x.toInt = -15)) ∧ x.toInt < 0) ∨ (0 < TY ∧ Q = TY ∧ TY ≤ 14 ∧ x.toInt = 0 ∧ (M'.1 175 40).toInt = TY ∧ li_cy (M'.1 195) GZq (fun i => M0.1 180 i - 97) m (TY) (TY + 1) 0))) ∧ li_fs (fun i k => i = 195 ∨ (i = 175 ∧ k = 40) ∨ (i = 175 ∧ k = 7)) M0 M' ∧ li_J M' ∧ (M'.1 175 7).toInt = 0) := by
  refine li_enter (by decide +kernel) (Nat.le_of_ble_eq_true rfl) ?_
  show li_T l Z YX12_readWording d 0 [(0, .ref (Z.2.2 175))] [] M0 _
  have hf : li_fs (fun i k => i = 195 ∨ (i = 175 ∧ k = 40) ∨ (i = 175 ∧ k = 7)) M0 M0 := li_fs_refl
  have rM0_7 := J_sl7 (M := M0) hJ
  have rM0_38 := J_sl38 (M := M0) hJ
  have rM0_40 := J_sl40 (M := M0) hJ
  refine li_aload_n 0 dX12_readWording_0 rfl ?_
  refine li_geti (k := 7) (N := 52) (T := TX12) (C0 := RX12) dX12_readWording_1 (by decide) sh_175 rfl rfl (by decide) li_in12 w_1411 ?_
  refine li_top (fun x1Zq ex1 => ?_)
  have gx1 : 0 ≤ x1Zq.toInt ∧ x1Zq.toInt ≤ 80 := by rw [ex1]; exact J_sl7 hJ
  have mx1 : x1Zq.toInt = (M0.1 175 7).toInt := tl_slot ex1
  refine li_istore_n [(1, .int x1Zq), (0, .ref (Z.2.2 175))] dX12_readWording_4 (by decide) rfl ?_
  refine li_aload_n 1 dX12_readWording_5 rfl ?_
  refine li_iconst 0 dX12_readWording_6 (by decide) ?_
  refine li_puti (k := 7) (N := 52) (T := TX12) (C0 := RX12) dX12_readWording_7 (by decide) sh_175 rfl rfl (by decide) li_in12 tyX12_ok nmX12 rfl rfl rfl rfl w_1411 ?_
  refine li_nm (fun M2Zq eM2 => ?_)
  have hf := li_fs_ui hf (Or.inr (Or.inr (⟨rfl, rfl⟩))) eM2
  have z0 : (0 : Int32).toInt = 0 := rfl
  have hJ := J_pt7 hJ (show 0 ≤ (0 : Int32).toInt ∧ (0 : Int32).toInt ≤ 80 by omega) eM2
  have rM2_7 := J_sl7 (M := M2Zq) hJ
  have rM2_38 := J_sl38 (M := M2Zq) hJ
  have rM2_40 := J_sl40 (M := M2Zq) hJ
  have mM2_7 : (M2Zq.1 175 7).toInt = 0 := by rw [eM2, li_ui_at, if_pos rfl, if_pos rfl]; rfl
  have mM2_38 : (M2Zq.1 175 38).toInt = (M0.1 175 38).toInt := by rw [eM2, li_ui_at, if_pos rfl, if_neg (by decide)]
  have mM2_40 : (M2Zq.1 175 40).toInt = (M0.1 175 40).toInt := by rw [eM2, li_ui_at, if_pos rfl, if_neg (by decide)]
  have Plr_M2 : li_lr (M2Zq.1 180) (TY) (80) (0) (Q) := li_lr_tr (li_cell_ui eM2 (by decide)) (Int.le_antisymm (by omega) (by omega)) (Int.le_antisymm (by omega) (by omega)) (Int.le_antisymm (by omega) (by omega)) (Int.le_antisymm (by omega) (by omega)) Plr_M0
  refine li_iconst 0 dX12_readWording_10 (by decide) ?_
  refine li_istore_n [(2, .int 0), (1, .int x1Zq), (0, .ref (Z.2.2 175))] dX12_readWording_11 (by decide) rfl ?_
  have L12Zq : ∀ (n : Nat) (x3 : Int32) (M4Zq : li_M), (15 - (x3 : Int32).toInt).toNat < n → li_fs (fun i k => i = 195 ∨ (i = 175 ∧ k = 40) ∨ (i = 175 ∧ k = 7)) M0 M4Zq → li_J M4Zq → 0 ≤ (x3 : Int32).toInt ∧ (x3 : Int32).toInt ≤ 14 ∧ (x3 : Int32).toInt ≤ TY ∧ (M4Zq.1 175 38).toInt = m ∧ (M4Zq.1 175 7).toInt = 0 → li_lr (M4Zq.1 180) (TY) (80 - (x3 : Int32).toInt) ((x3 : Int32).toInt) (Q) → li_T l Z YX12_readWording d 12 [(2, .int x3), (1, .int x1Zq), (0, .ref (Z.2.2 175))] [] M4Zq (fun r M' => (∃ x : Int32, r = some (.int x) ∧ ((((TY = 0 ∧ x.toInt = -1) ∨ (0 < TY ∧ Q < TY ∧ Q ≤ 14 ∧ x.toInt = -1 - Q) ∨ (0 < TY ∧ Q < TY ∧ 14 < Q ∧ x.toInt = -15) ∨ (0 < TY ∧ Q = TY ∧ 14 < TY ∧ x.toInt = -15)) ∧ x.toInt < 0) ∨ (0 < TY ∧ Q = TY ∧ TY ≤ 14 ∧ x.toInt = 0 ∧ (M'.1 175 40).toInt = TY ∧ li_cy (M'.1 195) GZq (fun i => M0.1 180 i - 97) m (TY) (TY + 1) 0))) ∧ li_fs (fun i k => i = 195 ∨ (i = 175 ∧ k = 40) ∨ (i = 175 ∧ k = 7)) M0 M' ∧ li_J M' ∧ (M'.1 175 7).toInt = 0) := by
    intro n
    induction n with
    | zero => intro x3 M4Zq hn; exact absurd hn (Nat.not_lt_zero _)
    | succ n ih12 =>
      intro x3 M4Zq hn hf hJ hiZq Plr_M4
      have gx3 := tl_rg x3
      have rM4_7 := J_sl7 (M := M4Zq) hJ
      have rM4_38 := J_sl38 (M := M4Zq) hJ
      have rM4_40 := J_sl40 (M := M4Zq) hJ
      have mM4_38 : (M4Zq.1 175 38).toInt = (M0.1 175 38).toInt := tl_slot (hf.1 175 38 (show ¬ (175 = 195 ∨ (175 = 175 ∧ 38 = 40) ∨ (175 = 175 ∧ 38 = 7)) by decide))
      refine li_iload_n 0 dX12_readWording_12 rfl ?_
      refine li_iload_n 1 dX12_readWording_13 rfl ?_
      refine li_icmp_ge 49 dX12_readWording_14 (by decide) (fun c5Zq => ?_) (fun c5Zq => ?_)
      · have tc5 : x1Zq.toInt ≤ x3.toInt := tl_le c5Zq
        have le49 := li_lq_no Plr_M4 (fun h9 => by have h8 := rd_no (g := li_by (M4Zq.1 180)) (len := TY) (p := (x3 : Int32).toInt) (by omega); omega)
        refine li_iload_n 1 dX12_readWording_49 rfl ?_
        refine li_if_ne 55 dX12_readWording_50 (by decide) (fun c6Zq => ?_) (fun c6Zq => ?_)
        · have tc6 : ¬ x1Zq.toInt = 0 := tl_ne c6Zq
          refine li_aload_n 2 dX12_readWording_55 rfl ?_
          refine li_iload_n 1 dX12_readWording_56 rfl ?_
          refine li_puti (k := 40) (N := 52) (T := TX12) (C0 := RX12) dX12_readWording_57 (by decide) sh_175 rfl rfl (by decide) li_in12 tyX12_ok nmX12 rfl rfl rfl rfl w_1444 ?_
          refine li_nm (fun M7Zq eM7 => ?_)
          have hf := li_fs_ui hf (Or.inr (Or.inl ⟨rfl, rfl⟩)) eM7
          have hJ := J_pt40 hJ (show 0 ≤ (x1Zq : Int32).toInt ∧ (x1Zq : Int32).toInt ≤ 14 by omega) eM7
          have rM7_7 := J_sl7 (M := M7Zq) hJ
          have rM7_38 := J_sl38 (M := M7Zq) hJ
          have rM7_40 := J_sl40 (M := M7Zq) hJ
          have mM7_7 : (M7Zq.1 175 7).toInt = (M4Zq.1 175 7).toInt := by rw [eM7, li_ui_at, if_pos rfl, if_neg (by decide)]
          have mM7_38 : (M7Zq.1 175 38).toInt = (M4Zq.1 175 38).toInt := by rw [eM7, li_ui_at, if_pos rfl, if_neg (by decide)]
          have mM7_40 : (M7Zq.1 175 40).toInt = x1Zq.toInt := by rw [eM7, li_ui_at, if_pos rfl, if_pos rfl]
          have Plr_M7 : li_lr (M7Zq.1 180) (TY) (80 - (x3 : Int32).toInt) ((x3 : Int32).toInt) (Q) := li_lr_tr (li_cell_ui eM7 (by decide)) (Int.le_antisymm (by omega) (by omega)) (Int.le_antisymm (by omega) (by omega)) (Int.le_antisymm (by omega) (by omega)) (Int.le_antisymm (by omega) (by omega)) Plr_M4
          refine li_bipush 15 dX12_readWording_60 (by decide) ?_
          refine li_istore_n [(2, .int 15), (1, .int x1Zq), (0, .ref (Z.2.2 175))] dX12_readWording_62 (by decide) rfl ?_
          refine li_iconst 1 dX12_readWording_63 (by decide) ?_
          refine li_istore_n [(3, .int 1), (2, .int 15), (1, .int x1Zq), (0, .ref (Z.2.2 175))] dX12_readWording_64 (by decide) rfl ?_
          have L65 : ∀ (n : Nat) (x8 : Int32) (M9Zq : li_M), (16 - (x8 : Int32).toInt).toNat < n → li_fs (fun i k => i = 195 ∨ (i = 175 ∧ k = 40) ∨ (i = 175 ∧ k = 7)) M0 M9Zq → li_J M9Zq → 1 ≤ (x8 : Int32).toInt ∧ (x8 : Int32).toInt ≤ TY + 1 ∧ (M9Zq.1 175 38).toInt = m ∧ (M9Zq.1 175 40).toInt = TY ∧ 1 ≤ TY ∧ TY ≤ 14 ∧ Q = TY ∧ (M9Zq.1 175 7).toInt = 0 → li_cz (M9Zq.1 195) (GZq) ((fun i => M0.1 180 i - 97)) (m) (TY) ((x8 : Int32).toInt) (0) → li_T l Z YX12_readWording d 65 [(3, .int x8), (2, .int 15), (1, .int x1Zq), (0, .ref (Z.2.2 175))] [] M9Zq (fun r M' => (∃ x : Int32, r = some (.int x) ∧ ((((TY = 0 ∧ x.toInt = -1) ∨ (0 < TY ∧ Q < TY ∧ Q ≤ 14 ∧ x.toInt = -1 - Q) ∨ (0 < TY ∧ Q < TY ∧ 14 < Q ∧ x.toInt = -15) ∨ (0 < TY ∧ Q = TY ∧ 14 < TY ∧ x.toInt = -15)) ∧ x.toInt < 0) ∨ (0 < TY ∧ Q = TY ∧ TY ≤ 14 ∧ x.toInt = 0 ∧ (M'.1 175 40).toInt = TY ∧ li_cy (M'.1 195) GZq (fun i => M0.1 180 i - 97) m (TY) (TY + 1) 0))) ∧ li_fs (fun i k => i = 195 ∨ (i = 175 ∧ k = 40) ∨ (i = 175 ∧ k = 7)) M0 M' ∧ li_J M' ∧ (M'.1 175 7).toInt = 0) := by
            intro n
            induction n with
            | zero => intro x8 M9Zq hn; exact absurd hn (Nat.not_lt_zero _)
            | succ n ih65 =>
              intro x8 M9Zq hn hf hJ hiZq Pcz_M9
              have gx8 := tl_rg x8
              have rM9_7 := J_sl7 (M := M9Zq) hJ
              have rM9_38 := J_sl38 (M := M9Zq) hJ
              have rM9_40 := J_sl40 (M := M9Zq) hJ
              have mM9_38 : (M9Zq.1 175 38).toInt = (M0.1 175 38).toInt := tl_slot (hf.1 175 38 (show ¬ (175 = 195 ∨ (175 = 175 ∧ 38 = 40) ∨ (175 = 175 ∧ 38 = 7)) by decide))
              refine li_iload_n 0 dX12_readWording_65 rfl ?_
              refine li_iload_n 2 dX12_readWording_66 rfl ?_
              refine li_icmp_gt 188 dX12_readWording_67 (by decide) (fun c10Zq => ?_) (fun c10Zq => ?_)
              · have tc10 : x1Zq.toInt < x8.toInt := tl_lt c10Zq
                refine li_iconst 0 dX12_readWording_188 (by decide) ?_
                have z0 : (0 : Int32).toInt = 0 := rfl
                exact li_iret dX12_readWording_189 rfl rfl ⟨⟨_, rfl, (by first | exact Or.inl ⟨by omega, by omega⟩ | exact Or.inr ⟨by omega, by omega, by omega, by omega, by omega, li_cy_tr rfl rfl rfl rfl rfl (Int.le_antisymm (by omega) (by omega)) rfl Pcz_M9⟩)⟩, hf, hJ, (by omega)⟩
              · have tc10 : x8.toInt ≤ x1Zq.toInt := tl_nlt c10Zq
                refine li_iconst 0 dX12_readWording_70 (by decide) ?_
                refine li_istore [(4, .int 0), (3, .int x8), (2, .int 15), (1, .int x1Zq), (0, .ref (Z.2.2 175))] dX12_readWording_71 (by decide) rfl ?_
                have L73 : ∀ (n : Nat) (x11 : Int32) (M12 : li_M), (15 - (x11 : Int32).toInt).toNat < n → li_fs (fun i k => i = 195 ∨ (i = 175 ∧ k = 40) ∨ (i = 175 ∧ k = 7)) M0 M12 → li_J M12 → 0 ≤ (x11 : Int32).toInt ∧ (x11 : Int32).toInt + (x8 : Int32).toInt ≤ TY + 1 ∧ (M12.1 175 38).toInt = m ∧ (M12.1 175 40).toInt = TY ∧ 1 ≤ TY ∧ TY ≤ 14 ∧ Q = TY ∧ (M12.1 175 7).toInt = 0 → li_cz (M12.1 195) (GZq) ((fun i => M0.1 180 i - 97)) (m) (TY) ((x8 : Int32).toInt) ((x11 : Int32).toInt) → li_T l Z YX12_readWording d 73 [(4, .int x11), (3, .int x8), (2, .int 15), (1, .int x1Zq), (0, .ref (Z.2.2 175))] [] M12 (fun r M' => (∃ x : Int32, r = some (.int x) ∧ ((((TY = 0 ∧ x.toInt = -1) ∨ (0 < TY ∧ Q < TY ∧ Q ≤ 14 ∧ x.toInt = -1 - Q) ∨ (0 < TY ∧ Q < TY ∧ 14 < Q ∧ x.toInt = -15) ∨ (0 < TY ∧ Q = TY ∧ 14 < TY ∧ x.toInt = -15)) ∧ x.toInt < 0) ∨ (0 < TY ∧ Q = TY ∧ TY ≤ 14 ∧ x.toInt = 0 ∧ (M'.1 175 40).toInt = TY ∧ li_cy (M'.1 195) GZq (fun i => M0.1 180 i - 97) m (TY) (TY + 1) 0))) ∧ li_fs (fun i k => i = 195 ∨ (i = 175 ∧ k = 40) ∨ (i = 175 ∧ k = 7)) M0 M' ∧ li_J M' ∧ (M'.1 175 7).toInt = 0) := by
                  intro n
                  induction n with
                  | zero => intro x11 M12 hn; exact absurd hn (Nat.not_lt_zero _)
                  | succ n ih73 =>
                    intro x11 M12 hn hf hJ hiZq Pcz_M12
                    have gx11 := tl_rg x11
                    have rM12_7 := J_sl7 (M := M12) hJ
                    have rM12_38 := J_sl38 (M := M12) hJ
                    have rM12_40 := J_sl40 (M := M12) hJ
                    have mM12_38 : (M12.1 175 38).toInt = (M0.1 175 38).toInt := tl_slot (hf.1 175 38 (show ¬ (175 = 195 ∨ (175 = 175 ∧ 38 = 40) ∨ (175 = 175 ∧ 38 = 7)) by decide))
                    refine li_iload 0 dX12_readWording_73 rfl ?_
                    refine li_iload_n 1 dX12_readWording_75 rfl ?_
                    refine li_iadd dX12_readWording_76 ?_
                    refine li_top (fun x13 ex13 => ?_)
                    try (have tx13 : x13.toInt = (x11 : Int32).toInt + (x8 : Int32).toInt := tl_add ex13 (by omega))
                    refine li_iload_n 3 dX12_readWording_77 rfl ?_
                    refine li_icmp_gt 182 dX12_readWording_78 (by decide) (fun c14Zq => ?_) (fun c14Zq => ?_)
                    · have tc14 : x1Zq.toInt < x13.toInt := tl_lt c14Zq
                      have czn := cy_nx Pcz_M12 (by omega)
                      obtain ⟨x15, ex15⟩ : ∃ y : Int32, y = x8 + 1 := ⟨_, rfl⟩
                      have z1 : (1 : Int32).toInt = 1 := rfl
                      try (have tx15 : x15.toInt = (x8 : Int32).toInt + (1 : Int32).toInt := tl_add ex15 (by omega))
                      refine li_iinc 1 [(3, .int x15), (4, .int x11), (2, .int 15), (1, .int x1Zq), (0, .ref (Z.2.2 175))] x15 dX12_readWording_182 rfl (by rw [ex15]; rfl) (by decide) rfl ?_
                      refine li_goto 65 dX12_readWording_185 (by decide) ?_
                      refine li_pick [0, 2, 3, 4] [(3, .int x15), (2, .int 15), (1, .int x1Zq), (0, .ref (Z.2.2 175))] rfl ?_
                      exact ih65 x15 M12 (by omega) hf hJ (by omega) (by first | exact li_cz_tr rfl rfl rfl rfl rfl (Int.le_antisymm (by omega) (by omega)) (Int.le_antisymm (by omega) (by omega)) Pcz_M12 | exact li_cy_tr rfl rfl rfl rfl rfl (Int.le_antisymm (by omega) (by omega)) (Int.le_antisymm (by omega) (by omega)) czn | exact cy_0 (by omega) (by omega))
                    · have tc14 : x13.toInt ≤ x1Zq.toInt := tl_nlt c14Zq
                      refine li_iload_n 1 dX12_readWording_81 rfl ?_
                      refine li_iconst 1 dX12_readWording_82 (by decide) ?_
                      have J102 : ∀ (x17 : Int32) (M18 : li_M), li_fs (fun i k => i = 195 ∨ (i = 175 ∧ k = 40) ∨ (i = 175 ∧ k = 7)) M0 M18 → li_J M18 → (M18.1 175 38).toInt = m ∧ (M18.1 175 40).toInt = TY ∧ 1 ≤ TY ∧ TY ≤ 14 ∧ Q = TY ∧ (M18.1 175 7).toInt = 0 → li_cz (M18.1 195) (GZq) ((fun i => M0.1 180 i - 97)) (m) (TY) ((x8 : Int32).toInt) ((x11 : Int32).toInt) → li_cu (M18.1 195) (GZq) ((fun i => M0.1 180 i - 97)) (m) ((x11 : Int32).toInt) ((x8 : Int32).toInt) (1) ((x17 : Int32)) → li_T l Z YX12_readWording d 102 [(4, .int x11), (3, .int x8), (2, .int 15), (1, .int x1Zq), (0, .ref (Z.2.2 175))] [.int x17] M18 (fun r M' => (∃ x : Int32, r = some (.int x) ∧ ((((TY = 0 ∧ x.toInt = -1) ∨ (0 < TY ∧ Q < TY ∧ Q ≤ 14 ∧ x.toInt = -1 - Q) ∨ (0 < TY ∧ Q < TY ∧ 14 < Q ∧ x.toInt = -15) ∨ (0 < TY ∧ Q = TY ∧ 14 < TY ∧ x.toInt = -15)) ∧ x.toInt < 0) ∨ (0 < TY ∧ Q = TY ∧ TY ≤ 14 ∧ x.toInt = 0 ∧ (M'.1 175 40).toInt = TY ∧ li_cy (M'.1 195) GZq (fun i => M0.1 180 i - 97) m (TY) (TY + 1) 0))) ∧ li_fs (fun i k => i = 195 ∨ (i = 175 ∧ k = 40) ∨ (i = 175 ∧ k = 7)) M0 M' ∧ li_J M' ∧ (M'.1 175 7).toInt = 0) := by
                        intro x17 M18 hf hJ hiZq Pcz_M18 Pcu_M18
                        have gx17 := tl_rg x17
                        have rM18_7 := J_sl7 (M := M18) hJ
                        have rM18_38 := J_sl38 (M := M18) hJ
                        have rM18_40 := J_sl40 (M := M18) hJ
                        have mM18_38 : (M18.1 175 38).toInt = (M0.1 175 38).toInt := tl_slot (hf.1 175 38 (show ¬ (175 = 195 ∨ (175 = 175 ∧ 38 = 40) ∨ (175 = 175 ∧ 38 = 7)) by decide))
                        refine li_istore [(5, .int x17), (4, .int x11), (3, .int x8), (2, .int 15), (1, .int x1Zq), (0, .ref (Z.2.2 175))] dX12_readWording_102 (by decide) rfl ?_
                        refine li_iconst 1 dX12_readWording_104 (by decide) ?_
                        refine li_istore [(6, .int 1), (5, .int x17), (4, .int x11), (3, .int x8), (2, .int 15), (1, .int x1Zq), (0, .ref (Z.2.2 175))] dX12_readWording_105 (by decide) rfl ?_
                        have L107 : ∀ (n : Nat) (x19 : Int32) (x20 : Int32) (M21 : li_M), (15 - (x19 : Int32).toInt).toNat < n → li_fs (fun i k => i = 195 ∨ (i = 175 ∧ k = 40) ∨ (i = 175 ∧ k = 7)) M0 M21 → li_J M21 → 1 ≤ (x19 : Int32).toInt ∧ (x19 : Int32).toInt ≤ (x8 : Int32).toInt ∧ (M21.1 175 38).toInt = m ∧ (M21.1 175 40).toInt = TY ∧ 1 ≤ TY ∧ TY ≤ 14 ∧ Q = TY ∧ (M21.1 175 7).toInt = 0 → li_cz (M21.1 195) (GZq) ((fun i => M0.1 180 i - 97)) (m) (TY) ((x8 : Int32).toInt) ((x11 : Int32).toInt) → li_cu (M21.1 195) (GZq) ((fun i => M0.1 180 i - 97)) (m) ((x11 : Int32).toInt) ((x8 : Int32).toInt) ((x19 : Int32).toInt) ((x20 : Int32)) → li_T l Z YX12_readWording d 107 [(6, .int x19), (5, .int x20), (4, .int x11), (3, .int x8), (2, .int 15), (1, .int x1Zq), (0, .ref (Z.2.2 175))] [] M21 (fun r M' => (∃ x : Int32, r = some (.int x) ∧ ((((TY = 0 ∧ x.toInt = -1) ∨ (0 < TY ∧ Q < TY ∧ Q ≤ 14 ∧ x.toInt = -1 - Q) ∨ (0 < TY ∧ Q < TY ∧ 14 < Q ∧ x.toInt = -15) ∨ (0 < TY ∧ Q = TY ∧ 14 < TY ∧ x.toInt = -15)) ∧ x.toInt < 0) ∨ (0 < TY ∧ Q = TY ∧ TY ≤ 14 ∧ x.toInt = 0 ∧ (M'.1 175 40).toInt = TY ∧ li_cy (M'.1 195) GZq (fun i => M0.1 180 i - 97) m (TY) (TY + 1) 0))) ∧ li_fs (fun i k => i = 195 ∨ (i = 175 ∧ k = 40) ∨ (i = 175 ∧ k = 7)) M0 M' ∧ li_J M' ∧ (M'.1 175 7).toInt = 0) := by
                          intro n
                          induction n with
                          | zero => intro x19 x20 M21 hn; exact absurd hn (Nat.not_lt_zero _)
                          | succ n ih107 =>
                            intro x19 x20 M21 hn hf hJ hiZq Pcz_M21 Pcu_M21
                            have gx19 := tl_rg x19
                            have gx20 := tl_rg x20
                            have rM21_7 := J_sl7 (M := M21) hJ
                            have rM21_38 := J_sl38 (M := M21) hJ
                            have rM21_40 := J_sl40 (M := M21) hJ
                            have mM21_38 : (M21.1 175 38).toInt = (M0.1 175 38).toInt := tl_slot (hf.1 175 38 (show ¬ (175 = 195 ∨ (175 = 175 ∧ 38 = 40) ∨ (175 = 175 ∧ 38 = 7)) by decide))
                            refine li_iload 0 dX12_readWording_107 rfl ?_
                            refine li_iload_n 3 dX12_readWording_109 rfl ?_
                            have cu0 := Pcu_M21
                            refine li_icmp_ge 160 dX12_readWording_110 (by decide) (fun c22 => ?_) (fun c22 => ?_)
                            · have tc22 : x8.toInt ≤ x19.toInt := tl_le c22
                              have cue := li_cu_end Pcu_M21 (by omega) (by omega) (by omega)
                              refine li_aload_n 6 dX12_readWording_160 rfl ?_
                              refine li_getr (k := 39) (N := 52) (T := TX12) (C0 := RX12) dX12_readWording_161 (by decide) sh_175 rfl rfl (by decide) (by decide) li_in12 w_1443 ?_
                              refine li_iload_n 4 dX12_readWording_164 rfl ?_
                              refine li_iload 2 dX12_readWording_165 rfl ?_
                              refine li_imul dX12_readWording_167 ?_
                              refine li_top (fun x23 ex23 => ?_)
                              have z15 : (15 : Int32).toInt = 15 := rfl
                              try (have tx23 : x23.toInt = 15 * (x11 : Int32).toInt := tl_mul ex23 (show -2147483648 ≤ 15 * (x11 : Int32).toInt ∧ 15 * (x11 : Int32).toInt ≤ 2147483647 by omega))
                              refine li_iload 2 dX12_readWording_168 rfl ?_
                              refine li_iadd dX12_readWording_170 ?_
                              refine li_top (fun x24 ex24 => ?_)
                              try (have tx24 : x24.toInt = (x23 : Int32).toInt + (x11 : Int32).toInt := tl_add ex24 (by omega))
                              refine li_iload_n 3 dX12_readWording_171 rfl ?_
                              refine li_iadd dX12_readWording_172 ?_
                              refine li_top (fun x25 ex25 => ?_)
                              try (have tx25 : x25.toInt = (x24 : Int32).toInt + (x8 : Int32).toInt := tl_add ex25 (by omega))
                              refine li_iload 1 dX12_readWording_173 rfl ?_
                              refine li_iast dX12_readWording_175 (by decide) sh_195 (tl_in (by omega)) ?_
                              refine li_nm (fun M26 eM26 => ?_)
                              have hf := li_fs_ui hf (Or.inl rfl) eM26
                              have hJ := hJ.st (by decide) (li_el_free (by unfold li_led; omega) (by decide) (by decide) (by unfold li_rq; omega)) eM26
                              have rM26_7 := J_sl7 (M := M26) hJ
                              have rM26_38 := J_sl38 (M := M26) hJ
                              have rM26_40 := J_sl40 (M := M26) hJ
                              have mM26_7 : (M26.1 175 7).toInt = (M21.1 175 7).toInt := by rw [eM26, li_ui_at, if_neg (by decide)]
                              have mM26_38 : (M26.1 175 38).toInt = (M21.1 175 38).toInt := by rw [eM26, li_ui_at, if_neg (by decide)]
                              have mM26_40 : (M26.1 175 40).toInt = (M21.1 175 40).toInt := by rw [eM26, li_ui_at, if_neg (by decide)]
                              have Pcz_M26 : li_cz (M26.1 195) (GZq) ((fun i => M0.1 180 i - 97)) (m) (TY) ((x8 : Int32).toInt) ((x11 : Int32).toInt + 1) := cy_st Pcz_M21 (x25).toNatClampNeg (ui_is eM26) (by rw [li_cl (by omega)]; exact Int.le_antisymm (by omega) (by omega)) (by omega) (by omega) (by omega) (by omega) cue
                              obtain ⟨x27, ex27⟩ : ∃ y : Int32, y = x11 + 1 := ⟨_, rfl⟩
                              have z1 : (1 : Int32).toInt = 1 := rfl
                              try (have tx27 : x27.toInt = (x11 : Int32).toInt + (1 : Int32).toInt := tl_add ex27 (by omega))
                              refine li_iinc 2 [(4, .int x27), (6, .int x19), (5, .int x20), (3, .int x8), (2, .int 15), (1, .int x1Zq), (0, .ref (Z.2.2 175))] x27 dX12_readWording_176 rfl (by rw [ex27]; rfl) (by decide) rfl ?_
                              refine li_goto 73 dX12_readWording_179 (by decide) ?_
                              refine li_pick [0, 3, 4, 5, 6] [(4, .int x27), (3, .int x8), (2, .int 15), (1, .int x1Zq), (0, .ref (Z.2.2 175))] rfl ?_
                              exact ih73 x27 M26 (by omega) hf hJ (by omega) (by first | exact li_cz_tr rfl rfl rfl rfl rfl (Int.le_antisymm (by omega) (by omega)) (Int.le_antisymm (by omega) (by omega)) Pcz_M26 | exact li_cy_tr rfl rfl rfl rfl rfl (Int.le_antisymm (by omega) (by omega)) (Int.le_antisymm (by omega) (by omega)) czn | exact cy_0 (by omega) (by omega))
                            · have tc22 : x19.toInt < x8.toInt := tl_nle c22
                              refine li_iload 1 dX12_readWording_113 rfl ?_
                              refine li_aload_n 6 dX12_readWording_115 rfl ?_
                              refine li_aload_n 6 dX12_readWording_116 rfl ?_
                              refine li_getr (k := 39) (N := 52) (T := TX12) (C0 := RX12) dX12_readWording_117 (by decide) sh_175 rfl rfl (by decide) (by decide) li_in12 w_1443 ?_
                              refine li_iload_n 4 dX12_readWording_120 rfl ?_
                              refine li_iload 2 dX12_readWording_121 rfl ?_
                              refine li_imul dX12_readWording_123 ?_
                              refine li_top (fun x28 ex28 => ?_)
                              have z15 : (15 : Int32).toInt = 15 := rfl
                              try (have tx28 : x28.toInt = 15 * (x11 : Int32).toInt := tl_mul ex28 (show -2147483648 ≤ 15 * (x11 : Int32).toInt ∧ 15 * (x11 : Int32).toInt ≤ 2147483647 by omega))
                              refine li_iload 2 dX12_readWording_124 rfl ?_
                              refine li_iadd dX12_readWording_126 ?_
                              refine li_top (fun x29 ex29 => ?_)
                              try (have tx29 : x29.toInt = (x28 : Int32).toInt + (x11 : Int32).toInt := tl_add ex29 (by omega))
                              refine li_iload 0 dX12_readWording_127 rfl ?_
                              refine li_iadd dX12_readWording_129 ?_
                              refine li_top (fun x30 ex30 => ?_)
                              try (have tx30 : x30.toInt = (x29 : Int32).toInt + (x19 : Int32).toInt := tl_add ex30 (by omega))
                              refine li_iald dX12_readWording_130 (by decide) sh_195 (tl_in (by omega)) ?_
                              refine li_top (fun x31 ex31 => ?_)
                              have gx31 := tl_rg x31
                              have mk1 : x31 = M21.1 195 (16 * (x11 : Int32).toInt + (x19 : Int32).toInt).toNat := by rw [ex31]; exact nat_at (Int.le_antisymm (by omega) (by omega)) (by omega)
                              refine li_aload_n 6 dX12_readWording_131 rfl ?_
                              refine li_getr (k := 39) (N := 52) (T := TX12) (C0 := RX12) dX12_readWording_132 (by decide) sh_175 rfl rfl (by decide) (by decide) li_in12 w_1443 ?_
                              refine li_iload_n 4 dX12_readWording_135 rfl ?_
                              refine li_iload 2 dX12_readWording_136 rfl ?_
                              refine li_iload 0 dX12_readWording_138 rfl ?_
                              refine li_iadd dX12_readWording_140 ?_
                              refine li_top (fun x32 ex32 => ?_)
                              try (have tx32 : x32.toInt = (x11 : Int32).toInt + (x19 : Int32).toInt := tl_add ex32 (by omega))
                              refine li_imul dX12_readWording_141 ?_
                              refine li_top (fun x33 ex33 => ?_)
                              have z15 : (15 : Int32).toInt = 15 := rfl
                              try (have tx33 : x33.toInt = 15 * (x32 : Int32).toInt := tl_mul ex33 (show -2147483648 ≤ 15 * (x32 : Int32).toInt ∧ 15 * (x32 : Int32).toInt ≤ 2147483647 by omega))
                              refine li_iload 2 dX12_readWording_142 rfl ?_
                              refine li_iadd dX12_readWording_144 ?_
                              refine li_top (fun x34 ex34 => ?_)
                              try (have tx34 : x34.toInt = (x33 : Int32).toInt + (x11 : Int32).toInt := tl_add ex34 (by omega))
                              refine li_iload_n 3 dX12_readWording_145 rfl ?_
                              refine li_iadd dX12_readWording_146 ?_
                              refine li_top (fun x35 ex35 => ?_)
                              try (have tx35 : x35.toInt = (x34 : Int32).toInt + (x8 : Int32).toInt := tl_add ex35 (by omega))
                              refine li_iald dX12_readWording_147 (by decide) sh_195 (tl_in (by omega)) ?_
                              refine li_top (fun x36 ex36 => ?_)
                              have gx36 := tl_rg x36
                              have mk2 : x36 = M21.1 195 (16 * ((x11 : Int32).toInt + (x19 : Int32).toInt) + ((x8 : Int32).toInt - (x19 : Int32).toInt)).toNat := by rw [ex36]; exact nat_at (Int.le_antisymm (by omega) (by omega)) (by omega)
                              refine li_callV (n := 2) (As := [.int x31, .int x36]) dX12_readWording_148 (k13_X12_joined (d - 1) (by omega) x31 x36 M21 hJ GZq ((funext fun i => hf.1 193 i (by omega)).trans hG) m (Int.le_antisymm (by omega) (by omega)) hmr hGr) (by omega) (Nat.le_of_ble_eq_true rfl) w_1910 w_1912 w_94 w_112 w_1913 (by decide +kernel) rfl (by decide) sh_175 rfl rfl (Nat.le_of_ble_eq_true rfl) (fun r M38 h39 => ?_)
                              obtain ⟨⟨x37, rfl, qx37⟩, h39, jM38⟩ := h39
                              have gx37 := tl_rg x37
                              have hf := li_fs_trans hf h39 (fun i k hZq => False.elim hZq)
                              have hJ := jM38
                              have rM38_7 := J_sl7 (M := M38) hJ
                              have rM38_38 := J_sl38 (M := M38) hJ
                              have rM38_40 := J_sl40 (M := M38) hJ
                              have mM38_7 : (M38.1 175 7).toInt = (M21.1 175 7).toInt := tl_slot (h39.1 175 7 id)
                              have mM38_38 : (M38.1 175 38).toInt = (M21.1 175 38).toInt := tl_slot (h39.1 175 38 id)
                              have mM38_40 : (M38.1 175 40).toInt = (M21.1 175 40).toInt := tl_slot (h39.1 175 40 id)
                              have Pcz_M38 : li_cz (M38.1 195) (GZq) ((fun i => M0.1 180 i - 97)) (m) (TY) ((x8 : Int32).toInt) ((x11 : Int32).toInt) := li_cz_tr (funext fun i => h39.1 195 i id) rfl rfl rfl rfl (Int.le_antisymm (by omega) (by omega)) (Int.le_antisymm (by omega) (by omega)) Pcz_M21
                              have Pcu_M38 : li_cu (M38.1 195) (GZq) ((fun i => M0.1 180 i - 97)) (m) ((x11 : Int32).toInt) ((x8 : Int32).toInt) ((x19 : Int32).toInt) ((x20 : Int32)) := li_cu_tr (funext fun i => h39.1 195 i id) rfl rfl rfl (Int.le_antisymm (by omega) (by omega)) (Int.le_antisymm (by omega) (by omega)) (Int.le_antisymm (by omega) (by omega)) rfl Pcu_M21
                              have jz := qx37
                              have t195 : M38.1 195 = M21.1 195 := funext fun i => h39.1 195 i (by simp)
                              refine li_ior dX12_readWording_151 ?_
                              refine li_top (fun x40 ex40 => ?_)
                              try (have tx40 := tl_or255 ex40 (by omega) (by omega))
                              have or1 := ex40
                              refine li_istore [(5, .int x40), (6, .int x19), (4, .int x11), (3, .int x8), (2, .int 15), (1, .int x1Zq), (0, .ref (Z.2.2 175))] dX12_readWording_152 (by decide) rfl ?_
                              obtain ⟨x41, ex41⟩ : ∃ y : Int32, y = x19 + 1 := ⟨_, rfl⟩
                              have z1 : (1 : Int32).toInt = 1 := rfl
                              try (have tx41 : x41.toInt = (x19 : Int32).toInt + (1 : Int32).toInt := tl_add ex41 (by omega))
                              refine li_iinc 1 [(6, .int x41), (5, .int x40), (4, .int x11), (3, .int x8), (2, .int 15), (1, .int x1Zq), (0, .ref (Z.2.2 175))] x41 dX12_readWording_154 rfl (by rw [ex41]; rfl) (by decide) rfl ?_
                              refine li_goto 107 dX12_readWording_157 (by decide) ?_
                              refine li_pick [0, 1, 2, 3, 4, 5, 6] [(6, .int x41), (5, .int x40), (4, .int x11), (3, .int x8), (2, .int 15), (1, .int x1Zq), (0, .ref (Z.2.2 175))] rfl ?_
                              exact ih107 x41 x40 M38 (by omega) hf hJ (by omega) (by first | exact li_cz_tr rfl rfl rfl rfl rfl (Int.le_antisymm (by omega) (by omega)) (Int.le_antisymm (by omega) (by omega)) Pcz_M38 | exact li_cy_tr rfl rfl rfl rfl rfl (Int.le_antisymm (by omega) (by omega)) (Int.le_antisymm (by omega) (by omega)) czn | exact cy_0 (by omega) (by omega)) (by first | exact li_cu_st (by rw [t195]; exact cu0) (by omega) (by omega) (by omega) (by omega) (by rw [t195]; exact mk1) (by rw [t195]; exact mk2) jz or1 (Int.le_antisymm (by omega) (by omega)) | exact li_cu_1 (Int.le_antisymm (by omega) (by omega)) sh9 lx9 | exact li_cu_0 (by omega) rfl (Int.le_antisymm (by omega) (by omega)) | exact li_cu_tr rfl rfl rfl rfl (Int.le_antisymm (by omega) (by omega)) (Int.le_antisymm (by omega) (by omega)) (Int.le_antisymm (by omega) (by omega)) rfl Pcu_M38)
                        have z1 : (1 : Int32).toInt = 1 := rfl
                        exact L107 _ 1 x17 M18 (Nat.lt_succ_self _) hf hJ (by omega) (by first | exact li_cz_tr rfl rfl rfl rfl rfl (Int.le_antisymm (by omega) (by omega)) (Int.le_antisymm (by omega) (by omega)) Pcz_M18 | exact li_cy_tr rfl rfl rfl rfl rfl (Int.le_antisymm (by omega) (by omega)) (Int.le_antisymm (by omega) (by omega)) czn | exact cy_0 (by omega) (by omega)) (by first | exact li_cu_st (by rw [t195]; exact cu0) (by omega) (by omega) (by omega) (by omega) (by rw [t195]; exact mk1) (by rw [t195]; exact mk2) jz or1 (Int.le_antisymm (by omega) (by omega)) | exact li_cu_1 (Int.le_antisymm (by omega) (by omega)) sh9 lx9 | exact li_cu_0 (by omega) rfl (Int.le_antisymm (by omega) (by omega)) | exact li_cu_tr rfl rfl rfl rfl (Int.le_antisymm (by omega) (by omega)) (Int.le_antisymm (by omega) (by omega)) (Int.le_antisymm (by omega) (by omega)) rfl Pcu_M18)
                      refine li_icmp_ne 101 dX12_readWording_83 (by decide) (fun c16 => ?_) (fun c16 => ?_)
                      · have tc16 : ¬ x8.toInt = 1 := tl_ne c16
                        refine li_iconst 0 dX12_readWording_101 (by decide) ?_
                        refine li_pick [0, 1, 2, 3, 4] [(4, .int x11), (3, .int x8), (2, .int 15), (1, .int x1Zq), (0, .ref (Z.2.2 175))] rfl ?_
                        have z0 : (0 : Int32).toInt = 0 := rfl
                        exact J102 0 M12 hf hJ (by omega) (by first | exact li_cz_tr rfl rfl rfl rfl rfl (Int.le_antisymm (by omega) (by omega)) (Int.le_antisymm (by omega) (by omega)) Pcz_M12 | exact li_cy_tr rfl rfl rfl rfl rfl (Int.le_antisymm (by omega) (by omega)) (Int.le_antisymm (by omega) (by omega)) czn | exact cy_0 (by omega) (by omega)) (by first | exact li_cu_st (by rw [t195]; exact cu0) (by omega) (by omega) (by omega) (by omega) (by rw [t195]; exact mk1) (by rw [t195]; exact mk2) jz or1 (Int.le_antisymm (by omega) (by omega)) | exact li_cu_1 (Int.le_antisymm (by omega) (by omega)) sh9 lx9 | exact li_cu_0 (by omega) rfl (Int.le_antisymm (by omega) (by omega)))
                      · have tc16 : x8.toInt = 1 := tl_eq c16
                        refine li_iconst 1 dX12_readWording_86 (by decide) ?_
                        refine li_aload_n 4 dX12_readWording_87 rfl ?_
                        refine li_getr (k := 6) (N := 52) (T := TX12) (C0 := RX12) dX12_readWording_88 (by decide) sh_175 rfl rfl (by decide) (by decide) li_in12 w_1410 ?_
                        refine li_iload 0 dX12_readWording_91 rfl ?_
                        refine li_bald dX12_readWording_93 (by decide) sh_180 (tl_in (by omega)) ?_
                        refine li_top (fun x42 ex42 => ?_)
                        have gx42 := tl_rg x42
                        have lx : x42 = M0.1 180 ((x11 : Int32).toInt).toNat := by rw [ex42, show M12.1 180 = M0.1 180 from funext fun i => hf.1 180 i (by omega)]; exact nat_at rfl (by omega)
                        refine li_bipush 97 dX12_readWording_94 (by decide) ?_
                        refine li_isub dX12_readWording_96 ?_
                        refine li_top (fun x43 ex43 => ?_)
                        have z97 : (97 : Int32).toInt = 97 := rfl
                        try (have tx43 : x43.toInt = (x42 : Int32).toInt - (97 : Int32).toInt := tl_sub ex43 (by omega))
                        refine li_ishl dX12_readWording_97 ?_
                        refine li_top (fun x44 ex44 => ?_)
                        have z1 : (1 : Int32).toInt = 1 := rfl
                        try (have tx44 := tl_shl255 ex44 (by omega))
                        have sh9 := ex44
                        have lx9 : x43 = (fun i => M0.1 180 i - 97) ((x11 : Int32).toInt).toNat := by rw [ex43, lx]
                        refine li_goto 102 dX12_readWording_98 (by decide) ?_
                        refine li_pick [0, 1, 2, 3, 4] [(4, .int x11), (3, .int x8), (2, .int 15), (1, .int x1Zq), (0, .ref (Z.2.2 175))] rfl ?_
                        exact J102 x44 M12 hf hJ (by omega) (by first | exact li_cz_tr rfl rfl rfl rfl rfl (Int.le_antisymm (by omega) (by omega)) (Int.le_antisymm (by omega) (by omega)) Pcz_M12 | exact li_cy_tr rfl rfl rfl rfl rfl (Int.le_antisymm (by omega) (by omega)) (Int.le_antisymm (by omega) (by omega)) czn | exact cy_0 (by omega) (by omega)) (by first | exact li_cu_st (by rw [t195]; exact cu0) (by omega) (by omega) (by omega) (by omega) (by rw [t195]; exact mk1) (by rw [t195]; exact mk2) jz or1 (Int.le_antisymm (by omega) (by omega)) | exact li_cu_1 (Int.le_antisymm (by omega) (by omega)) sh9 lx9 | exact li_cu_0 (by omega) rfl (Int.le_antisymm (by omega) (by omega)))
                have z0 : (0 : Int32).toInt = 0 := rfl
                exact L73 _ 0 M9Zq (Nat.lt_succ_self _) hf hJ (by omega) (by first | exact li_cz_tr rfl rfl rfl rfl rfl (Int.le_antisymm (by omega) (by omega)) (Int.le_antisymm (by omega) (by omega)) Pcz_M9 | exact li_cy_tr rfl rfl rfl rfl rfl (Int.le_antisymm (by omega) (by omega)) (Int.le_antisymm (by omega) (by omega)) czn | exact cy_0 (by omega) (by omega))
          have z1 : (1 : Int32).toInt = 1 := rfl
          exact L65 _ 1 M7Zq (Nat.lt_succ_self _) hf hJ (by omega) (by first | exact li_cy_tr rfl rfl rfl rfl rfl (Int.le_antisymm (by omega) (by omega)) (Int.le_antisymm (by omega) (by omega)) czn | exact cy_0 (by omega) (by omega))
        · have tc6 : x1Zq.toInt = 0 := tl_eq c6Zq
          refine li_iconst (-1) dX12_readWording_53 (by decide) ?_
          have zm1 : ((-1) : Int32).toInt = -1 := rfl
          exact li_iret dX12_readWording_54 rfl rfl ⟨⟨_, rfl, (by first | exact Or.inl ⟨by omega, by omega⟩ | exact Or.inr ⟨by omega, by omega, by omega, by omega, by omega, li_cy_tr rfl rfl rfl rfl rfl (Int.le_antisymm (by omega) (by omega)) rfl Pcz_M4⟩)⟩, hf, hJ, (by omega)⟩
      · have tc5 : x3.toInt < x1Zq.toInt := tl_nle c5Zq
        have lq0 := Plr_M4
        have lge := li_lq_ge lq0
        have lleZq := li_lq_le lq0 (by omega)
        refine li_iload_n 0 dX12_readWording_17 rfl ?_
        refine li_bipush 14 dX12_readWording_18 (by decide) ?_
        refine li_icmp_eq 39 dX12_readWording_20 (by decide) (fun c45 => ?_) (fun c45 => ?_)
        · have tc45 : x3.toInt = 14 := tl_eq c45
          try have lq39 := lno (by omega)
          refine li_iconst (-1) dX12_readWording_39 (by decide) ?_
          refine li_iload_n 0 dX12_readWording_40 rfl ?_
          refine li_isub dX12_readWording_41 ?_
          refine li_top (fun x46 ex46 => ?_)
          have zm1 : ((-1) : Int32).toInt = -1 := rfl
          try (have tx46 : x46.toInt = ((-1) : Int32).toInt - (x3 : Int32).toInt := tl_sub ex46 (by omega))
          exact li_iret dX12_readWording_42 rfl rfl ⟨⟨_, rfl, (by first | exact Or.inl ⟨by omega, by omega⟩ | exact Or.inr ⟨by omega, by omega, by omega, by omega, by omega, li_cy_tr rfl rfl rfl rfl rfl (Int.le_antisymm (by omega) (by omega)) rfl Pcz_M4⟩)⟩, hf, hJ, (by omega)⟩
        · have tc45 : ¬ x3.toInt = 14 := tl_ne c45
          refine li_aload_n 2 dX12_readWording_23 rfl ?_
          refine li_getr (k := 6) (N := 52) (T := TX12) (C0 := RX12) dX12_readWording_24 (by decide) sh_175 rfl rfl (by decide) (by decide) li_in12 w_1410 ?_
          refine li_iload_n 0 dX12_readWording_27 rfl ?_
          refine li_bald dX12_readWording_28 (by decide) sh_180 (tl_in (by omega)) ?_
          refine li_top (fun x47 ex47 => ?_)
          have gx47 := tl_rg x47
          have bl := by_let hJ (len := TY) ex47 (show (x3 : Int32).toInt = (x3 : Int32).toInt from rfl) (by omega) (by omega)
          have hf28 := hf
          have lgo : 97 ≤ x47.toInt ∧ x47.toInt ≤ 103 → li_lr (M4Zq.1 180) TY (80 - (x3 : Int32).toInt - 1) ((x3 : Int32).toInt + 1) Q := fun h9 => li_lq_go lq0 (by omega) (by rw [bl.1 h9]; exact h9)
          have lno : ¬ (97 ≤ x47.toInt ∧ x47.toInt ≤ 103) → Q = (x3 : Int32).toInt := fun h9 => li_lq_no lq0 (bl.2 h9)
          refine li_bipush 97 dX12_readWording_29 (by decide) ?_
          refine li_bipush 103 dX12_readWording_31 (by decide) ?_
          have z97 : (97 : Int32).toInt = 97 := rfl
          have z103 : (103 : Int32).toInt = 103 := rfl
          refine li_callS (n := 3) (As := [.int x47, .int 97, .int 103]) dX12_readWording_33 (k_X12_in (d - 1) (by omega) x47 97 103 M4Zq hJ ) (by omega) (Nat.le_of_ble_eq_true rfl) w_1570 w_1571 w_112 w_1572 (by decide +kernel) rfl rfl (Nat.le_of_ble_eq_true rfl) (fun r M49 h50 => ?_)
          obtain ⟨qx48, h50, jM49⟩ := h50
          have hf := li_fs_trans hf h50 (fun i k hZq => False.elim hZq)
          have hJ := jM49
          have rM49_7 := J_sl7 (M := M49) hJ
          have rM49_38 := J_sl38 (M := M49) hJ
          have rM49_40 := J_sl40 (M := M49) hJ
          have mM49_7 : (M49.1 175 7).toInt = (M4Zq.1 175 7).toInt := tl_slot (h50.1 175 7 id)
          have mM49_38 : (M49.1 175 38).toInt = (M4Zq.1 175 38).toInt := tl_slot (h50.1 175 38 id)
          have mM49_40 : (M49.1 175 40).toInt = (M4Zq.1 175 40).toInt := tl_slot (h50.1 175 40 id)
          have Plr_M49 : li_lr (M49.1 180) (TY) (80 - (x3 : Int32).toInt) ((x3 : Int32).toInt) (Q) := li_lr_tr (funext fun i => h50.1 180 i id) (Int.le_antisymm (by omega) (by omega)) (Int.le_antisymm (by omega) (by omega)) (Int.le_antisymm (by omega) (by omega)) (Int.le_antisymm (by omega) (by omega)) Plr_M4
          rcases qx48 with ⟨rfl, qx48⟩ | ⟨rfl, qx48⟩
          · skip
            refine li_if_ne 43 dX12_readWording_36 (by decide) (fun c => ?_) (fun c => absurd c (by decide))
            obtain ⟨x52, ex52⟩ : ∃ y : Int32, y = x3 + 1 := ⟨_, rfl⟩
            have z1 : (1 : Int32).toInt = 1 := rfl
            try (have tx52 : x52.toInt = (x3 : Int32).toInt + (1 : Int32).toInt := tl_add ex52 (by omega))
            refine li_iinc 0 [(2, .int x52), (1, .int x1Zq), (0, .ref (Z.2.2 175))] x52 dX12_readWording_43 rfl (by rw [ex52]; rfl) (by decide) rfl ?_
            refine li_goto 12 dX12_readWording_46 (by decide) ?_
            refine li_pick [0, 1, 2] [(2, .int x52), (1, .int x1Zq), (0, .ref (Z.2.2 175))] rfl ?_
            exact ih12 x52 M49 (by omega) hf hJ (by omega) (by first | exact li_lr_tr ((funext fun i => hf.1 180 i (by omega)).trans (funext fun i => hf28.1 180 i (by omega)).symm) rfl (Int.le_antisymm (by omega) (by omega)) (Int.le_antisymm (by omega) (by omega)) rfl (lgo ⟨by omega, by omega⟩) | exact li_lr_tr rfl (Int.le_antisymm (by omega) (by omega)) (Int.le_antisymm (by omega) (by omega)) (Int.le_antisymm (by omega) (by omega)) (Int.le_antisymm (by omega) (by omega)) Plr_M49)
          · skip
            refine li_if_ne 43 dX12_readWording_36 (by decide) (fun c => absurd rfl c) (fun c => ?_)
            try have lq39 := lno (by omega)
            refine li_iconst (-1) dX12_readWording_39 (by decide) ?_
            refine li_iload_n 0 dX12_readWording_40 rfl ?_
            refine li_isub dX12_readWording_41 ?_
            refine li_top (fun x54 ex54 => ?_)
            have zm1 : ((-1) : Int32).toInt = -1 := rfl
            try (have tx54 : x54.toInt = ((-1) : Int32).toInt - (x3 : Int32).toInt := tl_sub ex54 (by omega))
            exact li_iret dX12_readWording_42 rfl rfl ⟨⟨_, rfl, (by first | exact Or.inl ⟨by omega, by omega⟩ | exact Or.inr ⟨by omega, by omega, by omega, by omega, by omega, li_cy_tr rfl rfl rfl rfl rfl (Int.le_antisymm (by omega) (by omega)) rfl Pcz_M49⟩)⟩, hf, hJ, (by omega)⟩
  have z0 : (0 : Int32).toInt = 0 := rfl
  exact L12Zq _ 0 M2Zq (Nat.lt_succ_self _) hf hJ (by omega) (by first | exact li_lr_tr ((funext fun i => hf.1 180 i (by omega)).trans (funext fun i => hf28.1 180 i (by omega)).symm) rfl (Int.le_antisymm (by omega) (by omega)) (Int.le_antisymm (by omega) (by omega)) rfl (lgo ⟨by omega, by omega⟩) | exact li_lr_tr rfl (Int.le_antisymm (by omega) (by omega)) (Int.le_antisymm (by omega) (by omega)) (Int.le_antisymm (by omega) (by omega)) (Int.le_antisymm (by omega) (by omega)) Plr_M2)
