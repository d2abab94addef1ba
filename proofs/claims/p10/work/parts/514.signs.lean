def li_us (x y : Int32) : Int32 := (x.toUInt32 >>> (y.toUInt32 &&& Int32.toUInt32 31)).toInt32
theorem a_X11_put {l : Launch} {Z : li_Z} (d : Nat) (hd : 1 ≤ d) {j n : Nat} (hj : j < li_N) (hs : li_sh j = .inr (0, n)) (hn : n < 2147483648) (i x : Int32) (M0 : li_M) : li_Met l Z YX11_put d [.ref (Z.2.2 j), .int i, .int x] M0 (fun r M' => r = none ∧ li_fr (fun i => i = j) M0 M' ∧ ∀ k : Nat, M'.1 j k = if 0 ≤ i.toInt ∧ i.toInt < ((n : Nat) : Int) ∧ k = i.toNatClampNeg then x else M0.1 j k) := li_mono (fun r M' h => ⟨h.1, by rw [h.2]; exact li_fr_put rfl, fun k => by
  have hz : (0 : Int32).toInt = 0 := rfl
  have hn' := nI_toInt32 hn
  rw [h.2]
  unfold li_put
  by_cases c : 0 ≤ i ∧ i < nI n
  · have c1 := Int32.le_iff_toInt_le.mp c.1
    have c2 := Int32.lt_iff_toInt_lt.mp c.2
    rw [if_pos c, li_ui_at, if_pos rfl]
    by_cases q : k = i.toNatClampNeg
    · rw [if_pos q, if_pos ⟨by omega, by omega, q⟩]
    · rw [if_neg q, if_neg (fun z => q z.2.2)]
  · rw [if_neg c, if_neg (fun z => c ⟨Int32.le_iff_toInt_le.mpr (by omega), Int32.lt_iff_toInt_lt.mpr (by omega)⟩)]⟩) (x_X11_put d hd hj hs hn i x M0)
/-- signs that come behind the text: of the class, highest first -/
def li_sw (g g0 : Nat → Int32) (v : Int32) (len s : Int) : Prop := ∀ i : Nat, (¬ (len ≤ (i : Int) ∧ 8 * ((i : Int) - len) + s < 24) → g i = g0 i) ∧ (len ≤ (i : Int) → 8 * ((i : Int) - len) + s < 24 → ∀ t : Int32, t.toInt = 24 - 8 * ((i : Int) - len) → g i = li_us v t &&& 255)
theorem li_sw_tr {g g' g0 g0' : Nat → Int32} {v v' : Int32} {len len' s s' : Int} (hg : g' = g) (h1 : g0' = g0) (h2 : v' = v) (h3 : len' = len) (h4 : s' = s) (h : li_sw g g0 v len s) : li_sw g' g0' v' len' s' := by
  subst hg; subst h1; subst h2; subst h3; subst h4; exact h
theorem li_sw_0 {g : Nat → Int32} {v : Int32} {len s : Int} (hs : 24 ≤ s) : li_sw g g v len s := fun i => ⟨fun _ => rfl, fun h1 h2 => absurd h2 (by omega)⟩
theorem li_sw_st {g g' g0 : Nat → Int32} {v : Int32} {len s s' : Int} {i x sh : Int32} (h : li_sw g g0 v len s) (hp : ∀ k : Nat, g' k = if 0 ≤ i.toInt ∧ i.toInt < ((80 : Nat) : Int) ∧ k = i.toNatClampNeg then x else g k) (hi : 8 * i.toInt = 8 * len + 24 - s) (h0 : 0 ≤ i.toInt ∧ i.toInt < 80) (hs : sh.toInt = s) (ex : x = li_us v sh &&& 255) (es : s' = s - 8) (h24 : s ≤ 24) : li_sw g' g0 v len s' := by
  have h9 := li_cl (i := i) h0.1
  intro k
  rw [hp k]
  by_cases c : k = i.toNatClampNeg
  · rw [if_pos ⟨h0.1, by omega, c⟩]
    refine ⟨fun q => absurd (show len ≤ (k : Int) ∧ 8 * ((k : Int) - len) + s' < 24 by omega) q, fun _ _ t ht => ?_⟩
    rw [ex, show t = sh from Int32.toInt_inj.mp (by omega)]
  · rw [if_neg (fun z => c z.2.2)]
    exact ⟨fun q => (h k).1 (fun z => q ⟨z.1, by omega⟩), fun a b t ht => (h k).2 a (by omega) t ht⟩
def li_sx (g g0 : Nat → Int32) (v : Int32) (len : Int) : Prop := (80 < len + 4 → g = g0) ∧ (len + 4 ≤ 80 → li_sw g g0 v len (-8))
theorem li_sx_tr {g g' g0 g0' : Nat → Int32} {v v' : Int32} {len len' : Int} (hg : g' = g) (h1 : g0' = g0) (h2 : v' = v) (h3 : len' = len) (h : li_sx g g0 v len) : li_sx g' g0' v' len' := by
  subst hg; subst h1; subst h2; subst h3; exact h
theorem li_sx_no {g : Nat → Int32} {v : Int32} {len : Int} (h : 80 < len + 4) : li_sx g g v len := ⟨fun _ => rfl, fun q => absurd q (by omega)⟩
theorem li_sx_yes {g g0 : Nat → Int32} {v : Int32} {len s : Int} (h : li_sw g g0 v len s) (hs : s = -8) (hl : len + 4 ≤ 80) : li_sx g g0 v len := ⟨fun q => absurd q (by omega), fun _ => by rw [← hs]; exact h⟩
/-- the reference's: bytes -/
def li_rw (g g0 : Nat → Int32) (v : Int32) (len k : Int) : Prop := ∀ i : Nat, (¬ (len ≤ (i : Int) ∧ (i : Int) - len < 3 - k) → g i = g0 i) ∧ (len ≤ (i : Int) → (i : Int) - len < 3 - k → ∀ t : Int32, t.toInt = 24 - 8 * ((i : Int) - len) → g i = (v >>> (t &&& 31)).toInt8.toInt32)
theorem li_rw_tr {g g' g0 g0' : Nat → Int32} {v v' : Int32} {len len' k k' : Int} (hg : g' = g) (h1 : g0' = g0) (h2 : v' = v) (h3 : len' = len) (h4 : k' = k) (h : li_rw g g0 v len k) : li_rw g' g0' v' len' k' := by
  subst hg; subst h1; subst h2; subst h3; subst h4; exact h
theorem li_rw_0 {g g0 : Nat → Int32} {v : Int32} {len k : Int} (hg : g = g0) (hk : 3 ≤ k) : li_rw g g0 v len k := fun i => ⟨fun _ => by rw [hg], fun h1 h2 => absurd h2 (by omega)⟩
theorem li_rw_st {M M' : li_M} {g0 : Nat → Int32} {v : Int32} {len k k' : Int} {i x t : Int32} (h : li_rw (M.1 180) g0 v len k) (e : M' = li_ui M 180 i.toNatClampNeg x) (hi : i.toInt = len + 3 - k) (h0 : 0 ≤ i.toInt) (ht : t.toInt = 8 * k) (ex : x = (v >>> (t &&& 31)).toInt8.toInt32) (ek : k' = k - 1) (h3 : k ≤ 3) : li_rw (M'.1 180) g0 v len k' := by
  have h9 := li_cl (i := i) h0
  subst e
  intro j
  rw [li_ui_at, if_pos rfl]
  by_cases c : j = i.toNatClampNeg
  · rw [if_pos c]
    refine ⟨fun q => absurd (show len ≤ (j : Int) ∧ (j : Int) - len < 3 - k' by omega) q, fun _ _ u hu => ?_⟩
    rw [ex, show u = t from Int32.toInt_inj.mp (by omega)]
  · rw [if_neg c]
    exact ⟨fun q => (h j).1 (fun z => q ⟨z.1, by omega⟩), fun a b u hu => (h j).2 a (by omega) u hu⟩
def li_rx (g g0 : Nat → Int32) (v : Int32) (len : Int) : Prop := (80 < len + 4 → g = g0) ∧ (len + 4 ≤ 80 → li_rw g g0 v len (-1))
theorem li_rx_tr {g g' g0 g0' : Nat → Int32} {v v' : Int32} {len len' : Int} (hg : g' = g) (h1 : g0' = g0) (h2 : v' = v) (h3 : len' = len) (h : li_rx g g0 v len) : li_rx g' g0' v' len' := by
  subst hg; subst h1; subst h2; subst h3; exact h
theorem li_rx_no {g g0 : Nat → Int32} {v : Int32} {len : Int} (hg : g = g0) (h : 80 < len + 4) : li_rx g g0 v len := ⟨fun _ => hg, fun q => absurd q (by omega)⟩
theorem li_rx_yes {g g0 : Nat → Int32} {v : Int32} {len k : Int} (h : li_rw g g0 v len k) (hk : k = -1) (hl : len + 4 ≤ 80) : li_rx g g0 v len := ⟨fun q => absurd q (by omega), fun _ => by rw [← hk]; exact h⟩
theorem lb_255 : ∀ i, i < 32 → lb_bit 255 i = decide (i < 8) := by decide +kernel
theorem lb_b8 {x : Int32} {i : Nat} (hi : i < 8) : lb_bit x.toInt8.toInt32 i = lb_bit x i := by
  unfold lb_bit
  show ((x.toBitVec.signExtend 8).signExtend 32).getLsbD i = x.toBitVec.getLsbD i
  rw [BitVec.getLsbD_signExtend, BitVec.getLsbD_signExtend]
  simp [hi, show i < 32 by omega]
theorem us_sl : ∀ n, n < 32 → (((nI n).toUInt32 &&& Int32.toUInt32 31).toBitVec % 32).toNat = n := by decide +kernel
theorem lb_us (n : Nat) (hn : n < 32) {v : Int32} {i : Nat} : lb_bit (li_us v (nI n)) i = lb_bit v (n + i) := by
  unfold lb_bit li_us
  show (v.toBitVec >>> (((nI n).toUInt32 &&& Int32.toUInt32 31).toBitVec % 32)).getLsbD i = _
  rw [BitVec.ushiftRight_eq', us_sl n hn, BitVec.getLsbD_ushiftRight]
theorem us_byte {v t : Int32} (h0 : 0 ≤ t.toInt) (h1 : t.toInt ≤ 24) : (v >>> (t &&& 31)).toInt8.toInt32 &&& 255 = li_us v t &&& 255 := by
  obtain ⟨n, hn, rfl⟩ : ∃ n : Nat, n ≤ 24 ∧ t = nI n := ⟨t.toInt.toNat, by omega, Int32.toInt_inj.mp (by rw [nI_toInt (by omega)]; omega)⟩
  apply lb_ext
  intro i hi
  rw [lb_and, lb_and, lb_255 i hi]
  by_cases c : i < 8
  · rw [lb_b8 c, lb_sshr n (by omega) v hi, if_pos (by omega), lb_us n (by omega)]
  · simp [c]
/-- both texts alike -/
def li_al (g h : Nat → Int32) : Prop := ∀ i : Nat, g i = h i &&& 255
theorem li_al_mv {g g' h h' : Nat → Int32} (h1 : g' = g) (h2 : h' = h) (a : li_al g h) : li_al g' h' := by
  subst h1; subst h2; exact a
theorem li_al_by {g h : Nat → Int32} (a : li_al g h) : g = li_by h := funext a
theorem li_al_sg {g h : Nat → Int32} (a : li_al g h) : li_sg g := fun i => tl_and255 (a i)
theorem li_al_sign {g g' h h' : Nat → Int32} {v : Int32} {len len2 : Int} (a : li_al g h) (s : li_sx g' g v len) (e : len2 = len) (r : li_rx h' h v len2) : li_al g' h' := by
  subst e
  intro i
  by_cases c : 80 < len2 + 4
  · rw [s.1 c, r.1 c]; exact a i
  · have s2 := s.2 (by omega) i
    have r2 := r.2 (by omega) i
    by_cases d : len2 ≤ (i : Int) ∧ (i : Int) < len2 + 4
    · have key : ∀ t : Int32, 0 ≤ t.toInt → t.toInt ≤ 24 → t.toInt = 24 - 8 * ((i : Int) - len2) → g' i = h' i &&& 255 := fun t h0 h1 ht => by
        rw [s2.2 d.1 (by omega) t ht, r2.2 d.1 (by omega) t ht]
        exact (us_byte h0 h1).symm
      rcases (show (i : Int) - len2 = 0 ∨ (i : Int) - len2 = 1 ∨ (i : Int) - len2 = 2 ∨ (i : Int) - len2 = 3 by omega) with q | q | q | q
      · exact key 24 (by decide) (by decide) (by rw [q]; decide)
      · exact key 16 (by decide) (by decide) (by rw [q]; decide)
      · exact key 8 (by decide) (by decide) (by rw [q]; decide)
      · exact key 0 (by decide) (by decide) (by rw [q]; decide)
    · rw [s2.1 (by omega), r2.1 (by omega)]; exact a i

set_option maxRecDepth 100000 in
set_option maxHeartbeats 4000000 in
theorem k6_X7_addFour {l : Launch} {Z : li_Z} (d : Nat) (hd : 2 ≤ d) (p1 : Int32) (M0 : li_M) (h1 : 0 ≤ (M0.1 1 1).toInt ∧ (M0.1 1 1).toInt ≤ 80) : li_Met l Z YX7_addFour d [.ref (Z.2.2 1), .int p1] M0 (fun r M' => (∃ x : Int32, r = some (.int x) ∧ (x = 0 ∨ x = 1) ∧ (((x.toInt = 0 ∧ 80 < (M0.1 1 1).toInt + 4 ∧ (M'.1 1 1).toInt = (M0.1 1 1).toInt) ∨ (x.toInt = 1 ∧ (M0.1 1 1).toInt + 4 ≤ 80 ∧ (M'.1 1 1).toInt = (M0.1 1 1).toInt + 4)) ∧ li_sx (M'.1 2) (M0.1 2) p1 ((M0.1 1 1).toInt))) ∧ li_fr (fun i => i = 1 ∨ i = 2) M0 M') := by
  refine li_enter (by decide +kernel) (Nat.le_of_ble_eq_true rfl) ?_
  show li_T l Z YX7_addFour d 0 [(0, .ref (Z.2.2 1)), (1, .int p1)] [] M0 _
  have hf : li_fr (fun i => i = 1 ∨ i = 2) M0 M0 := li_fr_refl
  have gp1 := tl_rg p1
  refine li_aload_n 0 dX7_addFour_0 rfl ?_
  refine li_geti (k := 1) (N := 3) (T := TX7) (C0 := RX7) dX7_addFour_1 (by decide) sh_1 rfl rfl (by decide) li_in7 w_139 ?_
  refine li_top (fun x1 ex1 => ?_)
  have gx1 := tl_rg x1
  have vx1 : x1.toInt = (M0.1 1 1).toInt := tl_eq ex1
  refine li_iconst 4 dX7_addFour_4 (by decide) ?_
  refine li_iadd dX7_addFour_5 ?_
  refine li_top (fun x2 ex2 => ?_)
  have tx2 : (-2147483648 ≤ x1.toInt + 4 ∧ x1.toInt + 4 ≤ 2147483647) → x2.toInt = x1.toInt + 4 := tl_add ex2
  refine li_bipush 80 dX7_addFour_6 (by decide) ?_
  refine li_icmp_le 13 dX7_addFour_8 (by decide) (fun c3 => ?_) (fun c3 => ?_)
  · have tc3 : x2.toInt ≤ 80 := tl_le c3
    refine li_bipush 24 dX7_addFour_13 (by decide) ?_
    refine li_istore_n [(2, .int 24), (0, .ref (Z.2.2 1)), (1, .int p1)] dX7_addFour_15 (by decide) rfl ?_
    have L16 : ∀ (n : Nat) (x4 : Int32) (M5 : li_M), ((x4 : Int32).toInt + 8).toNat < n → li_fr (fun i => i = 1 ∨ i = 2) M0 M5 → 8 * (M5.1 1 1).toInt = 8 * (M0.1 1 1).toInt + 24 - (x4 : Int32).toInt ∧ -8 ≤ (x4 : Int32).toInt ∧ (x4 : Int32).toInt ≤ 24 ∧ (M0.1 1 1).toInt + 4 ≤ 80 → li_sw (M5.1 2) ((M0.1 2)) (p1) ((M0.1 1 1).toInt) ((x4 : Int32).toInt) → li_T l Z YX7_addFour d 16 [(2, .int x4), (0, .ref (Z.2.2 1)), (1, .int p1)] [] M5 (fun r M' => (∃ x : Int32, r = some (.int x) ∧ (x = 0 ∨ x = 1) ∧ (((x.toInt = 0 ∧ 80 < (M0.1 1 1).toInt + 4 ∧ (M'.1 1 1).toInt = (M0.1 1 1).toInt) ∨ (x.toInt = 1 ∧ (M0.1 1 1).toInt + 4 ≤ 80 ∧ (M'.1 1 1).toInt = (M0.1 1 1).toInt + 4)) ∧ li_sx (M'.1 2) (M0.1 2) p1 ((M0.1 1 1).toInt))) ∧ li_fr (fun i => i = 1 ∨ i = 2) M0 M') := by
      intro n
      induction n with
      | zero => intro x4 M5 hn; exact absurd hn (Nat.not_lt_zero _)
      | succ n ih16 =>
        intro x4 M5 hn hf hi Psw_M5
        have gx4 := tl_rg x4
        refine li_iload_n 0 dX7_addFour_16 rfl ?_
        refine li_if_lt 54 dX7_addFour_17 (by decide) (fun c6 => ?_) (fun c6 => ?_)
        · have tc6 : x4.toInt < 0 := tl_lt c6
          refine li_iconst 1 dX7_addFour_54 (by decide) ?_
          have z1 : (1 : Int32).toInt = 1 := rfl
          exact li_iret dX7_addFour_55 rfl (li_nz (Or.inr rfl)) ⟨⟨_, rfl, Or.inr rfl, (by first | exact ⟨by omega, li_sx_no (by omega)⟩ | exact ⟨by omega, li_sx_yes Psw_M5 (by omega) (by omega)⟩)⟩, hf⟩
        · have tc6 : 0 ≤ x4.toInt := tl_nlt c6
          refine li_aload_n 1 dX7_addFour_20 rfl ?_
          refine li_getr (k := 0) (N := 3) (T := TX7) (C0 := RX7) dX7_addFour_21 (by decide) sh_1 rfl rfl (by decide) (by decide) li_in7 w_138 ?_
          refine li_aload_n 1 dX7_addFour_24 rfl ?_
          refine li_geti (k := 1) (N := 3) (T := TX7) (C0 := RX7) dX7_addFour_25 (by decide) sh_1 rfl rfl (by decide) li_in7 w_139 ?_
          refine li_top (fun x7 ex7 => ?_)
          have gx7 := tl_rg x7
          have vx7 : x7.toInt = (M5.1 1 1).toInt := tl_eq ex7
          refine li_iload_n 2 dX7_addFour_28 rfl ?_
          refine li_iload_n 0 dX7_addFour_29 rfl ?_
          refine li_iushr dX7_addFour_30 ?_
          refine li_top (fun x8 ex8 => ?_)
          refine li_sipush 255 dX7_addFour_31 (by decide) ?_
          refine li_iand dX7_addFour_34 ?_
          refine li_top (fun x9 ex9 => ?_)
          have tx9 := tl_and255 ex9
          refine li_callN (n := 3) (As := [.ref (Z.2.2 2), .int x7, .int x9]) dX7_addFour_35 (a_X11_put (d - 1) (by omega) (by decide) sh_2 (by decide) x7 x9 M5) (by omega) (Nat.le_of_ble_eq_true rfl) nw_7 w_522 w_101 w_523 (by decide +kernel) rfl rfl (Nat.le_of_ble_eq_true rfl) (fun r M11 h12 => ?_)
          obtain ⟨rfl, h12, nM11⟩ := h12
          have hf := li_fr_trans hf h12 (fun i (h : i = 2) => (show i = 1 ∨ i = 2 by omega))
          have mM11_1_1 : (M11.1 1 1).toInt = (M5.1 1 1).toInt := by rw [h12.1 1 (show ¬ (1 = 2) by omega)]
          have Psw_M11 : li_sw (M11.1 2) ((M0.1 2)) (p1) ((M0.1 1 1).toInt) ((x4 : Int32).toInt - 8) := li_sw_st Psw_M5 nM11 (by omega) (by omega) rfl (by rw [ex9, ex8]; rfl) (by omega) (by omega)
          refine li_aload_n 1 dX7_addFour_38 rfl ?_
          refine li_dup dX7_addFour_39 rfl ?_
          refine li_geti (k := 1) (N := 3) (T := TX7) (C0 := RX7) dX7_addFour_40 (by decide) sh_1 rfl rfl (by decide) li_in7 w_139 ?_
          refine li_top (fun x13 ex13 => ?_)
          have gx13 := tl_rg x13
          have vx13 : x13.toInt = (M11.1 1 1).toInt := tl_eq ex13
          refine li_iconst 1 dX7_addFour_43 (by decide) ?_
          refine li_iadd dX7_addFour_44 ?_
          refine li_top (fun x14 ex14 => ?_)
          have tx14 : (-2147483648 ≤ x13.toInt + 1 ∧ x13.toInt + 1 ≤ 2147483647) → x14.toInt = x13.toInt + 1 := tl_add ex14
          refine li_puti (k := 1) (N := 3) (T := TX7) (C0 := RX7) dX7_addFour_45 (by decide) sh_1 rfl rfl (by decide) li_in7 tyX7_ok nmX7 rfl rfl rfl rfl w_139 ?_
          refine li_nm (fun M15 eM15 => ?_)
          have hf := li_fr_ui hf (show 1 = 1 ∨ 1 = 2 by omega) eM15
          have mM15_1_1 : (M15.1 1 1).toInt = x14.toInt := by rw [eM15, li_ui_at, if_pos rfl, if_pos rfl]
          have Psw_M15 : li_sw (M15.1 2) ((M0.1 2)) (p1) ((M0.1 1 1).toInt) ((x4 : Int32).toInt - 8) := li_sw_tr (li_cell_ui eM15 (by decide)) rfl rfl rfl (by omega) Psw_M11
          have k16 : M15.1 1 1 = x14 := by rw [eM15, li_ui_at, if_pos rfl, if_pos rfl]
          obtain ⟨x17, ex17⟩ : ∃ y : Int32, y = x4 + (-8) := ⟨_, rfl⟩
          have tx17 : (-2147483648 ≤ x4.toInt + (-8) ∧ x4.toInt + (-8) ≤ 2147483647) → x17.toInt = x4.toInt + (-8) := tl_add ex17
          refine li_iinc 0 [(2, .int x17), (0, .ref (Z.2.2 1)), (1, .int p1)] x17 dX7_addFour_48 rfl (by rw [ex17]; rfl) (by decide) rfl ?_
          refine li_goto 16 dX7_addFour_51 (by decide) ?_
          refine li_pick [0, 1, 2] [(2, .int x17), (0, .ref (Z.2.2 1)), (1, .int p1)] rfl ?_
          exact ih16 x17 M15 (by omega) hf (by omega) (by first | exact li_sw_tr rfl rfl rfl rfl (by omega) Psw_M15 | exact li_sw_0 (by omega))
    have z24 : (24 : Int32).toInt = 24 := rfl
    exact L16 _ 24 M0 (Nat.lt_succ_self _) hf (by omega) (by first | exact li_sw_0 (by omega))
  · have tc3 : 80 < x2.toInt := tl_nle c3
    refine li_iconst 0 dX7_addFour_11 (by decide) ?_
    have z0 : (0 : Int32).toInt = 0 := rfl
    exact li_iret dX7_addFour_12 rfl (li_nz (Or.inl rfl)) ⟨⟨_, rfl, Or.inl rfl, (by first | exact ⟨by omega, li_sx_no (by omega)⟩ | exact ⟨by omega, li_sx_yes Psw_M0 (by omega) (by omega)⟩)⟩, hf⟩
set_option maxRecDepth 100000 in
set_option maxHeartbeats 4000000 in
theorem k6_X11_sign {l : Launch} {Z : li_Z} (d : Nat) (hd : 3 ≤ d) (p1 : Int32) (M0 : li_M) (h1 : 0 ≤ (M0.1 1 1).toInt ∧ (M0.1 1 1).toInt ≤ 80) : li_Met l Z YX11_sign d [.ref (Z.2.2 0), .int p1] M0 (fun r M' => (∃ x : Int32, r = some (.int x) ∧ (((x.toInt = -1 ∧ 80 < (M0.1 1 1).toInt + 4 ∧ (M'.1 1 1).toInt = (M0.1 1 1).toInt) ∨ (x.toInt = (M0.1 1 1).toInt + 4 ∧ (M0.1 1 1).toInt + 4 ≤ 80 ∧ (M'.1 1 1).toInt = (M0.1 1 1).toInt + 4)) ∧ li_sx (M'.1 2) (M0.1 2) p1 ((M0.1 1 1).toInt))) ∧ li_fr (fun i => i = 1 ∨ i = 2) M0 M') := by
  refine li_enter (by decide +kernel) (Nat.le_of_ble_eq_true rfl) ?_
  show li_T l Z YX11_sign d 0 [(0, .ref (Z.2.2 0)), (1, .int p1)] [] M0 _
  have hf : li_fr (fun i => i = 1 ∨ i = 2) M0 M0 := li_fr_refl
  have gp1 := tl_rg p1
  refine li_aload_n 0 dX11_sign_0 rfl ?_
  refine li_getr (k := 0) (N := 13) (T := TX11) (C0 := RX11) dX11_sign_1 (by decide) sh_0 rfl rfl (by decide) (by decide) li_in11 w_473 ?_
  refine li_iload_n 1 dX11_sign_4 rfl ?_
  refine li_callV (n := 1) (As := [.int p1]) dX11_sign_5 (k6_X7_addFour (d - 1) (by omega) p1 M0 (by omega)) (by omega) (Nat.le_of_ble_eq_true rfl) w_517 w_518 w_519 w_102 w_520 (by decide +kernel) rfl (by decide) sh_1 rfl rfl (Nat.le_of_ble_eq_true rfl) (fun r M2 h3 => ?_)
  obtain ⟨⟨x1, rfl, bx1, qx1⟩, h3⟩ := h3
  have ux1 := tl_b bx1
  have hf := li_fr_trans hf h3 (fun i (h : i = 1 ∨ i = 2) => (show i = 1 ∨ i = 2 by omega))
  have Psx_M2 : li_sx (M2.1 2) ((M0.1 2)) (p1) ((M0.1 1 1).toInt) := qx1.2
  refine li_if_eq 21 dX11_sign_8 (by decide) (fun c4 => ?_) (fun c4 => ?_)
  · have tc4 : x1.toInt = 0 := tl_eq c4
    refine li_iconst (-1) dX11_sign_21 (by decide) ?_
    have zm1 : ((-1) : Int32).toInt = -1 := rfl
    exact li_iret dX11_sign_22 rfl rfl ⟨⟨_, rfl, (by exact ⟨by omega, Psx_M2⟩)⟩, hf⟩
  · have tc4 : ¬ x1.toInt = 0 := tl_ne c4
    refine li_aload_n 0 dX11_sign_11 rfl ?_
    refine li_getr (k := 0) (N := 13) (T := TX11) (C0 := RX11) dX11_sign_12 (by decide) sh_0 rfl rfl (by decide) (by decide) li_in11 w_473 ?_
    refine li_geti (k := 1) (N := 3) (T := TX7) (C0 := RX7) dX11_sign_15 (by decide) sh_1 rfl rfl (by decide) li_in7 w_140 ?_
    refine li_top (fun x5 ex5 => ?_)
    have gx5 := tl_rg x5
    have vx5 : x5.toInt = (M2.1 1 1).toInt := tl_eq ex5
    refine li_goto 22 dX11_sign_18 (by decide) ?_
    exact li_iret dX11_sign_22 rfl rfl ⟨⟨_, rfl, (by exact ⟨by omega, Psx_M2⟩)⟩, hf⟩
set_option maxRecDepth 100000 in
set_option maxHeartbeats 4000000 in
theorem k6_X12_sign {l : Launch} {Z : li_Z} (d : Nat) (hd : 1 ≤ d) (p1 : Int32) (M0 : li_M) (hJ : li_J M0) : li_Met l Z YX12_sign d [.ref (Z.2.2 175), .int p1] M0 (fun r M' => (∃ x : Int32, r = some (.int x) ∧ (((80 < (M0.1 175 7).toInt + 4 → x.toInt = -1 ∧ (M'.1 175 7).toInt = (M0.1 175 7).toInt) ∧ ((M0.1 175 7).toInt + 4 ≤ 80 → x.toInt = (M0.1 175 7).toInt + 4 ∧ (M'.1 175 7).toInt = (M0.1 175 7).toInt + 4)) ∧ li_rx (M'.1 180) (M0.1 180) p1 ((M0.1 175 7).toInt))) ∧ li_fs (fun i k => i = 180 ∨ (i = 175 ∧ k = 10) ∨ (i = 175 ∧ k = 7)) M0 M' ∧ li_J M') := by
  refine li_enter (by decide +kernel) (Nat.le_of_ble_eq_true rfl) ?_
  show li_T l Z YX12_sign d 0 [(0, .ref (Z.2.2 175)), (1, .int p1)] [] M0 _
  have hf : li_fs (fun i k => i = 180 ∨ (i = 175 ∧ k = 10) ∨ (i = 175 ∧ k = 7)) M0 M0 := li_fs_refl
  have gp1 := tl_rg p1
  have rM0_7 := J_sl7 (M := M0) hJ
  refine li_aload_n 0 dX12_sign_0 rfl ?_
  refine li_iconst 0 dX12_sign_1 (by decide) ?_
  refine li_puti (k := 10) (N := 52) (T := TX12) (C0 := RX12) dX12_sign_2 (by decide) sh_175 rfl rfl (by decide) li_in12 tyX12_ok nmX12 rfl rfl rfl rfl w_1414 ?_
  refine li_nm (fun M1 eM1 => ?_)
  have hf := li_fs_ui hf (Or.inr (Or.inl ⟨rfl, rfl⟩)) eM1
  have z0 : (0 : Int32).toInt = 0 := rfl
  have hJ := hJ.put (k := 10) (by decide) (rg_free rfl) eM1
  have rM1_7 := J_sl7 (M := M1) hJ
  have mM1_7 : (M1.1 175 7).toInt = (M0.1 175 7).toInt := by rw [eM1, li_ui_at, if_pos rfl, if_neg (by decide)]
  refine li_aload_n 0 dX12_sign_5 rfl ?_
  refine li_geti (k := 7) (N := 52) (T := TX12) (C0 := RX12) dX12_sign_6 (by decide) sh_175 rfl rfl (by decide) li_in12 w_1411 ?_
  refine li_top (fun x2 ex2 => ?_)
  have gx2 : 0 ≤ x2.toInt ∧ x2.toInt ≤ 80 := by rw [ex2]; exact J_sl7 hJ
  have mx2 : x2.toInt = (M1.1 175 7).toInt := tl_slot ex2
  refine li_iconst 4 dX12_sign_9 (by decide) ?_
  refine li_iadd dX12_sign_10 ?_
  refine li_top (fun x3 ex3 => ?_)
  have z4 : (4 : Int32).toInt = 4 := rfl
  try (have tx3 : x3.toInt = (x2 : Int32).toInt + (4 : Int32).toInt := tl_add ex3 (by omega))
  refine li_bipush 80 dX12_sign_11 (by decide) ?_
  refine li_icmp_le 18 dX12_sign_13 (by decide) (fun c4 => ?_) (fun c4 => ?_)
  · have tc4 : x3.toInt ≤ 80 := tl_le c4
    refine li_iconst 3 dX12_sign_18 (by decide) ?_
    refine li_istore_n [(2, .int 3), (0, .ref (Z.2.2 175)), (1, .int p1)] dX12_sign_19 (by decide) rfl ?_
    have L20 : ∀ (n : Nat) (x5 : Int32) (M6 : li_M), ((x5 : Int32).toInt + 1).toNat < n → li_fs (fun i k => i = 180 ∨ (i = 175 ∧ k = 10) ∨ (i = 175 ∧ k = 7)) M0 M6 → li_J M6 → (M6.1 175 7).toInt + (x5 : Int32).toInt = (M0.1 175 7).toInt + 3 ∧ -1 ≤ (x5 : Int32).toInt ∧ (x5 : Int32).toInt ≤ 3 ∧ (M0.1 175 7).toInt + 4 ≤ 80 → li_rw (M6.1 180) ((M0.1 180)) (p1) ((M0.1 175 7).toInt) ((x5 : Int32).toInt) → li_T l Z YX12_sign d 20 [(2, .int x5), (0, .ref (Z.2.2 175)), (1, .int p1)] [] M6 (fun r M' => (∃ x : Int32, r = some (.int x) ∧ (((80 < (M0.1 175 7).toInt + 4 → x.toInt = -1 ∧ (M'.1 175 7).toInt = (M0.1 175 7).toInt) ∧ ((M0.1 175 7).toInt + 4 ≤ 80 → x.toInt = (M0.1 175 7).toInt + 4 ∧ (M'.1 175 7).toInt = (M0.1 175 7).toInt + 4)) ∧ li_rx (M'.1 180) (M0.1 180) p1 ((M0.1 175 7).toInt))) ∧ li_fs (fun i k => i = 180 ∨ (i = 175 ∧ k = 10) ∨ (i = 175 ∧ k = 7)) M0 M' ∧ li_J M') := by
      intro n
      induction n with
      | zero => intro x5 M6 hn; exact absurd hn (Nat.not_lt_zero _)
      | succ n ih20 =>
        intro x5 M6 hn hf hJ hi Prw_M6
        have gx5 := tl_rg x5
        have rM6_7 := J_sl7 (M := M6) hJ
        refine li_iload_n 0 dX12_sign_20 rfl ?_
        refine li_if_lt 53 dX12_sign_21 (by decide) (fun c7 => ?_) (fun c7 => ?_)
        · have tc7 : x5.toInt < 0 := tl_lt c7
          refine li_aload_n 1 dX12_sign_53 rfl ?_
          refine li_geti (k := 7) (N := 52) (T := TX12) (C0 := RX12) dX12_sign_54 (by decide) sh_175 rfl rfl (by decide) li_in12 w_1411 ?_
          refine li_top (fun x8 ex8 => ?_)
          have gx8 : 0 ≤ x8.toInt ∧ x8.toInt ≤ 80 := by rw [ex8]; exact J_sl7 hJ
          have mx8 : x8.toInt = (M6.1 175 7).toInt := tl_slot ex8
          exact li_iret dX12_sign_57 rfl rfl ⟨⟨_, rfl, (by first | exact ⟨by omega, li_rx_no (li_cell_ui eM6 (by decide)) (by omega)⟩ | exact ⟨by omega, li_rx_yes Prw_M6 (by omega) (by omega)⟩)⟩, hf, hJ⟩
        · have tc7 : 0 ≤ x5.toInt := tl_nlt c7
          refine li_aload_n 1 dX12_sign_24 rfl ?_
          refine li_getr (k := 6) (N := 52) (T := TX12) (C0 := RX12) dX12_sign_25 (by decide) sh_175 rfl rfl (by decide) (by decide) li_in12 w_1410 ?_
          refine li_aload_n 1 dX12_sign_28 rfl ?_
          refine li_dup dX12_sign_29 rfl ?_
          refine li_geti (k := 7) (N := 52) (T := TX12) (C0 := RX12) dX12_sign_30 (by decide) sh_175 rfl rfl (by decide) li_in12 w_1411 ?_
          refine li_top (fun x9 ex9 => ?_)
          have gx9 : 0 ≤ x9.toInt ∧ x9.toInt ≤ 80 := by rw [ex9]; exact J_sl7 hJ
          have mx9 : x9.toInt = (M6.1 175 7).toInt := tl_slot ex9
          refine li_dup_x1 dX12_sign_33 rfl rfl ?_
          refine li_iconst 1 dX12_sign_34 (by decide) ?_
          refine li_iadd dX12_sign_35 ?_
          refine li_top (fun x10 ex10 => ?_)
          have z1 : (1 : Int32).toInt = 1 := rfl
          try (have tx10 : x10.toInt = (x9 : Int32).toInt + (1 : Int32).toInt := tl_add ex10 (by omega))
          refine li_puti (k := 7) (N := 52) (T := TX12) (C0 := RX12) dX12_sign_36 (by decide) sh_175 rfl rfl (by decide) li_in12 tyX12_ok nmX12 rfl rfl rfl rfl w_1411 ?_
          refine li_nm (fun M11 eM11 => ?_)
          have hf := li_fs_ui hf (Or.inr (Or.inr (⟨rfl, rfl⟩))) eM11
          have hJ := J_pt7 hJ (show 0 ≤ (x10 : Int32).toInt ∧ (x10 : Int32).toInt ≤ 80 by omega) eM11
          have rM11_7 := J_sl7 (M := M11) hJ
          have mM11_7 : (M11.1 175 7).toInt = x10.toInt := by rw [eM11, li_ui_at, if_pos rfl, if_pos rfl]
          have Prw_M11 : li_rw (M11.1 180) ((M0.1 180)) (p1) ((M0.1 175 7).toInt) ((x5 : Int32).toInt) := li_rw_tr (li_cell_ui eM11 (by decide)) rfl rfl rfl (by omega) Prw_M6
          refine li_iload_n 2 dX12_sign_39 rfl ?_
          refine li_bipush 8 dX12_sign_40 (by decide) ?_
          refine li_iload_n 0 dX12_sign_42 rfl ?_
          refine li_imul dX12_sign_43 ?_
          refine li_top (fun x12 ex12 => ?_)
          have z8 : (8 : Int32).toInt = 8 := rfl
          try (have tx12 : x12.toInt = 8 * (x5 : Int32).toInt := tl_mul ex12 (show -2147483648 ≤ 8 * (x5 : Int32).toInt ∧ 8 * (x5 : Int32).toInt ≤ 2147483647 by omega))
          refine li_ishr dX12_sign_44 ?_
          refine li_top (fun x13 ex13 => ?_)
          refine li_i2b dX12_sign_45 ?_
          refine li_top (fun x14 ex14 => ?_)
          refine li_bast dX12_sign_46 (by decide) sh_180 (tl_in (by omega)) ?_
          refine li_nm (fun M15 eM15 => ?_)
          have hf := li_fs_ui hf (Or.inl rfl) eM15
          have hJ := hJ.st (by decide) (li_el_byte (by unfold li_rq; omega)) eM15
          have rM15_7 := J_sl7 (M := M15) hJ
          have mM15_7 : (M15.1 175 7).toInt = (M11.1 175 7).toInt := by rw [eM15, li_ui_at, if_neg (by decide)]
          have Prw_M15 : li_rw (M15.1 180) ((M0.1 180)) (p1) ((M0.1 175 7).toInt) ((x5 : Int32).toInt - 1) := li_rw_st (t := x12) Prw_M11 eM15 (by omega) (by omega) (by omega) (by rw [ex14, li_b8, ex13]) (by omega) (by omega)
          obtain ⟨x16, ex16⟩ : ∃ y : Int32, y = x5 + (-1) := ⟨_, rfl⟩
          have zm1 : ((-1) : Int32).toInt = -1 := rfl
          try (have tx16 : x16.toInt = (x5 : Int32).toInt + ((-1) : Int32).toInt := tl_add ex16 (by omega))
          refine li_iinc 0 [(2, .int x16), (0, .ref (Z.2.2 175)), (1, .int p1)] x16 dX12_sign_47 rfl (by rw [ex16]; rfl) (by decide) rfl ?_
          refine li_goto 20 dX12_sign_50 (by decide) ?_
          refine li_pick [0, 1, 2] [(2, .int x16), (0, .ref (Z.2.2 175)), (1, .int p1)] rfl ?_
          exact ih20 x16 M15 (by omega) hf hJ (by omega) (by first | exact li_rw_tr rfl rfl rfl rfl (by omega) Prw_M15 | exact li_rw_0 (li_cell_ui eM15 (by decide)) (by omega))
    have z3 : (3 : Int32).toInt = 3 := rfl
    exact L20 _ 3 M1 (Nat.lt_succ_self _) hf hJ (by omega) (by first | exact li_rw_0 (li_cell_ui eM1 (by decide)) (by omega))
  · have tc4 : 80 < x3.toInt := tl_nle c4
    refine li_iconst (-1) dX12_sign_16 (by decide) ?_
    have zm1 : ((-1) : Int32).toInt = -1 := rfl
    exact li_iret dX12_sign_17 rfl rfl ⟨⟨_, rfl, (by first | exact ⟨by omega, li_rx_no (li_cell_ui eM1 (by decide)) (by omega)⟩ | exact ⟨by omega, li_rx_yes Prw_M1 (by omega) (by omega)⟩)⟩, hf, hJ⟩
