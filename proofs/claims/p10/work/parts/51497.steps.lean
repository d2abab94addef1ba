/-- where the next line begins; where line n begins; what it tellsZq asZq a stepZq -/
def rd_nx (g : Nat → Int32) (len p : Int) : Int := (rd_nm g len 3 (-1) ((rd_nm g len 2 (-1) p).2 + 1)).2 + 1
def rd_pp (g : Nat → Int32) (len : Int) : Nat → Int → Int
  | 0, p => p
  | n + 1, p => rd_nx g len (rd_pp g len n p)
def rd_sv (g : Nat → Int32) (len : Int) (n : Nat) (p : Int) : Int := (rd_nm g len 2 (-1) (rd_pp g len n p)).1
def li_pp (f g : Nat → Int32) (len p n : Int) : Prop := p = rd_pp g len n.toNat 0
theorem li_pp_0 {f g : Nat → Int32} {len p n : Int} (hp : p = 0) (hn : n = 0) : li_pp f g len p n := by
  subst hp; subst hn; rfl
theorem li_pp_st {f f' g : Nat → Int32} {len p n p' n' R1 Q1Zq R2 Q2Zq : Int} (hZq : li_pp f g len p n) (h1 : li_nq g len 2 (-1) p R1 Q1Zq) (h2 : li_nq g len 3 (-1) (Q1Zq + 1) R2 Q2Zq) (h0 : 0 ≤ n) (hp : p' = Q2Zq + 1) (hn : n' = n + 1) : li_pp f' g len p' n' := by
  unfold li_pp at hZq ⊢
  have e1Zq : rd_nm g len 2 (-1) p = (R1, Q1Zq) := h1
  have e2Zq : rd_nm g len 3 (-1) (Q1Zq + 1) = (R2, Q2Zq) := h2
  rw [hn, show (n + 1).toNat = n.toNat + 1 by omega]
  unfold rd_pp
  rw [← hZq]
  unfold rd_nx
  rw [e1Zq]
  dsimp only
  rw [e2Zq]
  exact hp
theorem li_pp_sv {f g : Nat → Int32} {len p n R1 Q1Zq : Int} (hZq : li_pp f g len p n) (h1 : li_nq g len 2 (-1) p R1 Q1Zq) : R1 = rd_sv g len n.toNat 0 := by
  unfold li_pp at hZq
  have e1Zq : rd_nm g len 2 (-1) p = (R1, Q1Zq) := h1
  unfold rd_sv
  rw [← hZq, e1Zq]
/-- a stepZq isZq writtenZq; the stepsZq ofZq lines -/
def li_wv (g g0 : Nat → Int32) (slotZq v : Int) : Prop := ∀ i : Nat, (¬ (i : Int) = slotZq → g i = g0 i) ∧ ((i : Int) = slotZq → i < 6 → (g i).toInt = v)
theorem li_wv_tr {g g' g0 g0' : Nat → Int32} {slotZq slot' v v' : Int} (hg : g' = g) (h0 : g0' = g0) (h1 : slot' = slotZq) (h2 : v' = v) (hZq : li_wv g g0 slotZq v) : li_wv g' g0' slot' v' := by
  subst hg; subst h0; subst h1; subst h2; exact hZq
theorem li_wv_st {g g' g0 : Nat → Int32} {x y : Int32} {slotZq v : Int} (hp : ∀ k : Nat, g' k = if 0 ≤ x.toInt ∧ x.toInt < ((6 : Nat) : Int) ∧ k = x.toNatClampNeg then y else g k) (hg : g = g0) (hx : x.toInt = slotZq) (hv : y.toInt = v) : li_wv g' g0 slotZq v := by
  subst hg
  intro i
  rw [hp i]
  refine ⟨fun c => ?_, fun c c6Zq => ?_⟩
  · rw [if_neg (fun zZq => c (by have := li_cl (i := x) zZq.1; omega))]
  · have h9 := li_cl (i := x) (by omega)
    rw [if_pos ⟨by omega, by omega, by omega⟩]; exact hv
def li_wr (g g0 : Nat → Int32) (slotZq v r : Int) : Prop := ∀ i : Nat, (¬ (i : Int) = slotZq → g i = g0 i) ∧ (r = 1 → (i : Int) = slotZq → i < 6 → (g i).toInt = v)
theorem li_wr_tr {g g' g0 g0' : Nat → Int32} {slotZq slot' v v' r r' : Int} (hg : g' = g) (h0 : g0' = g0) (h1 : slot' = slotZq) (h2 : v' = v) (h3 : r' = r) (hZq : li_wr g g0 slotZq v r) : li_wr g' g0' slot' v' r' := by
  subst hg; subst h0; subst h1; subst h2; subst h3; exact hZq
theorem li_wr_wv {g g0 : Nat → Int32} {slotZq v r : Int} (hZq : li_wv g g0 slotZq v) : li_wr g g0 slotZq v r := fun i => ⟨(hZq i).1, fun _ => (hZq i).2⟩
theorem li_wr_no {g g0 : Nat → Int32} {slotZq v r : Int} (hZq : g = g0) (hr : r = 0) : li_wr g g0 slotZq v r := fun i => ⟨fun _ => by rw [hZq], fun q => absurd q (by omega)⟩
def li_ss (g g0 hZq : Nat → Int32) (len PZq n : Int) : Prop := ∀ i : Nat, ((i : Int) < PZq → g i = g0 i) ∧ (∀ jZq : Nat, (jZq : Int) < n → (i : Int) = PZq + jZq → i < 6 → (g i).toInt = rd_sv hZq len jZq 0)
theorem li_ss_tr {g g' g0 g0' hZq h' : Nat → Int32} {len len' PZq P'Zq n n' : Int} (hg : g' = g) (h0 : g0' = g0) (hh : h' = hZq) (h1 : len' = len) (h2 : P'Zq = PZq) (h3 : n' ≤ n) (a : li_ss g g0 hZq len PZq n) : li_ss g' g0' h' len' P'Zq n' := by
  subst hg; subst h0; subst hh; subst h1; subst h2
  exact fun i => ⟨(a i).1, fun jZq hj => (a i).2 jZq (by omega)⟩
theorem li_ss_0 {g g0 hZq : Nat → Int32} {len PZq n : Int} (hg : g = g0) (hn : n ≤ 0) : li_ss g g0 hZq len PZq n := fun i => ⟨fun _ => by rw [hg], fun jZq hj => absurd hj (by omega)⟩
theorem li_ss_st {g g' g0 hZq : Nat → Int32} {len PZq n n' slotZq v r : Int} (a : li_ss g g0 hZq len PZq n) (wZq : li_wr g' g slotZq v r) (hs : slotZq = PZq + n) (h0 : 0 ≤ n) (hr : r = 1) (hv : v = rd_sv hZq len n.toNat 0) (hn : n' ≤ n + 1) : li_ss g' g0 hZq len PZq n' := by
  intro i
  refine ⟨fun c => ?_, fun jZq hj hiZq h6 => ?_⟩
  · rw [(wZq i).1 (by omega)]; exact (a i).1 c
  · by_cases c : (jZq : Int) = n
    · rw [(wZq i).2 hr (by omega) h6, hv, show n.toNat = jZq by omega]
    · rw [(wZq i).1 (by omega)]; exact (a i).2 jZq (by omega) hiZq h6
theorem li_ss_no {g g' g0 hZq : Nat → Int32} {len PZq n n' slotZq v r : Int} (a : li_ss g g0 hZq len PZq n) (wZq : li_wr g' g slotZq v r) (hs : slotZq = PZq + n) (h0 : 0 ≤ n) (hn : n' ≤ 0) : li_ss g' g0 hZq len PZq n' := fun i => ⟨fun c => by rw [(wZq i).1 (by omega)]; exact (a i).1 c, fun jZq hj => absurd hj (by omega)⟩
def li_sy (g g0 hZq : Nat → Int32) (len PZq n x : Int) : Prop := (x = 1 → li_ss g g0 hZq len PZq n) ∧ li_ss g g0 hZq len PZq (-1)
theorem li_sy_tr {g g' g0 g0' hZq h' : Nat → Int32} {len len' PZq P'Zq n n' x x' : Int} (hg : g' = g) (h0 : g0' = g0) (hh : h' = hZq) (h1 : len' = len) (h2 : P'Zq = PZq) (h3 : n' = n) (h4 : x' = x) (a : li_sy g g0 hZq len PZq n x) : li_sy g' g0' h' len' P'Zq n' x' := by
  subst hg; subst h0; subst hh; subst h1; subst h2; subst h3; subst h4; exact a
def li_ce (g g0 : Nat → Int32) : Prop := g = g0
abbrev li_c2 (g g0 : Nat → Int32) : Prop := li_ce g g0
theorem li_c2_tr {g g' g0 g0' : Nat → Int32} (hg : g' = g) (h0 : g0' = g0) (hZq : li_c2 g g0) : li_c2 g' g0' := by
  subst hg; subst h0; exact hZq
theorem li_ce_tr {g g' g0 g0' : Nat → Int32} (hg : g' = g) (h0 : g0' = g0) (hZq : li_ce g g0) : li_ce g' g0' := by
  subst hg; subst h0; exact hZq

set_option maxRecDepth 100000 in
set_option maxHeartbeats 4000000 in
theorem k8_X8_readPerson {l : Launch} {Z : li_Z} (d : Nat) (hdZq : 3 ≤ d) (p1Zq : Int32) (M0 : li_M) (h1 : 0 ≤ (M0.1 1 2).toInt ∧ (M0.1 1 2).toInt ≤ (M0.1 1 1).toInt ∧ (M0.1 1 1).toInt ≤ 80) (Psg_M0 : li_sg (M0.1 2)) (R1 Q1Zq R2 Q2Zq : Int) (Pnq_M0 : li_nq (M0.1 2) ((M0.1 1 1).toInt) (2) (-1) ((M0.1 1 2).toInt) (R1) (Q1Zq)) (Pn2_M0 : li_n2 (M0.1 2) ((M0.1 1 1).toInt) (3) (-1) (Q1Zq + 1) (R2) (Q2Zq)) (g6 : Nat → Int32) (hg6 : M0.1 6 = g6) : li_Met l Z YX8_readPerson d [.ref (Z.2.2 5), .ref (Z.2.2 1), .int p1Zq] M0 (fun r M' => (∃ x : Int32, r = some (.int x) ∧ (x = 0 ∨ x = 1) ∧ ((((x.toInt = 1 ∧ 0 ≤ R1 ∧ rd_ch (M0.1 2) ((M0.1 1 1).toInt) (Q1Zq) = 58 ∧ 0 ≤ R2 ∧ (M'.1 1 2).toInt = Q2Zq) ∨ (x.toInt = 0 ∧ R1 < 0 ∧ (M'.1 1 2).toInt = Q1Zq) ∨ (x.toInt = 0 ∧ 0 ≤ R1 ∧ ¬ rd_ch (M0.1 2) ((M0.1 1 1).toInt) (Q1Zq) = 58 ∧ (M'.1 1 2).toInt = Q1Zq) ∨ (x.toInt = 0 ∧ 0 ≤ R1 ∧ rd_ch (M0.1 2) ((M0.1 1 1).toInt) (Q1Zq) = 58 ∧ R2 < 0 ∧ (M'.1 1 2).toInt = Q2Zq)) ∧ (M'.1 1 1).toInt = (M0.1 1 1).toInt ∧ (M0.1 1 2).toInt ≤ (M'.1 1 2).toInt ∧ (M'.1 1 2).toInt ≤ (M0.1 1 1).toInt) ∧ li_wr (M'.1 6) g6 (p1Zq.toInt) R1 (x.toInt))) ∧ li_fr (fun i => i = 1 ∨ i = 6 ∨ i = 7) M0 M') := by
  refine li_enter (by decide +kernel) (Nat.le_of_ble_eq_true rfl) ?_
  show li_T l Z YX8_readPerson d 0 [(0, .ref (Z.2.2 5)), (1, .ref (Z.2.2 1)), (2, .int p1Zq)] [] M0 _
  have hf : li_fr (fun i => i = 1 ∨ i = 6 ∨ i = 7) M0 M0 := li_fr_refl
  have gp1 := tl_rg p1Zq
  have Pce_M0 : li_ce (M0.1 6) (g6) := hg6
  refine li_aload_n 1 dX8_readPerson_0 rfl ?_
  refine li_iconst 2 dX8_readPerson_1 (by decide) ?_
  refine li_callV (n := 1) (As := [.int 2]) dX8_readPerson_2 (k5_X7_takeNumber (d - 1) (by omega) 2 M0 (by omega) Psg_M0 (by decide) _ _ (li_nq_tr rfl (by omega) rfl rfl (by omega) rfl rfl Pnq_M0)) (by omega) (Nat.le_of_ble_eq_true rfl) w_676 w_635 w_636 w_102 w_637 (by decide +kernel) rfl (by decide) sh_1 rfl rfl (Nat.le_of_ble_eq_true rfl) (fun r M2Zq h3 => ?_)
  have z2 : (2 : Int32).toInt = 2 := rfl
  obtain ⟨⟨x1Zq, rfl, qx1⟩, h3⟩ := h3
  have gx1 := tl_rg x1Zq
  have hf := li_fr_trans hf h3 (fun i (hZq : i = 1) => (show i = 1 ∨ i = 6 ∨ i = 7 by omega))
  have Psg_M2 : li_sg (M2Zq.1 2)  := li_sg_tr (h3.1 2 (fun hZq => by first | exact (hZq : False).elim | omega))  Psg_M0
  have Pn2_M2 : li_n2 (M2Zq.1 2) ((M2Zq.1 1 1).toInt) (3) (-1) (Q1Zq + 1) (R2) (Q2Zq) := li_n2_tr (h3.1 2 (fun hZq => by first | exact (hZq : False).elim | omega)) (by omega) (by omega) (by omega) (by omega) (by omega) (by omega) Pn2_M0
  have Pce_M2 : li_ce (M2Zq.1 6) (g6) := li_ce_tr (h3.1 6 (fun hZq => by first | exact (hZq : False).elim | omega)) rfl Pce_M0
  have chs : rd_ch (M2Zq.1 2) ((M2Zq.1 1 1).toInt) ((M2Zq.1 1 2).toInt) = rd_ch (M0.1 2) ((M0.1 1 1).toInt) (Q1Zq) := by rw [show M2Zq.1 2 = M0.1 2 from hf.1 2 (by first | decide | omega), show (M2Zq.1 1 1).toInt = (M0.1 1 1).toInt by omega, show (M2Zq.1 1 2).toInt = Q1Zq by omega]
  refine li_istore_n [(3, .int x1Zq), (0, .ref (Z.2.2 5)), (1, .ref (Z.2.2 1)), (2, .int p1Zq)] dX8_readPerson_5 (by decide) rfl ?_
  refine li_iload_n 0 dX8_readPerson_6 rfl ?_
  refine li_if_lt 19 dX8_readPerson_7 (by decide) (fun c4 => ?_) (fun c4 => ?_)
  · have tc4 : x1Zq.toInt < 0 := tl_lt c4
    refine li_iconst 0 dX8_readPerson_19 (by decide) ?_
    have z0 : (0 : Int32).toInt = 0 := rfl
    exact li_iret dX8_readPerson_20 rfl (li_nz (Or.inl rfl)) ⟨⟨_, rfl, Or.inl rfl, (by refine ⟨by omega, ?_⟩; first | exact li_wr_wv Pwv_M2 | exact li_wr_no Pce_M2 (by omega))⟩, hf⟩
  · have tc4 : 0 ≤ x1Zq.toInt := tl_nlt c4
    refine li_aload_n 2 dX8_readPerson_10 rfl ?_
    refine li_bipush 58 dX8_readPerson_11 (by decide) ?_
    refine li_callV (n := 1) (As := [.int 58]) dX8_readPerson_13 (k5_X7_skip (d - 1) (by omega) 58 M2Zq (by omega) Psg_M2 (by decide)) (by omega) (Nat.le_of_ble_eq_true rfl) w_677 w_565 w_566 w_102 w_567 (by decide +kernel) rfl (by decide) sh_1 rfl rfl (Nat.le_of_ble_eq_true rfl) (fun r M6Zq h7 => ?_)
    have z58 : (58 : Int32).toInt = 58 := rfl
    obtain ⟨⟨x5Zq, rfl, bx5, qx5⟩, h7⟩ := h7
    have ux5 := tl_b bx5
    have hf := li_fr_trans hf h7 (fun i (hZq : i = 1) => (show i = 1 ∨ i = 6 ∨ i = 7 by omega))
    have Psg_M6 : li_sg (M6Zq.1 2)  := li_sg_tr (h7.1 2 (fun hZq => by first | exact (hZq : False).elim | omega))  Psg_M2
    have Pn2_M6 : li_n2 (M6Zq.1 2) ((M6Zq.1 1 1).toInt) (3) (-1) (Q1Zq + 1) (R2) (Q2Zq) := li_n2_tr (h7.1 2 (fun hZq => by first | exact (hZq : False).elim | omega)) (by omega) (by omega) (by omega) (by omega) (by omega) (by omega) Pn2_M2
    have Pce_M6 : li_ce (M6Zq.1 6) (g6) := li_ce_tr (h7.1 6 (fun hZq => by first | exact (hZq : False).elim | omega)) rfl Pce_M2
    refine li_if_ne 21 dX8_readPerson_16 (by decide) (fun c8Zq => ?_) (fun c8Zq => ?_)
    · have tc8 : ¬ x5Zq.toInt = 0 := tl_ne c8Zq
      refine li_aload_n 2 dX8_readPerson_21 rfl ?_
      refine li_iconst 3 dX8_readPerson_22 (by decide) ?_
      refine li_callV (n := 1) (As := [.int 3]) dX8_readPerson_23 (k5_X7_takeNumber (d - 1) (by omega) 3 M6Zq (by omega) Psg_M6 (by decide) _ _ (li_nq_tr rfl (by omega) rfl rfl (by omega) rfl rfl Pn2_M6)) (by omega) (Nat.le_of_ble_eq_true rfl) w_676 w_635 w_636 w_102 w_637 (by decide +kernel) rfl (by decide) sh_1 rfl rfl (Nat.le_of_ble_eq_true rfl) (fun r M10 h11 => ?_)
      have z3 : (3 : Int32).toInt = 3 := rfl
      obtain ⟨⟨x9, rfl, qx9⟩, h11⟩ := h11
      have gx9 := tl_rg x9
      have hf := li_fr_trans hf h11 (fun i (hZq : i = 1) => (show i = 1 ∨ i = 6 ∨ i = 7 by omega))
      have Psg_M10 : li_sg (M10.1 2)  := li_sg_tr (h11.1 2 (fun hZq => by first | exact (hZq : False).elim | omega))  Psg_M6
      have Pn2_M10 : li_n2 (M10.1 2) ((M10.1 1 1).toInt) (3) (-1) (Q1Zq + 1) (R2) (Q2Zq) := li_n2_tr (h11.1 2 (fun hZq => by first | exact (hZq : False).elim | omega)) (by omega) (by omega) (by omega) (by omega) (by omega) (by omega) Pn2_M6
      have Pce_M10 : li_ce (M10.1 6) (g6) := li_ce_tr (h11.1 6 (fun hZq => by first | exact (hZq : False).elim | omega)) rfl Pce_M6
      refine li_istore [(4, .int x9), (3, .int x1Zq), (0, .ref (Z.2.2 5)), (1, .ref (Z.2.2 1)), (2, .int p1Zq)] dX8_readPerson_26 (by decide) rfl ?_
      refine li_aload_n 2 dX8_readPerson_28 rfl ?_
      refine li_getr (k := 2) (N := 9) (T := TX8) (C0 := RX8) dX8_readPerson_29 (by decide) sh_5 rfl rfl (by decide) (by decide) li_in8 w_183 ?_
      refine li_iload_n 4 dX8_readPerson_32 rfl ?_
      refine li_iload_n 1 dX8_readPerson_33 rfl ?_
      refine li_callN (n := 3) (As := [.ref (Z.2.2 6), .int p1Zq, .int x1Zq]) dX8_readPerson_34 (a_X11_put (d - 1) (by omega) (by decide) sh_6 (by decide) p1Zq x1Zq M10) (by omega) (Nat.le_of_ble_eq_true rfl) nw_12 w_522 w_101 w_523 (by decide +kernel) rfl rfl (Nat.le_of_ble_eq_true rfl) (fun r M13 h14 => ?_)
      obtain ⟨rfl, h14, nM13⟩ := h14
      have hf := li_fr_trans hf h14 (fun i (hZq : i = 6) => (show i = 1 ∨ i = 6 ∨ i = 7 by omega))
      have mM13_1_1 : (M13.1 1 1).toInt = (M10.1 1 1).toInt := by rw [h14.1 1 (show ¬ (1 = 6) by omega)]
      have mM13_1_2 : (M13.1 1 2).toInt = (M10.1 1 2).toInt := by rw [h14.1 1 (show ¬ (1 = 6) by omega)]
      have Psg_M13 : li_sg (M13.1 2)  := li_sg_tr (h14.1 2 (fun hZq => by first | exact (hZq : False).elim | omega))  Psg_M10
      have Pn2_M13 : li_n2 (M13.1 2) ((M13.1 1 1).toInt) (3) (-1) (Q1Zq + 1) (R2) (Q2Zq) := li_n2_tr (h14.1 2 (fun hZq => by first | exact (hZq : False).elim | omega)) (by omega) (by omega) (by omega) (by omega) (by omega) (by omega) Pn2_M10
      have Pwv_M13 : li_wv (M13.1 6) (g6) (p1Zq.toInt) (R1) := li_wv_st nM13 Pce_M10 (by omega) (by omega)
      refine li_aload_n 2 dX8_readPerson_37 rfl ?_
      refine li_getr (k := 3) (N := 9) (T := TX8) (C0 := RX8) dX8_readPerson_38 (by decide) sh_5 rfl rfl (by decide) (by decide) li_in8 w_185 ?_
      refine li_iload_n 4 dX8_readPerson_41 rfl ?_
      refine li_iload 0 dX8_readPerson_42 rfl ?_
      refine li_callN (n := 3) (As := [.ref (Z.2.2 7), .int p1Zq, .int x9]) dX8_readPerson_44 (a_X11_put (d - 1) (by omega) (by decide) sh_7 (by decide) p1Zq x9 M13) (by omega) (Nat.le_of_ble_eq_true rfl) nw_12 w_522 w_101 w_523 (by decide +kernel) rfl rfl (Nat.le_of_ble_eq_true rfl) (fun r M16 h17 => ?_)
      obtain ⟨rfl, h17, nM16⟩ := h17
      have hf := li_fr_trans hf h17 (fun i (hZq : i = 7) => (show i = 1 ∨ i = 6 ∨ i = 7 by omega))
      have mM16_1_1 : (M16.1 1 1).toInt = (M13.1 1 1).toInt := by rw [h17.1 1 (show ¬ (1 = 7) by omega)]
      have mM16_1_2 : (M16.1 1 2).toInt = (M13.1 1 2).toInt := by rw [h17.1 1 (show ¬ (1 = 7) by omega)]
      have Psg_M16 : li_sg (M16.1 2)  := li_sg_tr (h17.1 2 (fun hZq => by first | exact (hZq : False).elim | omega))  Psg_M13
      have Pn2_M16 : li_n2 (M16.1 2) ((M16.1 1 1).toInt) (3) (-1) (Q1Zq + 1) (R2) (Q2Zq) := li_n2_tr (h17.1 2 (fun hZq => by first | exact (hZq : False).elim | omega)) (by omega) (by omega) (by omega) (by omega) (by omega) (by omega) Pn2_M13
      have Pwv_M16 : li_wv (M16.1 6) (g6) (p1Zq.toInt) (R1) := li_wv_tr (h17.1 6 (fun hZq => by first | exact (hZq : False).elim | omega)) rfl (by omega) (by omega) Pwv_M13
      refine li_iload 0 dX8_readPerson_47 rfl ?_
      refine li_if_lt 56 dX8_readPerson_49 (by decide) (fun c18Zq => ?_) (fun c18Zq => ?_)
      · have tc18 : x9.toInt < 0 := tl_lt c18Zq
        refine li_iconst 0 dX8_readPerson_56 (by decide) ?_
        have z0 : (0 : Int32).toInt = 0 := rfl
        exact li_iret dX8_readPerson_57 rfl (li_nz (Or.inl rfl)) ⟨⟨_, rfl, Or.inl rfl, (by refine ⟨by omega, ?_⟩; first | exact li_wr_wv Pwv_M16 | exact li_wr_no Pce_M16 (by omega))⟩, hf⟩
      · have tc18 : 0 ≤ x9.toInt := tl_nlt c18Zq
        refine li_iconst 1 dX8_readPerson_52 (by decide) ?_
        refine li_goto 57 dX8_readPerson_53 (by decide) ?_
        have z1 : (1 : Int32).toInt = 1 := rfl
        exact li_iret dX8_readPerson_57 rfl (li_nz (Or.inr rfl)) ⟨⟨_, rfl, Or.inr rfl, (by refine ⟨by omega, ?_⟩; first | exact li_wr_wv Pwv_M16 | exact li_wr_no Pce_M16 (by omega))⟩, hf⟩
    · have tc8 : x5Zq.toInt = 0 := tl_eq c8Zq
      refine li_iconst 0 dX8_readPerson_19 (by decide) ?_
      have z0 : (0 : Int32).toInt = 0 := rfl
      exact li_iret dX8_readPerson_20 rfl (li_nz (Or.inl rfl)) ⟨⟨_, rfl, Or.inl rfl, (by refine ⟨by omega, ?_⟩; first | exact li_wr_wv Pwv_M6 | exact li_wr_no Pce_M6 (by omega))⟩, hf⟩

set_option maxRecDepth 100000 in
set_option maxHeartbeats 4000000 in
theorem k8_X11_readLine {l : Launch} {Z : li_Z} (d : Nat) (hdZq : 4 ≤ d) (p1Zq : Int32) (p2Zq : Int32) (M0 : li_M) (h1 : 0 ≤ (M0.1 1 2).toInt ∧ (M0.1 1 2).toInt ≤ (M0.1 1 1).toInt ∧ (M0.1 1 1).toInt ≤ 80) (Psg_M0 : li_sg (M0.1 2)) (h2 : p1Zq.toInt = 0 ∧ 0 ≤ p2Zq.toInt ∧ p2Zq.toInt ≤ 100 ∧ 0 ≤ (M0.1 5 0).toInt ∧ (M0.1 5 0).toInt ≤ 6) (R1 Q1Zq R2 Q2Zq : Int) (Pnq_M0 : li_nq (M0.1 2) ((M0.1 1 1).toInt) (2) (-1) ((M0.1 1 2).toInt) (R1) (Q1Zq)) (Pn2_M0 : li_n2 (M0.1 2) ((M0.1 1 1).toInt) (3) (-1) (Q1Zq + 1) (R2) (Q2Zq)) (g6 : Nat → Int32) (hg6 : M0.1 6 = g6) : li_Met l Z YX11_readLine d [.ref (Z.2.2 0), .int p1Zq, .int p2Zq] M0 (fun r M' => (∃ x : Int32, r = some (.int x) ∧ (x = 0 ∨ x = 1) ∧ ((((x.toInt = 1 ∧ 0 ≤ R1 ∧ rd_ch (M0.1 2) ((M0.1 1 1).toInt) (Q1Zq) = 58 ∧ 0 ≤ R2 ∧ (M'.1 1 2).toInt = Q2Zq) ∨ (x.toInt = 0 ∧ R1 < 0 ∧ (M'.1 1 2).toInt = Q1Zq) ∨ (x.toInt = 0 ∧ 0 ≤ R1 ∧ ¬ rd_ch (M0.1 2) ((M0.1 1 1).toInt) (Q1Zq) = 58 ∧ (M'.1 1 2).toInt = Q1Zq) ∨ (x.toInt = 0 ∧ 0 ≤ R1 ∧ rd_ch (M0.1 2) ((M0.1 1 1).toInt) (Q1Zq) = 58 ∧ R2 < 0 ∧ (M'.1 1 2).toInt = Q2Zq)) ∧ (M'.1 1 1).toInt = (M0.1 1 1).toInt ∧ (M0.1 1 2).toInt ≤ (M'.1 1 2).toInt ∧ (M'.1 1 2).toInt ≤ (M0.1 1 1).toInt) ∧ li_wr (M'.1 6) g6 ((M0.1 5 0).toInt + p2Zq.toInt) R1 (x.toInt))) ∧ li_fr (fun i => i = 1 ∨ i = 6 ∨ i = 7) M0 M') := by
  refine li_enter (by decide +kernel) (Nat.le_of_ble_eq_true rfl) ?_
  show li_T l Z YX11_readLine d 0 [(0, .ref (Z.2.2 0)), (1, .int p1Zq), (2, .int p2Zq)] [] M0 _
  have hf : li_fr (fun i => i = 1 ∨ i = 6 ∨ i = 7) M0 M0 := li_fr_refl
  have gp1 := tl_rg p1Zq
  have gp2 := tl_rg p2Zq
  refine li_iload_n 1 dX11_readLine_0 rfl ?_
  refine li_table dX11_readLine_1 69 (by decide) (fun c1 => ?_) (fun c1a c1b => ?_)
  · exfalso; omega
  · rcases (show (p1Zq : Int32).toInt = 0 ∨ (p1Zq : Int32).toInt = 1 ∨ (p1Zq : Int32).toInt = 2 by omega) with c1 | c1 | c1
    · refine ⟨27, 28, by rw [c1]; rfl, by decide, ?_⟩
      refine li_aload_n 0 dX11_readLine_28 rfl ?_
      refine li_getr (k := 2) (N := 13) (T := TX11) (C0 := RX11) dX11_readLine_29 (by decide) sh_0 rfl rfl (by decide) (by decide) li_in11 w_475 ?_
      refine li_aload_n 0 dX11_readLine_32 rfl ?_
      refine li_getr (k := 0) (N := 13) (T := TX11) (C0 := RX11) dX11_readLine_33 (by decide) sh_0 rfl rfl (by decide) (by decide) li_in11 w_473 ?_
      refine li_aload_n 0 dX11_readLine_36 rfl ?_
      refine li_getr (k := 2) (N := 13) (T := TX11) (C0 := RX11) dX11_readLine_37 (by decide) sh_0 rfl rfl (by decide) (by decide) li_in11 w_475 ?_
      refine li_geti (k := 0) (N := 9) (T := TX8) (C0 := RX8) dX11_readLine_40 (by decide) sh_5 rfl rfl (by decide) li_in8 w_178 ?_
      refine li_top (fun x2Zq ex2Zq => ?_)
      have gx2 := tl_rg x2Zq
      have vx2 : x2Zq.toInt = (M0.1 5 0).toInt := tl_eq ex2Zq
      refine li_iload_n 2 dX11_readLine_43 rfl ?_
      refine li_iadd dX11_readLine_44 ?_
      refine li_top (fun x3 ex3Zq => ?_)
      have tx3 : (-2147483648 ≤ x2Zq.toInt + p2Zq.toInt ∧ x2Zq.toInt + p2Zq.toInt ≤ 2147483647) → x3.toInt = x2Zq.toInt + p2Zq.toInt := tl_add ex3Zq
      refine li_callV (n := 2) (As := [.ref (Z.2.2 1), .int x3]) dX11_readLine_45 (k8_X8_readPerson (d - 1) (by omega) x3 M0 (by omega) Psg_M0 R1 Q1Zq R2 Q2Zq Pnq_M0 Pn2_M0 g6 hg6) (by omega) (Nat.le_of_ble_eq_true rfl) w_672 w_673 w_674 w_104 w_675 (by decide +kernel) rfl (by decide) sh_5 rfl rfl (Nat.le_of_ble_eq_true rfl) (fun r M5Zq h6 => ?_)
      obtain ⟨⟨x4Zq, rfl, bx4, qx4⟩, h6⟩ := h6
      have ux4 := tl_b bx4
      have hf := li_fr_trans hf h6 (fun i (hZq : i = 1 ∨ i = 6 ∨ i = 7) => (show i = 1 ∨ i = 6 ∨ i = 7 by omega))
      have mM5_5_0 : (M5Zq.1 5 0).toInt = (M0.1 5 0).toInt := by rw [h6.1 5 (show ¬ (5 = 1 ∨ 5 = 6 ∨ 5 = 7) by omega)]
      have Psg_M5 : li_sg (M5Zq.1 2)  := li_sg_tr (h6.1 2 (fun hZq => by first | exact (hZq : False).elim | omega))  Psg_M0
      have Pn2_M5 : li_n2 (M5Zq.1 2) ((M5Zq.1 1 1).toInt) (3) (-1) (Q1Zq + 1) (R2) (Q2Zq) := li_n2_tr (h6.1 2 (fun hZq => by first | exact (hZq : False).elim | omega)) (by omega) (by omega) (by omega) (by omega) (by omega) (by omega) Pn2_M0
      have Pwr_M5 : li_wr (M5Zq.1 6) (g6) ((M0.1 5 0).toInt + p2Zq.toInt) (R1) (x4Zq.toInt) := li_wr_tr rfl rfl (by omega) rfl rfl qx4.2
      exact li_iret dX11_readLine_48 rfl (li_nz (bx4)) ⟨⟨_, rfl, bx4, (by exact ⟨by omega, Pwr_M5⟩)⟩, hf⟩
    · exfalso; omega
    · exfalso; omega

set_option maxRecDepth 100000 in
set_option maxHeartbeats 4000000 in
theorem k8_X11_readLines {l : Launch} {Z : li_Z} (d : Nat) (hdZq : 5 ≤ d) (p1Zq : Int32) (p2Zq : Int32) (M0 : li_M) (h1 : 0 ≤ (M0.1 1 2).toInt ∧ (M0.1 1 2).toInt ≤ (M0.1 1 1).toInt ∧ (M0.1 1 1).toInt ≤ 80) (Psg_M0 : li_sg (M0.1 2)) (h2p : p1Zq.toInt = 0 ∧ p2Zq.toInt ≤ 100) (OK QQ MM : Int) (Ppq_M0 : li_pq (M0.1 2) ((M0.1 1 1).toInt) (p2Zq.toInt) ((M0.1 1 2).toInt) (0) (OK) (QQ) (MM)) (h5 : 0 ≤ (M0.1 5 0).toInt ∧ (M0.1 5 0).toInt ≤ 6) (h0 : (M0.1 1 2).toInt = 0) (g6 : Nat → Int32) (hg6 : M0.1 6 = g6) (h2 : Nat → Int32) (hh2 : M0.1 2 = h2) : li_Met l Z YX11_readLines d [.ref (Z.2.2 0), .int p1Zq, .int p2Zq] M0 (fun r M' => (∃ x : Int32, r = some (.int x) ∧ ((((OK = 1 ∧ x.toInt = MM ∧ 0 ≤ MM ∧ MM ≤ 100) ∨ (OK = 0 ∧ x.toInt = -1)) ∧ 0 ≤ (M'.1 1 2).toInt ∧ (M'.1 1 2).toInt ≤ (M0.1 1 1).toInt ∧ (M'.1 1 2).toInt = QQ ∧ (M'.1 1 1).toInt = (M0.1 1 1).toInt) ∧ li_ss (M'.1 6) g6 h2 ((M0.1 1 1).toInt) ((M0.1 5 0).toInt) (x.toInt))) ∧ li_fr (fun i => i = 1 ∨ i = 6 ∨ i = 7) M0 M') := by
  refine li_enter (by decide +kernel) (Nat.le_of_ble_eq_true rfl) ?_
  show li_T l Z YX11_readLines d 0 [(0, .ref (Z.2.2 0)), (1, .int p1Zq), (2, .int p2Zq)] [] M0 _
  have hf : li_fr (fun i => i = 1 ∨ i = 6 ∨ i = 7) M0 M0 := li_fr_refl
  have gp1 := tl_rg p1Zq
  have gp2 := tl_rg p2Zq
  refine li_iconst 0 dX11_readLines_0 (by decide) ?_
  refine li_istore_n [(3, .int 0), (0, .ref (Z.2.2 0)), (1, .int p1Zq), (2, .int p2Zq)] dX11_readLines_1 (by decide) rfl ?_
  have L2Zq : ∀ (n : Nat) (x1Zq : Int32) (M2Zq : li_M), (p2Zq.toInt - (x1Zq : Int32).toInt).toNat < n → li_fr (fun i => i = 1 ∨ i = 6 ∨ i = 7) M0 M2Zq → 0 ≤ (x1Zq : Int32).toInt ∧ (M0.1 1 2).toInt ≤ (M2Zq.1 1 2).toInt ∧ (M2Zq.1 1 2).toInt ≤ (M2Zq.1 1 1).toInt ∧ (M2Zq.1 1 1).toInt = (M0.1 1 1).toInt ∧ (M2Zq.1 5 0).toInt = (M0.1 5 0).toInt → li_sg (M2Zq.1 2)  → li_pq (M2Zq.1 2) ((M2Zq.1 1 1).toInt) (p2Zq.toInt - (x1Zq : Int32).toInt) ((M2Zq.1 1 2).toInt) ((x1Zq : Int32).toInt) (OK) (QQ) (MM) → li_pp (M2Zq.1 6) (h2) ((M0.1 1 1).toInt) ((M2Zq.1 1 2).toInt) ((x1Zq : Int32).toInt) → li_ss (M2Zq.1 6) (g6) (h2) ((M0.1 1 1).toInt) ((M0.1 5 0).toInt) ((x1Zq : Int32).toInt) → li_T l Z YX11_readLines d 2 [(3, .int x1Zq), (0, .ref (Z.2.2 0)), (1, .int p1Zq), (2, .int p2Zq)] [] M2Zq (fun r M' => (∃ x : Int32, r = some (.int x) ∧ ((((OK = 1 ∧ x.toInt = MM ∧ 0 ≤ MM ∧ MM ≤ 100) ∨ (OK = 0 ∧ x.toInt = -1)) ∧ 0 ≤ (M'.1 1 2).toInt ∧ (M'.1 1 2).toInt ≤ (M0.1 1 1).toInt ∧ (M'.1 1 2).toInt = QQ ∧ (M'.1 1 1).toInt = (M0.1 1 1).toInt) ∧ li_ss (M'.1 6) g6 h2 ((M0.1 1 1).toInt) ((M0.1 5 0).toInt) (x.toInt))) ∧ li_fr (fun i => i = 1 ∨ i = 6 ∨ i = 7) M0 M') := by
    intro n
    induction n with
    | zero => intro x1Zq M2Zq hn; exact absurd hn (Nat.not_lt_zero _)
    | succ n ih2 =>
      intro x1Zq M2Zq hn hf hiZq Psg_M2 Ppq_M2 Ppp_M2 Pss_M2
      have gx1 := tl_rg x1Zq
      refine li_iload_n 0 dX11_readLines_2 rfl ?_
      refine li_iload_n 3 dX11_readLines_3 rfl ?_
      refine li_icmp_ge 52 dX11_readLines_4 (by decide) (fun c3 => ?_) (fun c3 => ?_)
      · have tc3 : p2Zq.toInt ≤ x1Zq.toInt := tl_le c3
        refine li_iconst (-1) dX11_readLines_52 (by decide) ?_
        have zm1 : ((-1) : Int32).toInt = -1 := rfl
        exact li_iret dX11_readLines_53 rfl rfl ⟨⟨_, rfl, (by refine ⟨by first | omega | (have zz := li_pq_z Ppq_M2 (by omega); omega), ?_⟩; first | exact li_ss_tr rfl rfl rfl rfl rfl (by omega) (Psy_M2.1 (by omega)) | exact li_ss_tr rfl rfl rfl rfl rfl (by omega) Psy_M2.2 | exact li_ss_tr rfl rfl rfl rfl rfl (by omega) Pss_M2)⟩, hf⟩
      · have tc3 : x1Zq.toInt < p2Zq.toInt := tl_nle c3
        refine li_aload_n 1 dX11_readLines_7 rfl ?_
        refine li_iload_n 2 dX11_readLines_8 rfl ?_
        refine li_iload_n 0 dX11_readLines_9 rfl ?_
        have hf0 := hf
        have pq0 := Ppq_M2
        obtain ⟨R1, Q1Zq, nq0⟩ : ∃ r q, li_nq (M2Zq.1 2) ((M2Zq.1 1 1).toInt) (2) (-1) ((M2Zq.1 1 2).toInt) r q := li_nq_self
        obtain ⟨R2, Q2Zq, n20⟩ : ∃ r q, li_nq (M2Zq.1 2) ((M2Zq.1 1 1).toInt) (3) (-1) (Q1Zq + 1) r q := li_nq_self
        have stq := li_pq_r pq0 (by omega) nq0 n20
        have hhM : M2Zq.1 2 = h2 := (hf.1 2 (by omega)).trans hh2
        have nqh : li_nq h2 ((M0.1 1 1).toInt) (2) (-1) ((M2Zq.1 1 2).toInt) R1 Q1Zq := li_nq_tr hhM.symm (by omega) rfl rfl rfl rfl rfl nq0
        have n2h : li_nq h2 ((M0.1 1 1).toInt) (3) (-1) (Q1Zq + 1) R2 Q2Zq := li_nq_tr hhM.symm (by omega) rfl rfl rfl rfl rfl n20
        have ppq := Ppp_M2
        have svq := li_pp_sv ppq nqh
        have ssq := Pss_M2
        refine li_callV (n := 2) (As := [.int p1Zq, .int x1Zq]) dX11_readLines_10 (k8_X11_readLine (d - 1) (by omega) p1Zq x1Zq M2Zq (by omega) Psg_M2 (by omega) R1 Q1Zq R2 Q2Zq nq0 n20 _ rfl) (by omega) (Nat.le_of_ble_eq_true rfl) w_668 w_670 w_9 w_101 w_671 (by decide +kernel) rfl (by decide) sh_0 rfl rfl (Nat.le_of_ble_eq_true rfl) (fun r M5Zq h6 => ?_)
        obtain ⟨⟨x4Zq, rfl, bx4, qx4⟩, h6⟩ := h6
        have ux4 := tl_b bx4
        have hf := li_fr_trans hf h6 (fun i (hZq : i = 1 ∨ i = 6 ∨ i = 7) => (show i = 1 ∨ i = 6 ∨ i = 7 by omega))
        have mM5_5_0 : (M5Zq.1 5 0).toInt = (M2Zq.1 5 0).toInt := by rw [h6.1 5 (show ¬ (5 = 1 ∨ 5 = 6 ∨ 5 = 7) by omega)]
        have Psg_M5 : li_sg (M5Zq.1 2)  := li_sg_tr (h6.1 2 (fun hZq => by first | exact (hZq : False).elim | omega))  Psg_M2
        have wrq := qx4.2
        have Psy_M5 : li_sy (M5Zq.1 6) (g6) (h2) ((M0.1 1 1).toInt) ((M0.1 5 0).toInt) ((x1Zq : Int32).toInt + 1) (x4Zq.toInt) := ⟨fun h9 => li_ss_st ssq wrq (by omega) (by omega) h9 svq (by omega), li_ss_no ssq wrq (by omega) (by omega) (by omega)⟩
        refine li_if_ne 18 dX11_readLines_13 (by decide) (fun c7Zq => ?_) (fun c7Zq => ?_)
        · have tc7 : ¬ x4Zq.toInt = 0 := tl_ne c7Zq
          refine li_aload_n 1 dX11_readLines_18 rfl ?_
          refine li_getr (k := 0) (N := 13) (T := TX11) (C0 := RX11) dX11_readLines_19 (by decide) sh_0 rfl rfl (by decide) (by decide) li_in11 w_473 ?_
          refine li_callV (n := 0) (As := []) dX11_readLines_22 (k5_X7_atEnd (d - 1) (by omega) M5Zq) (by omega) (Nat.le_of_ble_eq_true rfl) w_663 w_545 w_546 w_102 w_547 (by decide +kernel) rfl (by decide) sh_1 rfl rfl (Nat.le_of_ble_eq_true rfl) (fun r M9Zq h10 => ?_)
          obtain ⟨⟨x8, rfl, bx8, qx8⟩, h10⟩ := h10
          have ux8 := tl_b bx8
          have hf := li_fr_trans hf h10 (fun i hZq => False.elim hZq)
          have mM9_1_1 : (M9Zq.1 1 1).toInt = (M5Zq.1 1 1).toInt := by rw [h10.1 1 id]
          have mM9_1_2 : (M9Zq.1 1 2).toInt = (M5Zq.1 1 2).toInt := by rw [h10.1 1 id]
          have mM9_5_0 : (M9Zq.1 5 0).toInt = (M5Zq.1 5 0).toInt := by rw [h10.1 5 id]
          have Psg_M9 : li_sg (M9Zq.1 2)  := li_sg_tr (h10.1 2 (fun hZq => by first | exact (hZq : False).elim | omega))  Psg_M5
          have Psy_M9 : li_sy (M9Zq.1 6) (g6) (h2) ((M0.1 1 1).toInt) ((M0.1 5 0).toInt) ((x1Zq : Int32).toInt + 1) (x4Zq.toInt) := li_sy_tr (h10.1 6 (fun hZq => by first | exact (hZq : False).elim | omega)) rfl rfl (by omega) (by omega) (by omega) (by omega) Psy_M5
          refine li_if_eq 32 dX11_readLines_25 (by decide) (fun c11Zq => ?_) (fun c11Zq => ?_)
          · have tc11 : x8.toInt = 0 := tl_eq c11Zq
            refine li_aload_n 1 dX11_readLines_32 rfl ?_
            refine li_getr (k := 0) (N := 13) (T := TX11) (C0 := RX11) dX11_readLines_33 (by decide) sh_0 rfl rfl (by decide) (by decide) li_in11 w_473 ?_
            refine li_bipush 59 dX11_readLines_36 (by decide) ?_
            have chs : rd_ch (M9Zq.1 2) ((M9Zq.1 1 1).toInt) ((M9Zq.1 1 2).toInt) = rd_ch (M2Zq.1 2) ((M2Zq.1 1 1).toInt) Q2Zq := by rw [show M9Zq.1 2 = M2Zq.1 2 from (hf.1 2 (by omega)).trans (hf0.1 2 (by omega)).symm, show (M9Zq.1 1 1).toInt = (M2Zq.1 1 1).toInt by omega, show (M9Zq.1 1 2).toInt = Q2Zq by omega]
            refine li_callV (n := 1) (As := [.int 59]) dX11_readLines_38 (k5_X7_skip (d - 1) (by omega) 59 M9Zq (by omega) Psg_M9 (by decide)) (by omega) (Nat.le_of_ble_eq_true rfl) w_700 w_565 w_566 w_102 w_567 (by decide +kernel) rfl (by decide) sh_1 rfl rfl (Nat.le_of_ble_eq_true rfl) (fun r M13 h14 => ?_)
            have z59Zq : (59 : Int32).toInt = 59 := rfl
            obtain ⟨⟨x12, rfl, bx12, qx12⟩, h14⟩ := h14
            have ux12 := tl_b bx12
            have hf := li_fr_trans hf h14 (fun i (hZq : i = 1) => (show i = 1 ∨ i = 6 ∨ i = 7 by omega))
            have mM13_5_0 : (M13.1 5 0).toInt = (M9Zq.1 5 0).toInt := by rw [h14.1 5 (show ¬ (5 = 1) by omega)]
            have Psg_M13 : li_sg (M13.1 2)  := li_sg_tr (h14.1 2 (fun hZq => by first | exact (hZq : False).elim | omega))  Psg_M9
            have Psy_M13 : li_sy (M13.1 6) (g6) (h2) ((M0.1 1 1).toInt) ((M0.1 5 0).toInt) ((x1Zq : Int32).toInt + 1) (x4Zq.toInt) := li_sy_tr (h14.1 6 (fun hZq => by first | exact (hZq : False).elim | omega)) rfl rfl (by omega) (by omega) (by omega) (by omega) Psy_M9
            refine li_if_ne 46 dX11_readLines_41 (by decide) (fun c15Zq => ?_) (fun c15Zq => ?_)
            · have tc15 : ¬ x12.toInt = 0 := tl_ne c15Zq
              obtain ⟨x16, ex16⟩ : ∃ y : Int32, y = x1Zq + 1 := ⟨_, rfl⟩
              have tx16 : (-2147483648 ≤ x1Zq.toInt + 1 ∧ x1Zq.toInt + 1 ≤ 2147483647) → x16.toInt = x1Zq.toInt + 1 := tl_add ex16
              refine li_iinc 0 [(3, .int x16), (0, .ref (Z.2.2 0)), (1, .int p1Zq), (2, .int p2Zq)] x16 dX11_readLines_46 rfl (by rw [ex16]; rfl) (by decide) rfl ?_
              refine li_goto 2 dX11_readLines_49 (by decide) ?_
              refine li_pick [0, 1, 2, 3] [(3, .int x16), (0, .ref (Z.2.2 0)), (1, .int p1Zq), (2, .int p2Zq)] rfl ?_
              exact ih2 x16 M13 (by omega) hf (by omega) (by first | exact li_sg_tr rfl  Psg_M13) (by first | exact li_pq_tr ((hf.1 2 (by omega)).trans (hf0.1 2 (by omega)).symm) (by omega) (by omega) (by omega) (by omega) rfl rfl rfl (li_pq_go pq0 (by omega) nq0 n20 (by omega))) (by first | exact li_pp_0 (by omega) (by omega) | exact li_pp_st ppq nqh n2h (by omega) (by omega) (by omega)) (by first | exact li_ss_0 hg6 (by omega) | exact li_ss_tr rfl rfl rfl rfl rfl (by omega) (Psy_M13.1 (by omega)))
            · have tc15 : x12.toInt = 0 := tl_eq c15Zq
              refine li_iconst (-1) dX11_readLines_44 (by decide) ?_
              have zm1 : ((-1) : Int32).toInt = -1 := rfl
              exact li_iret dX11_readLines_45 rfl rfl ⟨⟨_, rfl, (by refine ⟨by first | omega | (have zz := li_pq_z Ppq_M13 (by omega); omega), ?_⟩; first | exact li_ss_tr rfl rfl rfl rfl rfl (by omega) (Psy_M13.1 (by omega)) | exact li_ss_tr rfl rfl rfl rfl rfl (by omega) Psy_M13.2 | exact li_ss_tr rfl rfl rfl rfl rfl (by omega) Pss_M13)⟩, hf⟩
          · have tc11 : ¬ x8.toInt = 0 := tl_ne c11Zq
            refine li_iload_n 0 dX11_readLines_28 rfl ?_
            refine li_iconst 1 dX11_readLines_29 (by decide) ?_
            refine li_iadd dX11_readLines_30 ?_
            refine li_top (fun x17 ex17 => ?_)
            have tx17 : (-2147483648 ≤ x1Zq.toInt + 1 ∧ x1Zq.toInt + 1 ≤ 2147483647) → x17.toInt = x1Zq.toInt + 1 := tl_add ex17
            exact li_iret dX11_readLines_31 rfl rfl ⟨⟨_, rfl, (by refine ⟨by first | omega | (have zz := li_pq_z Ppq_M9 (by omega); omega), ?_⟩; first | exact li_ss_tr rfl rfl rfl rfl rfl (by omega) (Psy_M9.1 (by omega)) | exact li_ss_tr rfl rfl rfl rfl rfl (by omega) Psy_M9.2 | exact li_ss_tr rfl rfl rfl rfl rfl (by omega) Pss_M9)⟩, hf⟩
        · have tc7 : x4Zq.toInt = 0 := tl_eq c7Zq
          refine li_iconst (-1) dX11_readLines_16 (by decide) ?_
          have zm1 : ((-1) : Int32).toInt = -1 := rfl
          exact li_iret dX11_readLines_17 rfl rfl ⟨⟨_, rfl, (by refine ⟨by first | omega | (have zz := li_pq_z Ppq_M5 (by omega); omega), ?_⟩; first | exact li_ss_tr rfl rfl rfl rfl rfl (by omega) (Psy_M5.1 (by omega)) | exact li_ss_tr rfl rfl rfl rfl rfl (by omega) Psy_M5.2 | exact li_ss_tr rfl rfl rfl rfl rfl (by omega) Pss_M5)⟩, hf⟩
  have z0 : (0 : Int32).toInt = 0 := rfl
  exact L2Zq _ 0 M0 (Nat.lt_succ_self _) hf (by omega) (by first | exact li_sg_tr rfl  Psg_M0) (by first | exact li_pq_tr rfl (by omega) (by omega) (by omega) (by omega) (by omega) (by omega) (by omega) Ppq_M0 | exact li_pq_tr ((hf.1 2 (by omega)).trans (hf0.1 2 (by omega)).symm) (by omega) (by omega) (by omega) (by omega) rfl rfl rfl (li_pq_go pq0 (by omega) nq0 n20 (by omega))) (by first | exact li_pp_0 (by omega) (by omega) | exact li_pp_st ppq nqh n2h (by omega) (by omega) (by omega)) (by first | exact li_ss_0 hg6 (by omega) | exact li_ss_tr rfl rfl rfl rfl rfl (by omega) (Psy_M0.1 (by omega)))

set_option maxRecDepth 100000 in
set_option maxHeartbeats 4000000 in
theorem k8_X11_readText {l : Launch} {Z : li_Z} (d : Nat) (hdZq : 6 ≤ d) (p1Zq : Int32) (p2Zq : Int32) (p3Zq : Int32) (M0 : li_M) (h1 : 0 ≤ (M0.1 1 1).toInt ∧ (M0.1 1 1).toInt ≤ 80) (Psg_M0 : li_sg (M0.1 2)) (h2p : p1Zq.toInt = 0 ∧ p2Zq.toInt ≤ 100 ∧ 0 ≤ p3Zq.toInt ∧ p3Zq.toInt ≤ 100) (OK QQ MM : Int) (Ppq_M0 : li_pq (M0.1 2) ((M0.1 1 1).toInt) (p2Zq.toInt) (0) (0) (OK) (QQ) (MM)) (h5 : 0 ≤ (M0.1 5 0).toInt ∧ (M0.1 5 0).toInt ≤ 6) (g6 : Nat → Int32) (hg6 : M0.1 6 = g6) (h2 : Nat → Int32) (hh2 : M0.1 2 = h2) : li_Met l Z YX11_readText d [.ref (Z.2.2 0), .int p1Zq, .int p2Zq, .int p3Zq] M0 (fun r M' => (∃ x : Int32, r = some (.int x) ∧ (((((M0.1 1 1).toInt = 0 ∧ x.toInt = 0) ∨ (0 < (M0.1 1 1).toInt ∧ OK = 1 ∧ (M0.1 1 1).toInt ≤ p3Zq.toInt ∧ x.toInt = MM ∧ 0 ≤ MM ∧ MM ≤ 100) ∨ (0 < (M0.1 1 1).toInt ∧ OK = 1 ∧ p3Zq.toInt < (M0.1 1 1).toInt ∧ x.toInt = -1 - p3Zq.toInt) ∨ (0 < (M0.1 1 1).toInt ∧ OK = 0 ∧ 0 ≤ QQ ∧ QQ ≤ p3Zq.toInt ∧ x.toInt = -1 - QQ) ∨ (0 < (M0.1 1 1).toInt ∧ OK = 0 ∧ p3Zq.toInt < QQ ∧ x.toInt = -1 - p3Zq.toInt)) ∧ (M'.1 1 1).toInt = 0) ∧ li_ss (M'.1 6) g6 h2 ((M0.1 1 1).toInt) ((M0.1 5 0).toInt) (x.toInt))) ∧ li_fr (fun i => i = 1 ∨ i = 6 ∨ i = 7) M0 M') := by
  refine li_enter (by decide +kernel) (Nat.le_of_ble_eq_true rfl) ?_
  show li_T l Z YX11_readText d 0 [(0, .ref (Z.2.2 0)), (1, .int p1Zq), (2, .int p2Zq), (3, .int p3Zq)] [] M0 _
  have hf : li_fr (fun i => i = 1 ∨ i = 6 ∨ i = 7) M0 M0 := li_fr_refl
  have gp1 := tl_rg p1Zq
  have gp2 := tl_rg p2Zq
  have gp3 := tl_rg p3Zq
  have Pce_M0 : li_ce (M0.1 6) (g6) := hg6
  have Pc2_M0 : li_c2 (M0.1 2) (h2) := hh2
  refine li_aload_n 0 dX11_readText_0 rfl ?_
  refine li_getr (k := 0) (N := 13) (T := TX11) (C0 := RX11) dX11_readText_1 (by decide) sh_0 rfl rfl (by decide) (by decide) li_in11 w_473 ?_
  refine li_iconst 0 dX11_readText_4 (by decide) ?_
  refine li_puti (k := 2) (N := 3) (T := TX7) (C0 := RX7) dX11_readText_5 (by decide) sh_1 rfl rfl (by decide) li_in7 tyX7_ok nmX7 rfl rfl rfl rfl w_144 ?_
  refine li_nm (fun M1Zq eM1 => ?_)
  have hf := li_fr_ui hf (show 1 = 1 ∨ 1 = 6 ∨ 1 = 7 by omega) eM1
  have mM1_1_1 : (M1Zq.1 1 1).toInt = (M0.1 1 1).toInt := by rw [eM1, li_ui_at, if_pos rfl, if_neg (by decide)]
  have mM1_1_2 : (M1Zq.1 1 2).toInt = 0 := by rw [eM1, li_ui_at, if_pos rfl, if_pos rfl]; rfl
  have mM1_5_0 : (M1Zq.1 5 0).toInt = (M0.1 5 0).toInt := by rw [eM1, li_ui_at, if_neg (by decide)]
  have Psg_M1 : li_sg (M1Zq.1 2)  := li_sg_tr (li_cell_ui eM1 (by decide))  Psg_M0
  have Pce_M1 : li_ce (M1Zq.1 6) (g6) := li_ce_tr (li_cell_ui eM1 (by decide)) rfl Pce_M0
  have Pc2_M1 : li_c2 (M1Zq.1 2) (h2) := li_c2_tr (li_cell_ui eM1 (by decide)) rfl Pc2_M0
  have Ppq_M1 : li_pq (M1Zq.1 2) ((M1Zq.1 1 1).toInt) (p2Zq.toInt) (0) (0) (OK) (QQ) (MM) := li_pq_tr (li_cell_ui eM1 (by decide)) (by omega) (by omega) (by omega) (by omega) (by omega) (by omega) (by omega) Ppq_M0
  have k2Zq : M1Zq.1 1 2 = 0 := by rw [eM1, li_ui_at, if_pos rfl, if_pos rfl]
  refine li_iload_n 1 dX11_readText_8 rfl ?_
  refine li_iconst 4 dX11_readText_9 (by decide) ?_
  have J80 : ∀ (x4Zq : Int32) (M5Zq : li_M), li_fr (fun i => i = 1 ∨ i = 6 ∨ i = 7) M0 M5Zq → ((((M0.1 1 1).toInt = 0 ∧ (x4Zq : Int32).toInt = 0 ∧ (M5Zq.1 1 2).toInt = 0) ∨ (0 < (M0.1 1 1).toInt ∧ OK = 1 ∧ (x4Zq : Int32).toInt = MM ∧ 0 ≤ MM ∧ MM ≤ 100 ∧ (M5Zq.1 1 2).toInt = QQ) ∨ (0 < (M0.1 1 1).toInt ∧ OK = 0 ∧ (x4Zq : Int32).toInt = -1 ∧ (M5Zq.1 1 2).toInt = QQ)) ∧ (M5Zq.1 1 1).toInt = (M0.1 1 1).toInt ∧ 0 ≤ (M5Zq.1 1 2).toInt ∧ (M5Zq.1 1 2).toInt ≤ (M0.1 1 1).toInt) → li_ss (M5Zq.1 6) (g6) (h2) ((M0.1 1 1).toInt) ((M0.1 5 0).toInt) ((x4Zq : Int32).toInt) → li_T l Z YX11_readText d 80 [(0, .ref (Z.2.2 0)), (1, .int p1Zq), (2, .int p2Zq), (3, .int p3Zq), (4, .int x4Zq)] [] M5Zq (fun r M' => (∃ x : Int32, r = some (.int x) ∧ (((((M0.1 1 1).toInt = 0 ∧ x.toInt = 0) ∨ (0 < (M0.1 1 1).toInt ∧ OK = 1 ∧ (M0.1 1 1).toInt ≤ p3Zq.toInt ∧ x.toInt = MM ∧ 0 ≤ MM ∧ MM ≤ 100) ∨ (0 < (M0.1 1 1).toInt ∧ OK = 1 ∧ p3Zq.toInt < (M0.1 1 1).toInt ∧ x.toInt = -1 - p3Zq.toInt) ∨ (0 < (M0.1 1 1).toInt ∧ OK = 0 ∧ 0 ≤ QQ ∧ QQ ≤ p3Zq.toInt ∧ x.toInt = -1 - QQ) ∨ (0 < (M0.1 1 1).toInt ∧ OK = 0 ∧ p3Zq.toInt < QQ ∧ x.toInt = -1 - p3Zq.toInt)) ∧ (M'.1 1 1).toInt = 0) ∧ li_ss (M'.1 6) g6 h2 ((M0.1 1 1).toInt) ((M0.1 5 0).toInt) (x.toInt))) ∧ li_fr (fun i => i = 1 ∨ i = 6 ∨ i = 7) M0 M') := by
    intro x4Zq M5Zq hf hiZq Pss_M5
    have gx4 := tl_rg x4Zq
    refine li_aload_n 0 dX11_readText_80 rfl ?_
    refine li_getr (k := 0) (N := 13) (T := TX11) (C0 := RX11) dX11_readText_81 (by decide) sh_0 rfl rfl (by decide) (by decide) li_in11 w_473 ?_
    refine li_iload 4 dX11_readText_84 rfl ?_
    refine li_iload_n 3 dX11_readText_86 rfl ?_
    refine li_callV (n := 2) (As := [.int x4Zq, .int p3Zq]) dX11_readText_87 (k5_X7_verdict (d - 1) (by omega) x4Zq p3Zq M5Zq (by omega) (by omega)) (by omega) (Nat.le_of_ble_eq_true rfl) w_721 w_722 w_723 w_102 w_724 (by decide +kernel) rfl (by decide) sh_1 rfl rfl (Nat.le_of_ble_eq_true rfl) (fun r M7Zq h8 => ?_)
    obtain ⟨⟨x6, rfl, qx6⟩, h8⟩ := h8
    have gx6 := tl_rg x6
    have hf := li_fr_trans hf h8 (fun i hZq => False.elim hZq)
    have mM7_1_1 : (M7Zq.1 1 1).toInt = (M5Zq.1 1 1).toInt := by rw [h8.1 1 id]
    have mM7_1_2 : (M7Zq.1 1 2).toInt = (M5Zq.1 1 2).toInt := by rw [h8.1 1 id]
    have mM7_5_0 : (M7Zq.1 5 0).toInt = (M5Zq.1 5 0).toInt := by rw [h8.1 5 id]
    have Pss_M7 : li_ss (M7Zq.1 6) (g6) (h2) ((M0.1 1 1).toInt) ((M0.1 5 0).toInt) ((x4Zq : Int32).toInt) := li_ss_tr (h8.1 6 (fun hZq => by first | exact (hZq : False).elim | omega)) rfl rfl rfl (by omega) (by omega) Pss_M5
    have Pss_M7 : li_ss (M7Zq.1 6) (g6) (h2) ((M0.1 1 1).toInt) ((M0.1 5 0).toInt) (x6.toInt) := li_ss_tr rfl rfl rfl rfl rfl (by omega) Pss_M7
    refine li_istore [(5, .int x6), (0, .ref (Z.2.2 0)), (1, .int p1Zq), (2, .int p2Zq), (3, .int p3Zq), (4, .int x4Zq)] dX11_readText_90 (by decide) rfl ?_
    refine li_aload_n 1 dX11_readText_92 rfl ?_
    refine li_getr (k := 0) (N := 13) (T := TX11) (C0 := RX11) dX11_readText_93 (by decide) sh_0 rfl rfl (by decide) (by decide) li_in11 w_473 ?_
    refine li_iconst 0 dX11_readText_96 (by decide) ?_
    refine li_puti (k := 1) (N := 3) (T := TX7) (C0 := RX7) dX11_readText_97 (by decide) sh_1 rfl rfl (by decide) li_in7 tyX7_ok nmX7 rfl rfl rfl rfl w_140 ?_
    refine li_nm (fun M9Zq eM9 => ?_)
    have hf := li_fr_ui hf (show 1 = 1 ∨ 1 = 6 ∨ 1 = 7 by omega) eM9
    have mM9_1_1 : (M9Zq.1 1 1).toInt = 0 := by rw [eM9, li_ui_at, if_pos rfl, if_pos rfl]; rfl
    have mM9_1_2 : (M9Zq.1 1 2).toInt = (M7Zq.1 1 2).toInt := by rw [eM9, li_ui_at, if_pos rfl, if_neg (by decide)]
    have mM9_5_0 : (M9Zq.1 5 0).toInt = (M7Zq.1 5 0).toInt := by rw [eM9, li_ui_at, if_neg (by decide)]
    have Pss_M9 : li_ss (M9Zq.1 6) (g6) (h2) ((M0.1 1 1).toInt) ((M0.1 5 0).toInt) (x6.toInt) := li_ss_tr (li_cell_ui eM9 (by decide)) rfl rfl rfl (by omega) (by omega) Pss_M7
    have k10 : M9Zq.1 1 1 = 0 := by rw [eM9, li_ui_at, if_pos rfl, if_pos rfl]
    refine li_iload 0 dX11_readText_100 rfl ?_
    exact li_iret dX11_readText_102 rfl rfl ⟨⟨_, rfl, (by exact ⟨by omega, Pss_M9⟩)⟩, hf⟩
  refine li_icmp_ne 37 dX11_readText_10 (by decide) (fun c3 => ?_) (fun c3 => ?_)
  · have tc3 : ¬ p1Zq.toInt = 4 := tl_ne c3
    refine li_iload_n 1 dX11_readText_37 rfl ?_
    refine li_iconst 5 dX11_readText_38 (by decide) ?_
    refine li_icmp_ne 58 dX11_readText_39 (by decide) (fun c11Zq => ?_) (fun c11Zq => ?_)
    · have tc11 : ¬ p1Zq.toInt = 5 := tl_ne c11Zq
      refine li_aload_n 0 dX11_readText_58 rfl ?_
      refine li_getr (k := 0) (N := 13) (T := TX11) (C0 := RX11) dX11_readText_59 (by decide) sh_0 rfl rfl (by decide) (by decide) li_in11 w_473 ?_
      refine li_callV (n := 0) (As := []) dX11_readText_62 (k5_X7_atEnd (d - 1) (by omega) M1Zq) (by omega) (Nat.le_of_ble_eq_true rfl) w_663 w_545 w_546 w_102 w_547 (by decide +kernel) rfl (by decide) sh_1 rfl rfl (Nat.le_of_ble_eq_true rfl) (fun r M13 h14 => ?_)
      obtain ⟨⟨x12, rfl, bx12, qx12⟩, h14⟩ := h14
      have ux12 := tl_b bx12
      have hf := li_fr_trans hf h14 (fun i hZq => False.elim hZq)
      have mM13_1_1 : (M13.1 1 1).toInt = (M1Zq.1 1 1).toInt := by rw [h14.1 1 id]
      have mM13_1_2 : (M13.1 1 2).toInt = (M1Zq.1 1 2).toInt := by rw [h14.1 1 id]
      have mM13_5_0 : (M13.1 5 0).toInt = (M1Zq.1 5 0).toInt := by rw [h14.1 5 id]
      have Psg_M13 : li_sg (M13.1 2)  := li_sg_tr (h14.1 2 (fun hZq => by first | exact (hZq : False).elim | omega))  Psg_M1
      have Pce_M13 : li_ce (M13.1 6) (g6) := li_ce_tr (h14.1 6 (fun hZq => by first | exact (hZq : False).elim | omega)) rfl Pce_M1
      have Pc2_M13 : li_c2 (M13.1 2) (h2) := li_c2_tr (h14.1 2 (fun hZq => by first | exact (hZq : False).elim | omega)) rfl Pc2_M1
      have Ppq_M13 : li_pq (M13.1 2) ((M13.1 1 1).toInt) (p2Zq.toInt) (0) (0) (OK) (QQ) (MM) := li_pq_tr (h14.1 2 (fun hZq => by first | exact (hZq : False).elim | omega)) (by omega) (by omega) (by omega) (by omega) (by omega) (by omega) (by omega) Ppq_M1
      have Pss_M13 : li_ss (M13.1 6) (g6) (h2) ((M0.1 1 1).toInt) ((M0.1 5 0).toInt) (0) := li_ss_0 Pce_M13 (by omega)
      have J78 : ∀ (x16 : Int32) (M17 : li_M), li_fr (fun i => i = 1 ∨ i = 6 ∨ i = 7) M0 M17 → ((((M0.1 1 1).toInt = 0 ∧ (x16 : Int32).toInt = 0 ∧ (M17.1 1 2).toInt = 0) ∨ (0 < (M0.1 1 1).toInt ∧ OK = 1 ∧ (x16 : Int32).toInt = MM ∧ 0 ≤ MM ∧ MM ≤ 100 ∧ (M17.1 1 2).toInt = QQ) ∨ (0 < (M0.1 1 1).toInt ∧ OK = 0 ∧ (x16 : Int32).toInt = -1 ∧ (M17.1 1 2).toInt = QQ)) ∧ (M17.1 1 1).toInt = (M0.1 1 1).toInt ∧ 0 ≤ (M17.1 1 2).toInt ∧ (M17.1 1 2).toInt ≤ (M0.1 1 1).toInt) → li_ss (M17.1 6) (g6) (h2) ((M0.1 1 1).toInt) ((M0.1 5 0).toInt) ((x16 : Int32).toInt) → li_T l Z YX11_readText d 78 [(0, .ref (Z.2.2 0)), (1, .int p1Zq), (2, .int p2Zq), (3, .int p3Zq)] [.int x16] M17 (fun r M' => (∃ x : Int32, r = some (.int x) ∧ (((((M0.1 1 1).toInt = 0 ∧ x.toInt = 0) ∨ (0 < (M0.1 1 1).toInt ∧ OK = 1 ∧ (M0.1 1 1).toInt ≤ p3Zq.toInt ∧ x.toInt = MM ∧ 0 ≤ MM ∧ MM ≤ 100) ∨ (0 < (M0.1 1 1).toInt ∧ OK = 1 ∧ p3Zq.toInt < (M0.1 1 1).toInt ∧ x.toInt = -1 - p3Zq.toInt) ∨ (0 < (M0.1 1 1).toInt ∧ OK = 0 ∧ 0 ≤ QQ ∧ QQ ≤ p3Zq.toInt ∧ x.toInt = -1 - QQ) ∨ (0 < (M0.1 1 1).toInt ∧ OK = 0 ∧ p3Zq.toInt < QQ ∧ x.toInt = -1 - p3Zq.toInt)) ∧ (M'.1 1 1).toInt = 0) ∧ li_ss (M'.1 6) g6 h2 ((M0.1 1 1).toInt) ((M0.1 5 0).toInt) (x.toInt))) ∧ li_fr (fun i => i = 1 ∨ i = 6 ∨ i = 7) M0 M') := by
        intro x16 M17 hf hiZq Pss_M17
        have gx16 := tl_rg x16
        refine li_istore [(4, .int x16), (0, .ref (Z.2.2 0)), (1, .int p1Zq), (2, .int p2Zq), (3, .int p3Zq)] dX11_readText_78 (by decide) rfl ?_
        refine li_pick [1, 2, 3, 4, 0] [(0, .ref (Z.2.2 0)), (1, .int p1Zq), (2, .int p2Zq), (3, .int p3Zq), (4, .int x16)] rfl ?_
        exact J80 x16 M17 hf (by omega) (by first | exact li_ss_tr rfl rfl rfl rfl (by omega) (by omega) Pss_M17 | exact li_ss_0 hg6 (by omega) | exact li_ss_tr rfl rfl rfl rfl rfl (by omega) (Psy_M17.1 (by omega)))
      refine li_if_eq 72 dX11_readText_65 (by decide) (fun c15Zq => ?_) (fun c15Zq => ?_)
      · have tc15 : x12.toInt = 0 := tl_eq c15Zq
        refine li_aload_n 0 dX11_readText_72 rfl ?_
        refine li_iload_n 1 dX11_readText_73 rfl ?_
        refine li_iload_n 2 dX11_readText_74 rfl ?_
        refine li_callV (n := 2) (As := [.int p1Zq, .int p2Zq]) dX11_readText_75 (k8_X11_readLines (d - 1) (by omega) p1Zq p2Zq M13 (by omega) Psg_M13 (by omega) OK QQ MM (li_pq_tr rfl (by omega) (by omega) (by omega) rfl rfl rfl rfl Ppq_M13) (by omega) (by omega) g6 Pce_M13 h2 Pc2_M13) (by omega) (Nat.le_of_ble_eq_true rfl) w_664 w_666 w_8 w_101 w_667 (by decide +kernel) rfl (by decide) sh_0 rfl rfl (Nat.le_of_ble_eq_true rfl) (fun r M19 h20 => ?_)
        obtain ⟨⟨x18, rfl, qx18⟩, h20⟩ := h20
        have gx18 := tl_rg x18
        have hf := li_fr_trans hf h20 (fun i (hZq : i = 1 ∨ i = 6 ∨ i = 7) => (show i = 1 ∨ i = 6 ∨ i = 7 by omega))
        have mM19_5_0 : (M19.1 5 0).toInt = (M13.1 5 0).toInt := by rw [h20.1 5 (show ¬ (5 = 1 ∨ 5 = 6 ∨ 5 = 7) by omega)]
        have Psg_M19 : li_sg (M19.1 2)  := li_sg_tr (h20.1 2 (fun hZq => by first | exact (hZq : False).elim | omega))  Psg_M13
        have Pc2_M19 : li_c2 (M19.1 2) (h2) := li_c2_tr (h20.1 2 (fun hZq => by first | exact (hZq : False).elim | omega)) rfl Pc2_M13
        have Pss_M19 : li_ss (M19.1 6) (g6) (h2) ((M0.1 1 1).toInt) ((M0.1 5 0).toInt) (x18.toInt) := li_ss_tr rfl rfl rfl (by omega) (by omega) (by omega) qx18.2
        refine li_pick [0, 1, 2, 3] [(0, .ref (Z.2.2 0)), (1, .int p1Zq), (2, .int p2Zq), (3, .int p3Zq)] rfl ?_
        exact J78 x18 M19 hf (by omega) (by first | exact li_ss_tr rfl rfl rfl rfl (by omega) (by omega) Pss_M19 | exact li_ss_0 hg6 (by omega) | exact li_ss_tr rfl rfl rfl rfl rfl (by omega) (Psy_M19.1 (by omega)))
      · have tc15 : ¬ x12.toInt = 0 := tl_ne c15Zq
        refine li_iconst 0 dX11_readText_68 (by decide) ?_
        refine li_goto 78 dX11_readText_69 (by decide) ?_
        refine li_pick [0, 1, 2, 3] [(0, .ref (Z.2.2 0)), (1, .int p1Zq), (2, .int p2Zq), (3, .int p3Zq)] rfl ?_
        have z0 : (0 : Int32).toInt = 0 := rfl
        exact J78 0 M13 hf (by omega) (by first | exact li_ss_tr rfl rfl rfl rfl (by omega) (by omega) Pss_M13 | exact li_ss_0 hg6 (by omega) | exact li_ss_tr rfl rfl rfl rfl rfl (by omega) (Psy_M13.1 (by omega)))
    · have tc11 : p1Zq.toInt = 5 := tl_eq c11Zq
      exfalso; omega
  · have tc3 : p1Zq.toInt = 4 := tl_eq c3
    exfalso; omega

set_option maxRecDepth 100000 in
set_option maxHeartbeats 4000000 in
theorem k8_X11_people {l : Launch} {Z : li_Z} (d : Nat) (hdZq : 7 ≤ d) (M0 : li_M) (h1 : 0 ≤ (M0.1 1 1).toInt ∧ (M0.1 1 1).toInt ≤ 80) (Psg_M0 : li_sg (M0.1 2)) (h5 : 0 ≤ (M0.1 5 0).toInt ∧ (M0.1 5 0).toInt ≤ 6) (OK QQ MM : Int) (Ppq_M0 : li_pq (M0.1 2) ((M0.1 1 1).toInt) (6 - (M0.1 5 0).toInt) (0) (0) (OK) (QQ) (MM)) (g6 : Nat → Int32) (hg6 : M0.1 6 = g6) (h2 : Nat → Int32) (hh2 : M0.1 2 = h2) : li_Met l Z YX11_people d [.ref (Z.2.2 0)] M0 (fun r M' => (∃ x : Int32, r = some (.int x) ∧ (((((M0.1 1 1).toInt = 0 ∧ x.toInt = 0) ∨ (0 < (M0.1 1 1).toInt ∧ OK = 1 ∧ (M0.1 1 1).toInt ≤ 76 ∧ x.toInt = MM ∧ 0 ≤ MM ∧ MM ≤ 100) ∨ (0 < (M0.1 1 1).toInt ∧ OK = 1 ∧ 76 < (M0.1 1 1).toInt ∧ x.toInt = -1 - 76) ∨ (0 < (M0.1 1 1).toInt ∧ OK = 0 ∧ 0 ≤ QQ ∧ QQ ≤ 76 ∧ x.toInt = -1 - QQ) ∨ (0 < (M0.1 1 1).toInt ∧ OK = 0 ∧ 76 < QQ ∧ x.toInt = -1 - 76)) ∧ (M'.1 1 1).toInt = 0 ∧ ((0 < x.toInt ∧ (M'.1 5 0).toInt = (M0.1 5 0).toInt + x.toInt) ∨ (x.toInt ≤ 0 ∧ (M'.1 5 0).toInt = (M0.1 5 0).toInt))) ∧ li_ss (M'.1 6) g6 h2 ((M0.1 1 1).toInt) ((M0.1 5 0).toInt) (x.toInt))) ∧ li_fr (fun i => i = 1 ∨ i = 14 ∨ i = 21 ∨ i = 5 ∨ i = 6 ∨ i = 7) M0 M') := by
  refine li_enter (by decide +kernel) (Nat.le_of_ble_eq_true rfl) ?_
  show li_T l Z YX11_people d 0 [(0, .ref (Z.2.2 0))] [] M0 _
  have hf : li_fr (fun i => i = 1 ∨ i = 14 ∨ i = 21 ∨ i = 5 ∨ i = 6 ∨ i = 7) M0 M0 := li_fr_refl
  have Pce_M0 : li_ce (M0.1 6) (g6) := hg6
  have Pc2_M0 : li_c2 (M0.1 2) (h2) := hh2
  refine li_aload_n 0 dX11_people_0 rfl ?_
  refine li_iconst 0 dX11_people_1 (by decide) ?_
  refine li_bipush 6 dX11_people_2 (by decide) ?_
  refine li_aload_n 0 dX11_people_4 rfl ?_
  refine li_getr (k := 2) (N := 13) (T := TX11) (C0 := RX11) dX11_people_5 (by decide) sh_0 rfl rfl (by decide) (by decide) li_in11 w_475 ?_
  refine li_geti (k := 0) (N := 9) (T := TX8) (C0 := RX8) dX11_people_8 (by decide) sh_5 rfl rfl (by decide) li_in8 w_178 ?_
  refine li_top (fun x1Zq ex1 => ?_)
  have gx1 := tl_rg x1Zq
  have vx1 : x1Zq.toInt = (M0.1 5 0).toInt := tl_eq ex1
  refine li_isub dX11_people_11 ?_
  refine li_top (fun x2Zq ex2Zq => ?_)
  have tx2 : (-2147483648 ≤ 6 - x1Zq.toInt ∧ 6 - x1Zq.toInt ≤ 2147483647) → x2Zq.toInt = 6 - x1Zq.toInt := tl_sub ex2Zq
  refine li_bipush 76 dX11_people_12 (by decide) ?_
  refine li_callV (n := 3) (As := [.int 0, .int x2Zq, .int 76]) dX11_people_14 (k8_X11_readText (d - 1) (by omega) 0 x2Zq 76 M0 (by omega) Psg_M0 ⟨rfl, by omega, by decide, by decide⟩ OK QQ MM (li_pq_tr rfl rfl (by omega) rfl rfl rfl rfl rfl Ppq_M0) (by omega) g6 Pce_M0 h2 Pc2_M0) (by omega) (Nat.le_of_ble_eq_true rfl) w_536 w_538 w_0 w_101 w_539 (by decide +kernel) rfl (by decide) sh_0 rfl rfl (Nat.le_of_ble_eq_true rfl) (fun r M4Zq h5 => ?_)
  have z0 : (0 : Int32).toInt = 0 := rfl
  have z76 : (76 : Int32).toInt = 76 := rfl
  obtain ⟨⟨x3, rfl, qx3⟩, h5⟩ := h5
  have gx3 := tl_rg x3
  have hf := li_fr_trans hf h5 (fun i (hZq : i = 1 ∨ i = 6 ∨ i = 7) => (show i = 1 ∨ i = 14 ∨ i = 21 ∨ i = 5 ∨ i = 6 ∨ i = 7 by omega))
  have mM4_5_0 : (M4Zq.1 5 0).toInt = (M0.1 5 0).toInt := by rw [h5.1 5 (show ¬ (5 = 1 ∨ 5 = 6 ∨ 5 = 7) by omega)]
  have Pc2_M4 : li_c2 (M4Zq.1 2) (h2) := li_c2_tr (h5.1 2 (fun hZq => by first | exact (hZq : False).elim | omega)) rfl Pc2_M0
  have qs := qx3.2
  have qa := qx3.1.1
  rw [z76] at qa
  have qc := qx3.1.2
  clear qx3
  have qb : x3.toInt ≤ 100 := by omega
  have Pss_M4 : li_ss (M4Zq.1 6) (g6) (h2) ((M0.1 1 1).toInt) ((M0.1 5 0).toInt) (x3.toInt) := li_ss_tr rfl rfl rfl (by omega) (by omega) (by omega) qs
  refine li_istore_n [(1, .int x3), (0, .ref (Z.2.2 0))] dX11_people_17 (by decide) rfl ?_
  refine li_iload_n 0 dX11_people_18 rfl ?_
  refine li_if_le 54 dX11_people_19 (by decide) (fun c6Zq => ?_) (fun c6Zq => ?_)
  · have tc6 : x3.toInt ≤ 0 := tl_le c6Zq
    refine li_iload_n 0 dX11_people_54 rfl ?_
    exact li_iret dX11_people_55 rfl rfl ⟨⟨_, rfl, (by refine ⟨⟨by exact qa, ?_, ?_⟩, Pss_M4⟩ <;> (clear qa; omega))⟩, hf⟩
  · have tc6 : 0 < x3.toInt := tl_nle c6Zq
    refine li_aload_n 1 dX11_people_22 rfl ?_
    refine li_getr (k := 3) (N := 13) (T := TX11) (C0 := RX11) dX11_people_23 (by decide) sh_0 rfl rfl (by decide) (by decide) li_in11 w_476 ?_
    refine li_aload_n 1 dX11_people_26 rfl ?_
    refine li_getr (k := 2) (N := 13) (T := TX11) (C0 := RX11) dX11_people_27 (by decide) sh_0 rfl rfl (by decide) (by decide) li_in11 w_475 ?_
    refine li_iload_n 0 dX11_people_30 rfl ?_
    refine li_callV (n := 2) (As := [.ref (Z.2.2 5), .int x3]) dX11_people_31 (k_X4_welcome (d - 1) (by omega) x3 M4Zq) (by omega) (Nat.le_of_ble_eq_true rfl) w_728 w_729 w_730 w_105 w_731 (by decide +kernel) rfl (by decide) sh_13 rfl rfl (Nat.le_of_ble_eq_true rfl) (fun r M8Zq h9 => ?_)
    obtain ⟨rfl, h9⟩ := h9
    have hf := li_fr_trans hf h9 (fun i (hZq : i = 14) => (show i = 1 ∨ i = 14 ∨ i = 21 ∨ i = 5 ∨ i = 6 ∨ i = 7 by omega))
    have mM8_1_1 : (M8Zq.1 1 1).toInt = (M4Zq.1 1 1).toInt := by rw [h9.1 1 (show ¬ (1 = 14) by omega)]
    have mM8_5_0 : (M8Zq.1 5 0).toInt = (M4Zq.1 5 0).toInt := by rw [h9.1 5 (show ¬ (5 = 14) by omega)]
    have Pc2_M8 : li_c2 (M8Zq.1 2) (h2) := li_c2_tr (h9.1 2 (fun hZq => by first | exact (hZq : False).elim | omega)) rfl Pc2_M4
    have Pss_M8 : li_ss (M8Zq.1 6) (g6) (h2) ((M0.1 1 1).toInt) ((M0.1 5 0).toInt) (x3.toInt) := li_ss_tr (h9.1 6 (fun hZq => by first | exact (hZq : False).elim | omega)) rfl rfl rfl (by omega) (by omega) Pss_M4
    refine li_aload_n 1 dX11_people_34 rfl ?_
    refine li_getr (k := 2) (N := 13) (T := TX11) (C0 := RX11) dX11_people_35 (by decide) sh_0 rfl rfl (by decide) (by decide) li_in11 w_475 ?_
    refine li_dup dX11_people_38 rfl ?_
    refine li_geti (k := 0) (N := 9) (T := TX8) (C0 := RX8) dX11_people_39 (by decide) sh_5 rfl rfl (by decide) li_in8 w_178 ?_
    refine li_top (fun x10 ex10 => ?_)
    have gx10 := tl_rg x10
    have vx10 : x10.toInt = (M8Zq.1 5 0).toInt := tl_eq ex10
    refine li_iload_n 0 dX11_people_42 rfl ?_
    refine li_iadd dX11_people_43 ?_
    refine li_top (fun x11 ex11 => ?_)
    have tx11 : (-2147483648 ≤ x10.toInt + x3.toInt ∧ x10.toInt + x3.toInt ≤ 2147483647) → x11.toInt = x10.toInt + x3.toInt := tl_add ex11
    refine li_puti (k := 0) (N := 9) (T := TX8) (C0 := RX8) dX11_people_44 (by decide) sh_5 rfl rfl (by decide) li_in8 tyX8_ok nmX8 rfl rfl rfl rfl w_178 ?_
    refine li_nm (fun M12 eM12 => ?_)
    have hf := li_fr_ui hf (show 5 = 1 ∨ 5 = 14 ∨ 5 = 21 ∨ 5 = 5 ∨ 5 = 6 ∨ 5 = 7 by omega) eM12
    have mM12_1_1 : (M12.1 1 1).toInt = (M8Zq.1 1 1).toInt := by rw [eM12, li_ui_at, if_neg (by decide)]
    have mM12_5_0 : (M12.1 5 0).toInt = x11.toInt := by rw [eM12, li_ui_at, if_pos rfl, if_pos rfl]
    have Pc2_M12 : li_c2 (M12.1 2) (h2) := li_c2_tr (li_cell_ui eM12 (by decide)) rfl Pc2_M8
    have Pss_M12 : li_ss (M12.1 6) (g6) (h2) ((M0.1 1 1).toInt) ((M0.1 5 0).toInt) (x3.toInt) := li_ss_tr (li_cell_ui eM12 (by decide)) rfl rfl rfl (by omega) (by omega) Pss_M8
    have k13 : M12.1 5 0 = x11 := by rw [eM12, li_ui_at, if_pos rfl, if_pos rfl]
    refine li_aload_n 1 dX11_people_47 rfl ?_
    refine li_getr (k := 4) (N := 13) (T := TX11) (C0 := RX11) dX11_people_48 (by decide) sh_0 rfl rfl (by decide) (by decide) li_in11 w_477 ?_
    refine li_callV (n := 0) (As := []) dX11_people_51 (k_X3_clearAll (d - 1) (by omega)  M12) (by omega) (Nat.le_of_ble_eq_true rfl) w_734 w_735 w_736 w_106 w_737 (by decide +kernel) rfl (by decide) sh_21 rfl rfl (Nat.le_of_ble_eq_true rfl) (fun r M15 h16Zq => ?_)
    obtain ⟨rfl, h16Zq⟩ := h16Zq
    have hf := li_fr_trans hf h16Zq (fun i (hZq : i = 21) => (show i = 1 ∨ i = 14 ∨ i = 21 ∨ i = 5 ∨ i = 6 ∨ i = 7 by omega))
    have mM15_1_1 : (M15.1 1 1).toInt = (M12.1 1 1).toInt := by rw [h16Zq.1 1 (show ¬ (1 = 21) by omega)]
    have mM15_5_0 : (M15.1 5 0).toInt = (M12.1 5 0).toInt := by rw [h16Zq.1 5 (show ¬ (5 = 21) by omega)]
    have Pc2_M15 : li_c2 (M15.1 2) (h2) := li_c2_tr (h16Zq.1 2 (fun hZq => by first | exact (hZq : False).elim | omega)) rfl Pc2_M12
    have Pss_M15 : li_ss (M15.1 6) (g6) (h2) ((M0.1 1 1).toInt) ((M0.1 5 0).toInt) (x3.toInt) := li_ss_tr (h16Zq.1 6 (fun hZq => by first | exact (hZq : False).elim | omega)) rfl rfl rfl (by omega) (by omega) Pss_M12
    refine li_iload_n 0 dX11_people_54 rfl ?_
    exact li_iret dX11_people_55 rfl rfl ⟨⟨_, rfl, (by refine ⟨⟨by exact qa, ?_, ?_⟩, Pss_M15⟩ <;> (clear qa; omega))⟩, hf⟩
