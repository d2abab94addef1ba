/-- a letter that THE GRAMMAR's text tellsZq; rowsZq ofZq them, so farZq -/
def gv (hZq : Nat → Int32) (len i : Int) : Int := rd_ch hZq len (5 * (i / 3) + (if i % 3 = 2 then 3 else i % 3)) - 97
theorem gv_0 {hZq : Nat → Int32} {len n : Int} : gv hZq len (3 * n) = rd_ch hZq len (5 * n) - 97 := by
  unfold gv
  rw [if_neg (by omega), show 5 * (3 * n / 3) + 3 * n % 3 = 5 * n by omega]
theorem gv_1 {hZq : Nat → Int32} {len n : Int} : gv hZq len (3 * n + 1) = rd_ch hZq len (5 * n + 1) - 97 := by
  unfold gv
  rw [if_neg (by omega), show 5 * ((3 * n + 1) / 3) + (3 * n + 1) % 3 = 5 * n + 1 by omega]
theorem gv_2 {hZq : Nat → Int32} {len n : Int} : gv hZq len (3 * n + 2) = rd_ch hZq len (5 * n + 3) - 97 := by
  unfold gv
  rw [if_pos (by omega), show 5 * ((3 * n + 2) / 3) + 3 = 5 * n + 3 by omega]
def li_gk (g hZq : Nat → Int32) (len k c : Int) : Prop := 0 ≤ c → ∀ i : Nat, (i : Int) < k → (g i).toInt = gv hZq len i ∧ 0 ≤ (g i).toInt ∧ (g i).toInt ≤ 6
theorem li_gk_tr {g g' hZq h' : Nat → Int32} {len len' k k' c c' : Int} (hg : g' = g) (hh : h' = hZq) (h1 : len' = len) (h2 : k' = k) (h3 : 0 ≤ c' → 0 ≤ c) (a : li_gk g hZq len k c) : li_gk g' h' len' k' c' := by
  subst hg; subst hh; subst h1; subst h2
  exact fun q => a (h3 q)
theorem li_gk_0 {g hZq : Nat → Int32} {len k c : Int} (hk : k ≤ 0) : li_gk g hZq len k c := fun _ i hiZq => absurd hiZq (by omega)
theorem li_gk_no {g hZq : Nat → Int32} {len k c : Int} (hcZq : c < 0) : li_gk g hZq len k c := fun q => absurd q (by omega)
theorem li_gk_st {g g' hZq : Nat → Int32} {len k k' c c' : Int} {x v : Int32} (a : li_gk g hZq len k c) (hp : ∀ jZq : Nat, g' jZq = if 0 ≤ x.toInt ∧ x.toInt < ((30 : Nat) : Int) ∧ jZq = x.toNatClampNeg then v else g jZq) (hx : x.toInt = k) (h0 : 0 ≤ k ∧ k < 30) (hcZq : 0 ≤ c' → 0 ≤ c) (hv : 0 ≤ c' → v.toInt = gv hZq len k ∧ 0 ≤ v.toInt ∧ v.toInt ≤ 6) (ek : k' = k + 1) : li_gk g' hZq len k' c' := by
  have h9 := li_cl (i := x) (by omega)
  intro q i hiZq
  rw [hp i]
  by_cases d : i = x.toNatClampNeg
  · rw [if_pos ⟨by omega, by omega, d⟩, show (i : Int) = k by omega]
    exact hv q
  · rw [if_neg (fun zZq => d zZq.2.2)]
    exact a (hcZq q) i (by omega)
theorem li_gk_stJ {M M' : li_M} {cell : Nat} {hZq : Nat → Int32} {len k k' c c' : Int} {x v : Int32} (a : li_gk (M.1 cell) hZq len k c) (e : M' = li_ui M cell x.toNatClampNeg v) (hx : x.toInt = k) (h0 : 0 ≤ k) (hcZq : 0 ≤ c' → 0 ≤ c) (hv : 0 ≤ c' → v.toInt = gv hZq len k ∧ 0 ≤ v.toInt ∧ v.toInt ≤ 6) (ek : k' = k + 1) : li_gk (M'.1 cell) hZq len k' c' := by
  have h9 := li_cl (i := x) (by omega)
  subst e
  intro q i hiZq
  rw [li_ui_at, if_pos rfl]
  by_cases d : i = x.toNatClampNeg
  · rw [if_pos d, show (i : Int) = k by omega]
    exact hv q
  · rw [if_neg d]
    exact a (hcZq q) i (by omega)
theorem li_gk_cp {g g' hZq : Nat → Int32} {len k c : Int} (a : li_gk g hZq len k c) (hk : k ≤ 30) (hp : ∀ i : Nat, i < 30 → g' i = g i) : li_gk g' hZq len k c := fun q i hiZq => by rw [hp i (by omega)]; exact a q i hiZq
theorem uc_cp {M M' : li_M} {a b n i : Nat} (e : M' = li_uc M b (va_cpy (M.1 a) (M.1 b) 0 0 n)) (hiZq : i < n) : M'.1 b i = M.1 a i := by
  subst e
  show (if b = b then va_cpy (M.1 a) (M.1 b) 0 0 n else M.1 b) i = _
  rw [if_pos rfl]
  show (if 0 ≤ i ∧ i < 0 + n then M.1 a (0 + (i - 0)) else M.1 b i) = _
  rw [if_pos ⟨Nat.zero_le _, by omega⟩, Nat.zero_add, Nat.sub_zero]
theorem li_gk_vd {g hZq : Nat → Int32} {len k r : Int} (a : li_gk g hZq len (3 * k) k) (hr : r < 0 ∨ r = k) : li_gk g hZq len (3 * r) r := by
  rcases hr with c | c
  · exact li_gk_no c
  · subst c; exact a
def li_ci (g g0 : Nat → Int32) : Prop := g = g0
theorem li_ci_tr {g g' g0 g0' : Nat → Int32} (hg : g' = g) (h0 : g0' = g0) (hZq : li_ci g g0) : li_ci g' g0' := by
  subst hg; subst h0; exact hZq
def li_cw (g g0 : Nat → Int32) : Prop := g = g0
theorem li_cw_tr {g g' g0 g0' : Nat → Int32} (hg : g' = g) (h0 : g0' = g0) (hZq : li_cw g g0) : li_cw g' g0' := by
  subst hg; subst h0; exact hZq
theorem rd_gl_le {g : Nat → Int32} {len : Int} : ∀ (k : Nat) (p n : Int), (rd_gl g len k p n).2.2 ≤ n + (k : Int)
  | 0, p, n => by unfold rd_gl; dsimp only; omega
  | k + 1, p, n => by
    have ihZq := rd_gl_le (g := g) (len := len) k (p + 5) (n + 1)
    unfold rd_gl
    split
    · dsimp only; omega
    · split
      · dsimp only; omega
      · split
        · dsimp only; omega
        · split
          · dsimp only; omega
          · split
            · dsimp only; omega
            · split
              · omega
              · dsimp only; omega
theorem li_gq_le {g : Nat → Int32} {len k p n okZq q m : Int} (hZq : li_gq g len k p n okZq q m) : m ≤ n + k.toNat := by
  have zZq := rd_gl_le (g := g) (len := len) k.toNat p n
  unfold li_gq at hZq
  rw [hZq] at zZq
  exact zZq


set_option maxRecDepth 100000 in
set_option maxHeartbeats 4000000 in
theorem k12_X10_readLine {l : Launch} {Z : li_Z} (d : Nat) (hdZq : 3 ≤ d) (p1Zq : Int32) (M0 : li_M) (h1 : 0 ≤ (M0.1 1 2).toInt ∧ (M0.1 1 2).toInt ≤ (M0.1 1 1).toInt ∧ (M0.1 1 1).toInt ≤ 80) (Psg_M0 : li_sg (M0.1 2)) (hl : 0 ≤ p1Zq.toInt ∧ p1Zq.toInt ≤ 9 ∧ (M0.1 1 2).toInt = 5 * p1Zq.toInt) (h2 : Nat → Int32) (hh2 : M0.1 2 = h2) (LNZq : Int) (hLN : (M0.1 1 1).toInt = LNZq) (Pgk_M0 : li_gk (M0.1 165) (h2) (LNZq) (3 * p1Zq.toInt) (0)) (KZq E : Int) (Pln_M0 : li_ln (M0.1 2) ((M0.1 1 1).toInt) ((M0.1 1 2).toInt) (KZq) (E)) : li_Met l Z YX10_readLine d [.ref (Z.2.2 163), .ref (Z.2.2 1), .int p1Zq] M0 (fun r M' => (∃ x : Int32, r = some (.int x) ∧ (x = 0 ∨ x = 1) ∧ ((x.toInt = KZq ∧ (M'.1 1 2).toInt = E ∧ (M'.1 1 1).toInt = (M0.1 1 1).toInt ∧ (M0.1 1 2).toInt ≤ (M'.1 1 2).toInt ∧ (M'.1 1 2).toInt ≤ (M0.1 1 1).toInt) ∧ li_gk (M'.1 165) h2 LNZq (3 * p1Zq.toInt + 3) (x.toInt - 1))) ∧ li_fr (fun i => i = 1 ∨ i = 165) M0 M') := by
  refine li_enter (by decide +kernel) (Nat.le_of_ble_eq_true rfl) ?_
  show li_T l Z YX10_readLine d 0 [(0, .ref (Z.2.2 163)), (1, .ref (Z.2.2 1)), (2, .int p1Zq)] [] M0 _
  have hf : li_fr (fun i => i = 1 ∨ i = 165) M0 M0 := li_fr_refl
  have gp1 := tl_rg p1Zq
  have w0Zq : gv h2 LNZq (3 * p1Zq.toInt) = rd_ch (M0.1 2) ((M0.1 1 1).toInt) ((M0.1 1 2).toInt) - 97 := by rw [gv_0, ← hh2, ← hLN, show 5 * p1Zq.toInt = (M0.1 1 2).toInt by omega]
  have w1 : gv h2 LNZq (3 * p1Zq.toInt + 1) = rd_ch (M0.1 2) ((M0.1 1 1).toInt) ((M0.1 1 2).toInt + 1) - 97 := by rw [gv_1, ← hh2, ← hLN, show 5 * p1Zq.toInt = (M0.1 1 2).toInt by omega]
  have w2Zq : gv h2 LNZq (3 * p1Zq.toInt + 2) = rd_ch (M0.1 2) ((M0.1 1 1).toInt) ((M0.1 1 2).toInt + 3) - 97 := by rw [gv_2, ← hh2, ← hLN, show 5 * p1Zq.toInt = (M0.1 1 2).toInt by omega]
  refine li_aload_n 1 dX10_readLine_0 rfl ?_
  refine li_bipush 97 dX10_readLine_1 (by decide) ?_
  refine li_bipush 7 dX10_readLine_3 (by decide) ?_
  have cp5 : rd_ch (M0.1 2) ((M0.1 1 1).toInt) ((M0.1 1 2).toInt) = rd_ch (M0.1 2) ((M0.1 1 1).toInt) ((M0.1 1 2).toInt) := by rw [show M0.1 2 = M0.1 2 from hf.1 2 (by first | exact id | decide | omega), show (M0.1 1 1).toInt = (M0.1 1 1).toInt from Int.le_antisymm (by omega) (by omega), show (M0.1 1 2).toInt = (M0.1 1 2).toInt from Int.le_antisymm (by omega) (by omega)]
  refine li_callV (n := 2) (As := [.int 97, .int 7]) dX10_readLine_5 (k7_X7_takeOneOf (d - 1) (by omega) 97 7 M0 (by omega) Psg_M0 (by decide) (by decide)) (by omega) (Nat.le_of_ble_eq_true rfl) w_658 w_659 w_660 w_102 w_661 (by decide +kernel) rfl (by decide) sh_1 rfl rfl (Nat.le_of_ble_eq_true rfl) (fun r M2Zq h3 => ?_)
  have z97 : (97 : Int32).toInt = 97 := rfl
  have z7 : (7 : Int32).toInt = 7 := rfl
  obtain ⟨⟨x1Zq, rfl, qx1⟩, h3⟩ := h3
  have gx1 := tl_rg x1Zq
  have hf := li_fr_trans hf h3 (fun i (hZq : i = 1) => (show i = 1 ∨ i = 165 by omega))
  have Psg_M2 : li_sg (M2Zq.1 2)  := li_sg_tr (h3.1 2 (fun hZq => by first | exact (hZq : False).elim | omega))  Psg_M0
  have Pgk_M2 : li_gk (M2Zq.1 165) (h2) (LNZq) (3 * p1Zq.toInt) (0) := li_gk_tr (h3.1 165 (fun hZq => by first | exact (hZq : False).elim | omega)) rfl rfl (by omega) (by omega) Pgk_M0
  have ln5 : (M2Zq.1 1 1).toInt = (M0.1 1 1).toInt := qx1.2.trans (Int.le_antisymm (by omega) (by omega))
  have qy5 : 0 ≤ x1Zq.toInt → (97 ≤ rd_ch (M0.1 2) ((M0.1 1 1).toInt) ((M0.1 1 2).toInt) ∧ rd_ch (M0.1 2) ((M0.1 1 1).toInt) ((M0.1 1 2).toInt) ≤ 103) ∧ (M2Zq.1 1 2).toInt = (M0.1 1 2).toInt + 1 ∧ (M0.1 1 2).toInt < (M0.1 1 1).toInt ∧ x1Zq.toInt = rd_ch (M0.1 2) ((M0.1 1 1).toInt) ((M0.1 1 2).toInt) - 97 := fun h9 => by rcases qx1.1 with c | c; exact ⟨⟨by omega, by omega⟩, c.2.2.2.1, by omega, by omega⟩; exact absurd h9 (by omega)
  have qn5 : x1Zq.toInt < 0 → ¬ (97 ≤ rd_ch (M0.1 2) ((M0.1 1 1).toInt) ((M0.1 1 2).toInt) ∧ rd_ch (M0.1 2) ((M0.1 1 1).toInt) ((M0.1 1 2).toInt) ≤ 103) ∧ (M2Zq.1 1 2).toInt = (M0.1 1 2).toInt := fun h9 => by rcases qx1.1 with c | c; exact absurd h9 (by omega); exact ⟨fun h8 => c.1 ⟨by omega, by omega⟩, c.2.2⟩
  have rx5 : -1 ≤ x1Zq.toInt := by rcases qx1.1 with c | c <;> omega
  clear qx1
  refine li_istore_n [(3, .int x1Zq), (0, .ref (Z.2.2 163)), (1, .ref (Z.2.2 1)), (2, .int p1Zq)] dX10_readLine_8 (by decide) rfl ?_
  refine li_iload_n 0 dX10_readLine_9 rfl ?_
  refine li_if_ge 15 dX10_readLine_10 (by decide) (fun c4 => ?_) (fun c4 => ?_)
  · have tc4 : 0 ≤ x1Zq.toInt := tl_le c4
    have f0Zq := qy5 (by omega)
    clear qy5 qn5
    refine li_aload_n 2 dX10_readLine_15 rfl ?_
    refine li_bipush 97 dX10_readLine_16 (by decide) ?_
    refine li_bipush 7 dX10_readLine_18 (by decide) ?_
    have cp20 : rd_ch (M2Zq.1 2) ((M2Zq.1 1 1).toInt) ((M2Zq.1 1 2).toInt) = rd_ch (M0.1 2) ((M0.1 1 1).toInt) ((M0.1 1 2).toInt + 1) := by rw [show M2Zq.1 2 = M0.1 2 from hf.1 2 (by first | exact id | decide | omega), show (M2Zq.1 1 1).toInt = (M0.1 1 1).toInt from Int.le_antisymm (by omega) (by omega), show (M2Zq.1 1 2).toInt = (M0.1 1 2).toInt + 1 from Int.le_antisymm (by omega) (by omega)]
    refine li_callV (n := 2) (As := [.int 97, .int 7]) dX10_readLine_20 (k7_X7_takeOneOf (d - 1) (by omega) 97 7 M2Zq (by omega) Psg_M2 (by decide) (by decide)) (by omega) (Nat.le_of_ble_eq_true rfl) w_658 w_659 w_660 w_102 w_661 (by decide +kernel) rfl (by decide) sh_1 rfl rfl (Nat.le_of_ble_eq_true rfl) (fun r M6Zq h7 => ?_)
    have z97 : (97 : Int32).toInt = 97 := rfl
    have z7 : (7 : Int32).toInt = 7 := rfl
    obtain ⟨⟨x5Zq, rfl, qx5⟩, h7⟩ := h7
    have gx5 := tl_rg x5Zq
    have hf := li_fr_trans hf h7 (fun i (hZq : i = 1) => (show i = 1 ∨ i = 165 by omega))
    have Psg_M6 : li_sg (M6Zq.1 2)  := li_sg_tr (h7.1 2 (fun hZq => by first | exact (hZq : False).elim | omega))  Psg_M2
    have Pgk_M6 : li_gk (M6Zq.1 165) (h2) (LNZq) (3 * p1Zq.toInt) (0) := li_gk_tr (h7.1 165 (fun hZq => by first | exact (hZq : False).elim | omega)) rfl rfl (by omega) (by omega) Pgk_M2
    have ln20 : (M6Zq.1 1 1).toInt = (M0.1 1 1).toInt := qx5.2.trans (Int.le_antisymm (by omega) (by omega))
    have qy20 : 0 ≤ x5Zq.toInt → (97 ≤ rd_ch (M0.1 2) ((M0.1 1 1).toInt) ((M0.1 1 2).toInt + 1) ∧ rd_ch (M0.1 2) ((M0.1 1 1).toInt) ((M0.1 1 2).toInt + 1) ≤ 103) ∧ (M6Zq.1 1 2).toInt = (M2Zq.1 1 2).toInt + 1 ∧ (M2Zq.1 1 2).toInt < (M0.1 1 1).toInt ∧ x5Zq.toInt = rd_ch (M0.1 2) ((M0.1 1 1).toInt) ((M0.1 1 2).toInt + 1) - 97 := fun h9 => by rcases qx5.1 with c | c; exact ⟨⟨by omega, by omega⟩, c.2.2.2.1, by omega, by omega⟩; exact absurd h9 (by omega)
    have qn20 : x5Zq.toInt < 0 → ¬ (97 ≤ rd_ch (M0.1 2) ((M0.1 1 1).toInt) ((M0.1 1 2).toInt + 1) ∧ rd_ch (M0.1 2) ((M0.1 1 1).toInt) ((M0.1 1 2).toInt + 1) ≤ 103) ∧ (M6Zq.1 1 2).toInt = (M2Zq.1 1 2).toInt := fun h9 => by rcases qx5.1 with c | c; exact absurd h9 (by omega); exact ⟨fun h8 => c.1 ⟨by omega, by omega⟩, c.2.2⟩
    have rx20 : -1 ≤ x5Zq.toInt := by rcases qx5.1 with c | c <;> omega
    clear qx5
    refine li_istore [(4, .int x5Zq), (3, .int x1Zq), (0, .ref (Z.2.2 163)), (1, .ref (Z.2.2 1)), (2, .int p1Zq)] dX10_readLine_23 (by decide) rfl ?_
    refine li_iload 0 dX10_readLine_25 rfl ?_
    refine li_if_lt 39 dX10_readLine_27 (by decide) (fun c8Zq => ?_) (fun c8Zq => ?_)
    · have tc8 : x5Zq.toInt < 0 := tl_lt c8Zq
      first | (have e2Zq := qn33 (by assumption); have r0 := li_ln_3 Pln_M0 f0Zq.1 f1Zq.1 e2Zq.1) | (have e1Zq := qn20 (by omega); have r0 := li_ln_2 Pln_M0 f0Zq.1 e1Zq.1)
      try clear qy33 qn33
      try clear qy20 qn20
      refine li_iconst 0 dX10_readLine_39 (by decide) ?_
      have z0 : (0 : Int32).toInt = 0 := rfl
      exact li_iret dX10_readLine_40 rfl (li_nz (Or.inl rfl)) ⟨⟨_, rfl, Or.inl rfl, (by refine ⟨(by exact ⟨Int.le_antisymm (by omega) (by omega), Int.le_antisymm (by omega) (by omega), Int.le_antisymm (by omega) (by omega), by omega, by omega⟩), ?_⟩; first | exact li_gk_tr rfl rfl rfl (Int.le_antisymm (by omega) (by omega)) (fun h9 => by omega) Pgk_M6 | exact li_gk_no (by omega))⟩, hf⟩
    · have tc8 : 0 ≤ x5Zq.toInt := tl_nlt c8Zq
      have f1Zq := qy20 (by omega)
      clear qy20 qn20
      refine li_aload_n 3 dX10_readLine_30 rfl ?_
      refine li_bipush 62 dX10_readLine_31 (by decide) ?_
      have cp33 : rd_ch (M6Zq.1 2) ((M6Zq.1 1 1).toInt) ((M6Zq.1 1 2).toInt) = rd_ch (M0.1 2) ((M0.1 1 1).toInt) ((M0.1 1 2).toInt + 2) := by rw [show M6Zq.1 2 = M0.1 2 from hf.1 2 (by first | exact id | decide | omega), show (M6Zq.1 1 1).toInt = (M0.1 1 1).toInt from Int.le_antisymm (by omega) (by omega), show (M6Zq.1 1 2).toInt = (M0.1 1 2).toInt + 2 from Int.le_antisymm (by omega) (by omega)]
      refine li_callV (n := 1) (As := [.int 62]) dX10_readLine_33 (k5_X7_skip (d - 1) (by omega) 62 M6Zq (by omega) Psg_M6 (by decide)) (by omega) (Nat.le_of_ble_eq_true rfl) w_720 w_565 w_566 w_102 w_567 (by decide +kernel) rfl (by decide) sh_1 rfl rfl (Nat.le_of_ble_eq_true rfl) (fun r M10 h11 => ?_)
      have z62Zq : (62 : Int32).toInt = 62 := rfl
      obtain ⟨⟨x9, rfl, bx9, qx9⟩, h11⟩ := h11
      have ux9 := tl_b bx9
      have hf := li_fr_trans hf h11 (fun i (hZq : i = 1) => (show i = 1 ∨ i = 165 by omega))
      have Psg_M10 : li_sg (M10.1 2)  := li_sg_tr (h11.1 2 (fun hZq => by first | exact (hZq : False).elim | omega))  Psg_M6
      have Pgk_M10 : li_gk (M10.1 165) (h2) (LNZq) (3 * p1Zq.toInt) (0) := li_gk_tr (h11.1 165 (fun hZq => by first | exact (hZq : False).elim | omega)) rfl rfl (by omega) (by omega) Pgk_M6
      have ln33 : (M10.1 1 1).toInt = (M0.1 1 1).toInt := qx9.2.trans (Int.le_antisymm (by omega) (by omega))
      have qy33 : ¬ x9.toInt = 0 → rd_ch (M0.1 2) ((M0.1 1 1).toInt) ((M0.1 1 2).toInt + 2) = 62 ∧ (M10.1 1 2).toInt = (M6Zq.1 1 2).toInt + 1 ∧ (M6Zq.1 1 2).toInt < (M0.1 1 1).toInt := fun h9 => by rcases qx9.1 with c | c; exact ⟨by omega, c.2.2.2, by omega⟩; exact absurd c.1 h9
      have qn33 : x9.toInt = 0 → ¬ rd_ch (M0.1 2) ((M0.1 1 1).toInt) ((M0.1 1 2).toInt + 2) = 62 ∧ (M10.1 1 2).toInt = (M6Zq.1 1 2).toInt := fun h9 => by rcases qx9.1 with c | c; exact absurd (c.1.symm.trans h9) (by decide); exact ⟨fun h8 => c.2.1 (by omega), c.2.2⟩
      clear qx9
      refine li_if_ne 41 dX10_readLine_36 (by decide) (fun c12Zq => ?_) (fun c12Zq => ?_)
      · have tc12 : ¬ x9.toInt = 0 := tl_ne c12Zq
        have f2Zq := qy33 (by assumption)
        clear qy33 qn33
        refine li_aload_n 3 dX10_readLine_41 rfl ?_
        refine li_bipush 97 dX10_readLine_42 (by decide) ?_
        refine li_bipush 7 dX10_readLine_44 (by decide) ?_
        have cp46 : rd_ch (M10.1 2) ((M10.1 1 1).toInt) ((M10.1 1 2).toInt) = rd_ch (M0.1 2) ((M0.1 1 1).toInt) ((M0.1 1 2).toInt + 3) := by rw [show M10.1 2 = M0.1 2 from hf.1 2 (by first | exact id | decide | omega), show (M10.1 1 1).toInt = (M0.1 1 1).toInt from Int.le_antisymm (by omega) (by omega), show (M10.1 1 2).toInt = (M0.1 1 2).toInt + 3 from Int.le_antisymm (by omega) (by omega)]
        refine li_callV (n := 2) (As := [.int 97, .int 7]) dX10_readLine_46 (k7_X7_takeOneOf (d - 1) (by omega) 97 7 M10 (by omega) Psg_M10 (by decide) (by decide)) (by omega) (Nat.le_of_ble_eq_true rfl) w_658 w_659 w_660 w_102 w_661 (by decide +kernel) rfl (by decide) sh_1 rfl rfl (Nat.le_of_ble_eq_true rfl) (fun r M14 h15 => ?_)
        have z97 : (97 : Int32).toInt = 97 := rfl
        have z7 : (7 : Int32).toInt = 7 := rfl
        obtain ⟨⟨x13, rfl, qx13⟩, h15⟩ := h15
        have gx13 := tl_rg x13
        have hf := li_fr_trans hf h15 (fun i (hZq : i = 1) => (show i = 1 ∨ i = 165 by omega))
        have Psg_M14 : li_sg (M14.1 2)  := li_sg_tr (h15.1 2 (fun hZq => by first | exact (hZq : False).elim | omega))  Psg_M10
        have Pgk_M14 : li_gk (M14.1 165) (h2) (LNZq) (3 * p1Zq.toInt) (0) := li_gk_tr (h15.1 165 (fun hZq => by first | exact (hZq : False).elim | omega)) rfl rfl (by omega) (by omega) Pgk_M10
        have ln46 : (M14.1 1 1).toInt = (M0.1 1 1).toInt := qx13.2.trans (Int.le_antisymm (by omega) (by omega))
        have qy46 : 0 ≤ x13.toInt → (97 ≤ rd_ch (M0.1 2) ((M0.1 1 1).toInt) ((M0.1 1 2).toInt + 3) ∧ rd_ch (M0.1 2) ((M0.1 1 1).toInt) ((M0.1 1 2).toInt + 3) ≤ 103) ∧ (M14.1 1 2).toInt = (M10.1 1 2).toInt + 1 ∧ (M10.1 1 2).toInt < (M0.1 1 1).toInt ∧ x13.toInt = rd_ch (M0.1 2) ((M0.1 1 1).toInt) ((M0.1 1 2).toInt + 3) - 97 := fun h9 => by rcases qx13.1 with c | c; exact ⟨⟨by omega, by omega⟩, c.2.2.2.1, by omega, by omega⟩; exact absurd h9 (by omega)
        have qn46 : x13.toInt < 0 → ¬ (97 ≤ rd_ch (M0.1 2) ((M0.1 1 1).toInt) ((M0.1 1 2).toInt + 3) ∧ rd_ch (M0.1 2) ((M0.1 1 1).toInt) ((M0.1 1 2).toInt + 3) ≤ 103) ∧ (M14.1 1 2).toInt = (M10.1 1 2).toInt := fun h9 => by rcases qx13.1 with c | c; exact absurd h9 (by omega); exact ⟨fun h8 => c.1 ⟨by omega, by omega⟩, c.2.2⟩
        have rx46 : -1 ≤ x13.toInt := by rcases qx13.1 with c | c <;> omega
        clear qx13
        refine li_istore [(5, .int x13), (4, .int x5Zq), (3, .int x1Zq), (0, .ref (Z.2.2 163)), (1, .ref (Z.2.2 1)), (2, .int p1Zq)] dX10_readLine_49 (by decide) rfl ?_
        refine li_aload_n 3 dX10_readLine_51 rfl ?_
        refine li_getr (k := 1) (N := 8) (T := TX10) (C0 := RX10) dX10_readLine_52 (by decide) sh_163 rfl rfl (by decide) (by decide) li_in10 w_336 ?_
        refine li_iload_n 5 dX10_readLine_55 rfl ?_
        refine li_iconst 3 dX10_readLine_56 (by decide) ?_
        refine li_imul dX10_readLine_57 ?_
        refine li_top (fun x16 ex16 => ?_)
        have tx16 : (-2147483648 ≤ p1Zq.toInt * 3 ∧ p1Zq.toInt * 3 ≤ 2147483647) → x16.toInt = p1Zq.toInt * 3 := tl_mul ex16
        refine li_iload_n 2 dX10_readLine_58 rfl ?_
        refine li_callN (n := 3) (As := [.ref (Z.2.2 165), .int x16, .int x1Zq]) dX10_readLine_59 (a_X11_put (d - 1) (by omega) (by decide) sh_165 (by decide) x16 x1Zq M14) (by omega) (Nat.le_of_ble_eq_true rfl) nw_11 w_522 w_101 w_523 (by decide +kernel) rfl rfl (Nat.le_of_ble_eq_true rfl) (fun r M18 h19 => ?_)
        obtain ⟨rfl, h19, nM18⟩ := h19
        have hf := li_fr_trans hf h19 (fun i (hZq : i = 165) => (show i = 1 ∨ i = 165 by omega))
        have mM18_1_1 : (M18.1 1 1).toInt = (M14.1 1 1).toInt := by rw [h19.1 1 (show ¬ (1 = 165) by omega)]
        have mM18_1_2 : (M18.1 1 2).toInt = (M14.1 1 2).toInt := by rw [h19.1 1 (show ¬ (1 = 165) by omega)]
        have Psg_M18 : li_sg (M18.1 2)  := li_sg_tr (h19.1 2 (fun hZq => by first | exact (hZq : False).elim | omega))  Psg_M14
        have hv0 : 0 ≤ (x13 : Int32).toInt → (x1Zq : Int32).toInt = gv h2 LNZq (3 * p1Zq.toInt) ∧ 0 ≤ (x1Zq : Int32).toInt ∧ (x1Zq : Int32).toInt ≤ 6 := fun h9 => by have h8 := f0Zq; exact ⟨h8.2.2.2.trans w0Zq.symm, by omega, by omega⟩
        have Pgk_M18 : li_gk (M18.1 165) (h2) (LNZq) (3 * p1Zq.toInt + 1) ((x13 : Int32).toInt) := li_gk_st Pgk_M14 nM18 (Int.le_antisymm (by omega) (by omega)) ⟨by omega, by omega⟩ (fun h9 => by omega) hv0 (by omega)
        refine li_aload_n 3 dX10_readLine_62 rfl ?_
        refine li_getr (k := 1) (N := 8) (T := TX10) (C0 := RX10) dX10_readLine_63 (by decide) sh_163 rfl rfl (by decide) (by decide) li_in10 w_336 ?_
        refine li_iload_n 5 dX10_readLine_66 rfl ?_
        refine li_iconst 3 dX10_readLine_67 (by decide) ?_
        refine li_imul dX10_readLine_68 ?_
        refine li_top (fun x20 ex20 => ?_)
        have tx20 : (-2147483648 ≤ p1Zq.toInt * 3 ∧ p1Zq.toInt * 3 ≤ 2147483647) → x20.toInt = p1Zq.toInt * 3 := tl_mul ex20
        refine li_iconst 1 dX10_readLine_69 (by decide) ?_
        refine li_iadd dX10_readLine_70 ?_
        refine li_top (fun x21 ex21 => ?_)
        have tx21 : (-2147483648 ≤ x20.toInt + 1 ∧ x20.toInt + 1 ≤ 2147483647) → x21.toInt = x20.toInt + 1 := tl_add ex21
        refine li_iload 1 dX10_readLine_71 rfl ?_
        refine li_callN (n := 3) (As := [.ref (Z.2.2 165), .int x21, .int x5Zq]) dX10_readLine_73 (a_X11_put (d - 1) (by omega) (by decide) sh_165 (by decide) x21 x5Zq M18) (by omega) (Nat.le_of_ble_eq_true rfl) nw_11 w_522 w_101 w_523 (by decide +kernel) rfl rfl (Nat.le_of_ble_eq_true rfl) (fun r M23 h24 => ?_)
        obtain ⟨rfl, h24, nM23⟩ := h24
        have hf := li_fr_trans hf h24 (fun i (hZq : i = 165) => (show i = 1 ∨ i = 165 by omega))
        have mM23_1_1 : (M23.1 1 1).toInt = (M18.1 1 1).toInt := by rw [h24.1 1 (show ¬ (1 = 165) by omega)]
        have mM23_1_2 : (M23.1 1 2).toInt = (M18.1 1 2).toInt := by rw [h24.1 1 (show ¬ (1 = 165) by omega)]
        have Psg_M23 : li_sg (M23.1 2)  := li_sg_tr (h24.1 2 (fun hZq => by first | exact (hZq : False).elim | omega))  Psg_M18
        have hv1 : 0 ≤ (x13 : Int32).toInt → (x5Zq : Int32).toInt = gv h2 LNZq (3 * p1Zq.toInt + 1) ∧ 0 ≤ (x5Zq : Int32).toInt ∧ (x5Zq : Int32).toInt ≤ 6 := fun h9 => by have h8 := f1Zq; exact ⟨h8.2.2.2.trans w1.symm, by omega, by omega⟩
        have Pgk_M23 : li_gk (M23.1 165) (h2) (LNZq) (3 * p1Zq.toInt + 2) ((x13 : Int32).toInt) := li_gk_st Pgk_M18 nM23 (Int.le_antisymm (by omega) (by omega)) ⟨by omega, by omega⟩ (fun h9 => by omega) hv1 (by omega)
        refine li_aload_n 3 dX10_readLine_76 rfl ?_
        refine li_getr (k := 1) (N := 8) (T := TX10) (C0 := RX10) dX10_readLine_77 (by decide) sh_163 rfl rfl (by decide) (by decide) li_in10 w_336 ?_
        refine li_iload_n 5 dX10_readLine_80 rfl ?_
        refine li_iconst 3 dX10_readLine_81 (by decide) ?_
        refine li_imul dX10_readLine_82 ?_
        refine li_top (fun x25 ex25 => ?_)
        have tx25 : (-2147483648 ≤ p1Zq.toInt * 3 ∧ p1Zq.toInt * 3 ≤ 2147483647) → x25.toInt = p1Zq.toInt * 3 := tl_mul ex25
        refine li_iconst 2 dX10_readLine_83 (by decide) ?_
        refine li_iadd dX10_readLine_84 ?_
        refine li_top (fun x26 ex26 => ?_)
        have tx26 : (-2147483648 ≤ x25.toInt + 2 ∧ x25.toInt + 2 ≤ 2147483647) → x26.toInt = x25.toInt + 2 := tl_add ex26
        refine li_iload 0 dX10_readLine_85 rfl ?_
        refine li_callN (n := 3) (As := [.ref (Z.2.2 165), .int x26, .int x13]) dX10_readLine_87 (a_X11_put (d - 1) (by omega) (by decide) sh_165 (by decide) x26 x13 M23) (by omega) (Nat.le_of_ble_eq_true rfl) nw_11 w_522 w_101 w_523 (by decide +kernel) rfl rfl (Nat.le_of_ble_eq_true rfl) (fun r M28 h29 => ?_)
        obtain ⟨rfl, h29, nM28⟩ := h29
        have hf := li_fr_trans hf h29 (fun i (hZq : i = 165) => (show i = 1 ∨ i = 165 by omega))
        have mM28_1_1 : (M28.1 1 1).toInt = (M23.1 1 1).toInt := by rw [h29.1 1 (show ¬ (1 = 165) by omega)]
        have mM28_1_2 : (M28.1 1 2).toInt = (M23.1 1 2).toInt := by rw [h29.1 1 (show ¬ (1 = 165) by omega)]
        have Psg_M28 : li_sg (M28.1 2)  := li_sg_tr (h29.1 2 (fun hZq => by first | exact (hZq : False).elim | omega))  Psg_M23
        have hv2 : 0 ≤ (x13 : Int32).toInt → (x13 : Int32).toInt = gv h2 LNZq (3 * p1Zq.toInt + 2) ∧ 0 ≤ (x13 : Int32).toInt ∧ (x13 : Int32).toInt ≤ 6 := fun h9 => by have h8 := (qy46 h9); exact ⟨h8.2.2.2.trans w2Zq.symm, by omega, by omega⟩
        have Pgk_M28 : li_gk (M28.1 165) (h2) (LNZq) (3 * p1Zq.toInt + 3) ((x13 : Int32).toInt) := li_gk_st Pgk_M23 nM28 (Int.le_antisymm (by omega) (by omega)) ⟨by omega, by omega⟩ (fun h9 => by omega) hv2 (by omega)
        refine li_iload 0 dX10_readLine_90 rfl ?_
        refine li_if_lt 99 dX10_readLine_92 (by decide) (fun c30Zq => ?_) (fun c30Zq => ?_)
        · have tc30 : x13.toInt < 0 := tl_lt c30Zq
          have e3Zq := qn46 (by omega)
          have r0 := li_ln_4 Pln_M0 f0Zq.1 f1Zq.1 f2Zq.1 e3Zq.1
          clear qy46 qn46
          refine li_iconst 0 dX10_readLine_99 (by decide) ?_
          have z0 : (0 : Int32).toInt = 0 := rfl
          exact li_iret dX10_readLine_100 rfl (li_nz (Or.inl rfl)) ⟨⟨_, rfl, Or.inl rfl, (by refine ⟨(by exact ⟨Int.le_antisymm (by omega) (by omega), Int.le_antisymm (by omega) (by omega), Int.le_antisymm (by omega) (by omega), by omega, by omega⟩), ?_⟩; first | exact li_gk_tr rfl rfl rfl (Int.le_antisymm (by omega) (by omega)) (fun h9 => by omega) Pgk_M28 | exact li_gk_no (by omega))⟩, hf⟩
        · have tc30 : 0 ≤ x13.toInt := tl_nlt c30Zq
          have f3Zq := qy46 (by omega)
          have r0 := li_ln_5 Pln_M0 f0Zq.1 f1Zq.1 f2Zq.1 f3Zq.1
          clear qy46 qn46
          refine li_iconst 1 dX10_readLine_95 (by decide) ?_
          refine li_goto 100 dX10_readLine_96 (by decide) ?_
          have z1 : (1 : Int32).toInt = 1 := rfl
          exact li_iret dX10_readLine_100 rfl (li_nz (Or.inr rfl)) ⟨⟨_, rfl, Or.inr rfl, (by refine ⟨(by exact ⟨Int.le_antisymm (by omega) (by omega), Int.le_antisymm (by omega) (by omega), Int.le_antisymm (by omega) (by omega), by omega, by omega⟩), ?_⟩; first | exact li_gk_tr rfl rfl rfl (Int.le_antisymm (by omega) (by omega)) (fun h9 => by omega) Pgk_M28 | exact li_gk_no (by omega))⟩, hf⟩
      · have tc12 : x9.toInt = 0 := tl_eq c12Zq
        first | (have e2Zq := qn33 (by assumption); have r0 := li_ln_3 Pln_M0 f0Zq.1 f1Zq.1 e2Zq.1) | (have e1Zq := qn20 (by omega); have r0 := li_ln_2 Pln_M0 f0Zq.1 e1Zq.1)
        try clear qy33 qn33
        try clear qy20 qn20
        refine li_iconst 0 dX10_readLine_39 (by decide) ?_
        have z0 : (0 : Int32).toInt = 0 := rfl
        exact li_iret dX10_readLine_40 rfl (li_nz (Or.inl rfl)) ⟨⟨_, rfl, Or.inl rfl, (by refine ⟨(by exact ⟨Int.le_antisymm (by omega) (by omega), Int.le_antisymm (by omega) (by omega), Int.le_antisymm (by omega) (by omega), by omega, by omega⟩), ?_⟩; first | exact li_gk_tr rfl rfl rfl (Int.le_antisymm (by omega) (by omega)) (fun h9 => by omega) Pgk_M10 | exact li_gk_no (by omega))⟩, hf⟩
  · have tc4 : x1Zq.toInt < 0 := tl_nle c4
    have e0Zq := qn5 (by omega)
    have r0 := li_ln_1 Pln_M0 e0Zq.1
    clear qy5 qn5
    refine li_iconst 0 dX10_readLine_13 (by decide) ?_
    have z0 : (0 : Int32).toInt = 0 := rfl
    exact li_iret dX10_readLine_14 rfl (li_nz (Or.inl rfl)) ⟨⟨_, rfl, Or.inl rfl, (by refine ⟨(by exact ⟨Int.le_antisymm (by omega) (by omega), Int.le_antisymm (by omega) (by omega), Int.le_antisymm (by omega) (by omega), by omega, by omega⟩), ?_⟩; first | exact li_gk_tr rfl rfl rfl (Int.le_antisymm (by omega) (by omega)) (fun h9 => by omega) Pgk_M2 | exact li_gk_no (by omega))⟩, hf⟩

set_option maxRecDepth 100000 in
set_option maxHeartbeats 4000000 in
theorem k12_X11_readLine {l : Launch} {Z : li_Z} (d : Nat) (hdZq : 4 ≤ d) (p1Zq : Int32) (p2Zq : Int32) (M0 : li_M) (h1 : 0 ≤ (M0.1 1 2).toInt ∧ (M0.1 1 2).toInt ≤ (M0.1 1 1).toInt ∧ (M0.1 1 1).toInt ≤ 80) (Psg_M0 : li_sg (M0.1 2)) (hk : p1Zq.toInt = 3) (hl : 0 ≤ p2Zq.toInt ∧ p2Zq.toInt ≤ 9 ∧ (M0.1 1 2).toInt = 5 * p2Zq.toInt) (h2 : Nat → Int32) (hh2 : M0.1 2 = h2) (LNZq : Int) (hLN : (M0.1 1 1).toInt = LNZq) (Pgk_M0 : li_gk (M0.1 165) (h2) (LNZq) (3 * p2Zq.toInt) (0)) (KZq E : Int) (Pln_M0 : li_ln (M0.1 2) ((M0.1 1 1).toInt) ((M0.1 1 2).toInt) (KZq) (E)) : li_Met l Z YX11_readLine d [.ref (Z.2.2 0), .int p1Zq, .int p2Zq] M0 (fun r M' => (∃ x : Int32, r = some (.int x) ∧ (x = 0 ∨ x = 1) ∧ ((x.toInt = KZq ∧ (M'.1 1 2).toInt = E ∧ (M'.1 1 1).toInt = (M0.1 1 1).toInt ∧ (M0.1 1 2).toInt ≤ (M'.1 1 2).toInt ∧ (M'.1 1 2).toInt ≤ (M0.1 1 1).toInt) ∧ li_gk (M'.1 165) h2 LNZq (3 * p2Zq.toInt + 3) (x.toInt - 1))) ∧ li_fr (fun i => i = 1 ∨ i = 165) M0 M') := by
  refine li_enter (by decide +kernel) (Nat.le_of_ble_eq_true rfl) ?_
  show li_T l Z YX11_readLine d 0 [(0, .ref (Z.2.2 0)), (1, .int p1Zq), (2, .int p2Zq)] [] M0 _
  have hf : li_fr (fun i => i = 1 ∨ i = 165) M0 M0 := li_fr_refl
  have gp1 := tl_rg p1Zq
  have gp2 := tl_rg p2Zq
  refine li_iload_n 1 dX11_readLine_0 rfl ?_
  refine li_table dX11_readLine_1 69 (by decide) (fun c1 => ?_) (fun c1a c1b => ?_)
  · refine li_aload_n 0 dX11_readLine_69 rfl ?_
    refine li_getr (k := 10) (N := 13) (T := TX11) (C0 := RX11) dX11_readLine_70 (by decide) sh_0 rfl rfl (by decide) (by decide) li_in11 w_483 ?_
    refine li_aload_n 0 dX11_readLine_73 rfl ?_
    refine li_getr (k := 0) (N := 13) (T := TX11) (C0 := RX11) dX11_readLine_74 (by decide) sh_0 rfl rfl (by decide) (by decide) li_in11 w_473 ?_
    refine li_iload_n 2 dX11_readLine_77 rfl ?_
    refine li_callV (n := 2) (As := [.ref (Z.2.2 1), .int p2Zq]) dX11_readLine_78 (k12_X10_readLine (d - 1) (by omega) p2Zq M0 (by omega) Psg_M0 ⟨by omega, by omega, by omega⟩ h2 hh2 LNZq hLN (li_gk_tr rfl rfl (by omega) (by omega) (fun h9 => by omega) Pgk_M0) KZq E Pln_M0) (by omega) (Nat.le_of_ble_eq_true rfl) w_716 w_717 w_718 w_108 w_719 (by decide +kernel) rfl (by decide) sh_163 rfl rfl (Nat.le_of_ble_eq_true rfl) (fun r M3Zq h4 => ?_)
    obtain ⟨⟨x2Zq, rfl, bx2, qx2⟩, h4⟩ := h4
    have ux2 := tl_b bx2
    have hf := li_fr_trans hf h4 (fun i (hZq : i = 1 ∨ i = 165) => (show i = 1 ∨ i = 165 by omega))
    have Psg_M3 : li_sg (M3Zq.1 2)  := li_sg_tr (h4.1 2 (fun hZq => by first | exact (hZq : False).elim | omega))  Psg_M0
    have qr := qx2
    have Pgk_M3 : li_gk (M3Zq.1 165) (h2) (LNZq) (3 * p2Zq.toInt + 3) (x2Zq.toInt - 1) := li_gk_tr rfl rfl (by omega) (by omega) (fun h9 => by omega) qx2.2
    exact li_iret dX11_readLine_81 rfl (li_nz (bx2)) ⟨⟨_, rfl, bx2, (by exact ⟨qr.1, Pgk_M3⟩)⟩, hf⟩
  · rcases (show (p1Zq : Int32).toInt = 0 ∨ (p1Zq : Int32).toInt = 1 ∨ (p1Zq : Int32).toInt = 2 by omega) with c1 | c1 | c1
    · exfalso; omega
    · exfalso; omega
    · exfalso; omega

set_option maxRecDepth 100000 in
set_option maxHeartbeats 4000000 in
theorem k12_X11_readLines {l : Launch} {Z : li_Z} (d : Nat) (hdZq : 5 ≤ d) (p1Zq : Int32) (p2Zq : Int32) (M0 : li_M) (h1 : 0 ≤ (M0.1 1 2).toInt ∧ (M0.1 1 2).toInt ≤ (M0.1 1 1).toInt ∧ (M0.1 1 1).toInt ≤ 80) (Psg_M0 : li_sg (M0.1 2)) (hk : p1Zq.toInt = 3 ∧ p2Zq.toInt ≤ 10 ∧ (M0.1 1 2).toInt = 0) (OK QQ MM : Int) (Pgq_M0 : li_gq (M0.1 2) ((M0.1 1 1).toInt) (p2Zq.toInt) ((M0.1 1 2).toInt) (0) (OK) (QQ) (MM)) (h2 : Nat → Int32) (hh2 : M0.1 2 = h2) (LNZq : Int) (hLN : (M0.1 1 1).toInt = LNZq) : li_Met l Z YX11_readLines d [.ref (Z.2.2 0), .int p1Zq, .int p2Zq] M0 (fun r M' => (∃ x : Int32, r = some (.int x) ∧ ((((OK = 1 ∧ x.toInt = MM ∧ 0 ≤ MM ∧ MM ≤ 100) ∨ (OK = 0 ∧ x.toInt = -1)) ∧ 0 ≤ (M'.1 1 2).toInt ∧ (M'.1 1 2).toInt ≤ (M0.1 1 1).toInt ∧ (M'.1 1 2).toInt = QQ ∧ (M'.1 1 1).toInt = (M0.1 1 1).toInt) ∧ li_gk (M'.1 165) h2 LNZq (3 * x.toInt) (x.toInt))) ∧ li_fr (fun i => i = 1 ∨ i = 165) M0 M') := by
  refine li_enter (by decide +kernel) (Nat.le_of_ble_eq_true rfl) ?_
  show li_T l Z YX11_readLines d 0 [(0, .ref (Z.2.2 0)), (1, .int p1Zq), (2, .int p2Zq)] [] M0 _
  have hf : li_fr (fun i => i = 1 ∨ i = 165) M0 M0 := li_fr_refl
  have gp1 := tl_rg p1Zq
  have gp2 := tl_rg p2Zq
  have Pci_M0 : li_ci (M0.1 2) (h2) := hh2
  refine li_iconst 0 dX11_readLines_0 (by decide) ?_
  refine li_istore_n [(3, .int 0), (0, .ref (Z.2.2 0)), (1, .int p1Zq), (2, .int p2Zq)] dX11_readLines_1 (by decide) rfl ?_
  have L2Zq : ∀ (n : Nat) (x1Zq : Int32) (M2Zq : li_M), (p2Zq.toInt - (x1Zq : Int32).toInt).toNat < n → li_fr (fun i => i = 1 ∨ i = 165) M0 M2Zq → 0 ≤ (x1Zq : Int32).toInt ∧ (x1Zq : Int32).toInt ≤ 10 ∧ (M2Zq.1 1 2).toInt = 5 * (x1Zq : Int32).toInt ∧ (M2Zq.1 1 2).toInt ≤ (M2Zq.1 1 1).toInt ∧ (M2Zq.1 1 1).toInt = (M0.1 1 1).toInt → li_sg (M2Zq.1 2)  → li_gq (M2Zq.1 2) ((M2Zq.1 1 1).toInt) (p2Zq.toInt - (x1Zq : Int32).toInt) ((M2Zq.1 1 2).toInt) ((x1Zq : Int32).toInt) (OK) (QQ) (MM) → li_gk (M2Zq.1 165) (h2) (LNZq) (3 * (x1Zq : Int32).toInt) (0) → li_ci (M2Zq.1 2) (h2) → li_T l Z YX11_readLines d 2 [(3, .int x1Zq), (0, .ref (Z.2.2 0)), (1, .int p1Zq), (2, .int p2Zq)] [] M2Zq (fun r M' => (∃ x : Int32, r = some (.int x) ∧ ((((OK = 1 ∧ x.toInt = MM ∧ 0 ≤ MM ∧ MM ≤ 100) ∨ (OK = 0 ∧ x.toInt = -1)) ∧ 0 ≤ (M'.1 1 2).toInt ∧ (M'.1 1 2).toInt ≤ (M0.1 1 1).toInt ∧ (M'.1 1 2).toInt = QQ ∧ (M'.1 1 1).toInt = (M0.1 1 1).toInt) ∧ li_gk (M'.1 165) h2 LNZq (3 * x.toInt) (x.toInt))) ∧ li_fr (fun i => i = 1 ∨ i = 165) M0 M') := by
    intro n
    induction n with
    | zero => intro x1Zq M2Zq hn; exact absurd hn (Nat.not_lt_zero _)
    | succ n ih2 =>
      intro x1Zq M2Zq hn hf hiZq Psg_M2 Pgq_M2 Pgk_M2 Pci_M2
      have gx1 := tl_rg x1Zq
      refine li_iload_n 0 dX11_readLines_2 rfl ?_
      refine li_iload_n 3 dX11_readLines_3 rfl ?_
      refine li_icmp_ge 52 dX11_readLines_4 (by decide) (fun c3 => ?_) (fun c3 => ?_)
      · have tc3 : p2Zq.toInt ≤ x1Zq.toInt := tl_le c3
        refine li_iconst (-1) dX11_readLines_52 (by decide) ?_
        have zm1 : ((-1) : Int32).toInt = -1 := rfl
        exact li_iret dX11_readLines_53 rfl rfl ⟨⟨_, rfl, (by refine ⟨by first | omega | (have zz := li_gq_z Pgq_M2 (by omega); omega), ?_⟩; first | exact li_gk_tr rfl rfl rfl (by omega) (fun h9 => by omega) Pgk_M2 | exact li_gk_no (by omega))⟩, hf⟩
      · have tc3 : x1Zq.toInt < p2Zq.toInt := tl_nle c3
        refine li_aload_n 1 dX11_readLines_7 rfl ?_
        refine li_iload_n 2 dX11_readLines_8 rfl ?_
        refine li_iload_n 0 dX11_readLines_9 rfl ?_
        have hf0 := hf
        have gq0 := Pgq_M2
        obtain ⟨KZq, E, ln0⟩ : ∃ k e, li_ln (M2Zq.1 2) ((M2Zq.1 1 1).toInt) ((M2Zq.1 1 2).toInt) k e := li_ln_self
        have stq := li_gq_r2 gq0 (by omega) ln0
        refine li_callV (n := 2) (As := [.int p1Zq, .int x1Zq]) dX11_readLines_10 (k12_X11_readLine (d - 1) (by omega) p1Zq x1Zq M2Zq (by omega) Psg_M2 (by omega) ⟨by omega, by omega, by omega⟩ h2 Pci_M2 LNZq (by omega) (li_gk_tr rfl rfl (by omega) (by omega) (fun h9 => by omega) Pgk_M2) KZq E ln0) (by omega) (Nat.le_of_ble_eq_true rfl) w_668 w_670 w_9 w_101 w_671 (by decide +kernel) rfl (by decide) sh_0 rfl rfl (Nat.le_of_ble_eq_true rfl) (fun r M5Zq h6 => ?_)
        obtain ⟨⟨x4Zq, rfl, bx4, qx4⟩, h6⟩ := h6
        have ux4 := tl_b bx4
        have hf := li_fr_trans hf h6 (fun i (hZq : i = 1 ∨ i = 165) => (show i = 1 ∨ i = 165 by omega))
        have Psg_M5 : li_sg (M5Zq.1 2)  := li_sg_tr (h6.1 2 (fun hZq => by first | exact (hZq : False).elim | omega))  Psg_M2
        have Pci_M5 : li_ci (M5Zq.1 2) (h2) := li_ci_tr (h6.1 2 (fun hZq => by first | exact (hZq : False).elim | omega)) rfl Pci_M2
        have Pgk_M5 : li_gk (M5Zq.1 165) (h2) (LNZq) (3 * (x1Zq : Int32).toInt + 3) (x4Zq.toInt - 1) := li_gk_tr rfl rfl (by omega) (by omega) (fun h9 => by omega) qx4.2
        refine li_if_ne 18 dX11_readLines_13 (by decide) (fun c7Zq => ?_) (fun c7Zq => ?_)
        · have tc7 : ¬ x4Zq.toInt = 0 := tl_ne c7Zq
          refine li_aload_n 1 dX11_readLines_18 rfl ?_
          refine li_getr (k := 0) (N := 13) (T := TX11) (C0 := RX11) dX11_readLines_19 (by decide) sh_0 rfl rfl (by decide) (by decide) li_in11 w_473 ?_
          refine li_callV (n := 0) (As := []) dX11_readLines_22 (k5_X7_atEnd (d - 1) (by omega) M5Zq) (by omega) (Nat.le_of_ble_eq_true rfl) w_663 w_545 w_546 w_102 w_547 (by decide +kernel) rfl (by decide) sh_1 rfl rfl (Nat.le_of_ble_eq_true rfl) (fun r M9Zq h10 => ?_)
          obtain ⟨⟨x8, rfl, bx8, qx8⟩, h10⟩ := h10
          have ux8 := tl_b bx8
          have hf := li_fr_trans hf h10 (fun i hZq => False.elim hZq)
          have mM9_1_1 : (M9Zq.1 1 1).toInt = (M5Zq.1 1 1).toInt := by rw [h10.1 1 id]
          have mM9_1_2 : (M9Zq.1 1 2).toInt = (M5Zq.1 1 2).toInt := by rw [h10.1 1 id]
          have Psg_M9 : li_sg (M9Zq.1 2)  := li_sg_tr (h10.1 2 (fun hZq => by first | exact (hZq : False).elim | omega))  Psg_M5
          have Pgk_M9 : li_gk (M9Zq.1 165) (h2) (LNZq) (3 * (x1Zq : Int32).toInt + 3) (x4Zq.toInt - 1) := li_gk_tr (h10.1 165 (fun hZq => by first | exact (hZq : False).elim | omega)) rfl rfl (by omega) (by omega) Pgk_M5
          have Pci_M9 : li_ci (M9Zq.1 2) (h2) := li_ci_tr (h10.1 2 (fun hZq => by first | exact (hZq : False).elim | omega)) rfl Pci_M5
          refine li_if_eq 32 dX11_readLines_25 (by decide) (fun c11Zq => ?_) (fun c11Zq => ?_)
          · have tc11 : x8.toInt = 0 := tl_eq c11Zq
            refine li_aload_n 1 dX11_readLines_32 rfl ?_
            refine li_getr (k := 0) (N := 13) (T := TX11) (C0 := RX11) dX11_readLines_33 (by decide) sh_0 rfl rfl (by decide) (by decide) li_in11 w_473 ?_
            refine li_bipush 59 dX11_readLines_36 (by decide) ?_
            have chs : rd_ch (M9Zq.1 2) ((M9Zq.1 1 1).toInt) ((M9Zq.1 1 2).toInt) = rd_ch (M2Zq.1 2) ((M2Zq.1 1 1).toInt) E := by rw [show M9Zq.1 2 = M2Zq.1 2 from (hf.1 2 (by omega)).trans (hf0.1 2 (by omega)).symm, show (M9Zq.1 1 1).toInt = (M2Zq.1 1 1).toInt from Int.le_antisymm (by omega) (by omega), show (M9Zq.1 1 2).toInt = E from Int.le_antisymm (by omega) (by omega)]
            have le4 := (li_ln_y ln0 (Int.le_antisymm (by omega) (by omega))).2.2.2.2
            refine li_callV (n := 1) (As := [.int 59]) dX11_readLines_38 (k5_X7_skip (d - 1) (by omega) 59 M9Zq (by omega) Psg_M9 (by decide)) (by omega) (Nat.le_of_ble_eq_true rfl) w_700 w_565 w_566 w_102 w_567 (by decide +kernel) rfl (by decide) sh_1 rfl rfl (Nat.le_of_ble_eq_true rfl) (fun r M13 h14 => ?_)
            have z59Zq : (59 : Int32).toInt = 59 := rfl
            obtain ⟨⟨x12, rfl, bx12, qx12⟩, h14⟩ := h14
            have ux12 := tl_b bx12
            have hf := li_fr_trans hf h14 (fun i (hZq : i = 1) => (show i = 1 ∨ i = 165 by omega))
            have Psg_M13 : li_sg (M13.1 2)  := li_sg_tr (h14.1 2 (fun hZq => by first | exact (hZq : False).elim | omega))  Psg_M9
            have Pgk_M13 : li_gk (M13.1 165) (h2) (LNZq) (3 * (x1Zq : Int32).toInt + 3) (x4Zq.toInt - 1) := li_gk_tr (h14.1 165 (fun hZq => by first | exact (hZq : False).elim | omega)) rfl rfl (by omega) (by omega) Pgk_M9
            have Pci_M13 : li_ci (M13.1 2) (h2) := li_ci_tr (h14.1 2 (fun hZq => by first | exact (hZq : False).elim | omega)) rfl Pci_M9
            refine li_if_ne 46 dX11_readLines_41 (by decide) (fun c15Zq => ?_) (fun c15Zq => ?_)
            · have tc15 : ¬ x12.toInt = 0 := tl_ne c15Zq
              obtain ⟨x16, ex16⟩ : ∃ y : Int32, y = x1Zq + 1 := ⟨_, rfl⟩
              have tx16 : (-2147483648 ≤ x1Zq.toInt + 1 ∧ x1Zq.toInt + 1 ≤ 2147483647) → x16.toInt = x1Zq.toInt + 1 := tl_add ex16
              refine li_iinc 0 [(3, .int x16), (0, .ref (Z.2.2 0)), (1, .int p1Zq), (2, .int p2Zq)] x16 dX11_readLines_46 rfl (by rw [ex16]; rfl) (by decide) rfl ?_
              refine li_goto 2 dX11_readLines_49 (by decide) ?_
              refine li_pick [0, 1, 2, 3] [(3, .int x16), (0, .ref (Z.2.2 0)), (1, .int p1Zq), (2, .int p2Zq)] rfl ?_
              exact ih2 x16 M13 (by omega) hf (by omega) (by first | exact li_sg_tr rfl  Psg_M13) (by first | exact li_gq_tr ((hf.1 2 (by omega)).trans (hf0.1 2 (by omega)).symm) (Int.le_antisymm (by omega) (by omega)) (Int.le_antisymm (by omega) (by omega)) (Int.le_antisymm (by omega) (by omega)) (Int.le_antisymm (by omega) (by omega)) rfl rfl rfl (li_gq_go2 gq0 (by omega) ln0 (by omega))) (by first | exact li_gk_tr rfl rfl rfl (by omega) (by omega) Pgk_M13 | exact li_gk_0 (by omega) | exact li_gk_no (by omega)) (by first | exact li_ci_tr rfl rfl Pci_M13)
            · have tc15 : x12.toInt = 0 := tl_eq c15Zq
              refine li_iconst (-1) dX11_readLines_44 (by decide) ?_
              have zm1 : ((-1) : Int32).toInt = -1 := rfl
              exact li_iret dX11_readLines_45 rfl rfl ⟨⟨_, rfl, (by refine ⟨by first | omega | (have zz := li_gq_z Pgq_M13 (by omega); omega), ?_⟩; first | exact li_gk_tr rfl rfl rfl (by omega) (fun h9 => by omega) Pgk_M13 | exact li_gk_no (by omega))⟩, hf⟩
          · have tc11 : ¬ x8.toInt = 0 := tl_ne c11Zq
            refine li_iload_n 0 dX11_readLines_28 rfl ?_
            refine li_iconst 1 dX11_readLines_29 (by decide) ?_
            refine li_iadd dX11_readLines_30 ?_
            refine li_top (fun x17 ex17 => ?_)
            have tx17 : (-2147483648 ≤ x1Zq.toInt + 1 ∧ x1Zq.toInt + 1 ≤ 2147483647) → x17.toInt = x1Zq.toInt + 1 := tl_add ex17
            exact li_iret dX11_readLines_31 rfl rfl ⟨⟨_, rfl, (by refine ⟨by first | omega | (have zz := li_gq_z Pgq_M9 (by omega); omega), ?_⟩; first | exact li_gk_tr rfl rfl rfl (by omega) (fun h9 => by omega) Pgk_M9 | exact li_gk_no (by omega))⟩, hf⟩
        · have tc7 : x4Zq.toInt = 0 := tl_eq c7Zq
          refine li_iconst (-1) dX11_readLines_16 (by decide) ?_
          have zm1 : ((-1) : Int32).toInt = -1 := rfl
          exact li_iret dX11_readLines_17 rfl rfl ⟨⟨_, rfl, (by refine ⟨by first | omega | (have zz := li_gq_z Pgq_M5 (by omega); omega), ?_⟩; first | exact li_gk_tr rfl rfl rfl (by omega) (fun h9 => by omega) Pgk_M5 | exact li_gk_no (by omega))⟩, hf⟩
  have z0 : (0 : Int32).toInt = 0 := rfl
  exact L2Zq _ 0 M0 (Nat.lt_succ_self _) hf (by omega) (by first | exact li_sg_tr rfl  Psg_M0) (by first | exact li_gq_tr rfl (Int.le_antisymm (by omega) (by omega)) (Int.le_antisymm (by omega) (by omega)) (Int.le_antisymm (by omega) (by omega)) (Int.le_antisymm (by omega) (by omega)) rfl rfl rfl Pgq_M0 | exact li_gq_tr ((hf.1 2 (by omega)).trans (hf0.1 2 (by omega)).symm) (Int.le_antisymm (by omega) (by omega)) (Int.le_antisymm (by omega) (by omega)) (Int.le_antisymm (by omega) (by omega)) (Int.le_antisymm (by omega) (by omega)) rfl rfl rfl (li_gq_go2 gq0 (by omega) ln0 (by omega))) (by first | exact li_gk_0 (by omega) | exact li_gk_no (by omega)) (by first | exact li_ci_tr rfl rfl Pci_M0)

set_option maxRecDepth 100000 in
set_option maxHeartbeats 4000000 in
theorem k12_X11_readText {l : Launch} {Z : li_Z} (d : Nat) (hdZq : 6 ≤ d) (p1Zq : Int32) (p2Zq : Int32) (p3Zq : Int32) (M0 : li_M) (h1 : 0 ≤ (M0.1 1 1).toInt ∧ (M0.1 1 1).toInt ≤ 80) (Psg_M0 : li_sg (M0.1 2)) (hk : p1Zq.toInt = 3 ∧ p2Zq.toInt ≤ 10 ∧ 0 ≤ p3Zq.toInt ∧ p3Zq.toInt ≤ 100) (OK QQ MM : Int) (Pgq_M0 : li_gq (M0.1 2) ((M0.1 1 1).toInt) (p2Zq.toInt) (0) (0) (OK) (QQ) (MM)) (h2 : Nat → Int32) (hh2 : M0.1 2 = h2) (LNZq : Int) (hLN : (M0.1 1 1).toInt = LNZq) : li_Met l Z YX11_readText d [.ref (Z.2.2 0), .int p1Zq, .int p2Zq, .int p3Zq] M0 (fun r M' => (∃ x : Int32, r = some (.int x) ∧ (((((M0.1 1 1).toInt = 0 ∧ x.toInt = 0) ∨ (0 < (M0.1 1 1).toInt ∧ OK = 1 ∧ (M0.1 1 1).toInt ≤ p3Zq.toInt ∧ x.toInt = MM ∧ 0 ≤ MM ∧ MM ≤ 100) ∨ (0 < (M0.1 1 1).toInt ∧ OK = 1 ∧ p3Zq.toInt < (M0.1 1 1).toInt ∧ x.toInt = -1 - p3Zq.toInt) ∨ (0 < (M0.1 1 1).toInt ∧ OK = 0 ∧ 0 ≤ QQ ∧ QQ ≤ p3Zq.toInt ∧ x.toInt = -1 - QQ) ∨ (0 < (M0.1 1 1).toInt ∧ OK = 0 ∧ p3Zq.toInt < QQ ∧ x.toInt = -1 - p3Zq.toInt)) ∧ (M'.1 1 1).toInt = 0) ∧ li_gk (M'.1 165) h2 LNZq (3 * x.toInt) (x.toInt))) ∧ li_fr (fun i => i = 1 ∨ i = 165) M0 M') := by
  refine li_enter (by decide +kernel) (Nat.le_of_ble_eq_true rfl) ?_
  show li_T l Z YX11_readText d 0 [(0, .ref (Z.2.2 0)), (1, .int p1Zq), (2, .int p2Zq), (3, .int p3Zq)] [] M0 _
  have hf : li_fr (fun i => i = 1 ∨ i = 165) M0 M0 := li_fr_refl
  have gp1 := tl_rg p1Zq
  have gp2 := tl_rg p2Zq
  have gp3 := tl_rg p3Zq
  have Pci_M0 : li_ci (M0.1 2) (h2) := hh2
  refine li_aload_n 0 dX11_readText_0 rfl ?_
  refine li_getr (k := 0) (N := 13) (T := TX11) (C0 := RX11) dX11_readText_1 (by decide) sh_0 rfl rfl (by decide) (by decide) li_in11 w_473 ?_
  refine li_iconst 0 dX11_readText_4 (by decide) ?_
  refine li_puti (k := 2) (N := 3) (T := TX7) (C0 := RX7) dX11_readText_5 (by decide) sh_1 rfl rfl (by decide) li_in7 tyX7_ok nmX7 rfl rfl rfl rfl w_144 ?_
  refine li_nm (fun M1Zq eM1 => ?_)
  have hf := li_fr_ui hf (show 1 = 1 ∨ 1 = 165 by omega) eM1
  have mM1_1_1 : (M1Zq.1 1 1).toInt = (M0.1 1 1).toInt := by rw [eM1, li_ui_at, if_pos rfl, if_neg (by decide)]
  have mM1_1_2 : (M1Zq.1 1 2).toInt = 0 := by rw [eM1, li_ui_at, if_pos rfl, if_pos rfl]; rfl
  have Psg_M1 : li_sg (M1Zq.1 2)  := li_sg_tr (li_cell_ui eM1 (by decide))  Psg_M0
  have Pgq_M1 : li_gq (M1Zq.1 2) ((M1Zq.1 1 1).toInt) (p2Zq.toInt) (0) (0) (OK) (QQ) (MM) := li_gq_tr (li_cell_ui eM1 (by decide)) (Int.le_antisymm (by omega) (by omega)) (Int.le_antisymm (by omega) (by omega)) (Int.le_antisymm (by omega) (by omega)) (Int.le_antisymm (by omega) (by omega)) rfl rfl rfl Pgq_M0
  have Pci_M1 : li_ci (M1Zq.1 2) (h2) := li_ci_tr (li_cell_ui eM1 (by decide)) rfl Pci_M0
  have k2Zq : M1Zq.1 1 2 = 0 := by rw [eM1, li_ui_at, if_pos rfl, if_pos rfl]
  refine li_iload_n 1 dX11_readText_8 rfl ?_
  refine li_iconst 4 dX11_readText_9 (by decide) ?_
  have J80 : ∀ (x4Zq : Int32) (M5Zq : li_M), li_fr (fun i => i = 1 ∨ i = 165) M0 M5Zq → ((((M0.1 1 1).toInt = 0 ∧ (x4Zq : Int32).toInt = 0 ∧ (M5Zq.1 1 2).toInt = 0) ∨ (0 < (M0.1 1 1).toInt ∧ OK = 1 ∧ (x4Zq : Int32).toInt = MM ∧ 0 ≤ MM ∧ MM ≤ 100 ∧ (M5Zq.1 1 2).toInt = QQ) ∨ (0 < (M0.1 1 1).toInt ∧ OK = 0 ∧ (x4Zq : Int32).toInt = -1 ∧ (M5Zq.1 1 2).toInt = QQ)) ∧ (M5Zq.1 1 1).toInt = (M0.1 1 1).toInt ∧ 0 ≤ (M5Zq.1 1 2).toInt ∧ (M5Zq.1 1 2).toInt ≤ (M0.1 1 1).toInt) → li_gk (M5Zq.1 165) (h2) (LNZq) (3 * (x4Zq : Int32).toInt) ((x4Zq : Int32).toInt) → li_T l Z YX11_readText d 80 [(0, .ref (Z.2.2 0)), (1, .int p1Zq), (2, .int p2Zq), (3, .int p3Zq), (4, .int x4Zq)] [] M5Zq (fun r M' => (∃ x : Int32, r = some (.int x) ∧ (((((M0.1 1 1).toInt = 0 ∧ x.toInt = 0) ∨ (0 < (M0.1 1 1).toInt ∧ OK = 1 ∧ (M0.1 1 1).toInt ≤ p3Zq.toInt ∧ x.toInt = MM ∧ 0 ≤ MM ∧ MM ≤ 100) ∨ (0 < (M0.1 1 1).toInt ∧ OK = 1 ∧ p3Zq.toInt < (M0.1 1 1).toInt ∧ x.toInt = -1 - p3Zq.toInt) ∨ (0 < (M0.1 1 1).toInt ∧ OK = 0 ∧ 0 ≤ QQ ∧ QQ ≤ p3Zq.toInt ∧ x.toInt = -1 - QQ) ∨ (0 < (M0.1 1 1).toInt ∧ OK = 0 ∧ p3Zq.toInt < QQ ∧ x.toInt = -1 - p3Zq.toInt)) ∧ (M'.1 1 1).toInt = 0) ∧ li_gk (M'.1 165) h2 LNZq (3 * x.toInt) (x.toInt))) ∧ li_fr (fun i => i = 1 ∨ i = 165) M0 M') := by
    intro x4Zq M5Zq hf hiZq Pgk_M5
    have gx4 := tl_rg x4Zq
    refine li_aload_n 0 dX11_readText_80 rfl ?_
    refine li_getr (k := 0) (N := 13) (T := TX11) (C0 := RX11) dX11_readText_81 (by decide) sh_0 rfl rfl (by decide) (by decide) li_in11 w_473 ?_
    refine li_iload 4 dX11_readText_84 rfl ?_
    refine li_iload_n 3 dX11_readText_86 rfl ?_
    refine li_callV (n := 2) (As := [.int x4Zq, .int p3Zq]) dX11_readText_87 (k5_X7_verdict (d - 1) (by omega) x4Zq p3Zq M5Zq (by omega) (by omega)) (by omega) (Nat.le_of_ble_eq_true rfl) w_721 w_722 w_723 w_102 w_724 (by decide +kernel) rfl (by decide) sh_1 rfl rfl (Nat.le_of_ble_eq_true rfl) (fun r M7Zq h8 => ?_)
    obtain ⟨⟨x6, rfl, qx6⟩, h8⟩ := h8
    have gx6 := tl_rg x6
    have hf := li_fr_trans hf h8 (fun i hZq => False.elim hZq)
    have mM7_1_1 : (M7Zq.1 1 1).toInt = (M5Zq.1 1 1).toInt := by rw [h8.1 1 id]
    have mM7_1_2 : (M7Zq.1 1 2).toInt = (M5Zq.1 1 2).toInt := by rw [h8.1 1 id]
    have Pgk_M7 : li_gk (M7Zq.1 165) (h2) (LNZq) (3 * (x4Zq : Int32).toInt) ((x4Zq : Int32).toInt) := li_gk_tr (h8.1 165 (fun hZq => by first | exact (hZq : False).elim | omega)) rfl rfl (by omega) (by omega) Pgk_M5
    refine li_istore [(5, .int x6), (0, .ref (Z.2.2 0)), (1, .int p1Zq), (2, .int p2Zq), (3, .int p3Zq), (4, .int x4Zq)] dX11_readText_90 (by decide) rfl ?_
    refine li_aload_n 1 dX11_readText_92 rfl ?_
    refine li_getr (k := 0) (N := 13) (T := TX11) (C0 := RX11) dX11_readText_93 (by decide) sh_0 rfl rfl (by decide) (by decide) li_in11 w_473 ?_
    refine li_iconst 0 dX11_readText_96 (by decide) ?_
    refine li_puti (k := 1) (N := 3) (T := TX7) (C0 := RX7) dX11_readText_97 (by decide) sh_1 rfl rfl (by decide) li_in7 tyX7_ok nmX7 rfl rfl rfl rfl w_140 ?_
    refine li_nm (fun M9Zq eM9 => ?_)
    have hf := li_fr_ui hf (show 1 = 1 ∨ 1 = 165 by omega) eM9
    have mM9_1_1 : (M9Zq.1 1 1).toInt = 0 := by rw [eM9, li_ui_at, if_pos rfl, if_pos rfl]; rfl
    have mM9_1_2 : (M9Zq.1 1 2).toInt = (M7Zq.1 1 2).toInt := by rw [eM9, li_ui_at, if_pos rfl, if_neg (by decide)]
    have Pgk_M9 : li_gk (M9Zq.1 165) (h2) (LNZq) (3 * (x4Zq : Int32).toInt) ((x4Zq : Int32).toInt) := li_gk_tr (li_cell_ui eM9 (by decide)) rfl rfl (by omega) (by omega) Pgk_M7
    have k10 : M9Zq.1 1 1 = 0 := by rw [eM9, li_ui_at, if_pos rfl, if_pos rfl]
    refine li_iload 0 dX11_readText_100 rfl ?_
    exact li_iret dX11_readText_102 rfl rfl ⟨⟨_, rfl, (by refine ⟨by omega, li_gk_vd Pgk_M9 (by omega)⟩)⟩, hf⟩
  refine li_icmp_ne 37 dX11_readText_10 (by decide) (fun c3 => ?_) (fun c3 => ?_)
  · have tc3 : ¬ p1Zq.toInt = 4 := tl_ne c3
    refine li_iload_n 1 dX11_readText_37 rfl ?_
    refine li_iconst 5 dX11_readText_38 (by decide) ?_
    refine li_icmp_ne 58 dX11_readText_39 (by decide) (fun c11Zq => ?_) (fun c11Zq => ?_)
    · have tc11 : ¬ p1Zq.toInt = 5 := tl_ne c11Zq
      refine li_aload_n 0 dX11_readText_58 rfl ?_
      refine li_getr (k := 0) (N := 13) (T := TX11) (C0 := RX11) dX11_readText_59 (by decide) sh_0 rfl rfl (by decide) (by decide) li_in11 w_473 ?_
      refine li_callV (n := 0) (As := []) dX11_readText_62 (k5_X7_atEnd (d - 1) (by omega) M1Zq) (by omega) (Nat.le_of_ble_eq_true rfl) w_663 w_545 w_546 w_102 w_547 (by decide +kernel) rfl (by decide) sh_1 rfl rfl (Nat.le_of_ble_eq_true rfl) (fun r M13 h14 => ?_)
      obtain ⟨⟨x12, rfl, bx12, qx12⟩, h14⟩ := h14
      have ux12 := tl_b bx12
      have hf := li_fr_trans hf h14 (fun i hZq => False.elim hZq)
      have mM13_1_1 : (M13.1 1 1).toInt = (M1Zq.1 1 1).toInt := by rw [h14.1 1 id]
      have mM13_1_2 : (M13.1 1 2).toInt = (M1Zq.1 1 2).toInt := by rw [h14.1 1 id]
      have Psg_M13 : li_sg (M13.1 2)  := li_sg_tr (h14.1 2 (fun hZq => by first | exact (hZq : False).elim | omega))  Psg_M1
      have Pgq_M13 : li_gq (M13.1 2) ((M13.1 1 1).toInt) (p2Zq.toInt) (0) (0) (OK) (QQ) (MM) := li_gq_tr (h14.1 2 (fun hZq => by first | exact (hZq : False).elim | omega)) (Int.le_antisymm (by omega) (by omega)) (Int.le_antisymm (by omega) (by omega)) (Int.le_antisymm (by omega) (by omega)) (Int.le_antisymm (by omega) (by omega)) rfl rfl rfl Pgq_M1
      have Pci_M13 : li_ci (M13.1 2) (h2) := li_ci_tr (h14.1 2 (fun hZq => by first | exact (hZq : False).elim | omega)) rfl Pci_M1
      have J78 : ∀ (x16 : Int32) (M17 : li_M), li_fr (fun i => i = 1 ∨ i = 165) M0 M17 → ((((M0.1 1 1).toInt = 0 ∧ (x16 : Int32).toInt = 0 ∧ (M17.1 1 2).toInt = 0) ∨ (0 < (M0.1 1 1).toInt ∧ OK = 1 ∧ (x16 : Int32).toInt = MM ∧ 0 ≤ MM ∧ MM ≤ 100 ∧ (M17.1 1 2).toInt = QQ) ∨ (0 < (M0.1 1 1).toInt ∧ OK = 0 ∧ (x16 : Int32).toInt = -1 ∧ (M17.1 1 2).toInt = QQ)) ∧ (M17.1 1 1).toInt = (M0.1 1 1).toInt ∧ 0 ≤ (M17.1 1 2).toInt ∧ (M17.1 1 2).toInt ≤ (M0.1 1 1).toInt) → li_gk (M17.1 165) (h2) (LNZq) (3 * (x16 : Int32).toInt) ((x16 : Int32).toInt) → li_T l Z YX11_readText d 78 [(0, .ref (Z.2.2 0)), (1, .int p1Zq), (2, .int p2Zq), (3, .int p3Zq)] [.int x16] M17 (fun r M' => (∃ x : Int32, r = some (.int x) ∧ (((((M0.1 1 1).toInt = 0 ∧ x.toInt = 0) ∨ (0 < (M0.1 1 1).toInt ∧ OK = 1 ∧ (M0.1 1 1).toInt ≤ p3Zq.toInt ∧ x.toInt = MM ∧ 0 ≤ MM ∧ MM ≤ 100) ∨ (0 < (M0.1 1 1).toInt ∧ OK = 1 ∧ p3Zq.toInt < (M0.1 1 1).toInt ∧ x.toInt = -1 - p3Zq.toInt) ∨ (0 < (M0.1 1 1).toInt ∧ OK = 0 ∧ 0 ≤ QQ ∧ QQ ≤ p3Zq.toInt ∧ x.toInt = -1 - QQ) ∨ (0 < (M0.1 1 1).toInt ∧ OK = 0 ∧ p3Zq.toInt < QQ ∧ x.toInt = -1 - p3Zq.toInt)) ∧ (M'.1 1 1).toInt = 0) ∧ li_gk (M'.1 165) h2 LNZq (3 * x.toInt) (x.toInt))) ∧ li_fr (fun i => i = 1 ∨ i = 165) M0 M') := by
        intro x16 M17 hf hiZq Pgk_M17
        have gx16 := tl_rg x16
        refine li_istore [(4, .int x16), (0, .ref (Z.2.2 0)), (1, .int p1Zq), (2, .int p2Zq), (3, .int p3Zq)] dX11_readText_78 (by decide) rfl ?_
        refine li_pick [1, 2, 3, 4, 0] [(0, .ref (Z.2.2 0)), (1, .int p1Zq), (2, .int p2Zq), (3, .int p3Zq), (4, .int x16)] rfl ?_
        exact J80 x16 M17 hf (by omega) (by first | exact li_gk_tr rfl rfl rfl (by omega) (by omega) Pgk_M17 | exact li_gk_0 (by omega) | exact li_gk_no (by omega))
      refine li_if_eq 72 dX11_readText_65 (by decide) (fun c15Zq => ?_) (fun c15Zq => ?_)
      · have tc15 : x12.toInt = 0 := tl_eq c15Zq
        refine li_aload_n 0 dX11_readText_72 rfl ?_
        refine li_iload_n 1 dX11_readText_73 rfl ?_
        refine li_iload_n 2 dX11_readText_74 rfl ?_
        refine li_callV (n := 2) (As := [.int p1Zq, .int p2Zq]) dX11_readText_75 (k12_X11_readLines (d - 1) (by omega) p1Zq p2Zq M13 (by omega) Psg_M13 ⟨by omega, by omega, by omega⟩ OK QQ MM (li_gq_tr rfl (by omega) (by omega) (by omega) rfl rfl rfl rfl Pgq_M13) h2 Pci_M13 LNZq (by omega)) (by omega) (Nat.le_of_ble_eq_true rfl) w_664 w_666 w_8 w_101 w_667 (by decide +kernel) rfl (by decide) sh_0 rfl rfl (Nat.le_of_ble_eq_true rfl) (fun r M19 h20 => ?_)
        obtain ⟨⟨x18, rfl, qx18⟩, h20⟩ := h20
        have gx18 := tl_rg x18
        have hf := li_fr_trans hf h20 (fun i (hZq : i = 1 ∨ i = 165) => (show i = 1 ∨ i = 165 by omega))
        have Psg_M19 : li_sg (M19.1 2)  := li_sg_tr (h20.1 2 (fun hZq => by first | exact (hZq : False).elim | omega))  Psg_M13
        have Pci_M19 : li_ci (M19.1 2) (h2) := li_ci_tr (h20.1 2 (fun hZq => by first | exact (hZq : False).elim | omega)) rfl Pci_M13
        have Pgk_M19 : li_gk (M19.1 165) (h2) (LNZq) (3 * x18.toInt) (x18.toInt) := li_gk_tr rfl rfl (by omega) (by omega) (fun h9 => by omega) qx18.2
        refine li_pick [0, 1, 2, 3] [(0, .ref (Z.2.2 0)), (1, .int p1Zq), (2, .int p2Zq), (3, .int p3Zq)] rfl ?_
        exact J78 x18 M19 hf (by omega) (by first | exact li_gk_tr rfl rfl rfl (by omega) (by omega) Pgk_M19 | exact li_gk_0 (by omega) | exact li_gk_no (by omega))
      · have tc15 : ¬ x12.toInt = 0 := tl_ne c15Zq
        refine li_iconst 0 dX11_readText_68 (by decide) ?_
        refine li_goto 78 dX11_readText_69 (by decide) ?_
        refine li_pick [0, 1, 2, 3] [(0, .ref (Z.2.2 0)), (1, .int p1Zq), (2, .int p2Zq), (3, .int p3Zq)] rfl ?_
        have z0 : (0 : Int32).toInt = 0 := rfl
        exact J78 0 M13 hf (by omega) (by first | exact li_gk_0 (by omega) | exact li_gk_no (by omega))
    · have tc11 : p1Zq.toInt = 5 := tl_eq c11Zq
      exfalso; omega
  · have tc3 : p1Zq.toInt = 4 := tl_eq c3
    exfalso; omega

set_option maxRecDepth 100000 in
set_option maxHeartbeats 4000000 in
theorem k12_X10_adopt {l : Launch} {Z : li_Z} (d : Nat) (hdZq : 1 ≤ d) (p1Zq : Int32) (M0 : li_M) : li_Met l Z YX10_adopt d [.ref (Z.2.2 163), .int p1Zq] M0 (fun r M' => r = none ∧ li_fr (fun i => i = 163 ∨ i = 164) M0 M' ∧ ((M'.1 163 7).toInt = p1Zq.toInt ∧ (∀ i : Nat, i < 30 → M'.1 164 i = M0.1 165 i))) := by
  refine li_enter (by decide +kernel) (Nat.le_of_ble_eq_true rfl) ?_
  show li_T l Z YX10_adopt d 0 [(0, .ref (Z.2.2 163)), (1, .int p1Zq)] [] M0 _
  have hf : li_fr (fun i => i = 163 ∨ i = 164) M0 M0 := li_fr_refl
  have gp1 := tl_rg p1Zq
  refine li_aload_n 0 dX10_adopt_0 rfl ?_
  refine li_getr (k := 1) (N := 8) (T := TX10) (C0 := RX10) dX10_adopt_1 (by decide) sh_163 rfl rfl (by decide) (by decide) li_in10 w_336 ?_
  refine li_iconst 0 dX10_adopt_4 (by decide) ?_
  refine li_aload_n 0 dX10_adopt_5 rfl ?_
  refine li_getr (k := 0) (N := 8) (T := TX10) (C0 := RX10) dX10_adopt_6 (by decide) sh_163 rfl rfl (by decide) (by decide) li_in10 w_335 ?_
  refine li_iconst 0 dX10_adopt_9 (by decide) ?_
  refine li_bipush 30 dX10_adopt_10 (by decide) ?_
  refine li_copyI dX10_adopt_12 (by omega) w_1120 w_753 w_752 w_118 (by decide) sh_165 (by decide) sh_164 (by decide) (by decide) (by decide) (Nat.le_of_ble_eq_true rfl) ?_
  refine li_nm (fun M1Zq eM1 => ?_)
  have hf := li_fr_uc hf (show 164 = 163 ∨ 164 = 164 by omega) eM1
  have cpZq : ∀ i : Nat, i < 30 → M1Zq.1 164 i = M0.1 165 i := fun i hiZq => uc_cp eM1 (by rw [show (30 : Int32).toNatClampNeg = 30 from by decide]; exact hiZq)
  refine li_aload_n 0 dX10_adopt_15 rfl ?_
  refine li_iload_n 1 dX10_adopt_16 rfl ?_
  refine li_puti (k := 7) (N := 8) (T := TX10) (C0 := RX10) dX10_adopt_17 (by decide) sh_163 rfl rfl (by decide) li_in10 tyX10_ok nmX10 rfl rfl rfl rfl w_343 ?_
  refine li_nm (fun M2Zq eM2 => ?_)
  have hf := li_fr_ui hf (show 163 = 163 ∨ 163 = 164 by omega) eM2
  have mM2_163_7 : (M2Zq.1 163 7).toInt = p1Zq.toInt := by rw [eM2, li_ui_at, if_pos rfl, if_pos rfl]
  have k3Zq : M2Zq.1 163 7 = p1Zq := by rw [eM2, li_ui_at, if_pos rfl, if_pos rfl]
  have cpZq : ∀ i : Nat, i < 30 → M2Zq.1 164 i = M0.1 165 i := fun i hiZq => by rw [eM2, li_ui_at, if_neg (by decide)]; exact cpZq i hiZq
  exact li_vret dX10_adopt_20 rfl ⟨rfl, hf, (by exact ⟨by omega, cpZq⟩)⟩
set_option maxRecDepth 100000 in
set_option maxHeartbeats 4000000 in
theorem k12_X11_grammar {l : Launch} {Z : li_Z} (d : Nat) (hdZq : 7 ≤ d) (M0 : li_M) (h1 : 0 ≤ (M0.1 1 1).toInt ∧ (M0.1 1 1).toInt ≤ 80) (Psg_M0 : li_sg (M0.1 2)) (OK QQ MM : Int) (Pgq_M0 : li_gq (M0.1 2) ((M0.1 1 1).toInt) (10) (0) (0) (OK) (QQ) (MM)) (h2 : Nat → Int32) (hh2 : M0.1 2 = h2) (LNZq : Int) (hLN : (M0.1 1 1).toInt = LNZq) (g4 : Nat → Int32) (hg4 : M0.1 164 = g4) : li_Met l Z YX11_grammar d [.ref (Z.2.2 0)] M0 (fun r M' => (∃ x : Int32, r = some (.int x) ∧ (((((M0.1 1 1).toInt = 0 ∧ x.toInt = 0) ∨ (0 < (M0.1 1 1).toInt ∧ OK = 1 ∧ (M0.1 1 1).toInt ≤ 80 ∧ x.toInt = MM ∧ 0 ≤ MM ∧ MM ≤ 100) ∨ (0 < (M0.1 1 1).toInt ∧ OK = 1 ∧ 80 < (M0.1 1 1).toInt ∧ x.toInt = -1 - 80) ∨ (0 < (M0.1 1 1).toInt ∧ OK = 0 ∧ 0 ≤ QQ ∧ QQ ≤ 80 ∧ x.toInt = -1 - QQ) ∨ (0 < (M0.1 1 1).toInt ∧ OK = 0 ∧ 80 < QQ ∧ x.toInt = -1 - 80)) ∧ (M'.1 1 1).toInt = 0) ∧ ((x.toInt < 0 ∧ (M'.1 163 7).toInt = (M0.1 163 7).toInt ∧ M'.1 164 = g4) ∨ (0 ≤ x.toInt ∧ (M'.1 163 7).toInt = x.toInt ∧ li_gk (M'.1 164) h2 LNZq (3 * x.toInt) (x.toInt))))) ∧ li_fr (fun i => i = 1 ∨ i = 163 ∨ i = 164 ∨ i = 165) M0 M') := by
  refine li_enter (by decide +kernel) (Nat.le_of_ble_eq_true rfl) ?_
  show li_T l Z YX11_grammar d 0 [(0, .ref (Z.2.2 0))] [] M0 _
  have hf : li_fr (fun i => i = 1 ∨ i = 163 ∨ i = 164 ∨ i = 165) M0 M0 := li_fr_refl
  have Pcw_M0 : li_cw (M0.1 164) (g4) := hg4
  refine li_aload_n 0 dX11_grammar_0 rfl ?_
  refine li_iconst 3 dX11_grammar_1 (by decide) ?_
  refine li_bipush 10 dX11_grammar_2 (by decide) ?_
  refine li_bipush 80 dX11_grammar_4 (by decide) ?_
  refine li_callV (n := 3) (As := [.int 3, .int 10, .int 80]) dX11_grammar_6 (k12_X11_readText (d - 1) (by omega) 3 10 80 M0 (by omega) Psg_M0 ⟨rfl, by decide, by decide, by decide⟩ OK QQ MM (li_gq_tr rfl rfl (by decide) rfl rfl rfl rfl rfl Pgq_M0) h2 hh2 LNZq hLN) (by omega) (Nat.le_of_ble_eq_true rfl) w_536 w_538 w_0 w_101 w_539 (by decide +kernel) rfl (by decide) sh_0 rfl rfl (Nat.le_of_ble_eq_true rfl) (fun r M2Zq h3 => ?_)
  have z3 : (3 : Int32).toInt = 3 := rfl
  have z10 : (10 : Int32).toInt = 10 := rfl
  have z80 : (80 : Int32).toInt = 80 := rfl
  obtain ⟨⟨x1Zq, rfl, qx1⟩, h3⟩ := h3
  have gx1 := tl_rg x1Zq
  have hf := li_fr_trans hf h3 (fun i (hZq : i = 1 ∨ i = 165) => (show i = 1 ∨ i = 163 ∨ i = 164 ∨ i = 165 by omega))
  have mM2_163_7 : (M2Zq.1 163 7).toInt = (M0.1 163 7).toInt := by rw [h3.1 163 (show ¬ (163 = 1 ∨ 163 = 165) by omega)]
  have Pcw_M2 : li_cw (M2Zq.1 164) (g4) := li_cw_tr (h3.1 164 (fun hZq => by first | exact (hZq : False).elim | omega)) rfl Pcw_M0
  have qa := qx1.1.1
  rw [z80] at qa
  have qc := qx1.1.2
  have qg := qx1.2
  clear qx1
  have qb : x1Zq.toInt ≤ 100 := by omega
  have qm : x1Zq.toInt ≤ 10 := by have q9Zq := li_gq_le Pgq_M0; omega
  refine li_istore_n [(1, .int x1Zq), (0, .ref (Z.2.2 0))] dX11_grammar_9 (by decide) rfl ?_
  refine li_iload_n 0 dX11_grammar_10 rfl ?_
  refine li_if_lt 22 dX11_grammar_11 (by decide) (fun c4 => ?_) (fun c4 => ?_)
  · have tc4 : x1Zq.toInt < 0 := tl_lt c4
    refine li_iload_n 0 dX11_grammar_22 rfl ?_
    exact li_iret dX11_grammar_23 rfl rfl ⟨⟨_, rfl, (by refine ⟨⟨qa, by omega⟩, ?_⟩; first | exact Or.inl ⟨by omega, by omega, Pcw_M2⟩ | exact Or.inr ⟨by omega, by omega, cpg⟩)⟩, hf⟩
  · have tc4 : 0 ≤ x1Zq.toInt := tl_nlt c4
    refine li_aload_n 1 dX11_grammar_14 rfl ?_
    refine li_getr (k := 10) (N := 13) (T := TX11) (C0 := RX11) dX11_grammar_15 (by decide) sh_0 rfl rfl (by decide) (by decide) li_in11 w_483 ?_
    refine li_iload_n 0 dX11_grammar_18 rfl ?_
    refine li_callV (n := 1) (As := [.int x1Zq]) dX11_grammar_19 (k12_X10_adopt (d - 1) (by omega) x1Zq M2Zq) (by omega) (Nat.le_of_ble_eq_true rfl) w_1116 w_1117 w_1118 w_108 w_1119 (by decide +kernel) rfl (by decide) sh_163 rfl rfl (Nat.le_of_ble_eq_true rfl) (fun r M6Zq h7 => ?_)
    obtain ⟨rfl, h7, nM6⟩ := h7
    have hf := li_fr_trans hf h7 (fun i (hZq : i = 163 ∨ i = 164) => (show i = 1 ∨ i = 163 ∨ i = 164 ∨ i = 165 by omega))
    have mM6_1_1 : (M6Zq.1 1 1).toInt = (M2Zq.1 1 1).toInt := by rw [h7.1 1 (show ¬ (1 = 163 ∨ 1 = 164) by omega)]
    have cpg := li_gk_cp qg (by omega) nM6.2
    refine li_iload_n 0 dX11_grammar_22 rfl ?_
    exact li_iret dX11_grammar_23 rfl rfl ⟨⟨_, rfl, (by refine ⟨⟨qa, by omega⟩, ?_⟩; first | exact Or.inl ⟨by omega, by omega, Pcw_M6⟩ | exact Or.inr ⟨by omega, by omega, cpg⟩)⟩, hf⟩
