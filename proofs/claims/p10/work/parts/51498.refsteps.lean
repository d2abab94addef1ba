def li_cs (g hZq : Nat → Int32) (len n wZq : Int) : Prop := wZq = -1 → ∀ jZq : Nat, (jZq : Int) < n → (g (2 * jZq)).toInt = rd_sv hZq len jZq 0
theorem li_cs_tr {g g' hZq h' : Nat → Int32} {len len' n n' wZq w' : Int} (hg : g' = g) (hh : h' = hZq) (h1 : len' = len) (h2 : n' ≤ n) (h3 : w' = -1 → wZq = -1) (a : li_cs g hZq len n wZq) : li_cs g' h' len' n' w' := by
  subst hg; subst hh; subst h1
  exact fun q jZq hj => a (h3 q) jZq (by omega)
theorem li_cs_0 {g hZq : Nat → Int32} {len n wZq : Int} (hn : n ≤ 0) : li_cs g hZq len n wZq := fun _ jZq hj => absurd hj (by omega)
theorem li_cs_no {g hZq : Nat → Int32} {len n wZq : Int} (hw : ¬ wZq = -1) : li_cs g hZq len n wZq := fun q => absurd q hw
/-- the even placeZq ofZq a line isZq writtenZq -/
theorem li_cs_st {M M' : li_M} {hZq : Nat → Int32} {len n n' wZq w' : Int} {i x : Int32} (a : li_cs (M.1 182) hZq len n wZq) (e : M' = li_ui M 182 i.toNatClampNeg x) (hiZq : i.toInt = 2 * n) (h0 : 0 ≤ n) (hw : w' = -1 → wZq = -1 ∧ x.toInt = rd_sv hZq len n.toNat 0) (hn : n' = n + 1) : li_cs (M'.1 182) hZq len n' w' := by
  have h9 := li_cl (i := i) (by omega)
  subst e
  intro q jZq hj
  obtain ⟨hw1, hx⟩ := hw q
  rw [li_ui_at, if_pos rfl]
  by_cases c : (jZq : Int) = n
  · rw [if_pos (by omega), hx, show n.toNat = jZq by omega]
  · rw [if_neg (by omega)]; exact a hw1 jZq (by omega)
theorem li_cs_odd {M M' : li_M} {hZq : Nat → Int32} {len n n' wZq w' : Int} {i x : Int32} (a : li_cs (M.1 182) hZq len n wZq) (e : M' = li_ui M 182 i.toNatClampNeg x) (k : Int) (hiZq : i.toInt = 2 * k + 1) (h0 : 0 ≤ k) (hn : n' ≤ n) (hw : w' = -1 → wZq = -1) : li_cs (M'.1 182) hZq len n' w' := by
  have h9 := li_cl (i := i) (by omega)
  subst e
  intro q jZq hj
  rw [li_ui_at, if_pos rfl, if_neg (by omega)]
  exact a (hw q) jZq (by omega)
/-- a line's stepZq goesZq behindZq those that are thereZq -/
theorem li_ss_cp {M M' : li_M} {g0 hZq : Nat → Int32} {len PZq n n' : Int} {i x : Int32} (a : li_ss (M.1 177) g0 hZq len PZq n) (e : M' = li_ui M 177 i.toNatClampNeg x) (hiZq : i.toInt = PZq + n) (h0 : 0 ≤ PZq ∧ 0 ≤ n) (hx : x.toInt = rd_sv hZq len n.toNat 0) (hn : n' = n + 1) : li_ss (M'.1 177) g0 hZq len PZq n' := by
  have h9 := li_cl (i := i) (by omega)
  subst e
  intro k
  rw [li_ui_at, if_pos rfl]
  refine ⟨fun c => ?_, fun jZq hj hk h6 => ?_⟩
  · rw [if_neg (by omega)]; exact (a k).1 c
  · by_cases c : (jZq : Int) = n
    · rw [if_pos (by omega), hx, show n.toNat = jZq by omega]
    · rw [if_neg (by omega)]; exact (a k).2 jZq (by omega) hk h6
theorem li_cs_ld {g hZq : Nat → Int32} {len n wZq : Int} {i x : Int32} (a : li_cs g hZq len n wZq) (hw : wZq = -1) (e : x = g i.toNatClampNeg) (k : Int) (hiZq : i.toInt = 2 * k) (h0 : 0 ≤ k) (hk : k < n) : x.toInt = rd_sv hZq len k.toNat 0 := by
  have h9 := li_cl (i := i) (by omega)
  rw [e, show i.toNatClampNeg = 2 * k.toNat by omega]
  exact a hw k.toNat (by omega)
/-- stepsZq alikeZq, ofZq those that are thereZq -/
def li_st (g hZq : Nat → Int32) (PZq : Int) : Prop := ∀ i : Nat, (i : Int) < PZq → g i = hZq i
theorem li_st_mv {g g' hZq h' : Nat → Int32} {PZq P'Zq : Int} (h1 : g' = g) (h2 : h' = hZq) (h3 : P'Zq = PZq) (a : li_st g hZq PZq) : li_st g' h' P'Zq := by
  subst h1; subst h2; subst h3; exact a
theorem li_st_0 {g hZq : Nat → Int32} {PZq : Int} (hP : PZq ≤ 0) : li_st g hZq PZq := fun i hiZq => absurd hiZq (by omega)
theorem li_st_add {g g' hZq h' s t : Nat → Int32} {PZq P'Zq n len e n2Zq : Int} (a : li_st g hZq PZq) (x : li_ss g' g s len PZq n) (y : li_ss h' hZq t e PZq n2Zq) (hP : P'Zq ≤ PZq + n ∨ P'Zq ≤ PZq) (hn : n2Zq = n) (h6 : P'Zq ≤ 6) (h0 : 0 ≤ PZq) (hs : PZq < P'Zq → t = s ∧ e = len) : li_st g' h' P'Zq := by
  intro i hiZq
  by_cases c : (i : Int) < PZq
  · rw [(x i).1 c, (y i).1 c]; exact a i c
  · obtain ⟨e1Zq, e2Zq⟩ := hs (by omega)
    subst e1Zq; subst e2Zq
    have u := (x i).2 ((i : Int) - PZq).toNat (by omega) (by omega) (by omega)
    have v := (y i).2 ((i : Int) - PZq).toNat (by omega) (by omega) (by omega)
    exact Int32.toInt_inj.mp (u.trans v.symm)
def li_mo (g g0 : Nat → Int32) (p1Zq p2Zq : Int32) (PZq : Int) : Prop := (¬ (0 ≤ p1Zq.toInt ∧ p1Zq.toInt < PZq ∧ 0 ≤ p2Zq.toInt ∧ p2Zq.toInt ≤ 99) → g = g0) ∧ (0 ≤ p1Zq.toInt ∧ p1Zq.toInt < PZq ∧ 0 ≤ p2Zq.toInt ∧ p2Zq.toInt ≤ 99 → ∀ k : Nat, g k = if k = p1Zq.toNatClampNeg then p2Zq else g0 k)
theorem li_mo_no {g g0 : Nat → Int32} {p1Zq p2Zq : Int32} {PZq : Int} (hZq : g = g0) (hv : ¬ (0 ≤ p1Zq.toInt ∧ p1Zq.toInt < PZq ∧ 0 ≤ p2Zq.toInt ∧ p2Zq.toInt ≤ 99)) : li_mo g g0 p1Zq p2Zq PZq := ⟨fun _ => hZq, fun q => absurd q hv⟩
theorem li_mo_c {g g' g0 : Nat → Int32} {p1Zq p2Zq : Int32} {PZq : Int} (hp : ∀ k : Nat, g' k = if 0 ≤ p1Zq.toInt ∧ p1Zq.toInt < ((6 : Nat) : Int) ∧ k = p1Zq.toNatClampNeg then p2Zq else g k) (hZq : g = g0) (hv : 0 ≤ p1Zq.toInt ∧ p1Zq.toInt < PZq ∧ 0 ≤ p2Zq.toInt ∧ p2Zq.toInt ≤ 99) (h6 : PZq ≤ 6) : li_mo g' g0 p1Zq p2Zq PZq := by
  subst hZq
  refine ⟨fun q => absurd hv q, fun _ k => ?_⟩
  rw [hp k]
  by_cases c : k = p1Zq.toNatClampNeg
  · rw [if_pos c, if_pos ⟨hv.1, by omega, c⟩]
  · rw [if_neg c, if_neg (fun zZq => c zZq.2.2)]
theorem li_mo_j {M M' : li_M} {g0 : Nat → Int32} {p1Zq p2Zq : Int32} {PZq : Int} (e : M' = li_ui M 177 p1Zq.toNatClampNeg p2Zq) (hZq : M.1 177 = g0) (hv : 0 ≤ p1Zq.toInt ∧ p1Zq.toInt < PZq ∧ 0 ≤ p2Zq.toInt ∧ p2Zq.toInt ≤ 99) : li_mo (M'.1 177) g0 p1Zq p2Zq PZq := by
  subst e; subst hZq
  refine ⟨fun q => absurd hv q, fun _ k => ?_⟩
  rw [li_ui_at, if_pos rfl]
theorem li_st_mo {g g' hZq h' : Nat → Int32} {p1Zq p2Zq : Int32} {PZq P2Zq P'Zq : Int} (a : li_st g hZq PZq) (x : li_mo g' g p1Zq p2Zq PZq) (y : li_mo h' hZq p1Zq p2Zq P2Zq) (h2 : P2Zq = PZq) (h3 : P'Zq = PZq) : li_st g' h' P'Zq := by
  subst h2; subst h3
  intro i hiZq
  by_cases c : 0 ≤ p1Zq.toInt ∧ p1Zq.toInt < P'Zq ∧ 0 ≤ p2Zq.toInt ∧ p2Zq.toInt ≤ 99
  · rw [x.2 c i, y.2 c i]
    by_cases d : i = p1Zq.toNatClampNeg
    · rw [if_pos d, if_pos d]
    · rw [if_neg d, if_neg d]; exact a i hiZq
  · rw [x.1 c, y.1 c]; exact a i hiZq
theorem at_6 {g g0 : Nat → Int32} {x i : Int32} (e : x = li_at g 6 i) (hg : g = g0) (h0 : 0 ≤ i.toInt ∧ i.toInt < 6) : x.toInt = (g0 i.toNatClampNeg).toInt := by
  subst hg
  have hz : (0 : Int32).toInt = 0 := rfl
  have z6 : (nI 6).toInt = 6 := rfl
  rw [e]
  unfold li_at
  rw [if_pos ⟨Int32.le_iff_toInt_le.mpr (by omega), Int32.lt_iff_toInt_lt.mpr (by omega)⟩]
def li_pj (f hZq : Nat → Int32) (len p n wZq mo : Int) : Prop := mo = 1 → wZq = -1 → p = rd_pp hZq len n.toNat 0
theorem li_pj_tr {f f' hZq h' : Nat → Int32} {len len' p p' n n' wZq w' mo mo' : Int} (hf : f' = f) (hh : h' = hZq) (h1 : len' = len) (h2 : p' = p) (h3 : n' = n) (h4 : w' = -1 → wZq = -1) (h5 : mo' = 1 → mo = 1) (a : li_pj f hZq len p n wZq mo) : li_pj f' h' len' p' n' w' mo' := by
  subst hh; subst h1; subst h2; subst h3
  exact fun x y => a (h5 x) (h4 y)
theorem li_pj_0 {f hZq : Nat → Int32} {len p n wZq mo : Int} (hp : p = 0) (hn : n = 0) : li_pj f hZq len p n wZq mo := fun _ _ => by
  subst hp; subst hn; rfl
def li_py (f hZq : Nat → Int32) (len p n wZq c : Int) : Prop := wZq = -1 → c = 59 → p + 1 = rd_pp hZq len n.toNat 0
theorem li_py_tr {f f' hZq h' : Nat → Int32} {len len' p p' n n' wZq w' c c' : Int} (hf : f' = f) (hh : h' = hZq) (h1 : len' = len) (h2 : p' = p) (h3 : n' = n) (h4 : w' = wZq) (h5 : c' = c) (a : li_py f hZq len p n wZq c) : li_py f' h' len' p' n' w' c' := by
  subst hh; subst h1; subst h2; subst h3; subst h4; subst h5; exact a
theorem li_py_no {f hZq : Nat → Int32} {len p n wZq c : Int} (hw : ¬ wZq = -1) : li_py f hZq len p n wZq c := fun a => absurd a hw
theorem li_pj_py {f f' hZq : Nat → Int32} {len p p' n n' wZq w' c mo : Int} (a : li_py f hZq len p n wZq c) (hn : n' = n) (hmZq : mo = 1 → w' = -1 → wZq = -1 ∧ c = 59 ∧ p' = p + 1) : li_pj f' hZq len p' n' w' mo := fun x y => by
  obtain ⟨u, v, e⟩ := hmZq x y
  subst hn
  rw [e]; exact a u v

set_option maxRecDepth 100000 in
set_option maxHeartbeats 4000000 in
theorem k8_X12_people_J117 {l : Launch} {Z : li_Z} (d : Nat) (hdZq : 5 ≤ d) (M0 : li_M) (TY PEZq : Int) (hTY : TY = (M0.1 175 7).toInt) (hPEZq : PEZq = (M0.1 175 1).toInt) (OK QQ MM : Int) (Ppl_M0 : li_pl (M0.1 180) (min TY 76) (6 - PEZq) (0) (0) (OK) (QQ) (MM)) (g7 : Nat → Int32) (hg7 : M0.1 177 = g7) (hBZq : Nat → Int32) (hhB : li_by (M0.1 180) = hBZq) : ∀ (x9 : Int32) (x10 : Int32) (M11 : li_M), li_fs (fun i k => i = 176 ∨ i = 177 ∨ i = 178 ∨ i = 182 ∨ i = 1000 ∨ (i = 175 ∧ k = 1) ∨ (i = 175 ∧ k = 10) ∨ (i = 175 ∧ k = 12) ∨ (i = 175 ∧ k = 13) ∨ (i = 175 ∧ k = 14) ∨ (i = 175 ∧ k = 15) ∨ (i = 175 ∧ k = 23) ∨ (i = 175 ∧ k = 48) ∨ (i = 175 ∧ k = 7)) M0 M11 → li_J M11 → 1 ≤ (x10 : Int32).toInt ∧ (M11.1 175 1).toInt + (x10 : Int32).toInt ≤ 7 ∧ (M11.1 175 1).toInt + (x10 : Int32).toInt ≤ 7 + (M11.1 175 15).toInt ∧ (¬ (M11.1 175 15).toInt = -1 → OK = 0 ∧ QQ = (M11.1 175 15).toInt) ∧ ((M11.1 175 15).toInt = -1 → ((min TY 76) ≤ (M11.1 175 14).toInt ∧ OK = 1 ∧ QQ = (M11.1 175 14).toInt ∧ MM = (x10 : Int32).toInt) ∨ ((M11.1 175 14).toInt < (min TY 76) ∧ OK = 0 ∧ QQ = (M11.1 175 14).toInt)) ∧ (M11.1 175 14).toInt ≤ (min TY 76) ∧ (M11.1 175 12).toInt = TY ∧ (M11.1 175 13).toInt = 76 ∧ (M11.1 175 1).toInt = PEZq ∧ 0 ≤ PEZq ∧ 1 ≤ TY ∧ (M11.1 175 7).toInt = 0 → li_ce (M11.1 177) (g7) → li_cs (M11.1 182) (hBZq) ((min TY 76)) ((x10 : Int32).toInt) ((M11.1 175 15).toInt) → M11.2.2 0 = some 180 → li_T l Z YX12_people d 117 [(2, .int x9), (1, .int x10), (0, .ref (Z.2.2 175))] [] M11 (fun r M' => (∃ x : Int32, r = some (.int x) ∧ ((((TY = 0 ∧ x.toInt = 0) ∨ (0 < TY ∧ OK = 1 ∧ TY ≤ 76 ∧ x.toInt = MM) ∨ (0 < TY ∧ OK = 1 ∧ 76 < TY ∧ x.toInt = -77) ∨ (0 < TY ∧ OK = 0 ∧ x.toInt = -1 - QQ ∧ 0 ≤ QQ)) ∧ ((0 < x.toInt ∧ (M'.1 175 1).toInt = PEZq + x.toInt) ∨ (x.toInt ≤ 0 ∧ (M'.1 175 1).toInt = PEZq))) ∧ li_ss (M'.1 177) g7 hBZq (min TY 76) PEZq (x.toInt))) ∧ li_fs (fun i k => i = 176 ∨ i = 177 ∨ i = 178 ∨ i = 182 ∨ i = 1000 ∨ (i = 175 ∧ k = 1) ∨ (i = 175 ∧ k = 10) ∨ (i = 175 ∧ k = 12) ∨ (i = 175 ∧ k = 13) ∨ (i = 175 ∧ k = 14) ∨ (i = 175 ∧ k = 15) ∨ (i = 175 ∧ k = 23) ∨ (i = 175 ∧ k = 48) ∨ (i = 175 ∧ k = 7)) M0 M' ∧ li_J M' ∧ (M'.1 175 7).toInt = 0) := by
  intro x9 x10 M11 hf hJ hiZq Pce_M11 Pcs_M11 bM11
  have gx9 := tl_rg x9
  have gx10 := tl_rg x10
  have rM11_1 := J_sl1 (M := M11) hJ
  have rM11_7 := J_sl7 (M := M11) hJ
  have rM11_12 := J_sl12 (M := M11) hJ
  have rM11_13 := J_sl13 (M := M11) hJ
  have rM11_14 := J_sl14 (M := M11) hJ
  have rM11_15 := J_sl15 (M := M11) hJ
  refine li_aload_n 2 dX12_people_117 rfl ?_
  refine li_geti (k := 14) (N := 52) (T := TX12) (C0 := RX12) dX12_people_118 (by decide) sh_175 rfl rfl (by decide) li_in12 w_1418 ?_
  refine li_top (fun x12 ex12 => ?_)
  have gx12 : 0 ≤ x12.toInt ∧ x12.toInt ≤ 81 := by rw [ex12]; exact J_sl14 hJ
  have mx12 : x12.toInt = (M11.1 175 14).toInt := tl_slot ex12
  refine li_aload_n 2 dX12_people_121 rfl ?_
  refine li_geti (k := 12) (N := 52) (T := TX12) (C0 := RX12) dX12_people_122 (by decide) sh_175 rfl rfl (by decide) li_in12 w_1416 ?_
  refine li_top (fun x13 ex13 => ?_)
  have gx13 : 0 ≤ x13.toInt ∧ x13.toInt ≤ 80 := by rw [ex13]; exact J_sl12 hJ
  have mx13 : x13.toInt = (M11.1 175 12).toInt := tl_slot ex13
  have J136 : ∀  (M15 : li_M), li_fs (fun i k => i = 176 ∨ i = 177 ∨ i = 178 ∨ i = 182 ∨ i = 1000 ∨ (i = 175 ∧ k = 1) ∨ (i = 175 ∧ k = 10) ∨ (i = 175 ∧ k = 12) ∨ (i = 175 ∧ k = 13) ∨ (i = 175 ∧ k = 14) ∨ (i = 175 ∧ k = 15) ∨ (i = 175 ∧ k = 23) ∨ (i = 175 ∧ k = 48) ∨ (i = 175 ∧ k = 7)) M0 M15 → li_J M15 → 1 ≤ (x10 : Int32).toInt ∧ (M15.1 175 1).toInt + (x10 : Int32).toInt ≤ 7 ∧ (M15.1 175 1).toInt + (x10 : Int32).toInt ≤ 7 + (M15.1 175 15).toInt ∧ ((M15.1 175 15).toInt = -1 → OK = 1 ∧ MM = (x10 : Int32).toInt ∧ TY ≤ 76) ∧ (¬ (M15.1 175 15).toInt = -1 → (OK = 0 ∧ QQ = (M15.1 175 15).toInt) ∨ (OK = 1 ∧ 76 < TY ∧ (M15.1 175 15).toInt = 76)) ∧ (M15.1 175 1).toInt = PEZq ∧ 0 ≤ PEZq ∧ 1 ≤ TY ∧ (M15.1 175 7).toInt = 0 → li_ce (M15.1 177) (g7) → li_cs (M15.1 182) (hBZq) ((min TY 76)) ((x10 : Int32).toInt) ((M15.1 175 15).toInt) → li_T l Z YX12_people d 136 [(2, .int x9), (1, .int x10), (0, .ref (Z.2.2 175))] [] M15 (fun r M' => (∃ x : Int32, r = some (.int x) ∧ ((((TY = 0 ∧ x.toInt = 0) ∨ (0 < TY ∧ OK = 1 ∧ TY ≤ 76 ∧ x.toInt = MM) ∨ (0 < TY ∧ OK = 1 ∧ 76 < TY ∧ x.toInt = -77) ∨ (0 < TY ∧ OK = 0 ∧ x.toInt = -1 - QQ ∧ 0 ≤ QQ)) ∧ ((0 < x.toInt ∧ (M'.1 175 1).toInt = PEZq + x.toInt) ∨ (x.toInt ≤ 0 ∧ (M'.1 175 1).toInt = PEZq))) ∧ li_ss (M'.1 177) g7 hBZq (min TY 76) PEZq (x.toInt))) ∧ li_fs (fun i k => i = 176 ∨ i = 177 ∨ i = 178 ∨ i = 182 ∨ i = 1000 ∨ (i = 175 ∧ k = 1) ∨ (i = 175 ∧ k = 10) ∨ (i = 175 ∧ k = 12) ∨ (i = 175 ∧ k = 13) ∨ (i = 175 ∧ k = 14) ∨ (i = 175 ∧ k = 15) ∨ (i = 175 ∧ k = 23) ∨ (i = 175 ∧ k = 48) ∨ (i = 175 ∧ k = 7)) M0 M' ∧ li_J M' ∧ (M'.1 175 7).toInt = 0) := by
    try clear mx13
    try clear gx13
    try clear ex13
    try clear mx12
    try clear gx12
    try clear ex12
    try clear rM11_15
    try clear rM11_14
    try clear rM11_13
    try clear rM11_12
    try clear rM11_7
    try clear rM11_1
    try clear hiZq
    intro  M15 hf hJ hiZq Pce_M15 Pcs_M15
    have rM15_1 := J_sl1 (M := M15) hJ
    have rM15_7 := J_sl7 (M := M15) hJ
    have rM15_15 := J_sl15 (M := M15) hJ
    refine li_aload_n 2 dX12_people_136 rfl ?_
    refine li_callV (n := 0) (As := []) dX12_people_137 (k_X12_fine (d - 1) (by omega)  M15 hJ ) (by omega) (Nat.le_of_ble_eq_true rfl) w_1581 w_1583 w_43 w_112 w_1584 (by decide +kernel) rfl (by decide) sh_175 rfl rfl (Nat.le_of_ble_eq_true rfl) (fun r M17 h18 => ?_)
    obtain ⟨qx16, h18, jM17⟩ := h18
    have hf := li_fs_trans hf h18 (fun i k hZq => False.elim hZq)
    have kM17 : (li_hr M17).toInt = (li_hr M15).toInt := li_hr_fs h18 id id id id (fun _ _ _ => id) (by assumption)
    have hJ := jM17
    have rM17_1 := J_sl1 (M := M17) hJ
    have rM17_7 := J_sl7 (M := M17) hJ
    have rM17_15 := J_sl15 (M := M17) hJ
    have mM17_1 : (M17.1 175 1).toInt = (M15.1 175 1).toInt := tl_slot (h18.1 175 1 id)
    have mM17_7 : (M17.1 175 7).toInt = (M15.1 175 7).toInt := tl_slot (h18.1 175 7 id)
    have mM17_15 : (M17.1 175 15).toInt = (M15.1 175 15).toInt := tl_slot (h18.1 175 15 id)
    have Pcs_M17 : li_cs (M17.1 182) (hBZq) ((min TY 76)) ((x10 : Int32).toInt) ((M17.1 175 15).toInt) := li_cs_tr (funext fun i => h18.1 182 i id) rfl rfl (by omega) (fun h9 => Int.le_antisymm (by omega) (by omega)) Pcs_M15
    have Pce_M17 : li_ce (M17.1 177) (g7) := li_ce_tr (funext fun i => h18.1 177 i id) rfl Pce_M15
    rcases qx16 with ⟨rfl, qx16⟩ | ⟨rfl, qx16⟩
    · skip
      refine li_if_ne 150 dX12_people_140 (by decide) (fun c => ?_) (fun c => absurd c (by decide))
      refine li_iconst 0 dX12_people_150 (by decide) ?_
      refine li_istore_n [(3, .int 0), (2, .int x9), (1, .int x10), (0, .ref (Z.2.2 175))] dX12_people_151 (by decide) rfl ?_
      have L152 : ∀ (n : Nat) (x20 : Int32) (M21 : li_M), ((x10 : Int32).toInt - (x20 : Int32).toInt).toNat < n → li_fs (fun i k => i = 176 ∨ i = 177 ∨ i = 178 ∨ i = 182 ∨ i = 1000 ∨ (i = 175 ∧ k = 1) ∨ (i = 175 ∧ k = 10) ∨ (i = 175 ∧ k = 12) ∨ (i = 175 ∧ k = 13) ∨ (i = 175 ∧ k = 14) ∨ (i = 175 ∧ k = 15) ∨ (i = 175 ∧ k = 23) ∨ (i = 175 ∧ k = 48) ∨ (i = 175 ∧ k = 7)) M0 M21 → li_J M21 → 0 ≤ (x20 : Int32).toInt ∧ (x20 : Int32).toInt ≤ (x10 : Int32).toInt ∧ (M21.1 175 1).toInt + (x10 : Int32).toInt - (x20 : Int32).toInt ≤ 6 ∧ (M21.1 175 1).toInt = PEZq + (x20 : Int32).toInt ∧ 0 ≤ PEZq ∧ OK = 1 ∧ MM = (x10 : Int32).toInt ∧ 1 ≤ (x10 : Int32).toInt ∧ TY ≤ 76 ∧ 1 ≤ TY ∧ (M21.1 175 7).toInt = 0 → li_cs (M21.1 182) (hBZq) ((min TY 76)) ((x10 : Int32).toInt) (-1) → li_ss (M21.1 177) (g7) (hBZq) ((min TY 76)) (PEZq) ((x20 : Int32).toInt) → li_T l Z YX12_people d 152 [(3, .int x20), (2, .int x9), (1, .int x10), (0, .ref (Z.2.2 175))] [] M21 (fun r M' => (∃ x : Int32, r = some (.int x) ∧ ((((TY = 0 ∧ x.toInt = 0) ∨ (0 < TY ∧ OK = 1 ∧ TY ≤ 76 ∧ x.toInt = MM) ∨ (0 < TY ∧ OK = 1 ∧ 76 < TY ∧ x.toInt = -77) ∨ (0 < TY ∧ OK = 0 ∧ x.toInt = -1 - QQ ∧ 0 ≤ QQ)) ∧ ((0 < x.toInt ∧ (M'.1 175 1).toInt = PEZq + x.toInt) ∨ (x.toInt ≤ 0 ∧ (M'.1 175 1).toInt = PEZq))) ∧ li_ss (M'.1 177) g7 hBZq (min TY 76) PEZq (x.toInt))) ∧ li_fs (fun i k => i = 176 ∨ i = 177 ∨ i = 178 ∨ i = 182 ∨ i = 1000 ∨ (i = 175 ∧ k = 1) ∨ (i = 175 ∧ k = 10) ∨ (i = 175 ∧ k = 12) ∨ (i = 175 ∧ k = 13) ∨ (i = 175 ∧ k = 14) ∨ (i = 175 ∧ k = 15) ∨ (i = 175 ∧ k = 23) ∨ (i = 175 ∧ k = 48) ∨ (i = 175 ∧ k = 7)) M0 M' ∧ li_J M' ∧ (M'.1 175 7).toInt = 0) := by
        try clear c
        try clear mM17_15
        try clear mM17_7
        try clear mM17_1
        try clear rM17_15
        try clear rM17_7
        try clear rM17_1
        try clear kM17
        try clear qx16
        try clear h18
        try clear jM17
        try clear rM15_15
        try clear rM15_7
        try clear rM15_1
        try clear mx13
        try clear gx13
        try clear ex13
        try clear mx12
        try clear gx12
        try clear ex12
        try clear rM11_15
        try clear rM11_14
        try clear rM11_13
        try clear rM11_12
        try clear rM11_7
        try clear rM11_1
        try clear hiZq
        try clear hiZq
        intro n
        induction n with
        | zero => intro x20 M21 hn; exact absurd hn (Nat.not_lt_zero _)
        | succ n ih152 =>
          intro x20 M21 hn hf hJ hiZq Pcs_M21 Pss_M21
          have gx20 := tl_rg x20
          have rM21_1 := J_sl1 (M := M21) hJ
          have rM21_7 := J_sl7 (M := M21) hJ
          refine li_iload_n 0 dX12_people_152 rfl ?_
          refine li_iload_n 2 dX12_people_153 rfl ?_
          refine li_icmp_ge 254 dX12_people_154 (by decide) (fun c22 => ?_) (fun c22 => ?_)
          · have tc22 : x10.toInt ≤ x20.toInt := tl_le c22
            refine li_aload_n 3 dX12_people_254 rfl ?_
            refine li_iconst 0 dX12_people_255 (by decide) ?_
            refine li_puti (k := 23) (N := 52) (T := TX12) (C0 := RX12) dX12_people_256 (by decide) sh_175 rfl rfl (by decide) li_in12 tyX12_ok nmX12 rfl rfl rfl rfl w_1427 ?_
            refine li_nm (fun M23 eM23 => ?_)
            have hf := li_fs_ui hf (Or.inr (Or.inr (Or.inr (Or.inr (Or.inr (Or.inr (Or.inr (Or.inr (Or.inr (Or.inr (Or.inr (Or.inl ⟨rfl, rfl⟩)))))))))))) eM23
            have z0 : (0 : Int32).toInt = 0 := rfl
            have hJ := J_pt23 hJ (show 0 ≤ (0 : Int32).toInt ∧ (0 : Int32).toInt ≤ 12 from ⟨(by omega), (by omega)⟩) eM23
            have rM23_1 := J_sl1 (M := M23) hJ
            have rM23_7 := J_sl7 (M := M23) hJ
            have mM23_1 : (M23.1 175 1).toInt = (M21.1 175 1).toInt := by rw [eM23, li_ui_at, if_pos rfl, if_neg (by decide)]
            have mM23_7 : (M23.1 175 7).toInt = (M21.1 175 7).toInt := by rw [eM23, li_ui_at, if_pos rfl, if_neg (by decide)]
            have Pcs_M23 : li_cs (M23.1 182) (hBZq) ((min TY 76)) ((x10 : Int32).toInt) (-1) := li_cs_tr (li_cell_ui eM23 (by decide)) rfl rfl (by omega) (fun h9 => Int.le_antisymm (by omega) (by omega)) Pcs_M21
            have Pss_M23 : li_ss (M23.1 177) (g7) (hBZq) ((min TY 76)) (PEZq) ((x20 : Int32).toInt) := li_ss_tr (li_cell_ui eM23 (by decide)) rfl rfl rfl rfl (by omega) Pss_M21
            refine li_aload_n 3 dX12_people_259 rfl ?_
            refine li_dup dX12_people_260 rfl ?_
            refine li_geti (k := 48) (N := 52) (T := TX12) (C0 := RX12) dX12_people_261 (by decide) sh_175 rfl rfl (by decide) li_in12 w_1452 ?_
            refine li_top (fun x24 ex24 => ?_)
            have gx24 := tl_rg x24
            have mx24 : x24.toInt = (M23.1 175 48).toInt := tl_slot ex24
            refine li_iconst 1 dX12_people_264 (by decide) ?_
            refine li_iadd dX12_people_265 ?_
            refine li_top (fun x25 ex25 => ?_)
            have z1 : (1 : Int32).toInt = 1 := rfl
            try (have tx25 : x25.toInt = (x24 : Int32).toInt + (1 : Int32).toInt := tl_add ex25 ⟨by omega, by omega⟩)
            refine li_puti (k := 48) (N := 52) (T := TX12) (C0 := RX12) dX12_people_266 (by decide) sh_175 rfl rfl (by decide) li_in12 tyX12_ok nmX12 rfl rfl rfl rfl w_1452 ?_
            refine li_nm (fun M26 eM26 => ?_)
            have hf := li_fs_ui hf (Or.inr (Or.inr (Or.inr (Or.inr (Or.inr (Or.inr (Or.inr (Or.inr (Or.inr (Or.inr (Or.inr (Or.inr (Or.inl ⟨rfl, rfl⟩))))))))))))) eM26
            have hJ := hJ.put (k := 48) (by decide) (rg_free rfl) eM26
            have rM26_1 := J_sl1 (M := M26) hJ
            have rM26_7 := J_sl7 (M := M26) hJ
            have mM26_1 : (M26.1 175 1).toInt = (M23.1 175 1).toInt := by rw [eM26, li_ui_at, if_pos rfl, if_neg (by decide)]
            have mM26_7 : (M26.1 175 7).toInt = (M23.1 175 7).toInt := by rw [eM26, li_ui_at, if_pos rfl, if_neg (by decide)]
            have Pcs_M26 : li_cs (M26.1 182) (hBZq) ((min TY 76)) ((x10 : Int32).toInt) (-1) := li_cs_tr (li_cell_ui eM26 (by decide)) rfl rfl (by omega) (fun h9 => Int.le_antisymm (by omega) (by omega)) Pcs_M23
            have Pss_M26 : li_ss (M26.1 177) (g7) (hBZq) ((min TY 76)) (PEZq) ((x20 : Int32).toInt) := li_ss_tr (li_cell_ui eM26 (by decide)) rfl rfl rfl rfl (by omega) Pss_M23
            refine li_iload_n 2 dX12_people_269 rfl ?_
            exact li_iret dX12_people_270 rfl rfl ⟨⟨_, rfl, (by refine ⟨by refine ⟨?_, ?_⟩ <;> omega, ?_⟩; first | exact li_ss_tr rfl rfl rfl rfl rfl (by omega) Pss_M26 | exact li_ss_0 Pce_M26 (by omega))⟩, hf, hJ, (by omega)⟩
          · have tc22 : x20.toInt < x10.toInt := tl_nle c22
            refine li_aload_n 3 dX12_people_157 rfl ?_
            refine li_getr (k := 2) (N := 52) (T := TX12) (C0 := RX12) dX12_people_158 (by decide) sh_175 rfl rfl (by decide) (by decide) li_in12 w_1406 ?_
            refine li_aload_n 3 dX12_people_161 rfl ?_
            refine li_geti (k := 1) (N := 52) (T := TX12) (C0 := RX12) dX12_people_162 (by decide) sh_175 rfl rfl (by decide) li_in12 w_1405 ?_
            refine li_top (fun x27 ex27 => ?_)
            have gx27 : 0 ≤ x27.toInt ∧ x27.toInt ≤ 6 := by rw [ex27]; exact J_sl1 hJ
            have mx27 : x27.toInt = (M21.1 175 1).toInt := tl_slot ex27
            refine li_aload_n 3 dX12_people_165 rfl ?_
            refine li_getr (k := 16) (N := 52) (T := TX12) (C0 := RX12) dX12_people_166 (by decide) sh_175 rfl rfl (by decide) (by decide) li_in12 w_1420 ?_
            refine li_iconst 2 dX12_people_169 (by decide) ?_
            refine li_iload_n 0 dX12_people_170 rfl ?_
            refine li_imul dX12_people_171 ?_
            refine li_top (fun x28 ex28 => ?_)
            have z2 : (2 : Int32).toInt = 2 := rfl
            try (have tx28 : x28.toInt = 2 * (x20 : Int32).toInt := tl_mul ex28 (show -2147483648 ≤ 2 * (x20 : Int32).toInt ∧ 2 * (x20 : Int32).toInt ≤ 2147483647 from ⟨(by omega), (by omega)⟩))
            refine li_iald dX12_people_172 (by decide) sh_182 (tl_in ⟨by omega, by omega⟩) ?_
            refine li_top (fun x29 ex29 => ?_)
            have gx29 := tl_rg x29
            have sx : x29.toInt = rd_sv hBZq (min TY 76) ((x20 : Int32).toInt).toNat 0 := li_cs_ld Pcs_M21 rfl ex29 ((x20 : Int32).toInt) (Int.le_antisymm (by omega) (by omega)) (by omega) (by omega)
            refine li_iast dX12_people_173 (by decide) sh_177 (tl_in ⟨by omega, by omega⟩) ?_
            refine li_nm (fun M30 eM30 => ?_)
            have hf := li_fs_ui hf (Or.inr (Or.inl rfl)) eM30
            have hJ := hJ.st (by decide) (li_el_free (by first | (unfold li_led; decide) | (unfold li_led; omega)) (by decide) (by decide) (by first | (unfold li_rq; decide) | (unfold li_rq; omega))) eM30
            have rM30_1 := J_sl1 (M := M30) hJ
            have rM30_7 := J_sl7 (M := M30) hJ
            have mM30_1 : (M30.1 175 1).toInt = (M21.1 175 1).toInt := by rw [eM30, li_ui_at, if_neg (by decide)]
            have mM30_7 : (M30.1 175 7).toInt = (M21.1 175 7).toInt := by rw [eM30, li_ui_at, if_neg (by decide)]
            have Pcs_M30 : li_cs (M30.1 182) (hBZq) ((min TY 76)) ((x10 : Int32).toInt) (-1) := li_cs_tr (li_cell_ui eM30 (by decide)) rfl rfl (by omega) (fun h9 => Int.le_antisymm (by omega) (by omega)) Pcs_M21
            have Pss_M30 : li_ss (M30.1 177) (g7) (hBZq) ((min TY 76)) (PEZq) ((x20 : Int32).toInt + 1) := li_ss_cp Pss_M21 eM30 (Int.le_antisymm (by omega) (by omega)) ⟨by omega, by omega⟩ sx rfl
            refine li_aload_n 3 dX12_people_174 rfl ?_
            refine li_getr (k := 3) (N := 52) (T := TX12) (C0 := RX12) dX12_people_175 (by decide) sh_175 rfl rfl (by decide) (by decide) li_in12 w_1407 ?_
            refine li_aload_n 3 dX12_people_178 rfl ?_
            refine li_geti (k := 1) (N := 52) (T := TX12) (C0 := RX12) dX12_people_179 (by decide) sh_175 rfl rfl (by decide) li_in12 w_1405 ?_
            refine li_top (fun x31 ex31 => ?_)
            have gx31 : 0 ≤ x31.toInt ∧ x31.toInt ≤ 6 := by rw [ex31]; exact J_sl1 hJ
            have mx31 : x31.toInt = (M30.1 175 1).toInt := tl_slot ex31
            refine li_aload_n 3 dX12_people_182 rfl ?_
            refine li_getr (k := 16) (N := 52) (T := TX12) (C0 := RX12) dX12_people_183 (by decide) sh_175 rfl rfl (by decide) (by decide) li_in12 w_1420 ?_
            refine li_iconst 2 dX12_people_186 (by decide) ?_
            refine li_iload_n 0 dX12_people_187 rfl ?_
            refine li_imul dX12_people_188 ?_
            refine li_top (fun x32 ex32 => ?_)
            have z2 : (2 : Int32).toInt = 2 := rfl
            try (have tx32 : x32.toInt = 2 * (x20 : Int32).toInt := tl_mul ex32 (show -2147483648 ≤ 2 * (x20 : Int32).toInt ∧ 2 * (x20 : Int32).toInt ≤ 2147483647 from ⟨(by omega), (by omega)⟩))
            refine li_iconst 1 dX12_people_189 (by decide) ?_
            refine li_iadd dX12_people_190 ?_
            refine li_top (fun x33 ex33 => ?_)
            have z1 : (1 : Int32).toInt = 1 := rfl
            try (have tx33 : x33.toInt = (x32 : Int32).toInt + (1 : Int32).toInt := tl_add ex33 ⟨by omega, by omega⟩)
            refine li_iald dX12_people_191 (by decide) sh_182 (tl_in ⟨by omega, by omega⟩) ?_
            refine li_top (fun x34 ex34 => ?_)
            have gx34 := tl_rg x34
            refine li_iast dX12_people_192 (by decide) sh_178 (tl_in ⟨by omega, by omega⟩) ?_
            refine li_nm (fun M35 eM35 => ?_)
            have hf := li_fs_ui hf (Or.inr (Or.inr (Or.inl rfl))) eM35
            have hJ := hJ.st (by decide) (li_el_free (by first | (unfold li_led; decide) | (unfold li_led; omega)) (by decide) (by decide) (by first | (unfold li_rq; decide) | (unfold li_rq; omega))) eM35
            have rM35_1 := J_sl1 (M := M35) hJ
            have rM35_7 := J_sl7 (M := M35) hJ
            have mM35_1 : (M35.1 175 1).toInt = (M30.1 175 1).toInt := by rw [eM35, li_ui_at, if_neg (by decide)]
            have mM35_7 : (M35.1 175 7).toInt = (M30.1 175 7).toInt := by rw [eM35, li_ui_at, if_neg (by decide)]
            have Pcs_M35 : li_cs (M35.1 182) (hBZq) ((min TY 76)) ((x10 : Int32).toInt) (-1) := li_cs_tr (li_cell_ui eM35 (by decide)) rfl rfl (by omega) (fun h9 => Int.le_antisymm (by omega) (by omega)) Pcs_M30
            have Pss_M35 : li_ss (M35.1 177) (g7) (hBZq) ((min TY 76)) (PEZq) ((x20 : Int32).toInt + 1) := li_ss_tr (li_cell_ui eM35 (by decide)) rfl rfl rfl rfl (by omega) Pss_M30
            refine li_aload_n 3 dX12_people_193 rfl ?_
            refine li_getr (k := 0) (N := 52) (T := TX12) (C0 := RX12) dX12_people_194 (by decide) sh_175 rfl rfl (by decide) (by decide) li_in12 w_1404 ?_
            refine li_aload_n 3 dX12_people_197 rfl ?_
            refine li_geti (k := 1) (N := 52) (T := TX12) (C0 := RX12) dX12_people_198 (by decide) sh_175 rfl rfl (by decide) li_in12 w_1405 ?_
            refine li_top (fun x36 ex36 => ?_)
            have gx36 : 0 ≤ x36.toInt ∧ x36.toInt ≤ 6 := by rw [ex36]; exact J_sl1 hJ
            have mx36 : x36.toInt = (M35.1 175 1).toInt := tl_slot ex36
            refine li_aload_n 3 dX12_people_201 rfl ?_
            refine li_getr (k := 16) (N := 52) (T := TX12) (C0 := RX12) dX12_people_202 (by decide) sh_175 rfl rfl (by decide) (by decide) li_in12 w_1420 ?_
            refine li_iconst 2 dX12_people_205 (by decide) ?_
            refine li_iload_n 0 dX12_people_206 rfl ?_
            refine li_imul dX12_people_207 ?_
            refine li_top (fun x37 ex37 => ?_)
            have z2 : (2 : Int32).toInt = 2 := rfl
            try (have tx37 : x37.toInt = 2 * (x20 : Int32).toInt := tl_mul ex37 (show -2147483648 ≤ 2 * (x20 : Int32).toInt ∧ 2 * (x20 : Int32).toInt ≤ 2147483647 from ⟨(by omega), (by omega)⟩))
            refine li_iconst 1 dX12_people_208 (by decide) ?_
            refine li_iadd dX12_people_209 ?_
            refine li_top (fun x38 ex38 => ?_)
            have z1 : (1 : Int32).toInt = 1 := rfl
            try (have tx38 : x38.toInt = (x37 : Int32).toInt + (1 : Int32).toInt := tl_add ex38 ⟨by omega, by omega⟩)
            refine li_iald dX12_people_210 (by decide) sh_182 (tl_in ⟨by omega, by omega⟩) ?_
            refine li_top (fun x39 ex39 => ?_)
            have gx39 := tl_rg x39
            refine li_iast dX12_people_211 (by decide) sh_176 (tl_in ⟨by omega, by omega⟩) ?_
            refine li_nm (fun M40 eM40 => ?_)
            have hf := li_fs_ui hf (Or.inl rfl) eM40
            try (have oM40 : (x36 : Int32).toInt % 51 = (x36 : Int32).toInt := by omega)
            have hJ := hJ.st (by decide) (li_el_led (by first | (unfold li_led; decide) | (unfold li_led; omega)) (by omega) (show ((x36 : Int32).toInt % 51 = 20 → 0 ≤ (x39 : Int32).toInt ∧ (x39 : Int32).toInt ≤ 6) ∧ (21 ≤ (x36 : Int32).toInt % 51 → ((x36 : Int32).toInt % 51 - 21) % 5 < 2 → 0 ≤ (x39 : Int32).toInt ∧ (x39 : Int32).toInt ≤ 5) from ⟨(fun hq0 => ⟨(by omega), (by omega)⟩), (fun hq0 hq1 => ⟨(by omega), (by omega)⟩)⟩)) eM40
            have rM40_1 := J_sl1 (M := M40) hJ
            have rM40_7 := J_sl7 (M := M40) hJ
            have mM40_1 : (M40.1 175 1).toInt = (M35.1 175 1).toInt := by rw [eM40, li_ui_at, if_neg (by decide)]
            have mM40_7 : (M40.1 175 7).toInt = (M35.1 175 7).toInt := by rw [eM40, li_ui_at, if_neg (by decide)]
            have Pcs_M40 : li_cs (M40.1 182) (hBZq) ((min TY 76)) ((x10 : Int32).toInt) (-1) := li_cs_tr (li_cell_ui eM40 (by decide)) rfl rfl (by omega) (fun h9 => Int.le_antisymm (by omega) (by omega)) Pcs_M35
            have Pss_M40 : li_ss (M40.1 177) (g7) (hBZq) ((min TY 76)) (PEZq) ((x20 : Int32).toInt + 1) := li_ss_tr (li_cell_ui eM40 (by decide)) rfl rfl rfl rfl (by omega) Pss_M35
            refine li_aload_n 3 dX12_people_212 rfl ?_
            refine li_getr (k := 0) (N := 52) (T := TX12) (C0 := RX12) dX12_people_213 (by decide) sh_175 rfl rfl (by decide) (by decide) li_in12 w_1404 ?_
            refine li_bipush 6 dX12_people_216 (by decide) ?_
            refine li_aload_n 3 dX12_people_218 rfl ?_
            refine li_geti (k := 1) (N := 52) (T := TX12) (C0 := RX12) dX12_people_219 (by decide) sh_175 rfl rfl (by decide) li_in12 w_1405 ?_
            refine li_top (fun x41 ex41 => ?_)
            have gx41 : 0 ≤ x41.toInt ∧ x41.toInt ≤ 6 := by rw [ex41]; exact J_sl1 hJ
            have mx41 : x41.toInt = (M40.1 175 1).toInt := tl_slot ex41
            refine li_iadd dX12_people_222 ?_
            refine li_top (fun x42 ex42 => ?_)
            have z6 : (6 : Int32).toInt = 6 := rfl
            try (have tx42 : x42.toInt = (6 : Int32).toInt + (x41 : Int32).toInt := tl_add ex42 ⟨by omega, by omega⟩)
            refine li_iconst 0 dX12_people_223 (by decide) ?_
            have z0 : (0 : Int32).toInt = 0 := rfl
            refine li_iast dX12_people_224 (by decide) sh_176 (tl_in ⟨by omega, by omega⟩) ?_
            refine li_nm (fun M43 eM43 => ?_)
            have hf := li_fs_ui hf (Or.inl rfl) eM43
            try (have oM43 : (x42 : Int32).toInt % 51 = (x42 : Int32).toInt := by omega)
            have hJ := hJ.st (by decide) (li_el_led (by first | (unfold li_led; decide) | (unfold li_led; omega)) (by omega) (show ((x42 : Int32).toInt % 51 = 20 → 0 ≤ (0 : Int32).toInt ∧ (0 : Int32).toInt ≤ 6) ∧ (21 ≤ (x42 : Int32).toInt % 51 → ((x42 : Int32).toInt % 51 - 21) % 5 < 2 → 0 ≤ (0 : Int32).toInt ∧ (0 : Int32).toInt ≤ 5) from ⟨(fun hq0 => ⟨(by omega), (by omega)⟩), (fun hq0 hq1 => ⟨(by omega), (by omega)⟩)⟩)) eM43
            have rM43_1 := J_sl1 (M := M43) hJ
            have rM43_7 := J_sl7 (M := M43) hJ
            have mM43_1 : (M43.1 175 1).toInt = (M40.1 175 1).toInt := by rw [eM43, li_ui_at, if_neg (by decide)]
            have mM43_7 : (M43.1 175 7).toInt = (M40.1 175 7).toInt := by rw [eM43, li_ui_at, if_neg (by decide)]
            have Pcs_M43 : li_cs (M43.1 182) (hBZq) ((min TY 76)) ((x10 : Int32).toInt) (-1) := li_cs_tr (li_cell_ui eM43 (by decide)) rfl rfl (by omega) (fun h9 => Int.le_antisymm (by omega) (by omega)) Pcs_M40
            have Pss_M43 : li_ss (M43.1 177) (g7) (hBZq) ((min TY 76)) (PEZq) ((x20 : Int32).toInt + 1) := li_ss_tr (li_cell_ui eM43 (by decide)) rfl rfl rfl rfl (by omega) Pss_M40
            refine li_aload_n 3 dX12_people_225 rfl ?_
            refine li_getr (k := 0) (N := 52) (T := TX12) (C0 := RX12) dX12_people_226 (by decide) sh_175 rfl rfl (by decide) (by decide) li_in12 w_1404 ?_
            refine li_bipush 12 dX12_people_229 (by decide) ?_
            refine li_aload_n 3 dX12_people_231 rfl ?_
            refine li_geti (k := 1) (N := 52) (T := TX12) (C0 := RX12) dX12_people_232 (by decide) sh_175 rfl rfl (by decide) li_in12 w_1405 ?_
            refine li_top (fun x44 ex44 => ?_)
            have gx44 : 0 ≤ x44.toInt ∧ x44.toInt ≤ 6 := by rw [ex44]; exact J_sl1 hJ
            have mx44 : x44.toInt = (M43.1 175 1).toInt := tl_slot ex44
            refine li_iadd dX12_people_235 ?_
            refine li_top (fun x45 ex45 => ?_)
            have z12 : (12 : Int32).toInt = 12 := rfl
            try (have tx45 : x45.toInt = (12 : Int32).toInt + (x44 : Int32).toInt := tl_add ex45 ⟨by omega, by omega⟩)
            refine li_iconst 0 dX12_people_236 (by decide) ?_
            have z0 : (0 : Int32).toInt = 0 := rfl
            refine li_iast dX12_people_237 (by decide) sh_176 (tl_in ⟨by omega, by omega⟩) ?_
            refine li_nm (fun M46 eM46 => ?_)
            have hf := li_fs_ui hf (Or.inl rfl) eM46
            try (have oM46 : (x45 : Int32).toInt % 51 = (x45 : Int32).toInt := by omega)
            have hJ := hJ.st (by decide) (li_el_led (by first | (unfold li_led; decide) | (unfold li_led; omega)) (by omega) (show ((x45 : Int32).toInt % 51 = 20 → 0 ≤ (0 : Int32).toInt ∧ (0 : Int32).toInt ≤ 6) ∧ (21 ≤ (x45 : Int32).toInt % 51 → ((x45 : Int32).toInt % 51 - 21) % 5 < 2 → 0 ≤ (0 : Int32).toInt ∧ (0 : Int32).toInt ≤ 5) from ⟨(fun hq0 => ⟨(by omega), (by omega)⟩), (fun hq0 hq1 => ⟨(by omega), (by omega)⟩)⟩)) eM46
            have rM46_1 := J_sl1 (M := M46) hJ
            have rM46_7 := J_sl7 (M := M46) hJ
            have mM46_1 : (M46.1 175 1).toInt = (M43.1 175 1).toInt := by rw [eM46, li_ui_at, if_neg (by decide)]
            have mM46_7 : (M46.1 175 7).toInt = (M43.1 175 7).toInt := by rw [eM46, li_ui_at, if_neg (by decide)]
            have Pcs_M46 : li_cs (M46.1 182) (hBZq) ((min TY 76)) ((x10 : Int32).toInt) (-1) := li_cs_tr (li_cell_ui eM46 (by decide)) rfl rfl (by omega) (fun h9 => Int.le_antisymm (by omega) (by omega)) Pcs_M43
            have Pss_M46 : li_ss (M46.1 177) (g7) (hBZq) ((min TY 76)) (PEZq) ((x20 : Int32).toInt + 1) := li_ss_tr (li_cell_ui eM46 (by decide)) rfl rfl rfl rfl (by omega) Pss_M43
            refine li_aload_n 3 dX12_people_238 rfl ?_
            refine li_dup dX12_people_239 rfl ?_
            refine li_geti (k := 1) (N := 52) (T := TX12) (C0 := RX12) dX12_people_240 (by decide) sh_175 rfl rfl (by decide) li_in12 w_1405 ?_
            refine li_top (fun x47 ex47 => ?_)
            have gx47 : 0 ≤ x47.toInt ∧ x47.toInt ≤ 6 := by rw [ex47]; exact J_sl1 hJ
            have mx47 : x47.toInt = (M46.1 175 1).toInt := tl_slot ex47
            refine li_iconst 1 dX12_people_243 (by decide) ?_
            refine li_iadd dX12_people_244 ?_
            refine li_top (fun x48 ex48 => ?_)
            have z1 : (1 : Int32).toInt = 1 := rfl
            try (have tx48 : x48.toInt = (x47 : Int32).toInt + (1 : Int32).toInt := tl_add ex48 ⟨by omega, by omega⟩)
            refine li_puti (k := 1) (N := 52) (T := TX12) (C0 := RX12) dX12_people_245 (by decide) sh_175 rfl rfl (by decide) li_in12 tyX12_ok nmX12 rfl rfl rfl rfl w_1405 ?_
            refine li_nm (fun M49 eM49 => ?_)
            have hf := li_fs_ui hf (Or.inr (Or.inr (Or.inr (Or.inr (Or.inr (Or.inl ⟨rfl, rfl⟩)))))) eM49
            have hJ := J_pt1 hJ (show 0 ≤ (x48 : Int32).toInt ∧ (x48 : Int32).toInt ≤ 6 from ⟨(by omega), (by omega)⟩) eM49
            have rM49_1 := J_sl1 (M := M49) hJ
            have rM49_7 := J_sl7 (M := M49) hJ
            have mM49_1 : (M49.1 175 1).toInt = x48.toInt := by rw [eM49, li_ui_at, if_pos rfl, if_pos rfl]
            have mM49_7 : (M49.1 175 7).toInt = (M46.1 175 7).toInt := by rw [eM49, li_ui_at, if_pos rfl, if_neg (by decide)]
            have Pcs_M49 : li_cs (M49.1 182) (hBZq) ((min TY 76)) ((x10 : Int32).toInt) (-1) := li_cs_tr (li_cell_ui eM49 (by decide)) rfl rfl (by omega) (fun h9 => Int.le_antisymm (by omega) (by omega)) Pcs_M46
            have Pss_M49 : li_ss (M49.1 177) (g7) (hBZq) ((min TY 76)) (PEZq) ((x20 : Int32).toInt + 1) := li_ss_tr (li_cell_ui eM49 (by decide)) rfl rfl rfl rfl (by omega) Pss_M46
            obtain ⟨x50, ex50⟩ : ∃ y : Int32, y = x20 + 1 := ⟨_, rfl⟩
            have z1 : (1 : Int32).toInt = 1 := rfl
            try (have tx50 : x50.toInt = (x20 : Int32).toInt + (1 : Int32).toInt := tl_add ex50 ⟨by omega, by omega⟩)
            refine li_iinc 0 [(3, .int x50), (2, .int x9), (1, .int x10), (0, .ref (Z.2.2 175))] x50 dX12_people_248 rfl (by rw [ex50]; rfl) (by decide) rfl ?_
            refine li_goto 152 dX12_people_251 (by decide) ?_
            refine li_pick [0, 1, 2, 3] [(3, .int x50), (2, .int x9), (1, .int x10), (0, .ref (Z.2.2 175))] rfl ?_
            exact ih152 x50 M49 (by omega) hf hJ ⟨(by omega), (by omega), (by omega), (Int.le_antisymm (by omega) (by omega)), (by omega), (Int.le_antisymm (by omega) (by omega)), (Int.le_antisymm (by omega) (by omega)), (by omega), (by omega), (by omega), (Int.le_antisymm (by omega) (by omega))⟩ (by first | exact li_cs_tr rfl rfl rfl (by omega) (fun h9 => Int.le_antisymm (by omega) (by omega)) Pcs_M49 | exact li_cs_0 (by omega) | exact li_cs_no (by omega)) (by first | exact li_ss_tr rfl rfl rfl rfl rfl (by omega) Pss_M49 | exact li_ss_0 Pce_M49 (by omega))
      have z0 : (0 : Int32).toInt = 0 := rfl
      exact L152 _ 0 M17 (Nat.lt_succ_self _) hf hJ ⟨(by omega), (by omega), (by omega), (Int.le_antisymm (by omega) (by omega)), (by omega), (Int.le_antisymm (by omega) (by omega)), (Int.le_antisymm (by omega) (by omega)), (by omega), (by omega), (by omega), (Int.le_antisymm (by omega) (by omega))⟩ (by first | exact li_cs_tr rfl rfl rfl (by omega) (fun h9 => Int.le_antisymm (by omega) (by omega)) Pcs_M17 | exact li_cs_0 (by omega) | exact li_cs_no (by omega)) (by first | exact li_ss_0 Pce_M17 (by omega))
    · skip
      refine li_if_ne 150 dX12_people_140 (by decide) (fun c => absurd rfl c) (fun c => ?_)
      refine li_iconst (-1) dX12_people_143 (by decide) ?_
      refine li_aload_n 2 dX12_people_144 rfl ?_
      refine li_geti (k := 15) (N := 52) (T := TX12) (C0 := RX12) dX12_people_145 (by decide) sh_175 rfl rfl (by decide) li_in12 w_1419 ?_
      refine li_top (fun x52 ex52 => ?_)
      have gx52 : -1 ≤ x52.toInt ∧ x52.toInt ≤ 81 := by rw [ex52]; exact J_sl15 hJ
      have mx52 : x52.toInt = (M17.1 175 15).toInt := tl_slot ex52
      refine li_isub dX12_people_148 ?_
      refine li_top (fun x53 ex53 => ?_)
      have zm1 : ((-1) : Int32).toInt = -1 := rfl
      try (have tx53 : x53.toInt = ((-1) : Int32).toInt - (x52 : Int32).toInt := tl_sub ex53 ⟨by omega, by omega⟩)
      exact li_iret dX12_people_149 rfl rfl ⟨⟨_, rfl, (by refine ⟨by refine ⟨?_, ?_⟩ <;> omega, ?_⟩; first | exact li_ss_tr rfl rfl rfl rfl rfl (by omega) Pss_M17 | exact li_ss_0 Pce_M17 (by omega))⟩, hf, hJ, (by omega)⟩
  refine li_icmp_ge 136 dX12_people_125 (by decide) (fun c14Zq => ?_) (fun c14Zq => ?_)
  · have tc14 : x13.toInt ≤ x12.toInt := tl_le c14Zq
    refine li_pick [0, 1, 2] [(2, .int x9), (1, .int x10), (0, .ref (Z.2.2 175))] rfl ?_
    exact J136  M11 hf hJ ⟨(by omega), (by omega), (by omega), (fun hq0 => ⟨(Int.le_antisymm (by omega) (by omega)), (Int.le_antisymm (by omega) (by omega)), (by omega)⟩), (fun hq0 => (by omega)), (Int.le_antisymm (by omega) (by omega)), (by omega), (by omega), (Int.le_antisymm (by omega) (by omega))⟩ (by first | exact li_ce_tr rfl rfl Pce_M11) (by first | exact li_cs_tr rfl rfl rfl (by omega) (fun h9 => Int.le_antisymm (by omega) (by omega)) Pcs_M11 | exact li_cs_0 (by omega) | exact li_cs_no (by omega))
  · have tc14 : x12.toInt < x13.toInt := tl_nle c14Zq
    refine li_aload_n 2 dX12_people_128 rfl ?_
    refine li_aload_n 2 dX12_people_129 rfl ?_
    refine li_geti (k := 14) (N := 52) (T := TX12) (C0 := RX12) dX12_people_130 (by decide) sh_175 rfl rfl (by decide) li_in12 w_1418 ?_
    refine li_top (fun x54 ex54 => ?_)
    have gx54 : 0 ≤ x54.toInt ∧ x54.toInt ≤ 81 := by rw [ex54]; exact J_sl14 hJ
    have mx54 : x54.toInt = (M11.1 175 14).toInt := tl_slot ex54
    refine li_callV (n := 1) (As := [.int x54]) dX12_people_133 (k_X12_fault (d - 1) (by omega) x54 M11 hJ ⟨by omega, by omega⟩) (by omega) (Nat.le_of_ble_eq_true rfl) w_1585 w_1587 w_44 w_112 w_1588 (by decide +kernel) rfl (by decide) sh_175 rfl rfl (Nat.le_of_ble_eq_true rfl) (fun r M56 h57 => ?_)
    obtain ⟨rfl, h57, jM56, nM56⟩ := h57
    have hf := li_fs_trans hf h57 (fun i k => fun hZq => Or.inr (Or.inr (Or.inr (Or.inr (Or.inr (Or.inr (Or.inr (Or.inr (Or.inr (Or.inr (Or.inl hZq)))))))))))
    have kM56 : (li_hr M56).toInt = (li_hr M11).toInt := li_hr_fs h57 (show ¬ ((175 = 175 ∧ 12 = 15)) by decide) (show ¬ ((175 = 175 ∧ 13 = 15)) by decide) (show ¬ ((175 = 175 ∧ 14 = 15)) by decide) (show ¬ ((1000 = 175 ∧ 0 = 15)) by decide) (fun q i hZq => (show ¬ ((q = 175 ∧ i = 15)) by first | (unfold li_rq at hZq; rcases hZq with rfl | rfl | rfl <;> simp; done) | (unfold li_rq at hZq; omega))) (by assumption)
    have hJ := jM56
    have rM56_1 := J_sl1 (M := M56) hJ
    have rM56_7 := J_sl7 (M := M56) hJ
    have rM56_12 := J_sl12 (M := M56) hJ
    have rM56_13 := J_sl13 (M := M56) hJ
    have rM56_14 := J_sl14 (M := M56) hJ
    have rM56_15 := J_sl15 (M := M56) hJ
    have mM56_1 : (M56.1 175 1).toInt = (M11.1 175 1).toInt := tl_slot (h57.1 175 1 (show ¬ ((175 = 175 ∧ 1 = 15)) by decide))
    have mM56_7 : (M56.1 175 7).toInt = (M11.1 175 7).toInt := tl_slot (h57.1 175 7 (show ¬ ((175 = 175 ∧ 7 = 15)) by decide))
    have mM56_12 : (M56.1 175 12).toInt = (M11.1 175 12).toInt := tl_slot (h57.1 175 12 (show ¬ ((175 = 175 ∧ 12 = 15)) by decide))
    have mM56_13 : (M56.1 175 13).toInt = (M11.1 175 13).toInt := tl_slot (h57.1 175 13 (show ¬ ((175 = 175 ∧ 13 = 15)) by decide))
    have mM56_14 : (M56.1 175 14).toInt = (M11.1 175 14).toInt := tl_slot (h57.1 175 14 (show ¬ ((175 = 175 ∧ 14 = 15)) by decide))
    have Pcs_M56 : li_cs (M56.1 182) (hBZq) ((min TY 76)) ((x10 : Int32).toInt) ((M56.1 175 15).toInt) := li_cs_tr (funext fun i => h57.1 182 i (show ¬ ((182 = 175 ∧ i = 15)) by first | (simp; done) | omega)) rfl rfl (by omega) (fun h9 => Int.le_antisymm (by omega) (by omega)) Pcs_M11
    have Pce_M56 : li_ce (M56.1 177) (g7) := li_ce_tr (funext fun i => h57.1 177 i (show ¬ ((177 = 175 ∧ i = 15)) by first | (simp; done) | omega)) rfl Pce_M11
    have bM56 : M56.2.2 0 = some 180 := (h57.2.2 0 (fun h9 => by first | exact (h9 : False).elim | (simp at h9; done) | omega)).trans bM11
    refine li_pick [0, 1, 2] [(2, .int x9), (1, .int x10), (0, .ref (Z.2.2 175))] rfl ?_
    exact J136  M56 hf hJ ⟨(by omega), (by omega), (by omega), (fun hq0 => ⟨(Int.le_antisymm (by omega) (by omega)), (Int.le_antisymm (by omega) (by omega)), (by omega)⟩), (fun hq0 => (by omega)), (Int.le_antisymm (by omega) (by omega)), (by omega), (by omega), (Int.le_antisymm (by omega) (by omega))⟩ (by first | exact li_ce_tr rfl rfl Pce_M56) (by first | exact li_cs_tr rfl rfl rfl (by omega) (fun h9 => Int.le_antisymm (by omega) (by omega)) Pcs_M56 | exact li_cs_0 (by omega) | exact li_cs_no (by omega))
