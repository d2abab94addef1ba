set_option maxRecDepth 100000 in
set_option maxHeartbeats 4000000 in
theorem k15_X12_today {l : Launch} {Z : li_Z} (d : Nat) (hdZq : 1 ≤ d) (M0 : li_M) (hJ : li_J M0) (z4 : (M0.1 175 4).toInt = 0) : li_Met l Z YX12_today d [.ref (Z.2.2 175)] M0 (fun r M' => (∃ x : Int32, r = some (.int x) ∧ (x.toInt = 0)) ∧ li_fs (fun i k => False) M0 M' ∧ li_J M') := by
  refine li_enter (by decide +kernel) (Nat.le_of_ble_eq_true rfl) ?_
  show li_T l Z YX12_today d 0 [(0, .ref (Z.2.2 175))] [] M0 _
  have hf : li_fs (fun i k => False) M0 M0 := li_fs_refl
  have rM0_4 := J_sl4 (M := M0) hJ
  refine li_iconst 0 dX12_today_0 (by decide) ?_
  refine li_istore_n [(1, .int 0), (0, .ref (Z.2.2 175))] dX12_today_1 (by decide) rfl ?_
  refine li_iconst 0 dX12_today_2 (by decide) ?_
  refine li_istore_n [(2, .int 0), (1, .int 0), (0, .ref (Z.2.2 175))] dX12_today_3 (by decide) rfl ?_
  have L4Zq : ∀ (n : Nat) (x1Zq : Int32) (x2Zq : Int32) (M3Zq : li_M), ((x1Zq : Int32).toInt).toNat < n → li_fs (fun i k => False) M0 M3Zq → li_J M3Zq → 0 ≤ (x1Zq : Int32).toInt ∧ (x2Zq : Int32).toInt = 0 ∧ (M3Zq.1 175 4).toInt = 0 → li_T l Z YX12_today d 4 [(2, .int x1Zq), (1, .int x2Zq), (0, .ref (Z.2.2 175))] [] M3Zq (fun r M' => (∃ x : Int32, r = some (.int x) ∧ (x.toInt = 0)) ∧ li_fs (fun i k => False) M0 M' ∧ li_J M') := by
    intro n
    induction n with
    | zero => intro x1Zq x2Zq M3Zq hn; exact absurd hn (Nat.not_lt_zero _)
    | succ n ih4 =>
      intro x1Zq x2Zq M3Zq hn hf hJ hiZq
      have gx1 := tl_rg x1Zq
      have gx2 := tl_rg x2Zq
      have rM3_4 := J_sl4 (M := M3Zq) hJ
      have mM3_4 : (M3Zq.1 175 4).toInt = (M0.1 175 4).toInt := tl_slot (hf.1 175 4 id)
      refine li_iload_n 0 dX12_today_4 rfl ?_
      refine li_aload_n 2 dX12_today_5 rfl ?_
      refine li_geti (k := 4) (N := 52) (T := TX12) (C0 := RX12) dX12_today_6 (by decide) sh_175 rfl rfl (by decide) li_in12 w_1408 ?_
      refine li_top (fun x4Zq ex4 => ?_)
      have gx4 : 0 ≤ x4Zq.toInt ∧ x4Zq.toInt ≤ 8 := by rw [ex4]; exact J_sl4 hJ
      have mx4 : x4Zq.toInt = (M3Zq.1 175 4).toInt := tl_slot ex4
      have sx4 : x4Zq.toInt = (M0.1 175 4).toInt := tl_slot (ex4.trans (hf.1 175 4 id))
      refine li_icmp_ge 54 dX12_today_9 (by decide) (fun c5Zq => ?_) (fun c5Zq => ?_)
      · have tc5 : x4Zq.toInt ≤ x1Zq.toInt := tl_le c5Zq
        refine li_iload_n 1 dX12_today_54 rfl ?_
        exact li_iret dX12_today_55 rfl rfl ⟨⟨_, rfl, (by first | omega | (intro _; omega) | (refine ⟨?_, ?_⟩ <;> first | omega | (intro _; omega)) | (refine ⟨?_, ?_, ?_, ?_⟩ <;> first | omega | (intro _; omega)))⟩, hf, hJ⟩
      · have tc5 : x1Zq.toInt < x4Zq.toInt := tl_nle c5Zq
        exfalso; omega
  have z0 : (0 : Int32).toInt = 0 := rfl
  have z0 : (0 : Int32).toInt = 0 := rfl
  exact L4Zq _ 0 0 M0 (Nat.lt_succ_self _) hf hJ (by omega)
set_option maxRecDepth 100000 in
set_option maxHeartbeats 4000000 in
theorem k15_X12_layLeast {l : Launch} {Z : li_Z} (d : Nat) (hdZq : 1 ≤ d) (M0 : li_M) (hJ : li_J M0) (z4 : (M0.1 175 4).toInt = 0) : li_Met l Z YX12_layLeast d [.ref (Z.2.2 175)] M0 (fun r M' => r = none ∧ li_fs (fun i k => False) M0 M' ∧ li_J M') := by
  refine li_enter (by decide +kernel) (Nat.le_of_ble_eq_true rfl) ?_
  show li_T l Z YX12_layLeast d 0 [(0, .ref (Z.2.2 175))] [] M0 _
  have hf : li_fs (fun i k => False) M0 M0 := li_fs_refl
  have rM0_4 := J_sl4 (M := M0) hJ
  refine li_iconst 0 dX12_layLeast_0 (by decide) ?_
  refine li_istore_n [(1, .int 0), (0, .ref (Z.2.2 175))] dX12_layLeast_1 (by decide) rfl ?_
  have L2Zq : ∀ (n : Nat) (x1Zq : Int32) (M2Zq : li_M), ((x1Zq : Int32).toInt).toNat < n → li_fs (fun i k => False) M0 M2Zq → li_J M2Zq → 0 ≤ (x1Zq : Int32).toInt ∧ (M2Zq.1 175 4).toInt = 0 → li_T l Z YX12_layLeast d 2 [(1, .int x1Zq), (0, .ref (Z.2.2 175))] [] M2Zq (fun r M' => r = none ∧ li_fs (fun i k => False) M0 M' ∧ li_J M') := by
    intro n
    induction n with
    | zero => intro x1Zq M2Zq hn; exact absurd hn (Nat.not_lt_zero _)
    | succ n ih2 =>
      intro x1Zq M2Zq hn hf hJ hiZq
      have gx1 := tl_rg x1Zq
      have rM2_4 := J_sl4 (M := M2Zq) hJ
      have mM2_4 : (M2Zq.1 175 4).toInt = (M0.1 175 4).toInt := tl_slot (hf.1 175 4 id)
      refine li_iload_n 0 dX12_layLeast_2 rfl ?_
      refine li_aload_n 1 dX12_layLeast_3 rfl ?_
      refine li_geti (k := 4) (N := 52) (T := TX12) (C0 := RX12) dX12_layLeast_4 (by decide) sh_175 rfl rfl (by decide) li_in12 w_1408 ?_
      refine li_top (fun x3 ex3Zq => ?_)
      have gx3 : 0 ≤ x3.toInt ∧ x3.toInt ≤ 8 := by rw [ex3Zq]; exact J_sl4 hJ
      have mx3 : x3.toInt = (M2Zq.1 175 4).toInt := tl_slot ex3Zq
      have sx3 : x3.toInt = (M0.1 175 4).toInt := tl_slot (ex3Zq.trans (hf.1 175 4 id))
      refine li_icmp_ge 31 dX12_layLeast_7 (by decide) (fun c4 => ?_) (fun c4 => ?_)
      · have tc4 : x3.toInt ≤ x1Zq.toInt := tl_le c4
        exact li_vret dX12_layLeast_31 rfl ⟨rfl, hf, hJ⟩
      · have tc4 : x1Zq.toInt < x3.toInt := tl_nle c4
        exfalso; omega
  have z0 : (0 : Int32).toInt = 0 := rfl
  exact L2Zq _ 0 M0 (Nat.lt_succ_self _) hf hJ (by omega)
set_option maxRecDepth 100000 in
set_option maxHeartbeats 4000000 in
theorem k15_X12_sumOf {l : Launch} {Z : li_Z} (d : Nat) (hdZq : 1 ≤ d) (p1Zq : Int32) (M0 : li_M) (hJ : li_J M0) (z4 : (M0.1 175 4).toInt = 0) : li_Met l Z YX12_sumOf d [.ref (Z.2.2 175), .int p1Zq] M0 (fun r M' => (∃ x : Int32, r = some (.int x) ∧ (x.toInt = 0)) ∧ li_fs (fun i k => False) M0 M' ∧ li_J M') := by
  refine li_enter (by decide +kernel) (Nat.le_of_ble_eq_true rfl) ?_
  show li_T l Z YX12_sumOf d 0 [(0, .ref (Z.2.2 175)), (1, .int p1Zq)] [] M0 _
  have hf : li_fs (fun i k => False) M0 M0 := li_fs_refl
  have gp1 := tl_rg p1Zq
  have rM0_4 := J_sl4 (M := M0) hJ
  refine li_iconst 0 dX12_sumOf_0 (by decide) ?_
  refine li_istore_n [(2, .int 0), (0, .ref (Z.2.2 175)), (1, .int p1Zq)] dX12_sumOf_1 (by decide) rfl ?_
  refine li_iconst 0 dX12_sumOf_2 (by decide) ?_
  refine li_istore_n [(3, .int 0), (2, .int 0), (0, .ref (Z.2.2 175)), (1, .int p1Zq)] dX12_sumOf_3 (by decide) rfl ?_
  have L4Zq : ∀ (n : Nat) (x1Zq : Int32) (x2Zq : Int32) (M3Zq : li_M), ((x1Zq : Int32).toInt).toNat < n → li_fs (fun i k => False) M0 M3Zq → li_J M3Zq → 0 ≤ (x1Zq : Int32).toInt ∧ (x2Zq : Int32).toInt = 0 ∧ (M3Zq.1 175 4).toInt = 0 → li_T l Z YX12_sumOf d 4 [(3, .int x1Zq), (2, .int x2Zq), (0, .ref (Z.2.2 175)), (1, .int p1Zq)] [] M3Zq (fun r M' => (∃ x : Int32, r = some (.int x) ∧ (x.toInt = 0)) ∧ li_fs (fun i k => False) M0 M' ∧ li_J M') := by
    intro n
    induction n with
    | zero => intro x1Zq x2Zq M3Zq hn; exact absurd hn (Nat.not_lt_zero _)
    | succ n ih4 =>
      intro x1Zq x2Zq M3Zq hn hf hJ hiZq
      have gx1 := tl_rg x1Zq
      have gx2 := tl_rg x2Zq
      have rM3_4 := J_sl4 (M := M3Zq) hJ
      have mM3_4 : (M3Zq.1 175 4).toInt = (M0.1 175 4).toInt := tl_slot (hf.1 175 4 id)
      refine li_iload_n 0 dX12_sumOf_4 rfl ?_
      refine li_aload_n 2 dX12_sumOf_5 rfl ?_
      refine li_geti (k := 4) (N := 52) (T := TX12) (C0 := RX12) dX12_sumOf_6 (by decide) sh_175 rfl rfl (by decide) li_in12 w_1408 ?_
      refine li_top (fun x4Zq ex4 => ?_)
      have gx4 : 0 ≤ x4Zq.toInt ∧ x4Zq.toInt ≤ 8 := by rw [ex4]; exact J_sl4 hJ
      have mx4 : x4Zq.toInt = (M3Zq.1 175 4).toInt := tl_slot ex4
      have sx4 : x4Zq.toInt = (M0.1 175 4).toInt := tl_slot (ex4.trans (hf.1 175 4 id))
      refine li_icmp_ge 39 dX12_sumOf_9 (by decide) (fun c5Zq => ?_) (fun c5Zq => ?_)
      · have tc5 : x4Zq.toInt ≤ x1Zq.toInt := tl_le c5Zq
        refine li_iload_n 1 dX12_sumOf_39 rfl ?_
        exact li_iret dX12_sumOf_40 rfl rfl ⟨⟨_, rfl, (by first | omega | (intro _; omega) | (refine ⟨?_, ?_⟩ <;> first | omega | (intro _; omega)) | (refine ⟨?_, ?_, ?_, ?_⟩ <;> first | omega | (intro _; omega)))⟩, hf, hJ⟩
      · have tc5 : x1Zq.toInt < x4Zq.toInt := tl_nle c5Zq
        exfalso; omega
  have z0 : (0 : Int32).toInt = 0 := rfl
  have z0 : (0 : Int32).toInt = 0 := rfl
  exact L4Zq _ 0 0 M0 (Nat.lt_succ_self _) hf hJ (by omega)
set_option maxRecDepth 100000 in
set_option maxHeartbeats 4000000 in
theorem k15_X12_worthOf {l : Launch} {Z : li_Z} (d : Nat) (hdZq : 1 ≤ d) (p1Zq : Int32) (M0 : li_M) (hJ : li_J M0) (z4 : (M0.1 175 4).toInt = 0) : li_Met l Z YX12_worthOf d [.ref (Z.2.2 175), .int p1Zq] M0 (fun r M' => (∃ x : Int32, r = some (.int x) ∧ (x.toInt = 0)) ∧ li_fs (fun i k => False) M0 M' ∧ li_J M') := by
  refine li_enter (by decide +kernel) (Nat.le_of_ble_eq_true rfl) ?_
  show li_T l Z YX12_worthOf d 0 [(0, .ref (Z.2.2 175)), (1, .int p1Zq)] [] M0 _
  have hf : li_fs (fun i k => False) M0 M0 := li_fs_refl
  have gp1 := tl_rg p1Zq
  have rM0_4 := J_sl4 (M := M0) hJ
  refine li_iconst 0 dX12_worthOf_0 (by decide) ?_
  refine li_istore_n [(2, .int 0), (0, .ref (Z.2.2 175)), (1, .int p1Zq)] dX12_worthOf_1 (by decide) rfl ?_
  refine li_iconst 0 dX12_worthOf_2 (by decide) ?_
  refine li_istore_n [(3, .int 0), (2, .int 0), (0, .ref (Z.2.2 175)), (1, .int p1Zq)] dX12_worthOf_3 (by decide) rfl ?_
  have L4Zq : ∀ (n : Nat) (x1Zq : Int32) (x2Zq : Int32) (M3Zq : li_M), ((x1Zq : Int32).toInt).toNat < n → li_fs (fun i k => False) M0 M3Zq → li_J M3Zq → 0 ≤ (x1Zq : Int32).toInt ∧ (x2Zq : Int32).toInt = 0 ∧ (M3Zq.1 175 4).toInt = 0 → li_T l Z YX12_worthOf d 4 [(3, .int x1Zq), (2, .int x2Zq), (0, .ref (Z.2.2 175)), (1, .int p1Zq)] [] M3Zq (fun r M' => (∃ x : Int32, r = some (.int x) ∧ (x.toInt = 0)) ∧ li_fs (fun i k => False) M0 M' ∧ li_J M') := by
    intro n
    induction n with
    | zero => intro x1Zq x2Zq M3Zq hn; exact absurd hn (Nat.not_lt_zero _)
    | succ n ih4 =>
      intro x1Zq x2Zq M3Zq hn hf hJ hiZq
      have gx1 := tl_rg x1Zq
      have gx2 := tl_rg x2Zq
      have rM3_4 := J_sl4 (M := M3Zq) hJ
      have mM3_4 : (M3Zq.1 175 4).toInt = (M0.1 175 4).toInt := tl_slot (hf.1 175 4 id)
      refine li_iload_n 0 dX12_worthOf_4 rfl ?_
      refine li_aload_n 2 dX12_worthOf_5 rfl ?_
      refine li_geti (k := 4) (N := 52) (T := TX12) (C0 := RX12) dX12_worthOf_6 (by decide) sh_175 rfl rfl (by decide) li_in12 w_1408 ?_
      refine li_top (fun x4Zq ex4 => ?_)
      have gx4 : 0 ≤ x4Zq.toInt ∧ x4Zq.toInt ≤ 8 := by rw [ex4]; exact J_sl4 hJ
      have mx4 : x4Zq.toInt = (M3Zq.1 175 4).toInt := tl_slot ex4
      have sx4 : x4Zq.toInt = (M0.1 175 4).toInt := tl_slot (ex4.trans (hf.1 175 4 id))
      refine li_icmp_ge 39 dX12_worthOf_9 (by decide) (fun c5Zq => ?_) (fun c5Zq => ?_)
      · have tc5 : x4Zq.toInt ≤ x1Zq.toInt := tl_le c5Zq
        refine li_iload_n 1 dX12_worthOf_39 rfl ?_
        exact li_iret dX12_worthOf_40 rfl rfl ⟨⟨_, rfl, (by first | omega | (intro _; omega) | (refine ⟨?_, ?_⟩ <;> first | omega | (intro _; omega)) | (refine ⟨?_, ?_, ?_, ?_⟩ <;> first | omega | (intro _; omega)))⟩, hf, hJ⟩
      · have tc5 : x1Zq.toInt < x4Zq.toInt := tl_nle c5Zq
        exfalso; omega
  have z0 : (0 : Int32).toInt = 0 := rfl
  have z0 : (0 : Int32).toInt = 0 := rfl
  exact L4Zq _ 0 0 M0 (Nat.lt_succ_self _) hf hJ (by omega)
set_option maxRecDepth 100000 in
set_option maxHeartbeats 4000000 in
theorem k15_X12_allClocks {l : Launch} {Z : li_Z} (d : Nat) (hdZq : 1 ≤ d) (M0 : li_M) (hJ : li_J M0) (z1 : (M0.1 175 1).toInt = 0) : li_Met l Z YX12_allClocks d [.ref (Z.2.2 175)] M0 (fun r M' => (∃ x : Int32, r = some (.int x) ∧ (x.toInt = 0)) ∧ li_fs (fun i k => False) M0 M' ∧ li_J M') := by
  refine li_enter (by decide +kernel) (Nat.le_of_ble_eq_true rfl) ?_
  show li_T l Z YX12_allClocks d 0 [(0, .ref (Z.2.2 175))] [] M0 _
  have hf : li_fs (fun i k => False) M0 M0 := li_fs_refl
  have rM0_1 := J_sl1 (M := M0) hJ
  refine li_iconst 0 dX12_allClocks_0 (by decide) ?_
  refine li_istore_n [(1, .int 0), (0, .ref (Z.2.2 175))] dX12_allClocks_1 (by decide) rfl ?_
  refine li_iconst 0 dX12_allClocks_2 (by decide) ?_
  refine li_istore_n [(2, .int 0), (1, .int 0), (0, .ref (Z.2.2 175))] dX12_allClocks_3 (by decide) rfl ?_
  have L4Zq : ∀ (n : Nat) (x1Zq : Int32) (x2Zq : Int32) (M3Zq : li_M), ((x1Zq : Int32).toInt).toNat < n → li_fs (fun i k => False) M0 M3Zq → li_J M3Zq → 0 ≤ (x1Zq : Int32).toInt ∧ (x2Zq : Int32).toInt = 0 ∧ (M3Zq.1 175 1).toInt = 0 → li_T l Z YX12_allClocks d 4 [(2, .int x1Zq), (1, .int x2Zq), (0, .ref (Z.2.2 175))] [] M3Zq (fun r M' => (∃ x : Int32, r = some (.int x) ∧ (x.toInt = 0)) ∧ li_fs (fun i k => False) M0 M' ∧ li_J M') := by
    intro n
    induction n with
    | zero => intro x1Zq x2Zq M3Zq hn; exact absurd hn (Nat.not_lt_zero _)
    | succ n ih4 =>
      intro x1Zq x2Zq M3Zq hn hf hJ hiZq
      have gx1 := tl_rg x1Zq
      have gx2 := tl_rg x2Zq
      have rM3_1 := J_sl1 (M := M3Zq) hJ
      have mM3_1 : (M3Zq.1 175 1).toInt = (M0.1 175 1).toInt := tl_slot (hf.1 175 1 id)
      refine li_iload_n 0 dX12_allClocks_4 rfl ?_
      refine li_aload_n 2 dX12_allClocks_5 rfl ?_
      refine li_geti (k := 1) (N := 52) (T := TX12) (C0 := RX12) dX12_allClocks_6 (by decide) sh_175 rfl rfl (by decide) li_in12 w_1405 ?_
      refine li_top (fun x4Zq ex4 => ?_)
      have gx4 : 0 ≤ x4Zq.toInt ∧ x4Zq.toInt ≤ 6 := by rw [ex4]; exact J_sl1 hJ
      have mx4 : x4Zq.toInt = (M3Zq.1 175 1).toInt := tl_slot ex4
      have sx4 : x4Zq.toInt = (M0.1 175 1).toInt := tl_slot (ex4.trans (hf.1 175 1 id))
      refine li_icmp_ge 27 dX12_allClocks_9 (by decide) (fun c5Zq => ?_) (fun c5Zq => ?_)
      · have tc5 : x4Zq.toInt ≤ x1Zq.toInt := tl_le c5Zq
        refine li_iload_n 1 dX12_allClocks_27 rfl ?_
        exact li_iret dX12_allClocks_28 rfl rfl ⟨⟨_, rfl, (by first | omega | (intro _; omega) | (refine ⟨?_, ?_⟩ <;> first | omega | (intro _; omega)) | (refine ⟨?_, ?_, ?_, ?_⟩ <;> first | omega | (intro _; omega)))⟩, hf, hJ⟩
      · have tc5 : x1Zq.toInt < x4Zq.toInt := tl_nle c5Zq
        exfalso; omega
  have z0 : (0 : Int32).toInt = 0 := rfl
  have z0 : (0 : Int32).toInt = 0 := rfl
  exact L4Zq _ 0 0 M0 (Nat.lt_succ_self _) hf hJ (by omega)
set_option maxRecDepth 100000 in
set_option maxHeartbeats 4000000 in
theorem k15_X12_bestSet {l : Launch} {Z : li_Z} (d : Nat) (hdZq : 1 ≤ d) (p1Zq p2Zq : Int32) (M0 : li_M) (hJ : li_J M0) (h1 : p1Zq.toInt = 0) : li_Met l Z YX12_bestSet d [.ref (Z.2.2 175), .int p1Zq, .int p2Zq] M0 (fun r M' => (∃ x : Int32, r = some (.int x) ∧ (x.toInt = 0)) ∧ li_fs (fun i k => False) M0 M' ∧ li_J M') := by
  refine li_enter (by decide +kernel) (Nat.le_of_ble_eq_true rfl) ?_
  show li_T l Z YX12_bestSet d 0 [(0, .ref (Z.2.2 175)), (1, .int p1Zq), (2, .int p2Zq)] [] M0 _
  have hf : li_fs (fun i k => False) M0 M0 := li_fs_refl
  have gp1 := tl_rg p1Zq
  have gp2 := tl_rg p2Zq
  refine li_iconst 0 dX12_bestSet_0 (by decide) ?_
  refine li_istore_n [(3, .int 0), (0, .ref (Z.2.2 175)), (1, .int p1Zq), (2, .int p2Zq)] dX12_bestSet_1 (by decide) rfl ?_
  refine li_iconst 1 dX12_bestSet_2 (by decide) ?_
  refine li_istore [(4, .int 1), (3, .int 0), (0, .ref (Z.2.2 175)), (1, .int p1Zq), (2, .int p2Zq)] dX12_bestSet_3 (by decide) rfl ?_
  have L5Zq : ∀ (n : Nat) (x1Zq : Int32) (x2Zq : Int32) (M3Zq : li_M), ((x1Zq : Int32).toInt).toNat < n → li_fs (fun i k => False) M0 M3Zq → li_J M3Zq → 1 ≤ (x1Zq : Int32).toInt ∧ (x2Zq : Int32).toInt = 0 → li_T l Z YX12_bestSet d 5 [(4, .int x1Zq), (3, .int x2Zq), (0, .ref (Z.2.2 175)), (1, .int p1Zq), (2, .int p2Zq)] [] M3Zq (fun r M' => (∃ x : Int32, r = some (.int x) ∧ (x.toInt = 0)) ∧ li_fs (fun i k => False) M0 M' ∧ li_J M') := by
    intro n
    induction n with
    | zero => intro x1Zq x2Zq M3Zq hn; exact absurd hn (Nat.not_lt_zero _)
    | succ n ih5 =>
      intro x1Zq x2Zq M3Zq hn hf hJ hiZq
      have gx1 := tl_rg x1Zq
      have gx2 := tl_rg x2Zq
      refine li_iload 0 dX12_bestSet_5 rfl ?_
      refine li_iload_n 3 dX12_bestSet_7 rfl ?_
      refine li_icmp_gt 84 dX12_bestSet_8 (by decide) (fun c4 => ?_) (fun c4 => ?_)
      · have tc4 : p1Zq.toInt < x1Zq.toInt := tl_lt c4
        refine li_iload_n 1 dX12_bestSet_84 rfl ?_
        exact li_iret dX12_bestSet_85 rfl rfl ⟨⟨_, rfl, (by first | omega | (intro _; omega) | (refine ⟨?_, ?_⟩ <;> first | omega | (intro _; omega)) | (refine ⟨?_, ?_, ?_, ?_⟩ <;> first | omega | (intro _; omega)))⟩, hf, hJ⟩
      · have tc4 : x1Zq.toInt ≤ p1Zq.toInt := tl_nlt c4
        exfalso; omega
  have z1 : (1 : Int32).toInt = 1 := rfl
  have z0 : (0 : Int32).toInt = 0 := rfl
  exact L5Zq _ 1 0 M0 (Nat.lt_succ_self _) hf hJ (by omega)
set_option maxRecDepth 100000 in
set_option maxHeartbeats 4000000 in
theorem k15_X12_pool {l : Launch} {Z : li_Z} (d : Nat) (hdZq : 2 ≤ d) (M0 : li_M) (hJ : li_J M0) (z1 : (M0.1 175 1).toInt = 0) (z4 : (M0.1 175 4).toInt = 0) : li_Met l Z YX12_pool d [.ref (Z.2.2 175)] M0 (fun r M' => (∃ x : Int32, r = some (.int x) ∧ (x.toInt = 0)) ∧ li_fs (fun i k => i = 181 ∨ (i = 175 ∧ k = 10) ∨ (i = 175 ∧ k = 9)) M0 M' ∧ li_J M') := by
  refine li_enter (by decide +kernel) (Nat.le_of_ble_eq_true rfl) ?_
  show li_T l Z YX12_pool d 0 [(0, .ref (Z.2.2 175))] [] M0 _
  have hf : li_fs (fun i k => i = 181 ∨ (i = 175 ∧ k = 10) ∨ (i = 175 ∧ k = 9)) M0 M0 := li_fs_refl
  have rM0_1 := J_sl1 (M := M0) hJ
  have rM0_4 := J_sl4 (M := M0) hJ
  have rM0_9 := J_sl9 (M := M0) hJ
  refine li_aload_n 0 dX12_pool_0 rfl ?_
  refine li_iconst 0 dX12_pool_1 (by decide) ?_
  refine li_puti (k := 10) (N := 52) (T := TX12) (C0 := RX12) dX12_pool_2 (by decide) sh_175 rfl rfl (by decide) li_in12 tyX12_ok nmX12 rfl rfl rfl rfl w_1414 ?_
  refine li_nm (fun M1Zq eM1 => ?_)
  have hf := li_fs_ui hf (Or.inr (Or.inl ⟨rfl, rfl⟩)) eM1
  have z0 : (0 : Int32).toInt = 0 := rfl
  have hJ := hJ.put (k := 10) (by decide) (rg_free rfl) eM1
  have rM1_1 := J_sl1 (M := M1Zq) hJ
  have rM1_4 := J_sl4 (M := M1Zq) hJ
  have rM1_9 := J_sl9 (M := M1Zq) hJ
  have mM1_1 : (M1Zq.1 175 1).toInt = (M0.1 175 1).toInt := by rw [eM1, li_ui_at, if_pos rfl, if_neg (by decide)]
  have mM1_4 : (M1Zq.1 175 4).toInt = (M0.1 175 4).toInt := by rw [eM1, li_ui_at, if_pos rfl, if_neg (by decide)]
  have mM1_9 : (M1Zq.1 175 9).toInt = (M0.1 175 9).toInt := by rw [eM1, li_ui_at, if_pos rfl, if_neg (by decide)]
  refine li_aload_n 0 dX12_pool_5 rfl ?_
  refine li_callV (n := 0) (As := []) dX12_pool_6 (k15_X12_layLeast (d - 1) (by omega)  M1Zq hJ (by omega) ) (by omega) (Nat.le_of_ble_eq_true rfl) w_1811 w_1813 w_80 w_112 w_1814 (by decide +kernel) rfl (by decide) sh_175 rfl rfl (Nat.le_of_ble_eq_true rfl) (fun r M3Zq h4 => ?_)
  obtain ⟨rfl, h4, jM3⟩ := h4
  have hf := li_fs_trans hf h4 (fun i k hZq => False.elim hZq)
  have hJ := jM3
  have rM3_1 := J_sl1 (M := M3Zq) hJ
  have rM3_4 := J_sl4 (M := M3Zq) hJ
  have rM3_9 := J_sl9 (M := M3Zq) hJ
  have mM3_1 : (M3Zq.1 175 1).toInt = (M1Zq.1 175 1).toInt := tl_slot (h4.1 175 1 id)
  have mM3_4 : (M3Zq.1 175 4).toInt = (M1Zq.1 175 4).toInt := tl_slot (h4.1 175 4 id)
  have mM3_9 : (M3Zq.1 175 9).toInt = (M1Zq.1 175 9).toInt := tl_slot (h4.1 175 9 id)
  refine li_aload_n 0 dX12_pool_9 rfl ?_
  refine li_aload_n 0 dX12_pool_10 rfl ?_
  refine li_callV (n := 0) (As := []) dX12_pool_11 (k15_X12_today (d - 1) (by omega)  M3Zq hJ (by omega) ) (by omega) (Nat.le_of_ble_eq_true rfl) w_1823 w_1825 w_83 w_112 w_1826 (by decide +kernel) rfl (by decide) sh_175 rfl rfl (Nat.le_of_ble_eq_true rfl) (fun r M6Zq h7 => ?_)
  obtain ⟨⟨x5Zq, rfl, qx5⟩, h7, jM6⟩ := h7
  have gx5 := tl_rg x5Zq
  have hf := li_fs_trans hf h7 (fun i k hZq => False.elim hZq)
  have hJ := jM6
  have rM6_1 := J_sl1 (M := M6Zq) hJ
  have rM6_4 := J_sl4 (M := M6Zq) hJ
  have rM6_9 := J_sl9 (M := M6Zq) hJ
  have mM6_1 : (M6Zq.1 175 1).toInt = (M3Zq.1 175 1).toInt := tl_slot (h7.1 175 1 id)
  have mM6_4 : (M6Zq.1 175 4).toInt = (M3Zq.1 175 4).toInt := tl_slot (h7.1 175 4 id)
  have mM6_9 : (M6Zq.1 175 9).toInt = (M3Zq.1 175 9).toInt := tl_slot (h7.1 175 9 id)
  refine li_aload_n 0 dX12_pool_14 rfl ?_
  refine li_callV (n := 0) (As := []) dX12_pool_15 (k15_X12_allClocks (d - 1) (by omega)  M6Zq hJ (by omega) ) (by omega) (Nat.le_of_ble_eq_true rfl) w_1847 w_1849 w_87 w_112 w_1850 (by decide +kernel) rfl (by decide) sh_175 rfl rfl (Nat.le_of_ble_eq_true rfl) (fun r M9Zq h10 => ?_)
  obtain ⟨⟨x8, rfl, qx8⟩, h10, jM9⟩ := h10
  have gx8 := tl_rg x8
  have hf := li_fs_trans hf h10 (fun i k hZq => False.elim hZq)
  have hJ := jM9
  have rM9_1 := J_sl1 (M := M9Zq) hJ
  have rM9_4 := J_sl4 (M := M9Zq) hJ
  have rM9_9 := J_sl9 (M := M9Zq) hJ
  have mM9_1 : (M9Zq.1 175 1).toInt = (M6Zq.1 175 1).toInt := tl_slot (h10.1 175 1 id)
  have mM9_4 : (M9Zq.1 175 4).toInt = (M6Zq.1 175 4).toInt := tl_slot (h10.1 175 4 id)
  have mM9_9 : (M9Zq.1 175 9).toInt = (M6Zq.1 175 9).toInt := tl_slot (h10.1 175 9 id)
  refine li_callV (n := 2) (As := [.int x5Zq, .int x8]) dX12_pool_18 (k15_X12_bestSet (d - 1) (by omega) x5Zq x8 M9Zq hJ (by omega) ) (by omega) (Nat.le_of_ble_eq_true rfl) w_1827 w_1829 w_84 w_112 w_1830 (by decide +kernel) rfl (by decide) sh_175 rfl rfl (Nat.le_of_ble_eq_true rfl) (fun r M12 h13 => ?_)
  obtain ⟨⟨x11, rfl, qx11⟩, h13, jM12⟩ := h13
  have gx11 := tl_rg x11
  have hf := li_fs_trans hf h13 (fun i k hZq => False.elim hZq)
  have hJ := jM12
  have rM12_1 := J_sl1 (M := M12) hJ
  have rM12_4 := J_sl4 (M := M12) hJ
  have rM12_9 := J_sl9 (M := M12) hJ
  have mM12_1 : (M12.1 175 1).toInt = (M9Zq.1 175 1).toInt := tl_slot (h13.1 175 1 id)
  have mM12_4 : (M12.1 175 4).toInt = (M9Zq.1 175 4).toInt := tl_slot (h13.1 175 4 id)
  have mM12_9 : (M12.1 175 9).toInt = (M9Zq.1 175 9).toInt := tl_slot (h13.1 175 9 id)
  refine li_istore_n [(1, .int x11), (0, .ref (Z.2.2 175))] dX12_pool_21 (by decide) rfl ?_
  refine li_aload_n 1 dX12_pool_22 rfl ?_
  refine li_iconst 0 dX12_pool_23 (by decide) ?_
  refine li_puti (k := 9) (N := 52) (T := TX12) (C0 := RX12) dX12_pool_24 (by decide) sh_175 rfl rfl (by decide) li_in12 tyX12_ok nmX12 rfl rfl rfl rfl w_1413 ?_
  refine li_nm (fun M14 eM14 => ?_)
  have hf := li_fs_ui hf (Or.inr (Or.inr (⟨rfl, rfl⟩))) eM14
  have z0 : (0 : Int32).toInt = 0 := rfl
  have hJ := J_pt9 hJ (show 0 ≤ (0 : Int32).toInt ∧ (0 : Int32).toInt ≤ 20 by omega) eM14
  have rM14_1 := J_sl1 (M := M14) hJ
  have rM14_4 := J_sl4 (M := M14) hJ
  have rM14_9 := J_sl9 (M := M14) hJ
  have mM14_1 : (M14.1 175 1).toInt = (M12.1 175 1).toInt := by rw [eM14, li_ui_at, if_pos rfl, if_neg (by decide)]
  have mM14_4 : (M14.1 175 4).toInt = (M12.1 175 4).toInt := by rw [eM14, li_ui_at, if_pos rfl, if_neg (by decide)]
  have mM14_9 : (M14.1 175 9).toInt = 0 := by rw [eM14, li_ui_at, if_pos rfl, if_pos rfl]; rfl
  refine li_aload_n 1 dX12_pool_27 rfl ?_
  refine li_iload_n 0 dX12_pool_28 rfl ?_
  refine li_callV (n := 1) (As := [.int x11]) dX12_pool_29 (k_X12_tell (d - 1) (by omega) x11 M14 hJ (by omega)) (by omega) (Nat.le_of_ble_eq_true rfl) w_1787 w_1789 w_77 w_112 w_1790 (by decide +kernel) rfl (by decide) sh_175 rfl rfl (Nat.le_of_ble_eq_true rfl) (fun r M16 h17 => ?_)
  obtain ⟨rfl, h17, jM16, nM16⟩ := h17
  have hf := li_fs_trans hf h17 (fun i k => fun hZq => Or.elim hZq (fun hZq => Or.inl hZq) (fun hZq => Or.inr (Or.inr hZq)))
  have hJ := jM16
  have rM16_1 := J_sl1 (M := M16) hJ
  have rM16_4 := J_sl4 (M := M16) hJ
  have rM16_9 := J_sl9 (M := M16) hJ
  have mM16_1 : (M16.1 175 1).toInt = (M14.1 175 1).toInt := tl_slot (h17.1 175 1 (show ¬ (175 = 181 ∨ (175 = 175 ∧ 1 = 9)) by decide))
  have mM16_4 : (M16.1 175 4).toInt = (M14.1 175 4).toInt := tl_slot (h17.1 175 4 (show ¬ (175 = 181 ∨ (175 = 175 ∧ 4 = 9)) by decide))
  refine li_aload_n 1 dX12_pool_32 rfl ?_
  refine li_aload_n 1 dX12_pool_33 rfl ?_
  refine li_iload_n 0 dX12_pool_34 rfl ?_
  refine li_callV (n := 1) (As := [.int x11]) dX12_pool_35 (k15_X12_sumOf (d - 1) (by omega) x11 M16 hJ (by omega) ) (by omega) (Nat.le_of_ble_eq_true rfl) w_1831 w_1833 w_85 w_112 w_1834 (by decide +kernel) rfl (by decide) sh_175 rfl rfl (Nat.le_of_ble_eq_true rfl) (fun r M19 h20 => ?_)
  obtain ⟨⟨x18, rfl, qx18⟩, h20, jM19⟩ := h20
  have gx18 := tl_rg x18
  have hf := li_fs_trans hf h20 (fun i k hZq => False.elim hZq)
  have hJ := jM19
  have rM19_1 := J_sl1 (M := M19) hJ
  have rM19_4 := J_sl4 (M := M19) hJ
  have rM19_9 := J_sl9 (M := M19) hJ
  have mM19_1 : (M19.1 175 1).toInt = (M16.1 175 1).toInt := tl_slot (h20.1 175 1 id)
  have mM19_4 : (M19.1 175 4).toInt = (M16.1 175 4).toInt := tl_slot (h20.1 175 4 id)
  have mM19_9 : (M19.1 175 9).toInt = (M16.1 175 9).toInt := tl_slot (h20.1 175 9 id)
  refine li_callV (n := 1) (As := [.int x18]) dX12_pool_38 (k_X12_tell (d - 1) (by omega) x18 M19 hJ (by omega)) (by omega) (Nat.le_of_ble_eq_true rfl) w_1787 w_1789 w_77 w_112 w_1790 (by decide +kernel) rfl (by decide) sh_175 rfl rfl (Nat.le_of_ble_eq_true rfl) (fun r M22 h23 => ?_)
  obtain ⟨rfl, h23, jM22, nM22⟩ := h23
  have hf := li_fs_trans hf h23 (fun i k => fun hZq => Or.elim hZq (fun hZq => Or.inl hZq) (fun hZq => Or.inr (Or.inr hZq)))
  have hJ := jM22
  have rM22_1 := J_sl1 (M := M22) hJ
  have rM22_4 := J_sl4 (M := M22) hJ
  have rM22_9 := J_sl9 (M := M22) hJ
  have mM22_1 : (M22.1 175 1).toInt = (M19.1 175 1).toInt := tl_slot (h23.1 175 1 (show ¬ (175 = 181 ∨ (175 = 175 ∧ 1 = 9)) by decide))
  have mM22_4 : (M22.1 175 4).toInt = (M19.1 175 4).toInt := tl_slot (h23.1 175 4 (show ¬ (175 = 181 ∨ (175 = 175 ∧ 4 = 9)) by decide))
  refine li_aload_n 1 dX12_pool_41 rfl ?_
  refine li_iload_n 0 dX12_pool_42 rfl ?_
  refine li_callV (n := 1) (As := [.int x11]) dX12_pool_43 (k15_X12_worthOf (d - 1) (by omega) x11 M22 hJ (by omega) ) (by omega) (Nat.le_of_ble_eq_true rfl) w_1835 w_1837 w_86 w_112 w_1838 (by decide +kernel) rfl (by decide) sh_175 rfl rfl (Nat.le_of_ble_eq_true rfl) (fun r M25 h26 => ?_)
  obtain ⟨⟨x24, rfl, qx24⟩, h26, jM25⟩ := h26
  have gx24 := tl_rg x24
  have hf := li_fs_trans hf h26 (fun i k hZq => False.elim hZq)
  have hJ := jM25
  have rM25_1 := J_sl1 (M := M25) hJ
  have rM25_4 := J_sl4 (M := M25) hJ
  have rM25_9 := J_sl9 (M := M25) hJ
  have mM25_1 : (M25.1 175 1).toInt = (M22.1 175 1).toInt := tl_slot (h26.1 175 1 id)
  have mM25_4 : (M25.1 175 4).toInt = (M22.1 175 4).toInt := tl_slot (h26.1 175 4 id)
  have mM25_9 : (M25.1 175 9).toInt = (M22.1 175 9).toInt := tl_slot (h26.1 175 9 id)
  exact li_iret dX12_pool_46 rfl rfl ⟨⟨_, rfl, (by first | omega | (intro _; omega) | (refine ⟨?_, ?_⟩ <;> first | omega | (intro _; omega)) | (refine ⟨?_, ?_, ?_, ?_⟩ <;> first | omega | (intro _; omega)))⟩, hf, hJ⟩
set_option maxRecDepth 100000 in
set_option maxHeartbeats 4000000 in
theorem k15_X12_gifts {l : Launch} {Z : li_Z} (d : Nat) (hdZq : 2 ≤ d) (p1Zq : Int32) (M0 : li_M) (hJ : li_J M0) (z1 : (M0.1 175 1).toInt = 0) (z4 : (M0.1 175 4).toInt = 0) : li_Met l Z YX12_gifts d [.ref (Z.2.2 175), .int p1Zq] M0 (fun r M' => (∃ x : Int32, r = some (.int x) ∧ ((p1Zq.toInt = 0 ∧ x.toInt = 0) ∨ (¬ p1Zq.toInt = 0 ∧ x.toInt = -1))) ∧ li_fs (fun i k => i = 181 ∨ (i = 175 ∧ k = 10) ∨ (i = 175 ∧ k = 9)) M0 M' ∧ li_J M') := by
  refine li_enter (by decide +kernel) (Nat.le_of_ble_eq_true rfl) ?_
  show li_T l Z YX12_gifts d 0 [(0, .ref (Z.2.2 175)), (1, .int p1Zq)] [] M0 _
  have hf : li_fs (fun i k => i = 181 ∨ (i = 175 ∧ k = 10) ∨ (i = 175 ∧ k = 9)) M0 M0 := li_fs_refl
  have gp1 := tl_rg p1Zq
  have rM0_1 := J_sl1 (M := M0) hJ
  have rM0_4 := J_sl4 (M := M0) hJ
  have rM0_9 := J_sl9 (M := M0) hJ
  refine li_aload_n 0 dX12_gifts_0 rfl ?_
  refine li_iconst 0 dX12_gifts_1 (by decide) ?_
  refine li_puti (k := 10) (N := 52) (T := TX12) (C0 := RX12) dX12_gifts_2 (by decide) sh_175 rfl rfl (by decide) li_in12 tyX12_ok nmX12 rfl rfl rfl rfl w_1414 ?_
  refine li_nm (fun M1Zq eM1 => ?_)
  have hf := li_fs_ui hf (Or.inr (Or.inl ⟨rfl, rfl⟩)) eM1
  have z0 : (0 : Int32).toInt = 0 := rfl
  have hJ := hJ.put (k := 10) (by decide) (rg_free rfl) eM1
  have rM1_1 := J_sl1 (M := M1Zq) hJ
  have rM1_4 := J_sl4 (M := M1Zq) hJ
  have rM1_9 := J_sl9 (M := M1Zq) hJ
  have mM1_1 : (M1Zq.1 175 1).toInt = (M0.1 175 1).toInt := by rw [eM1, li_ui_at, if_pos rfl, if_neg (by decide)]
  have mM1_4 : (M1Zq.1 175 4).toInt = (M0.1 175 4).toInt := by rw [eM1, li_ui_at, if_pos rfl, if_neg (by decide)]
  have mM1_9 : (M1Zq.1 175 9).toInt = (M0.1 175 9).toInt := by rw [eM1, li_ui_at, if_pos rfl, if_neg (by decide)]
  refine li_iload_n 1 dX12_gifts_5 rfl ?_
  refine li_iconst 0 dX12_gifts_6 (by decide) ?_
  refine li_iconst 1 dX12_gifts_7 (by decide) ?_
  refine li_aload_n 0 dX12_gifts_8 rfl ?_
  refine li_geti (k := 4) (N := 52) (T := TX12) (C0 := RX12) dX12_gifts_9 (by decide) sh_175 rfl rfl (by decide) li_in12 w_1408 ?_
  refine li_top (fun x2Zq ex2Zq => ?_)
  have gx2 : 0 ≤ x2Zq.toInt ∧ x2Zq.toInt ≤ 8 := by rw [ex2Zq]; exact J_sl4 hJ
  have mx2 : x2Zq.toInt = (M1Zq.1 175 4).toInt := tl_slot ex2Zq
  have sx2 : x2Zq.toInt = (M0.1 175 4).toInt := tl_slot (ex2Zq.trans (hf.1 175 4 (show ¬ (175 = 181 ∨ (175 = 175 ∧ 4 = 10) ∨ (175 = 175 ∧ 4 = 9)) by decide)))
  have z4q : x2Zq.toInt = 0 := by omega
  refine li_ishl dX12_gifts_12 ?_
  refine li_top (fun x3 ex3Zq => ?_)
  have z1 : (1 : Int32).toInt = 1 := rfl
  try (have tx3 := tl_shl255 ex3Zq (by omega))
  refine li_iconst 1 dX12_gifts_13 (by decide) ?_
  refine li_isub dX12_gifts_14 ?_
  refine li_top (fun x4Zq ex4 => ?_)
  have z1 : (1 : Int32).toInt = 1 := rfl
  try (have tx4 : x4Zq.toInt = (x3 : Int32).toInt - (1 : Int32).toInt := tl_sub ex4 (by omega))
  have xs : x4Zq.toInt = 0 := shl_z z4q ex3Zq ex4
  have z0 : (0 : Int32).toInt = 0 := rfl
  refine li_callS (n := 3) (As := [.int p1Zq, .int 0, .int x4Zq]) dX12_gifts_15 (k_X12_in (d - 1) (by omega) p1Zq 0 x4Zq M1Zq hJ ) (by omega) (Nat.le_of_ble_eq_true rfl) w_1574 w_1575 w_112 w_1576 (by decide +kernel) rfl rfl (Nat.le_of_ble_eq_true rfl) (fun r M6Zq h7 => ?_)
  obtain ⟨qx5, h7, jM6⟩ := h7
  have hf := li_fs_trans hf h7 (fun i k hZq => False.elim hZq)
  have hJ := jM6
  have rM6_1 := J_sl1 (M := M6Zq) hJ
  have rM6_4 := J_sl4 (M := M6Zq) hJ
  have rM6_9 := J_sl9 (M := M6Zq) hJ
  have mM6_1 : (M6Zq.1 175 1).toInt = (M1Zq.1 175 1).toInt := tl_slot (h7.1 175 1 id)
  have mM6_4 : (M6Zq.1 175 4).toInt = (M1Zq.1 175 4).toInt := tl_slot (h7.1 175 4 id)
  have mM6_9 : (M6Zq.1 175 9).toInt = (M1Zq.1 175 9).toInt := tl_slot (h7.1 175 9 id)
  rcases qx5 with ⟨rfl, qx5⟩ | ⟨rfl, qx5⟩
  · skip
    refine li_if_ne 23 dX12_gifts_18 (by decide) (fun c => ?_) (fun c => absurd c (by decide))
    refine li_aload_n 0 dX12_gifts_23 rfl ?_
    refine li_callV (n := 0) (As := []) dX12_gifts_24 (k15_X12_layLeast (d - 1) (by omega)  M6Zq hJ (by omega) ) (by omega) (Nat.le_of_ble_eq_true rfl) w_1811 w_1813 w_80 w_112 w_1814 (by decide +kernel) rfl (by decide) sh_175 rfl rfl (Nat.le_of_ble_eq_true rfl) (fun r M10 h11 => ?_)
    obtain ⟨rfl, h11, jM10⟩ := h11
    have hf := li_fs_trans hf h11 (fun i k hZq => False.elim hZq)
    have hJ := jM10
    have rM10_1 := J_sl1 (M := M10) hJ
    have rM10_4 := J_sl4 (M := M10) hJ
    have rM10_9 := J_sl9 (M := M10) hJ
    have mM10_1 : (M10.1 175 1).toInt = (M6Zq.1 175 1).toInt := tl_slot (h11.1 175 1 id)
    have mM10_4 : (M10.1 175 4).toInt = (M6Zq.1 175 4).toInt := tl_slot (h11.1 175 4 id)
    have mM10_9 : (M10.1 175 9).toInt = (M6Zq.1 175 9).toInt := tl_slot (h11.1 175 9 id)
    refine li_iload_n 1 dX12_gifts_27 rfl ?_
    refine li_aload_n 0 dX12_gifts_28 rfl ?_
    refine li_callV (n := 0) (As := []) dX12_gifts_29 (k15_X12_today (d - 1) (by omega)  M10 hJ (by omega) ) (by omega) (Nat.le_of_ble_eq_true rfl) w_1823 w_1825 w_83 w_112 w_1826 (by decide +kernel) rfl (by decide) sh_175 rfl rfl (Nat.le_of_ble_eq_true rfl) (fun r M13 h14 => ?_)
    obtain ⟨⟨x12, rfl, qx12⟩, h14, jM13⟩ := h14
    have gx12 := tl_rg x12
    have hf := li_fs_trans hf h14 (fun i k hZq => False.elim hZq)
    have hJ := jM13
    have rM13_1 := J_sl1 (M := M13) hJ
    have rM13_4 := J_sl4 (M := M13) hJ
    have rM13_9 := J_sl9 (M := M13) hJ
    have mM13_1 : (M13.1 175 1).toInt = (M10.1 175 1).toInt := tl_slot (h14.1 175 1 id)
    have mM13_4 : (M13.1 175 4).toInt = (M10.1 175 4).toInt := tl_slot (h14.1 175 4 id)
    have mM13_9 : (M13.1 175 9).toInt = (M10.1 175 9).toInt := tl_slot (h14.1 175 9 id)
    refine li_iconst (-1) dX12_gifts_32 (by decide) ?_
    refine li_ixor dX12_gifts_33 ?_
    refine li_top (fun x15 ex15 => ?_)
    refine li_iand dX12_gifts_34 ?_
    refine li_top (fun x16 ex16 => ?_)
    first | (have tx16 := tl_andR ex16 (by omega)) | (have tx16 := tl_andL ex16 (by omega)) | skip
    have xa : x16.toInt = 0 := and_z (a := p1Zq) (by omega) ex16
    refine li_if_ne 50 dX12_gifts_35 (by decide) (fun c17 => ?_) (fun c17 => ?_)
    · have tc17 : ¬ x16.toInt = 0 := tl_ne c17
      exfalso; omega
    · have tc17 : x16.toInt = 0 := tl_eq c17
      refine li_aload_n 0 dX12_gifts_38 rfl ?_
      refine li_iload_n 1 dX12_gifts_39 rfl ?_
      refine li_callV (n := 1) (As := [.int p1Zq]) dX12_gifts_40 (k15_X12_sumOf (d - 1) (by omega) p1Zq M13 hJ (by omega) ) (by omega) (Nat.le_of_ble_eq_true rfl) w_1831 w_1833 w_85 w_112 w_1834 (by decide +kernel) rfl (by decide) sh_175 rfl rfl (Nat.le_of_ble_eq_true rfl) (fun r M19 h20 => ?_)
      obtain ⟨⟨x18, rfl, qx18⟩, h20, jM19⟩ := h20
      have gx18 := tl_rg x18
      have hf := li_fs_trans hf h20 (fun i k hZq => False.elim hZq)
      have hJ := jM19
      have rM19_1 := J_sl1 (M := M19) hJ
      have rM19_4 := J_sl4 (M := M19) hJ
      have rM19_9 := J_sl9 (M := M19) hJ
      have mM19_1 : (M19.1 175 1).toInt = (M13.1 175 1).toInt := tl_slot (h20.1 175 1 id)
      have mM19_4 : (M19.1 175 4).toInt = (M13.1 175 4).toInt := tl_slot (h20.1 175 4 id)
      have mM19_9 : (M19.1 175 9).toInt = (M13.1 175 9).toInt := tl_slot (h20.1 175 9 id)
      refine li_aload_n 0 dX12_gifts_43 rfl ?_
      refine li_callV (n := 0) (As := []) dX12_gifts_44 (k15_X12_allClocks (d - 1) (by omega)  M19 hJ (by omega) ) (by omega) (Nat.le_of_ble_eq_true rfl) w_1847 w_1849 w_87 w_112 w_1850 (by decide +kernel) rfl (by decide) sh_175 rfl rfl (Nat.le_of_ble_eq_true rfl) (fun r M22 h23 => ?_)
      obtain ⟨⟨x21, rfl, qx21⟩, h23, jM22⟩ := h23
      have gx21 := tl_rg x21
      have hf := li_fs_trans hf h23 (fun i k hZq => False.elim hZq)
      have hJ := jM22
      have rM22_1 := J_sl1 (M := M22) hJ
      have rM22_4 := J_sl4 (M := M22) hJ
      have rM22_9 := J_sl9 (M := M22) hJ
      have mM22_1 : (M22.1 175 1).toInt = (M19.1 175 1).toInt := tl_slot (h23.1 175 1 id)
      have mM22_4 : (M22.1 175 4).toInt = (M19.1 175 4).toInt := tl_slot (h23.1 175 4 id)
      have mM22_9 : (M22.1 175 9).toInt = (M19.1 175 9).toInt := tl_slot (h23.1 175 9 id)
      refine li_icmp_le 53 dX12_gifts_47 (by decide) (fun c24Zq => ?_) (fun c24Zq => ?_)
      · have tc24 : x18.toInt ≤ x21.toInt := tl_le c24Zq
        refine li_iconst 0 dX12_gifts_53 (by decide) ?_
        refine li_istore_n [(2, .int 0), (0, .ref (Z.2.2 175)), (1, .int p1Zq)] dX12_gifts_54 (by decide) rfl ?_
        refine li_iconst 0 dX12_gifts_55 (by decide) ?_
        refine li_istore_n [(3, .int 0), (2, .int 0), (0, .ref (Z.2.2 175)), (1, .int p1Zq)] dX12_gifts_56 (by decide) rfl ?_
        refine li_iconst 0 dX12_gifts_57 (by decide) ?_
        refine li_istore [(4, .int 0), (3, .int 0), (2, .int 0), (0, .ref (Z.2.2 175)), (1, .int p1Zq)] dX12_gifts_58 (by decide) rfl ?_
        have L60 : ∀ (n : Nat) (x25 : Int32) (x26 : Int32) (x27 : Int32) (M28 : li_M), ((x25 : Int32).toInt).toNat < n → li_fs (fun i k => i = 181 ∨ (i = 175 ∧ k = 10) ∨ (i = 175 ∧ k = 9)) M0 M28 → li_J M28 → 0 ≤ (x25 : Int32).toInt ∧ (x27 : Int32).toInt = 0 ∧ (M28.1 175 1).toInt = 0 → li_T l Z YX12_gifts d 60 [(4, .int x25), (3, .int x26), (2, .int x27), (0, .ref (Z.2.2 175)), (1, .int p1Zq)] [] M28 (fun r M' => (∃ x : Int32, r = some (.int x) ∧ ((p1Zq.toInt = 0 ∧ x.toInt = 0) ∨ (¬ p1Zq.toInt = 0 ∧ x.toInt = -1))) ∧ li_fs (fun i k => i = 181 ∨ (i = 175 ∧ k = 10) ∨ (i = 175 ∧ k = 9)) M0 M' ∧ li_J M') := by
          intro n
          induction n with
          | zero => intro x25 x26 x27 M28 hn; exact absurd hn (Nat.not_lt_zero _)
          | succ n ih60 =>
            intro x25 x26 x27 M28 hn hf hJ hiZq
            have gx25 := tl_rg x25
            have gx26 := tl_rg x26
            have gx27 := tl_rg x27
            have rM28_1 := J_sl1 (M := M28) hJ
            have rM28_4 := J_sl4 (M := M28) hJ
            have rM28_9 := J_sl9 (M := M28) hJ
            have mM28_1 : (M28.1 175 1).toInt = (M0.1 175 1).toInt := tl_slot (hf.1 175 1 (show ¬ (175 = 181 ∨ (175 = 175 ∧ 1 = 10) ∨ (175 = 175 ∧ 1 = 9)) by decide))
            have mM28_4 : (M28.1 175 4).toInt = (M0.1 175 4).toInt := tl_slot (hf.1 175 4 (show ¬ (175 = 181 ∨ (175 = 175 ∧ 4 = 10) ∨ (175 = 175 ∧ 4 = 9)) by decide))
            refine li_iload 0 dX12_gifts_60 rfl ?_
            refine li_aload_n 3 dX12_gifts_62 rfl ?_
            refine li_geti (k := 1) (N := 52) (T := TX12) (C0 := RX12) dX12_gifts_63 (by decide) sh_175 rfl rfl (by decide) li_in12 w_1405 ?_
            refine li_top (fun x29 ex29 => ?_)
            have gx29 : 0 ≤ x29.toInt ∧ x29.toInt ≤ 6 := by rw [ex29]; exact J_sl1 hJ
            have mx29 : x29.toInt = (M28.1 175 1).toInt := tl_slot ex29
            have sx29 : x29.toInt = (M0.1 175 1).toInt := tl_slot (ex29.trans (hf.1 175 1 (show ¬ (175 = 181 ∨ (175 = 175 ∧ 1 = 10) ∨ (175 = 175 ∧ 1 = 9)) by decide)))
            refine li_icmp_ge 119 dX12_gifts_66 (by decide) (fun c30Zq => ?_) (fun c30Zq => ?_)
            · have tc30 : x29.toInt ≤ x25.toInt := tl_le c30Zq
              refine li_aload_n 3 dX12_gifts_119 rfl ?_
              refine li_iconst 0 dX12_gifts_120 (by decide) ?_
              refine li_puti (k := 9) (N := 52) (T := TX12) (C0 := RX12) dX12_gifts_121 (by decide) sh_175 rfl rfl (by decide) li_in12 tyX12_ok nmX12 rfl rfl rfl rfl w_1413 ?_
              refine li_nm (fun M31 eM31 => ?_)
              have hf := li_fs_ui hf (Or.inr (Or.inr (⟨rfl, rfl⟩))) eM31
              have z0 : (0 : Int32).toInt = 0 := rfl
              have hJ := J_pt9 hJ (show 0 ≤ (0 : Int32).toInt ∧ (0 : Int32).toInt ≤ 20 by omega) eM31
              have rM31_1 := J_sl1 (M := M31) hJ
              have rM31_4 := J_sl4 (M := M31) hJ
              have rM31_9 := J_sl9 (M := M31) hJ
              have mM31_1 : (M31.1 175 1).toInt = (M28.1 175 1).toInt := by rw [eM31, li_ui_at, if_pos rfl, if_neg (by decide)]
              have mM31_4 : (M31.1 175 4).toInt = (M28.1 175 4).toInt := by rw [eM31, li_ui_at, if_pos rfl, if_neg (by decide)]
              have mM31_9 : (M31.1 175 9).toInt = 0 := by rw [eM31, li_ui_at, if_pos rfl, if_pos rfl]; rfl
              refine li_aload_n 3 dX12_gifts_124 rfl ?_
              refine li_iload_n 1 dX12_gifts_125 rfl ?_
              refine li_callV (n := 1) (As := [.int x26]) dX12_gifts_126 (k_X12_tell (d - 1) (by omega) x26 M31 hJ (by omega)) (by omega) (Nat.le_of_ble_eq_true rfl) w_1787 w_1789 w_77 w_112 w_1790 (by decide +kernel) rfl (by decide) sh_175 rfl rfl (Nat.le_of_ble_eq_true rfl) (fun r M33 h34 => ?_)
              obtain ⟨rfl, h34, jM33, nM33⟩ := h34
              have hf := li_fs_trans hf h34 (fun i k => fun hZq => Or.elim hZq (fun hZq => Or.inl hZq) (fun hZq => Or.inr (Or.inr hZq)))
              have hJ := jM33
              have rM33_1 := J_sl1 (M := M33) hJ
              have rM33_4 := J_sl4 (M := M33) hJ
              have rM33_9 := J_sl9 (M := M33) hJ
              have mM33_1 : (M33.1 175 1).toInt = (M31.1 175 1).toInt := tl_slot (h34.1 175 1 (show ¬ (175 = 181 ∨ (175 = 175 ∧ 1 = 9)) by decide))
              have mM33_4 : (M33.1 175 4).toInt = (M31.1 175 4).toInt := tl_slot (h34.1 175 4 (show ¬ (175 = 181 ∨ (175 = 175 ∧ 4 = 9)) by decide))
              refine li_iload_n 2 dX12_gifts_129 rfl ?_
              exact li_iret dX12_gifts_130 rfl rfl ⟨⟨_, rfl, (by first | omega | (intro _; omega) | (refine ⟨?_, ?_⟩ <;> first | omega | (intro _; omega)) | (refine ⟨?_, ?_, ?_, ?_⟩ <;> first | omega | (intro _; omega)))⟩, hf, hJ⟩
            · have tc30 : x25.toInt < x29.toInt := tl_nle c30Zq
              exfalso; omega
        have z0 : (0 : Int32).toInt = 0 := rfl
        have z0 : (0 : Int32).toInt = 0 := rfl
        have z0 : (0 : Int32).toInt = 0 := rfl
        exact L60 _ 0 0 0 M22 (Nat.lt_succ_self _) hf hJ (by omega)
      · have tc24 : x21.toInt < x18.toInt := tl_nle c24Zq
        exfalso; omega
  · skip
    refine li_if_ne 23 dX12_gifts_18 (by decide) (fun c => absurd rfl c) (fun c => ?_)
    refine li_iconst (-1) dX12_gifts_21 (by decide) ?_
    have zm1 : ((-1) : Int32).toInt = -1 := rfl
    exact li_iret dX12_gifts_22 rfl rfl ⟨⟨_, rfl, (by first | omega | (intro _; omega) | (refine ⟨?_, ?_⟩ <;> first | omega | (intro _; omega)) | (refine ⟨?_, ?_, ?_, ?_⟩ <;> first | omega | (intro _; omega)))⟩, hf, hJ⟩
set_option maxRecDepth 100000 in
set_option maxHeartbeats 4000000 in
theorem k15_X12_mute {l : Launch} {Z : li_Z} (d : Nat) (hdZq : 2 ≤ d) (M0 : li_M) (hJ : li_J M0) (z4 : (M0.1 175 4).toInt = 0) : li_Met l Z YX12_mute d [.ref (Z.2.2 175)] M0 (fun r M' => (∃ x : Int32, r = some (.int x) ∧ (x.toInt = -2)) ∧ li_fs (fun i k => (i = 175 ∧ k = 10)) M0 M' ∧ li_J M') := by
  refine li_enter (by decide +kernel) (Nat.le_of_ble_eq_true rfl) ?_
  show li_T l Z YX12_mute d 0 [(0, .ref (Z.2.2 175))] [] M0 _
  have hf : li_fs (fun i k => (i = 175 ∧ k = 10)) M0 M0 := li_fs_refl
  have rM0_4 := J_sl4 (M := M0) hJ
  have rM0_9 := J_sl9 (M := M0) hJ
  refine li_aload_n 0 dX12_mute_0 rfl ?_
  refine li_iconst 0 dX12_mute_1 (by decide) ?_
  refine li_puti (k := 10) (N := 52) (T := TX12) (C0 := RX12) dX12_mute_2 (by decide) sh_175 rfl rfl (by decide) li_in12 tyX12_ok nmX12 rfl rfl rfl rfl w_1414 ?_
  refine li_nm (fun M1Zq eM1 => ?_)
  have hf := li_fs_ui hf (⟨rfl, rfl⟩) eM1
  have z0 : (0 : Int32).toInt = 0 := rfl
  have hJ := hJ.put (k := 10) (by decide) (rg_free rfl) eM1
  have rM1_4 := J_sl4 (M := M1Zq) hJ
  have rM1_9 := J_sl9 (M := M1Zq) hJ
  have mM1_4 : (M1Zq.1 175 4).toInt = (M0.1 175 4).toInt := by rw [eM1, li_ui_at, if_pos rfl, if_neg (by decide)]
  have mM1_9 : (M1Zq.1 175 9).toInt = (M0.1 175 9).toInt := by rw [eM1, li_ui_at, if_pos rfl, if_neg (by decide)]
  refine li_aload_n 0 dX12_mute_5 rfl ?_
  refine li_callV (n := 0) (As := []) dX12_mute_6 (k15_X12_layLeast (d - 1) (by omega)  M1Zq hJ (by omega) ) (by omega) (Nat.le_of_ble_eq_true rfl) w_1811 w_1813 w_80 w_112 w_1814 (by decide +kernel) rfl (by decide) sh_175 rfl rfl (Nat.le_of_ble_eq_true rfl) (fun r M3Zq h4 => ?_)
  obtain ⟨rfl, h4, jM3⟩ := h4
  have hf := li_fs_trans hf h4 (fun i k hZq => False.elim hZq)
  have hJ := jM3
  have rM3_4 := J_sl4 (M := M3Zq) hJ
  have rM3_9 := J_sl9 (M := M3Zq) hJ
  have mM3_4 : (M3Zq.1 175 4).toInt = (M1Zq.1 175 4).toInt := tl_slot (h4.1 175 4 id)
  have mM3_9 : (M3Zq.1 175 9).toInt = (M1Zq.1 175 9).toInt := tl_slot (h4.1 175 9 id)
  refine li_iconst (-1) dX12_mute_9 (by decide) ?_
  refine li_istore_n [(1, .int (-1)), (0, .ref (Z.2.2 175))] dX12_mute_10 (by decide) rfl ?_
  refine li_iconst 0 dX12_mute_11 (by decide) ?_
  refine li_istore_n [(2, .int 0), (1, .int (-1)), (0, .ref (Z.2.2 175))] dX12_mute_12 (by decide) rfl ?_
  have L13 : ∀ (n : Nat) (x5Zq : Int32) (x6 : Int32) (M7Zq : li_M), ((x5Zq : Int32).toInt).toNat < n → li_fs (fun i k => (i = 175 ∧ k = 10)) M0 M7Zq → li_J M7Zq → 0 ≤ (x5Zq : Int32).toInt ∧ (x6 : Int32).toInt = -1 ∧ (M7Zq.1 175 4).toInt = 0 → li_T l Z YX12_mute d 13 [(2, .int x5Zq), (1, .int x6), (0, .ref (Z.2.2 175))] [] M7Zq (fun r M' => (∃ x : Int32, r = some (.int x) ∧ (x.toInt = -2)) ∧ li_fs (fun i k => (i = 175 ∧ k = 10)) M0 M' ∧ li_J M') := by
    intro n
    induction n with
    | zero => intro x5Zq x6 M7Zq hn; exact absurd hn (Nat.not_lt_zero _)
    | succ n ih13 =>
      intro x5Zq x6 M7Zq hn hf hJ hiZq
      have gx5 := tl_rg x5Zq
      have gx6 := tl_rg x6
      have rM7_4 := J_sl4 (M := M7Zq) hJ
      have rM7_9 := J_sl9 (M := M7Zq) hJ
      have mM7_4 : (M7Zq.1 175 4).toInt = (M0.1 175 4).toInt := tl_slot (hf.1 175 4 (show ¬ ((175 = 175 ∧ 4 = 10)) by decide))
      have mM7_9 : (M7Zq.1 175 9).toInt = (M0.1 175 9).toInt := tl_slot (hf.1 175 9 (show ¬ ((175 = 175 ∧ 9 = 10)) by decide))
      refine li_iload_n 0 dX12_mute_13 rfl ?_
      refine li_aload_n 2 dX12_mute_14 rfl ?_
      refine li_geti (k := 4) (N := 52) (T := TX12) (C0 := RX12) dX12_mute_15 (by decide) sh_175 rfl rfl (by decide) li_in12 w_1408 ?_
      refine li_top (fun x8 ex8 => ?_)
      have gx8 : 0 ≤ x8.toInt ∧ x8.toInt ≤ 8 := by rw [ex8]; exact J_sl4 hJ
      have mx8 : x8.toInt = (M7Zq.1 175 4).toInt := tl_slot ex8
      have sx8 : x8.toInt = (M0.1 175 4).toInt := tl_slot (ex8.trans (hf.1 175 4 (show ¬ ((175 = 175 ∧ 4 = 10)) by decide)))
      refine li_icmp_ge 80 dX12_mute_18 (by decide) (fun c9Zq => ?_) (fun c9Zq => ?_)
      · have tc9 : x8.toInt ≤ x5Zq.toInt := tl_le c9Zq
        refine li_iload_n 1 dX12_mute_80 rfl ?_
        refine li_iconst (-1) dX12_mute_81 (by decide) ?_
        refine li_icmp_ne 88 dX12_mute_82 (by decide) (fun c10Zq => ?_) (fun c10Zq => ?_)
        · have tc10 : ¬ x6.toInt = (-1) := tl_ne c10Zq
          exfalso; omega
        · have tc10 : x6.toInt = (-1) := tl_eq c10Zq
          refine li_bipush (-2) dX12_mute_85 (by decide) ?_
          have zm2 : ((-2) : Int32).toInt = -2 := rfl
          exact li_iret dX12_mute_87 rfl rfl ⟨⟨_, rfl, (by first | omega | (intro _; omega) | (refine ⟨?_, ?_⟩ <;> first | omega | (intro _; omega)) | (refine ⟨?_, ?_, ?_, ?_⟩ <;> first | omega | (intro _; omega)))⟩, hf, hJ⟩
      · have tc9 : x5Zq.toInt < x8.toInt := tl_nle c9Zq
        exfalso; omega
  have z0 : (0 : Int32).toInt = 0 := rfl
  have zm1 : ((-1) : Int32).toInt = -1 := rfl
  exact L13 _ 0 (-1) M3Zq (Nat.lt_succ_self _) hf hJ (by omega)
set_option maxRecDepth 100000 in
set_option maxHeartbeats 4000000 in
theorem k15_X12_look {l : Launch} {Z : li_Z} (d : Nat) (hdZq : 1 ≤ d) (M0 : li_M) (hJ : li_J M0) (z1 : (M0.1 175 1).toInt = 0) : li_Met l Z YX12_look d [.ref (Z.2.2 175)] M0 (fun r M' => (∃ x : Int32, r = some (.int x) ∧ (x.toInt = -2)) ∧ li_fs (fun i k => (i = 175 ∧ k = 10)) M0 M' ∧ li_J M') := by
  refine li_enter (by decide +kernel) (Nat.le_of_ble_eq_true rfl) ?_
  show li_T l Z YX12_look d 0 [(0, .ref (Z.2.2 175))] [] M0 _
  have hf : li_fs (fun i k => (i = 175 ∧ k = 10)) M0 M0 := li_fs_refl
  have rM0_1 := J_sl1 (M := M0) hJ
  have rM0_9 := J_sl9 (M := M0) hJ
  refine li_aload_n 0 dX12_look_0 rfl ?_
  refine li_iconst 0 dX12_look_1 (by decide) ?_
  refine li_puti (k := 10) (N := 52) (T := TX12) (C0 := RX12) dX12_look_2 (by decide) sh_175 rfl rfl (by decide) li_in12 tyX12_ok nmX12 rfl rfl rfl rfl w_1414 ?_
  refine li_nm (fun M1Zq eM1 => ?_)
  have hf := li_fs_ui hf (⟨rfl, rfl⟩) eM1
  have z0 : (0 : Int32).toInt = 0 := rfl
  have hJ := hJ.put (k := 10) (by decide) (rg_free rfl) eM1
  have rM1_1 := J_sl1 (M := M1Zq) hJ
  have rM1_9 := J_sl9 (M := M1Zq) hJ
  have mM1_1 : (M1Zq.1 175 1).toInt = (M0.1 175 1).toInt := by rw [eM1, li_ui_at, if_pos rfl, if_neg (by decide)]
  have mM1_9 : (M1Zq.1 175 9).toInt = (M0.1 175 9).toInt := by rw [eM1, li_ui_at, if_pos rfl, if_neg (by decide)]
  refine li_bipush (-2) dX12_look_5 (by decide) ?_
  refine li_istore_n [(1, .int (-2)), (0, .ref (Z.2.2 175))] dX12_look_7 (by decide) rfl ?_
  refine li_iconst 0 dX12_look_8 (by decide) ?_
  refine li_istore_n [(2, .int 0), (1, .int (-2)), (0, .ref (Z.2.2 175))] dX12_look_9 (by decide) rfl ?_
  refine li_iconst 0 dX12_look_10 (by decide) ?_
  refine li_istore_n [(3, .int 0), (2, .int 0), (1, .int (-2)), (0, .ref (Z.2.2 175))] dX12_look_11 (by decide) rfl ?_
  have L12Zq : ∀ (n : Nat) (x2Zq : Int32) (x3 : Int32) (x4Zq : Int32) (M5Zq : li_M), ((x2Zq : Int32).toInt).toNat < n → li_fs (fun i k => (i = 175 ∧ k = 10)) M0 M5Zq → li_J M5Zq → 0 ≤ (x2Zq : Int32).toInt ∧ (x4Zq : Int32).toInt = -2 ∧ (M5Zq.1 175 1).toInt = 0 → li_T l Z YX12_look d 12 [(3, .int x2Zq), (2, .int x3), (1, .int x4Zq), (0, .ref (Z.2.2 175))] [] M5Zq (fun r M' => (∃ x : Int32, r = some (.int x) ∧ (x.toInt = -2)) ∧ li_fs (fun i k => (i = 175 ∧ k = 10)) M0 M' ∧ li_J M') := by
    intro n
    induction n with
    | zero => intro x2Zq x3 x4Zq M5Zq hn; exact absurd hn (Nat.not_lt_zero _)
    | succ n ih12 =>
      intro x2Zq x3 x4Zq M5Zq hn hf hJ hiZq
      have gx2 := tl_rg x2Zq
      have gx3 := tl_rg x3
      have gx4 := tl_rg x4Zq
      have rM5_1 := J_sl1 (M := M5Zq) hJ
      have rM5_9 := J_sl9 (M := M5Zq) hJ
      have mM5_1 : (M5Zq.1 175 1).toInt = (M0.1 175 1).toInt := tl_slot (hf.1 175 1 (show ¬ ((175 = 175 ∧ 1 = 10)) by decide))
      have mM5_9 : (M5Zq.1 175 9).toInt = (M0.1 175 9).toInt := tl_slot (hf.1 175 9 (show ¬ ((175 = 175 ∧ 9 = 10)) by decide))
      refine li_iload_n 0 dX12_look_12 rfl ?_
      refine li_aload_n 3 dX12_look_13 rfl ?_
      refine li_geti (k := 1) (N := 52) (T := TX12) (C0 := RX12) dX12_look_14 (by decide) sh_175 rfl rfl (by decide) li_in12 w_1405 ?_
      refine li_top (fun x6 ex6 => ?_)
      have gx6 : 0 ≤ x6.toInt ∧ x6.toInt ≤ 6 := by rw [ex6]; exact J_sl1 hJ
      have mx6 : x6.toInt = (M5Zq.1 175 1).toInt := tl_slot ex6
      have sx6 : x6.toInt = (M0.1 175 1).toInt := tl_slot (ex6.trans (hf.1 175 1 (show ¬ ((175 = 175 ∧ 1 = 10)) by decide)))
      refine li_icmp_ge 64 dX12_look_17 (by decide) (fun c7Zq => ?_) (fun c7Zq => ?_)
      · have tc7 : x6.toInt ≤ x2Zq.toInt := tl_le c7Zq
        refine li_iload_n 2 dX12_look_64 rfl ?_
        refine li_if_ge 71 dX12_look_65 (by decide) (fun c8Zq => ?_) (fun c8Zq => ?_)
        · have tc8 : 0 ≤ x4Zq.toInt := tl_le c8Zq
          exfalso; omega
        · have tc8 : x4Zq.toInt < 0 := tl_nle c8Zq
          refine li_bipush (-2) dX12_look_68 (by decide) ?_
          have zm2 : ((-2) : Int32).toInt = -2 := rfl
          exact li_iret dX12_look_70 rfl rfl ⟨⟨_, rfl, (by first | omega | (intro _; omega) | (refine ⟨?_, ?_⟩ <;> first | omega | (intro _; omega)) | (refine ⟨?_, ?_, ?_, ?_⟩ <;> first | omega | (intro _; omega)))⟩, hf, hJ⟩
      · have tc7 : x2Zq.toInt < x6.toInt := tl_nle c7Zq
        exfalso; omega
  have z0 : (0 : Int32).toInt = 0 := rfl
  have z0 : (0 : Int32).toInt = 0 := rfl
  have zm2 : ((-2) : Int32).toInt = -2 := rfl
  exact L12Zq _ 0 0 (-2) M1Zq (Nat.lt_succ_self _) hf hJ (by omega)
set_option maxRecDepth 100000 in
set_option maxHeartbeats 4000000 in
theorem k15_X12_bestAll {l : Launch} {Z : li_Z} (d : Nat) (hdZq : 2 ≤ d) (M0 : li_M) (hJ : li_J M0) (z1 : (M0.1 175 1).toInt = 0) (z4 : (M0.1 175 4).toInt = 0) : li_Met l Z YX12_bestAll d [.ref (Z.2.2 175)] M0 (fun r M' => (∃ x : Int32, r = some (.int x) ∧ (x.toInt = 0)) ∧ li_fs (fun i k => False) M0 M' ∧ li_J M') := by
  refine li_enter (by decide +kernel) (Nat.le_of_ble_eq_true rfl) ?_
  show li_T l Z YX12_bestAll d 0 [(0, .ref (Z.2.2 175))] [] M0 _
  have hf : li_fs (fun i k => False) M0 M0 := li_fs_refl
  have rM0_1 := J_sl1 (M := M0) hJ
  have rM0_4 := J_sl4 (M := M0) hJ
  refine li_aload_n 0 dX12_bestAll_0 rfl ?_
  refine li_callV (n := 0) (As := []) dX12_bestAll_1 (k15_X12_layLeast (d - 1) (by omega)  M0 hJ (by omega) ) (by omega) (Nat.le_of_ble_eq_true rfl) w_1811 w_1813 w_80 w_112 w_1814 (by decide +kernel) rfl (by decide) sh_175 rfl rfl (Nat.le_of_ble_eq_true rfl) (fun r M2Zq h3 => ?_)
  obtain ⟨rfl, h3, jM2⟩ := h3
  have hf := li_fs_trans hf h3 (fun i k hZq => False.elim hZq)
  have hJ := jM2
  have rM2_1 := J_sl1 (M := M2Zq) hJ
  have rM2_4 := J_sl4 (M := M2Zq) hJ
  have mM2_1 : (M2Zq.1 175 1).toInt = (M0.1 175 1).toInt := tl_slot (h3.1 175 1 id)
  have mM2_4 : (M2Zq.1 175 4).toInt = (M0.1 175 4).toInt := tl_slot (h3.1 175 4 id)
  refine li_iconst 0 dX12_bestAll_4 (by decide) ?_
  refine li_istore_n [(1, .int 0), (0, .ref (Z.2.2 175))] dX12_bestAll_5 (by decide) rfl ?_
  refine li_iconst 0 dX12_bestAll_6 (by decide) ?_
  refine li_istore_n [(2, .int 0), (1, .int 0), (0, .ref (Z.2.2 175))] dX12_bestAll_7 (by decide) rfl ?_
  have L8Zq : ∀ (n : Nat) (x4Zq : Int32) (x5Zq : Int32) (M6Zq : li_M), ((x4Zq : Int32).toInt).toNat < n → li_fs (fun i k => False) M0 M6Zq → li_J M6Zq → 0 ≤ (x4Zq : Int32).toInt ∧ (x5Zq : Int32).toInt = 0 ∧ (M6Zq.1 175 1).toInt = 0 → li_T l Z YX12_bestAll d 8 [(2, .int x4Zq), (1, .int x5Zq), (0, .ref (Z.2.2 175))] [] M6Zq (fun r M' => (∃ x : Int32, r = some (.int x) ∧ (x.toInt = 0)) ∧ li_fs (fun i k => False) M0 M' ∧ li_J M') := by
    intro n
    induction n with
    | zero => intro x4Zq x5Zq M6Zq hn; exact absurd hn (Nat.not_lt_zero _)
    | succ n ih8 =>
      intro x4Zq x5Zq M6Zq hn hf hJ hiZq
      have gx4 := tl_rg x4Zq
      have gx5 := tl_rg x5Zq
      have rM6_1 := J_sl1 (M := M6Zq) hJ
      have rM6_4 := J_sl4 (M := M6Zq) hJ
      have mM6_1 : (M6Zq.1 175 1).toInt = (M0.1 175 1).toInt := tl_slot (hf.1 175 1 id)
      have mM6_4 : (M6Zq.1 175 4).toInt = (M0.1 175 4).toInt := tl_slot (hf.1 175 4 id)
      refine li_iload_n 0 dX12_bestAll_8 rfl ?_
      refine li_aload_n 2 dX12_bestAll_9 rfl ?_
      refine li_geti (k := 1) (N := 52) (T := TX12) (C0 := RX12) dX12_bestAll_10 (by decide) sh_175 rfl rfl (by decide) li_in12 w_1405 ?_
      refine li_top (fun x7 ex7 => ?_)
      have gx7 : 0 ≤ x7.toInt ∧ x7.toInt ≤ 6 := by rw [ex7]; exact J_sl1 hJ
      have mx7 : x7.toInt = (M6Zq.1 175 1).toInt := tl_slot ex7
      have sx7 : x7.toInt = (M0.1 175 1).toInt := tl_slot (ex7.trans (hf.1 175 1 id))
      refine li_icmp_ge 49 dX12_bestAll_13 (by decide) (fun c8Zq => ?_) (fun c8Zq => ?_)
      · have tc8 : x7.toInt ≤ x4Zq.toInt := tl_le c8Zq
        refine li_iload_n 1 dX12_bestAll_49 rfl ?_
        exact li_iret dX12_bestAll_50 rfl rfl ⟨⟨_, rfl, (by first | omega | (intro _; omega) | (refine ⟨?_, ?_⟩ <;> first | omega | (intro _; omega)) | (refine ⟨?_, ?_, ?_, ?_⟩ <;> first | omega | (intro _; omega)))⟩, hf, hJ⟩
      · have tc8 : x4Zq.toInt < x7.toInt := tl_nle c8Zq
        exfalso; omega
  have z0 : (0 : Int32).toInt = 0 := rfl
  have z0 : (0 : Int32).toInt = 0 := rfl
  exact L8Zq _ 0 0 M2Zq (Nat.lt_succ_self _) hf hJ (by omega)
