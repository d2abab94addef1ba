set_option maxRecDepth 100000 in
set_option maxHeartbeats 4000000 in
theorem k14_X12_sum {l : Launch} {Z : li_Z} (d : Nat) (hdZq : 2 ≤ d) (p1Zq : Int32) (dE : Nat) (hE : dE + 1 ≤ d) (M0 : li_M) (hJ : li_J M0) (bM0 : M0.2.2 0 = some 180) (hBZq : Nat → Int32) (hhB : li_by (M0.1 180) = hBZq) (e : Int) (he : min (M0.1 175 12).toInt (M0.1 175 13).toInt = e) (hat : (M0.1 175 14).toInt ≤ e) (hw : (M0.1 175 15).toInt = -1) (h4 : 0 ≤ p1Zq.toInt ∧ p1Zq.toInt ≤ 4) (PRZq : ∀ (q9Zq : Int32) (M : li_M), li_J M → M.2.2 0 = some 180 → li_by (M.1 180) = hBZq → min (M.1 175 12).toInt (M.1 175 13).toInt = e → (M0.1 175 14).toInt ≤ (M.1 175 14).toInt → (M.1 175 14).toInt ≤ e → (M.1 175 15).toInt = -1 → 0 ≤ q9Zq.toInt ∧ q9Zq.toInt ≤ 4 → li_Met l Z YX12_product dE [.ref (Z.2.2 175), .int q9Zq] M (fun r M' => (∃ x : Int32, r = some (.int x) ∧ (∃ okZq q : Int, rpr hBZq e 3 (q9Zq.toInt) ((M.1 175 14).toInt) okZq q ∧ (M'.1 175 14).toInt = q ∧ (M.1 175 14).toInt ≤ q ∧ q ≤ e ∧ ((okZq = 1 ∧ (M'.1 175 15).toInt = -1) ∨ (okZq = 0 ∧ (M'.1 175 15).toInt = q)))) ∧ li_fs (fun i k => (i = 175 ∧ k = 14) ∨ (i = 175 ∧ k = 15)) M M' ∧ li_J M')) : li_Met l Z YX12_sum d [.ref (Z.2.2 175), .int p1Zq] M0 (fun r M' => (∃ x : Int32, r = some (.int x) ∧ (∃ okZq q : Int, rpr hBZq e 1 (p1Zq.toInt) ((M0.1 175 14).toInt) okZq q ∧ (M'.1 175 14).toInt = q ∧ (M0.1 175 14).toInt ≤ q ∧ q ≤ e ∧ ((okZq = 1 ∧ (M'.1 175 15).toInt = -1) ∨ (okZq = 0 ∧ (M'.1 175 15).toInt = q)))) ∧ li_fs (fun i k => (i = 175 ∧ k = 14) ∨ (i = 175 ∧ k = 15)) M0 M' ∧ li_J M') := by
  refine li_enter (by decide +kernel) (Nat.le_of_ble_eq_true rfl) ?_
  show li_T l Z YX12_sum d 0 [(0, .ref (Z.2.2 175)), (1, .int p1Zq)] [] M0 _
  have hf : li_fs (fun i k => (i = 175 ∧ k = 14) ∨ (i = 175 ∧ k = 15)) M0 M0 := li_fs_refl
  have gp1 := tl_rg p1Zq
  have rM0_12 := J_sl12 (M := M0) hJ
  have rM0_13 := J_sl13 (M := M0) hJ
  have rM0_14 := J_sl14 (M := M0) hJ
  have rM0_15 := J_sl15 (M := M0) hJ
  refine li_aload_n 0 dX12_sum_0 rfl ?_
  refine li_iload_n 1 dX12_sum_1 rfl ?_
  refine li_callV (n := 1) (As := [.int p1Zq]) dX12_sum_2 (PRZq p1Zq M0 hJ bM0 ((congrArg li_by (funext fun i => hf.1 180 i ((fun i => (show ¬ ((180 = 175 ∧ i = 14) ∨ (180 = 175 ∧ i = 15)) by first | (simp; done) | omega)) i))).trans hhB) (by rw [show (M0.1 175 12).toInt = (M0.1 175 12).toInt from Int.le_antisymm (by omega) (by omega), show (M0.1 175 13).toInt = (M0.1 175 13).toInt from Int.le_antisymm (by omega) (by omega)]; exact he) (by omega) (by omega) (Int.le_antisymm (by omega) (by omega)) ⟨by omega, by omega⟩) (by omega) (Nat.le_of_ble_eq_true rfl) w_1633 w_1635 w_54 w_112 w_1636 (by decide +kernel) rfl (by decide) sh_175 rfl rfl (Nat.le_of_ble_eq_true rfl) (fun r M2Zq h3 => ?_)
  obtain ⟨⟨x1Zq, rfl, qx1⟩, h3, jM2⟩ := h3
  have gx1 := tl_rg x1Zq
  have hf := li_fs_trans hf h3 (fun i k => fun hZq => Or.elim hZq (fun hZq => Or.inl hZq) (fun hZq => Or.inr hZq))
  have hJ := jM2
  have rM2_12 := J_sl12 (M := M2Zq) hJ
  have rM2_13 := J_sl13 (M := M2Zq) hJ
  have rM2_14 := J_sl14 (M := M2Zq) hJ
  have rM2_15 := J_sl15 (M := M2Zq) hJ
  have mM2_12 : (M2Zq.1 175 12).toInt = (M0.1 175 12).toInt := tl_slot (h3.1 175 12 (show ¬ ((175 = 175 ∧ 12 = 14) ∨ (175 = 175 ∧ 12 = 15)) by decide))
  have mM2_13 : (M2Zq.1 175 13).toInt = (M0.1 175 13).toInt := tl_slot (h3.1 175 13 (show ¬ ((175 = 175 ∧ 13 = 14) ∨ (175 = 175 ∧ 13 = 15)) by decide))
  have bM2 : M2Zq.2.2 0 = some 180 := (h3.2.2 0 (fun h9 => by first | exact (h9 : False).elim | (simp at h9; done) | omega)).trans bM0
  obtain ⟨okA, qA, ra, ea1, ea2, ea3, ea4⟩ := qx1
  refine li_istore_n [(2, .int x1Zq), (0, .ref (Z.2.2 175)), (1, .int p1Zq)] dX12_sum_5 (by decide) rfl ?_
  have L6Zq : ∀ (n : Nat) (x4Zq : Int32) (M5Zq : li_M), (81 - (M5Zq.1 175 14).toInt).toNat < n → li_fs (fun i k => (i = 175 ∧ k = 14) ∨ (i = 175 ∧ k = 15)) M0 M5Zq → li_J M5Zq → (M0.1 175 14).toInt ≤ (M5Zq.1 175 14).toInt ∧ (M5Zq.1 175 14).toInt ≤ e ∧ (M5Zq.1 175 12).toInt = (M0.1 175 12).toInt ∧ (M5Zq.1 175 13).toInt = (M0.1 175 13).toInt ∧ li_hd (((M5Zq.1 175 15).toInt = -1 ∧ li_rk hBZq e 1 (p1Zq.toInt) ((M0.1 175 14).toInt) 2 (p1Zq.toInt) ((M5Zq.1 175 14).toInt)) ∨ (¬ (M5Zq.1 175 15).toInt = -1 ∧ (M5Zq.1 175 15).toInt = (M5Zq.1 175 14).toInt ∧ rpr hBZq e 1 (p1Zq.toInt) ((M0.1 175 14).toInt) 0 ((M5Zq.1 175 14).toInt))) → M5Zq.2.2 0 = some 180 → li_T l Z YX12_sum d 6 [(2, .int x4Zq), (0, .ref (Z.2.2 175)), (1, .int p1Zq)] [] M5Zq (fun r M' => (∃ x : Int32, r = some (.int x) ∧ (∃ okZq q : Int, rpr hBZq e 1 (p1Zq.toInt) ((M0.1 175 14).toInt) okZq q ∧ (M'.1 175 14).toInt = q ∧ (M0.1 175 14).toInt ≤ q ∧ q ≤ e ∧ ((okZq = 1 ∧ (M'.1 175 15).toInt = -1) ∨ (okZq = 0 ∧ (M'.1 175 15).toInt = q)))) ∧ li_fs (fun i k => (i = 175 ∧ k = 14) ∨ (i = 175 ∧ k = 15)) M0 M' ∧ li_J M') := by
    try clear okA
    try clear qA
    try clear ra
    try clear ea1
    try clear ea2
    try clear ea3
    try clear ea4
    try clear bM2
    try clear mM2_13
    try clear mM2_12
    try clear rM2_15
    try clear rM2_14
    try clear rM2_13
    try clear rM2_12
    try clear gx1
    try clear qx1
    try clear h3
    try clear jM2
    try clear rM0_15
    try clear rM0_14
    try clear rM0_13
    try clear rM0_12
    intro n
    induction n with
    | zero => intro x4Zq M5Zq hn; exact absurd hn (Nat.not_lt_zero _)
    | succ n ih6 =>
      intro x4Zq M5Zq hn hf hJ hiZq bM5
      have gx4 := tl_rg x4Zq
      have rM5_12 := J_sl12 (M := M5Zq) hJ
      have rM5_13 := J_sl13 (M := M5Zq) hJ
      have rM5_14 := J_sl14 (M := M5Zq) hJ
      have rM5_15 := J_sl15 (M := M5Zq) hJ
      have mM5_12 : (M5Zq.1 175 12).toInt = (M0.1 175 12).toInt := tl_slot (hf.1 175 12 (show ¬ ((175 = 175 ∧ 12 = 14) ∨ (175 = 175 ∧ 12 = 15)) by decide))
      have mM5_13 : (M5Zq.1 175 13).toInt = (M0.1 175 13).toInt := tl_slot (hf.1 175 13 (show ¬ ((175 = 175 ∧ 13 = 14) ∨ (175 = 175 ∧ 13 = 15)) by decide))
      obtain ⟨i0Zq, i1Zq, i2Zq, i3Zq, i4Zq⟩ := hiZq
      refine li_aload_n 1 dX12_sum_6 rfl ?_
      refine li_callV (n := 0) (As := []) dX12_sum_7 (k_X12_fine (d - 1) (by omega)  M5Zq hJ ) (by omega) (Nat.le_of_ble_eq_true rfl) w_1581 w_1583 w_43 w_112 w_1584 (by decide +kernel) rfl (by decide) sh_175 rfl rfl (Nat.le_of_ble_eq_true rfl) (fun r M7Zq h8 => ?_)
      obtain ⟨qx6, h8, jM7⟩ := h8
      have hf := li_fs_trans hf h8 (fun i k hZq => False.elim hZq)
      have kM7 : (li_hr M7Zq).toInt = (li_hr M5Zq).toInt := li_hr_fs h8 id id id id (fun _ _ _ => id) (by assumption)
      have hJ := jM7
      have rM7_12 := J_sl12 (M := M7Zq) hJ
      have rM7_13 := J_sl13 (M := M7Zq) hJ
      have rM7_14 := J_sl14 (M := M7Zq) hJ
      have rM7_15 := J_sl15 (M := M7Zq) hJ
      have mM7_12 : (M7Zq.1 175 12).toInt = (M5Zq.1 175 12).toInt := tl_slot (h8.1 175 12 id)
      have mM7_13 : (M7Zq.1 175 13).toInt = (M5Zq.1 175 13).toInt := tl_slot (h8.1 175 13 id)
      have mM7_14 : (M7Zq.1 175 14).toInt = (M5Zq.1 175 14).toInt := tl_slot (h8.1 175 14 id)
      have mM7_15 : (M7Zq.1 175 15).toInt = (M5Zq.1 175 15).toInt := tl_slot (h8.1 175 15 id)
      have bM7 : M7Zq.2.2 0 = some 180 := (h8.2.2 0 (fun h9 => by first | exact (h9 : False).elim | (simp at h9; done) | omega)).trans bM5
      rcases qx6 with ⟨rfl, qx6⟩ | ⟨rfl, qx6⟩
      · skip
        refine li_if_eq 82 dX12_sum_10 (by decide) (fun cZq => absurd cZq (by decide)) (fun cZq => ?_)
        obtain ⟨A1, hA1⟩ : ∃ zZq : Int, zZq = (M7Zq.1 175 14).toInt := ⟨_, rfl⟩
        have rkq : li_rk hBZq e 1 (p1Zq.toInt) ((M0.1 175 14).toInt) 2 (p1Zq.toInt) A1 := rk_to (Or.resolve_right i4Zq (fun h9 => h9.1 (Int.le_antisymm (by omega) (by omega)))).2 (Int.le_antisymm (by omega) (by omega))
        clear i4Zq
        refine li_aload_n 1 dX12_sum_13 rfl ?_
        have ch14 : (li_hr M7Zq).toInt = rd_ch hBZq e (A1) := (hr_pt bM7 (by omega) rfl (by rw [show (M7Zq.1 175 12).toInt = (M0.1 175 12).toInt from Int.le_antisymm (by omega) (by omega), show (M7Zq.1 175 13).toInt = (M0.1 175 13).toInt from Int.le_antisymm (by omega) (by omega)]; exact he) (Int.le_antisymm (by omega) (by omega))).trans (congrArg (fun zZq => rd_ch zZq e (A1)) ((congrArg li_by (funext fun i => hf.1 180 i ((fun i => (show ¬ ((180 = 175 ∧ i = 14) ∨ (180 = 175 ∧ i = 15)) by first | (simp; done) | omega)) i))).trans hhB))
        refine li_callV (n := 0) (As := []) dX12_sum_14 (k_X12_here (d - 1) (by omega)  M7Zq hJ ) (by omega) (Nat.le_of_ble_eq_true rfl) w_1597 w_1599 w_47 w_112 w_1600 (by decide +kernel) rfl (by decide) sh_175 rfl rfl (Nat.le_of_ble_eq_true rfl) (fun r M11 h12 => ?_)
        obtain ⟨⟨x10, rfl, qx10⟩, h12, jM11⟩ := h12
        have gx10 := tl_rg x10
        have hf := li_fs_trans hf h12 (fun i k hZq => False.elim hZq)
        have kM11 : (li_hr M11).toInt = (li_hr M7Zq).toInt := li_hr_fs h12 id id id id (fun _ _ _ => id) (by assumption)
        have hJ := jM11
        have rM11_12 := J_sl12 (M := M11) hJ
        have rM11_13 := J_sl13 (M := M11) hJ
        have rM11_14 := J_sl14 (M := M11) hJ
        have rM11_15 := J_sl15 (M := M11) hJ
        have mM11_12 : (M11.1 175 12).toInt = (M7Zq.1 175 12).toInt := tl_slot (h12.1 175 12 id)
        have mM11_13 : (M11.1 175 13).toInt = (M7Zq.1 175 13).toInt := tl_slot (h12.1 175 13 id)
        have mM11_14 : (M11.1 175 14).toInt = (M7Zq.1 175 14).toInt := tl_slot (h12.1 175 14 id)
        have mM11_15 : (M11.1 175 15).toInt = (M7Zq.1 175 15).toInt := tl_slot (h12.1 175 15 id)
        have bM11 : M11.2.2 0 = some 180 := (h12.2.2 0 (fun h9 => by first | exact (h9 : False).elim | (simp at h9; done) | omega)).trans bM7
        have h14x : x10.toInt = rd_ch hBZq e A1 := Int.le_antisymm (by omega) (by omega)
        refine li_bipush 43 dX12_sum_17 (by decide) ?_
        refine li_icmp_eq 31 dX12_sum_19 (by decide) (fun c13Zq => ?_) (fun c13Zq => ?_)
        · have tc13 : x10.toInt = 43 := tl_eq c13Zq
          have cCq : rp_add (rd_ch hBZq e A1) := by unfold rp_add; omega
          refine li_aload_n 1 dX12_sum_31 rfl ?_
          refine li_callV (n := 0) (As := []) dX12_sum_32 (k_X12_here (d - 1) (by omega)  M11 hJ ) (by omega) (Nat.le_of_ble_eq_true rfl) w_1597 w_1599 w_47 w_112 w_1600 (by decide +kernel) rfl (by decide) sh_175 rfl rfl (Nat.le_of_ble_eq_true rfl) (fun r M15 h16Zq => ?_)
          obtain ⟨⟨x14, rfl, qx14⟩, h16Zq, jM15⟩ := h16Zq
          have gx14 := tl_rg x14
          have hf := li_fs_trans hf h16Zq (fun i k hZq => False.elim hZq)
          have kM15 : (li_hr M15).toInt = (li_hr M11).toInt := li_hr_fs h16Zq id id id id (fun _ _ _ => id) (by assumption)
          have hJ := jM15
          have rM15_12 := J_sl12 (M := M15) hJ
          have rM15_13 := J_sl13 (M := M15) hJ
          have rM15_14 := J_sl14 (M := M15) hJ
          have rM15_15 := J_sl15 (M := M15) hJ
          have mM15_12 : (M15.1 175 12).toInt = (M11.1 175 12).toInt := tl_slot (h16Zq.1 175 12 id)
          have mM15_13 : (M15.1 175 13).toInt = (M11.1 175 13).toInt := tl_slot (h16Zq.1 175 13 id)
          have mM15_14 : (M15.1 175 14).toInt = (M11.1 175 14).toInt := tl_slot (h16Zq.1 175 14 id)
          have mM15_15 : (M15.1 175 15).toInt = (M11.1 175 15).toInt := tl_slot (h16Zq.1 175 15 id)
          have bM15 : M15.2.2 0 = some 180 := (h16Zq.2.2 0 (fun h9 => by first | exact (h9 : False).elim | (simp at h9; done) | omega)).trans bM11
          refine li_bipush 43 dX12_sum_35 (by decide) ?_
          have J45 : ∀ (x18 : Int32) (M19 : li_M), li_fs (fun i k => (i = 175 ∧ k = 14) ∨ (i = 175 ∧ k = 15)) M0 M19 → li_J M19 → (M0.1 175 14).toInt ≤ (M19.1 175 14).toInt ∧ (M5Zq.1 175 14).toInt = (M19.1 175 14).toInt ∧ (M19.1 175 12).toInt = (M0.1 175 12).toInt ∧ (M19.1 175 13).toInt = (M0.1 175 13).toInt ∧ (M19.1 175 15).toInt = -1 ∧ (M19.1 175 14).toInt ≤ e ∧ li_rk hBZq e 1 (p1Zq.toInt) ((M0.1 175 14).toInt) 2 (p1Zq.toInt) ((M19.1 175 14).toInt) ∧ rp_add (rd_ch hBZq e ((M19.1 175 14).toInt)) → M19.2.2 0 = some 180 → li_T l Z YX12_sum d 45 [(2, .int x4Zq), (0, .ref (Z.2.2 175)), (1, .int p1Zq)] [.int x18] M19 (fun r M' => (∃ x : Int32, r = some (.int x) ∧ (∃ okZq q : Int, rpr hBZq e 1 (p1Zq.toInt) ((M0.1 175 14).toInt) okZq q ∧ (M'.1 175 14).toInt = q ∧ (M0.1 175 14).toInt ≤ q ∧ q ≤ e ∧ ((okZq = 1 ∧ (M'.1 175 15).toInt = -1) ∨ (okZq = 0 ∧ (M'.1 175 15).toInt = q)))) ∧ li_fs (fun i k => (i = 175 ∧ k = 14) ∨ (i = 175 ∧ k = 15)) M0 M' ∧ li_J M') := by
            try clear bM15
            try clear mM15_15
            try clear mM15_14
            try clear mM15_13
            try clear mM15_12
            try clear rM15_15
            try clear rM15_14
            try clear rM15_13
            try clear rM15_12
            try clear kM15
            try clear gx14
            try clear qx14
            try clear h16Zq
            try clear jM15
            try clear cCq
            try clear tc13
            try clear h14x
            try clear bM11
            try clear mM11_15
            try clear mM11_14
            try clear mM11_13
            try clear mM11_12
            try clear rM11_15
            try clear rM11_14
            try clear rM11_13
            try clear rM11_12
            try clear kM11
            try clear gx10
            try clear qx10
            try clear h12
            try clear jM11
            try clear ch14
            try clear rkq
            try clear hA1
            try clear cZq
            try clear bM7
            try clear mM7_15
            try clear mM7_14
            try clear mM7_13
            try clear mM7_12
            try clear rM7_15
            try clear rM7_14
            try clear rM7_13
            try clear rM7_12
            try clear kM7
            try clear qx6
            try clear h8
            try clear jM7
            try clear i0Zq
            try clear i1Zq
            try clear i2Zq
            try clear i3Zq
            try clear i4Zq
            try clear mM5_13
            try clear mM5_12
            try clear rM5_15
            try clear rM5_14
            try clear rM5_13
            try clear rM5_12
            try clear okA
            try clear qA
            try clear ra
            try clear ea1
            try clear ea2
            try clear ea3
            try clear ea4
            try clear bM2
            try clear mM2_13
            try clear mM2_12
            try clear rM2_15
            try clear rM2_14
            try clear rM2_13
            try clear rM2_12
            try clear gx1
            try clear qx1
            try clear h3
            try clear jM2
            try clear rM0_15
            try clear rM0_14
            try clear rM0_13
            try clear rM0_12
            try clear hiZq
            intro x18 M19 hf hJ hiZq bM19
            have gx18 := tl_rg x18
            have rM19_12 := J_sl12 (M := M19) hJ
            have rM19_13 := J_sl13 (M := M19) hJ
            have rM19_14 := J_sl14 (M := M19) hJ
            have rM19_15 := J_sl15 (M := M19) hJ
            have mM19_12 : (M19.1 175 12).toInt = (M0.1 175 12).toInt := tl_slot (hf.1 175 12 (show ¬ ((175 = 175 ∧ 12 = 14) ∨ (175 = 175 ∧ 12 = 15)) by decide))
            have mM19_13 : (M19.1 175 13).toInt = (M0.1 175 13).toInt := tl_slot (hf.1 175 13 (show ¬ ((175 = 175 ∧ 13 = 14) ∨ (175 = 175 ∧ 13 = 15)) by decide))
            obtain ⟨k0Zq, k1Zq, k2Zq, k3Zq, k4Zq, k6Zq, k9, kCZq⟩ := hiZq
            have lt45 := rd_lt (rp_add_nn kCZq)
            refine li_istore_n [(3, .int x18), (2, .int x4Zq), (0, .ref (Z.2.2 175)), (1, .int p1Zq)] dX12_sum_45 (by decide) rfl ?_
            refine li_aload_n 2 dX12_sum_46 rfl ?_
            refine li_dup dX12_sum_47 rfl ?_
            refine li_geti (k := 14) (N := 52) (T := TX12) (C0 := RX12) dX12_sum_48 (by decide) sh_175 rfl rfl (by decide) li_in12 w_1418 ?_
            refine li_top (fun x20 ex20 => ?_)
            have gx20 : 0 ≤ x20.toInt ∧ x20.toInt ≤ 81 := by rw [ex20]; exact J_sl14 hJ
            have mx20 : x20.toInt = (M19.1 175 14).toInt := tl_slot ex20
            refine li_iconst 1 dX12_sum_51 (by decide) ?_
            refine li_iadd dX12_sum_52 ?_
            refine li_top (fun x21 ex21 => ?_)
            have z1 : (1 : Int32).toInt = 1 := rfl
            try (have tx21 : x21.toInt = (x20 : Int32).toInt + (1 : Int32).toInt := tl_add ex21 ⟨by omega, by omega⟩)
            refine li_puti (k := 14) (N := 52) (T := TX12) (C0 := RX12) dX12_sum_53 (by decide) sh_175 rfl rfl (by decide) li_in12 tyX12_ok nmX12 rfl rfl rfl rfl w_1418 ?_
            refine li_nm (fun M22 eM22 => ?_)
            have hf := li_fs_ui hf (Or.inl ⟨rfl, rfl⟩) eM22
            have hJ := J_pt14 hJ (show 0 ≤ (x21 : Int32).toInt ∧ (x21 : Int32).toInt ≤ 81 from ⟨(by omega), (by omega)⟩) eM22
            have rM22_12 := J_sl12 (M := M22) hJ
            have rM22_13 := J_sl13 (M := M22) hJ
            have rM22_14 := J_sl14 (M := M22) hJ
            have rM22_15 := J_sl15 (M := M22) hJ
            have mM22_12 : (M22.1 175 12).toInt = (M19.1 175 12).toInt := by rw [eM22, li_ui_at, if_pos rfl, if_neg (by decide)]
            have mM22_13 : (M22.1 175 13).toInt = (M19.1 175 13).toInt := by rw [eM22, li_ui_at, if_pos rfl, if_neg (by decide)]
            have mM22_14 : (M22.1 175 14).toInt = x21.toInt := by rw [eM22, li_ui_at, if_pos rfl, if_pos rfl]
            have mM22_15 : (M22.1 175 15).toInt = (M19.1 175 15).toInt := by rw [eM22, li_ui_at, if_pos rfl, if_neg (by decide)]
            have bM22 : M22.2.2 0 = some 180 := by rw [eM22]; exact bM19
            refine li_aload_n 2 dX12_sum_56 rfl ?_
            refine li_iload_n 3 dX12_sum_57 rfl ?_
            refine li_callV (n := 1) (As := [.int p1Zq]) dX12_sum_58 (PRZq p1Zq M22 hJ bM22 ((congrArg li_by (funext fun i => hf.1 180 i ((fun i => (show ¬ ((180 = 175 ∧ i = 14) ∨ (180 = 175 ∧ i = 15)) by first | (simp; done) | omega)) i))).trans hhB) (by rw [show (M22.1 175 12).toInt = (M0.1 175 12).toInt from Int.le_antisymm (by omega) (by omega), show (M22.1 175 13).toInt = (M0.1 175 13).toInt from Int.le_antisymm (by omega) (by omega)]; exact he) (by omega) (by omega) (Int.le_antisymm (by omega) (by omega)) ⟨by omega, by omega⟩) (by omega) (Nat.le_of_ble_eq_true rfl) w_1633 w_1635 w_54 w_112 w_1636 (by decide +kernel) rfl (by decide) sh_175 rfl rfl (Nat.le_of_ble_eq_true rfl) (fun r M24 h25 => ?_)
            obtain ⟨⟨x23, rfl, qx23⟩, h25, jM24⟩ := h25
            have gx23 := tl_rg x23
            have hf := li_fs_trans hf h25 (fun i k => fun hZq => Or.elim hZq (fun hZq => Or.inl hZq) (fun hZq => Or.inr hZq))
            have hJ := jM24
            have rM24_12 := J_sl12 (M := M24) hJ
            have rM24_13 := J_sl13 (M := M24) hJ
            have rM24_14 := J_sl14 (M := M24) hJ
            have rM24_15 := J_sl15 (M := M24) hJ
            have mM24_12 : (M24.1 175 12).toInt = (M22.1 175 12).toInt := tl_slot (h25.1 175 12 (show ¬ ((175 = 175 ∧ 12 = 14) ∨ (175 = 175 ∧ 12 = 15)) by decide))
            have mM24_13 : (M24.1 175 13).toInt = (M22.1 175 13).toInt := tl_slot (h25.1 175 13 (show ¬ ((175 = 175 ∧ 13 = 14) ∨ (175 = 175 ∧ 13 = 15)) by decide))
            have bM24 : M24.2.2 0 = some 180 := (h25.2.2 0 (fun h9 => by first | exact (h9 : False).elim | (simp at h9; done) | omega)).trans bM22
            obtain ⟨okB, qB, rb, eb1, eb2, eb3, eb4⟩ := qx23
            refine li_istore [(4, .int x23), (3, .int x18), (2, .int x4Zq), (0, .ref (Z.2.2 175)), (1, .int p1Zq)] dX12_sum_61 (by decide) rfl ?_
            refine li_iload_n 1 dX12_sum_63 rfl ?_
            have J78 : ∀ (x27 : Int32) (M28 : li_M), li_fs (fun i k => (i = 175 ∧ k = 14) ∨ (i = 175 ∧ k = 15)) M0 M28 → li_J M28 → (M0.1 175 14).toInt ≤ (M28.1 175 14).toInt ∧ (M28.1 175 14).toInt ≤ e ∧ (M28.1 175 12).toInt = (M0.1 175 12).toInt ∧ (M28.1 175 13).toInt = (M0.1 175 13).toInt ∧ (M5Zq.1 175 14).toInt + 1 ≤ (M28.1 175 14).toInt ∧ li_hd (((M28.1 175 15).toInt = -1 ∧ li_rk hBZq e 1 (p1Zq.toInt) ((M0.1 175 14).toInt) 2 (p1Zq.toInt) ((M28.1 175 14).toInt)) ∨ (¬ (M28.1 175 15).toInt = -1 ∧ (M28.1 175 15).toInt = (M28.1 175 14).toInt ∧ rpr hBZq e 1 (p1Zq.toInt) ((M0.1 175 14).toInt) 0 ((M28.1 175 14).toInt))) → M28.2.2 0 = some 180 → li_T l Z YX12_sum d 78 [(4, .int x23), (3, .int x18), (2, .int x4Zq), (0, .ref (Z.2.2 175)), (1, .int p1Zq)] [.int x27] M28 (fun r M' => (∃ x : Int32, r = some (.int x) ∧ (∃ okZq q : Int, rpr hBZq e 1 (p1Zq.toInt) ((M0.1 175 14).toInt) okZq q ∧ (M'.1 175 14).toInt = q ∧ (M0.1 175 14).toInt ≤ q ∧ q ≤ e ∧ ((okZq = 1 ∧ (M'.1 175 15).toInt = -1) ∨ (okZq = 0 ∧ (M'.1 175 15).toInt = q)))) ∧ li_fs (fun i k => (i = 175 ∧ k = 14) ∨ (i = 175 ∧ k = 15)) M0 M' ∧ li_J M') := by
              try clear okB
              try clear qB
              try clear rb
              try clear eb1
              try clear eb2
              try clear eb3
              try clear eb4
              try clear bM24
              try clear mM24_13
              try clear mM24_12
              try clear rM24_15
              try clear rM24_14
              try clear rM24_13
              try clear rM24_12
              try clear qx23
              try clear h25
              try clear jM24
              try clear bM22
              try clear mM22_15
              try clear mM22_14
              try clear mM22_13
              try clear mM22_12
              try clear rM22_15
              try clear rM22_14
              try clear rM22_13
              try clear rM22_12
              try clear eM22
              try clear tx21
              try clear ex21
              try clear mx20
              try clear gx20
              try clear ex20
              try clear lt45
              try clear k0Zq
              try clear k1Zq
              try clear k2Zq
              try clear k3Zq
              try clear k4Zq
              try clear k6Zq
              try clear k9
              try clear kCZq
              try clear mM19_13
              try clear mM19_12
              try clear rM19_15
              try clear rM19_14
              try clear rM19_13
              try clear rM19_12
              try clear bM15
              try clear mM15_15
              try clear mM15_14
              try clear mM15_13
              try clear mM15_12
              try clear rM15_15
              try clear rM15_14
              try clear rM15_13
              try clear rM15_12
              try clear kM15
              try clear gx14
              try clear qx14
              try clear h16Zq
              try clear jM15
              try clear cCq
              try clear tc13
              try clear h14x
              try clear bM11
              try clear mM11_15
              try clear mM11_14
              try clear mM11_13
              try clear mM11_12
              try clear rM11_15
              try clear rM11_14
              try clear rM11_13
              try clear rM11_12
              try clear kM11
              try clear gx10
              try clear qx10
              try clear h12
              try clear jM11
              try clear ch14
              try clear rkq
              try clear hA1
              try clear cZq
              try clear bM7
              try clear mM7_15
              try clear mM7_14
              try clear mM7_13
              try clear mM7_12
              try clear rM7_15
              try clear rM7_14
              try clear rM7_13
              try clear rM7_12
              try clear kM7
              try clear qx6
              try clear h8
              try clear jM7
              try clear i0Zq
              try clear i1Zq
              try clear i2Zq
              try clear i3Zq
              try clear i4Zq
              try clear mM5_13
              try clear mM5_12
              try clear rM5_15
              try clear rM5_14
              try clear rM5_13
              try clear rM5_12
              try clear okA
              try clear qA
              try clear ra
              try clear ea1
              try clear ea2
              try clear ea3
              try clear ea4
              try clear bM2
              try clear mM2_13
              try clear mM2_12
              try clear rM2_15
              try clear rM2_14
              try clear rM2_13
              try clear rM2_12
              try clear gx1
              try clear qx1
              try clear h3
              try clear jM2
              try clear rM0_15
              try clear rM0_14
              try clear rM0_13
              try clear rM0_12
              try clear hiZq
              try clear hiZq
              intro x27 M28 hf hJ hiZq bM28
              have gx27 := tl_rg x27
              have rM28_12 := J_sl12 (M := M28) hJ
              have rM28_13 := J_sl13 (M := M28) hJ
              have rM28_14 := J_sl14 (M := M28) hJ
              have rM28_15 := J_sl15 (M := M28) hJ
              have mM28_12 : (M28.1 175 12).toInt = (M0.1 175 12).toInt := tl_slot (hf.1 175 12 (show ¬ ((175 = 175 ∧ 12 = 14) ∨ (175 = 175 ∧ 12 = 15)) by decide))
              have mM28_13 : (M28.1 175 13).toInt = (M0.1 175 13).toInt := tl_slot (hf.1 175 13 (show ¬ ((175 = 175 ∧ 13 = 14) ∨ (175 = 175 ∧ 13 = 15)) by decide))
              obtain ⟨k0Zq, k1Zq, k2Zq, k3Zq, k4Zq, k5Zq⟩ := hiZq
              refine li_istore_n [(2, .int x27), (4, .int x23), (3, .int x18), (0, .ref (Z.2.2 175)), (1, .int p1Zq)] dX12_sum_78 (by decide) rfl ?_
              refine li_goto 6 dX12_sum_79 (by decide) ?_
              refine li_pick [0, 3, 4] [(2, .int x27), (0, .ref (Z.2.2 175)), (1, .int p1Zq)] rfl ?_
              exact ih6 x27 M28 (by omega) hf hJ ⟨(by omega), (by omega), (Int.le_antisymm (by omega) (by omega)), (Int.le_antisymm (by omega) (by omega)), (by first | (exact Or.elim k5Zq (fun cZq => Or.inl ⟨cZq.1, cZq.2⟩) (fun cZq => Or.inr cZq)) | (rcases ea4 with cZq | cZq; exact Or.inl ⟨cZq.2, rk_to (rk_2 (rp_to ra rfl rfl cZq.1.symm rfl)) (Int.le_antisymm (by omega) (by omega))⟩; exact Or.inr ⟨by omega, Int.le_antisymm (by omega) (by omega), rk_1f (rp_to ra rfl rfl cZq.1.symm (Int.le_antisymm (by omega) (by omega)))⟩))⟩ bM28
            refine li_if_eq 74 dX12_sum_64 (by decide) (fun c26 => ?_) (fun c26 => ?_)
            · have tc26 : x18.toInt = 0 := tl_eq c26
              refine li_iload_n 2 dX12_sum_74 rfl ?_
              refine li_iload 0 dX12_sum_75 rfl ?_
              refine li_isub dX12_sum_77 ?_
              refine li_top (fun x29 ex29 => ?_)
              try (have tx29 : x29.toInt = (x4Zq : Int32).toInt - (x23 : Int32).toInt := tl_sub ex29 ⟨by omega, by omega⟩)
              refine li_pick [0, 1, 2, 3, 4] [(4, .int x23), (3, .int x18), (2, .int x4Zq), (0, .ref (Z.2.2 175)), (1, .int p1Zq)] rfl ?_
              exact J78 x29 M24 hf hJ ⟨(by omega), (by omega), (Int.le_antisymm (by omega) (by omega)), (Int.le_antisymm (by omega) (by omega)), (by omega), (by first | (rcases eb4 with cZq | cZq; exact Or.inl ⟨cZq.2, rk_to (rk_2s k9 kCZq (rp_to rb rfl (Int.le_antisymm (by omega) (by omega)) cZq.1.symm rfl)) (Int.le_antisymm (by omega) (by omega))⟩; exact Or.inr ⟨by omega, Int.le_antisymm (by omega) (by omega), rp_to (rk_2f k9 kCZq (rp_to rb rfl (Int.le_antisymm (by omega) (by omega)) cZq.1.symm rfl)) rfl rfl rfl (Int.le_antisymm (by omega) (by omega))⟩))⟩ bM24
            · have tc26 : ¬ x18.toInt = 0 := tl_ne c26
              refine li_iload_n 2 dX12_sum_67 rfl ?_
              refine li_iload 0 dX12_sum_68 rfl ?_
              refine li_iadd dX12_sum_70 ?_
              refine li_top (fun x30 ex30 => ?_)
              try (have tx30 : x30.toInt = (x4Zq : Int32).toInt + (x23 : Int32).toInt := tl_add ex30 ⟨by omega, by omega⟩)
              refine li_goto 78 dX12_sum_71 (by decide) ?_
              refine li_pick [0, 1, 2, 3, 4] [(4, .int x23), (3, .int x18), (2, .int x4Zq), (0, .ref (Z.2.2 175)), (1, .int p1Zq)] rfl ?_
              exact J78 x30 M24 hf hJ ⟨(by omega), (by omega), (Int.le_antisymm (by omega) (by omega)), (Int.le_antisymm (by omega) (by omega)), (by omega), (by first | (rcases eb4 with cZq | cZq; exact Or.inl ⟨cZq.2, rk_to (rk_2s k9 kCZq (rp_to rb rfl (Int.le_antisymm (by omega) (by omega)) cZq.1.symm rfl)) (Int.le_antisymm (by omega) (by omega))⟩; exact Or.inr ⟨by omega, Int.le_antisymm (by omega) (by omega), rp_to (rk_2f k9 kCZq (rp_to rb rfl (Int.le_antisymm (by omega) (by omega)) cZq.1.symm rfl)) rfl rfl rfl (Int.le_antisymm (by omega) (by omega))⟩))⟩ bM24
          refine li_icmp_ne 44 dX12_sum_37 (by decide) (fun c17 => ?_) (fun c17 => ?_)
          · have tc17 : ¬ x14.toInt = 43 := tl_ne c17
            refine li_iconst 0 dX12_sum_44 (by decide) ?_
            refine li_pick [0, 1, 2] [(2, .int x4Zq), (0, .ref (Z.2.2 175)), (1, .int p1Zq)] rfl ?_
            have z0 : (0 : Int32).toInt = 0 := rfl
            exact J45 0 M15 hf hJ ⟨(by omega), (Int.le_antisymm (by omega) (by omega)), (Int.le_antisymm (by omega) (by omega)), (Int.le_antisymm (by omega) (by omega)), (Int.le_antisymm (by omega) (by omega)), (by omega), (rk_to rkq (Int.le_antisymm (by omega) (by omega))), (by exact rp_mv2 cCq (Int.le_antisymm (by omega) (by omega)))⟩ bM15
          · have tc17 : x14.toInt = 43 := tl_eq c17
            refine li_iconst 1 dX12_sum_40 (by decide) ?_
            refine li_goto 45 dX12_sum_41 (by decide) ?_
            refine li_pick [0, 1, 2] [(2, .int x4Zq), (0, .ref (Z.2.2 175)), (1, .int p1Zq)] rfl ?_
            have z1 : (1 : Int32).toInt = 1 := rfl
            exact J45 1 M15 hf hJ ⟨(by omega), (Int.le_antisymm (by omega) (by omega)), (Int.le_antisymm (by omega) (by omega)), (Int.le_antisymm (by omega) (by omega)), (Int.le_antisymm (by omega) (by omega)), (by omega), (rk_to rkq (Int.le_antisymm (by omega) (by omega))), (by exact rp_mv2 cCq (Int.le_antisymm (by omega) (by omega)))⟩ bM15
        · have tc13 : ¬ x10.toInt = 43 := tl_ne c13Zq
          refine li_aload_n 1 dX12_sum_22 rfl ?_
          have ch23 : (li_hr M11).toInt = rd_ch hBZq e (A1) := (hr_pt bM11 (by omega) rfl (by rw [show (M11.1 175 12).toInt = (M0.1 175 12).toInt from Int.le_antisymm (by omega) (by omega), show (M11.1 175 13).toInt = (M0.1 175 13).toInt from Int.le_antisymm (by omega) (by omega)]; exact he) (Int.le_antisymm (by omega) (by omega))).trans (congrArg (fun zZq => rd_ch zZq e (A1)) ((congrArg li_by (funext fun i => hf.1 180 i ((fun i => (show ¬ ((180 = 175 ∧ i = 14) ∨ (180 = 175 ∧ i = 15)) by first | (simp; done) | omega)) i))).trans hhB))
          refine li_callV (n := 0) (As := []) dX12_sum_23 (k_X12_here (d - 1) (by omega)  M11 hJ ) (by omega) (Nat.le_of_ble_eq_true rfl) w_1597 w_1599 w_47 w_112 w_1600 (by decide +kernel) rfl (by decide) sh_175 rfl rfl (Nat.le_of_ble_eq_true rfl) (fun r M32 h33 => ?_)
          obtain ⟨⟨x31, rfl, qx31⟩, h33, jM32⟩ := h33
          have gx31 := tl_rg x31
          have hf := li_fs_trans hf h33 (fun i k hZq => False.elim hZq)
          have kM32 : (li_hr M32).toInt = (li_hr M11).toInt := li_hr_fs h33 id id id id (fun _ _ _ => id) (by assumption)
          have hJ := jM32
          have rM32_12 := J_sl12 (M := M32) hJ
          have rM32_13 := J_sl13 (M := M32) hJ
          have rM32_14 := J_sl14 (M := M32) hJ
          have rM32_15 := J_sl15 (M := M32) hJ
          have mM32_12 : (M32.1 175 12).toInt = (M11.1 175 12).toInt := tl_slot (h33.1 175 12 id)
          have mM32_13 : (M32.1 175 13).toInt = (M11.1 175 13).toInt := tl_slot (h33.1 175 13 id)
          have mM32_14 : (M32.1 175 14).toInt = (M11.1 175 14).toInt := tl_slot (h33.1 175 14 id)
          have mM32_15 : (M32.1 175 15).toInt = (M11.1 175 15).toInt := tl_slot (h33.1 175 15 id)
          have bM32 : M32.2.2 0 = some 180 := (h33.2.2 0 (fun h9 => by first | exact (h9 : False).elim | (simp at h9; done) | omega)).trans bM11
          have h23x : x31.toInt = rd_ch hBZq e A1 := Int.le_antisymm (by omega) (by omega)
          refine li_bipush 45 dX12_sum_26 (by decide) ?_
          refine li_icmp_ne 82 dX12_sum_28 (by decide) (fun c34Zq => ?_) (fun c34Zq => ?_)
          · have tc34 : ¬ x31.toInt = 45 := tl_ne c34Zq
            have finZq : ∃ okZq q : Int, rpr hBZq e 1 (p1Zq.toInt) ((M0.1 175 14).toInt) okZq q ∧ (M32.1 175 14).toInt = q ∧ (M0.1 175 14).toInt ≤ q ∧ q ≤ e ∧ ((okZq = 1 ∧ (M32.1 175 15).toInt = -1) ∨ (okZq = 0 ∧ (M32.1 175 15).toInt = q)) := by
              first | (have nCq : ¬ rp_add (rd_ch hBZq e A1) := by unfold rp_add; omega) | skip
              first | exact ⟨1, A1, rk_2e rkq nCq, Int.le_antisymm (by omega) (by omega), by omega, by omega, Or.inl ⟨rfl, Int.le_antisymm (by omega) (by omega)⟩⟩ | (rcases i4Zq with cZq | cZq; exact absurd cZq.1 (by omega); exact ⟨0, _, rp_to cZq.2.2 rfl (Int.le_antisymm (by omega) (by omega)) rfl rfl, Int.le_antisymm (by omega) (by omega), by omega, by omega, Or.inr ⟨rfl, Int.le_antisymm (by omega) (by omega)⟩⟩)
            refine li_iload_n 0 dX12_sum_82 rfl ?_
            exact li_iret dX12_sum_83 rfl rfl ⟨⟨_, rfl, (by exact finZq)⟩, hf, hJ⟩
          · have tc34 : x31.toInt = 45 := tl_eq c34Zq
            have cCq : rp_add (rd_ch hBZq e A1) := by unfold rp_add; omega
            refine li_aload_n 1 dX12_sum_31 rfl ?_
            refine li_callV (n := 0) (As := []) dX12_sum_32 (k_X12_here (d - 1) (by omega)  M32 hJ ) (by omega) (Nat.le_of_ble_eq_true rfl) w_1597 w_1599 w_47 w_112 w_1600 (by decide +kernel) rfl (by decide) sh_175 rfl rfl (Nat.le_of_ble_eq_true rfl) (fun r M36 h37 => ?_)
            obtain ⟨⟨x35, rfl, qx35⟩, h37, jM36⟩ := h37
            have gx35 := tl_rg x35
            have hf := li_fs_trans hf h37 (fun i k hZq => False.elim hZq)
            have kM36 : (li_hr M36).toInt = (li_hr M32).toInt := li_hr_fs h37 id id id id (fun _ _ _ => id) (by assumption)
            have hJ := jM36
            have rM36_12 := J_sl12 (M := M36) hJ
            have rM36_13 := J_sl13 (M := M36) hJ
            have rM36_14 := J_sl14 (M := M36) hJ
            have rM36_15 := J_sl15 (M := M36) hJ
            have mM36_12 : (M36.1 175 12).toInt = (M32.1 175 12).toInt := tl_slot (h37.1 175 12 id)
            have mM36_13 : (M36.1 175 13).toInt = (M32.1 175 13).toInt := tl_slot (h37.1 175 13 id)
            have mM36_14 : (M36.1 175 14).toInt = (M32.1 175 14).toInt := tl_slot (h37.1 175 14 id)
            have mM36_15 : (M36.1 175 15).toInt = (M32.1 175 15).toInt := tl_slot (h37.1 175 15 id)
            have bM36 : M36.2.2 0 = some 180 := (h37.2.2 0 (fun h9 => by first | exact (h9 : False).elim | (simp at h9; done) | omega)).trans bM32
            refine li_bipush 43 dX12_sum_35 (by decide) ?_
            have J45 : ∀ (x39 : Int32) (M40 : li_M), li_fs (fun i k => (i = 175 ∧ k = 14) ∨ (i = 175 ∧ k = 15)) M0 M40 → li_J M40 → (M0.1 175 14).toInt ≤ (M40.1 175 14).toInt ∧ (M5Zq.1 175 14).toInt = (M40.1 175 14).toInt ∧ (M40.1 175 12).toInt = (M0.1 175 12).toInt ∧ (M40.1 175 13).toInt = (M0.1 175 13).toInt ∧ (M40.1 175 15).toInt = -1 ∧ (M40.1 175 14).toInt ≤ e ∧ li_rk hBZq e 1 (p1Zq.toInt) ((M0.1 175 14).toInt) 2 (p1Zq.toInt) ((M40.1 175 14).toInt) ∧ rp_add (rd_ch hBZq e ((M40.1 175 14).toInt)) → M40.2.2 0 = some 180 → li_T l Z YX12_sum d 45 [(2, .int x4Zq), (0, .ref (Z.2.2 175)), (1, .int p1Zq)] [.int x39] M40 (fun r M' => (∃ x : Int32, r = some (.int x) ∧ (∃ okZq q : Int, rpr hBZq e 1 (p1Zq.toInt) ((M0.1 175 14).toInt) okZq q ∧ (M'.1 175 14).toInt = q ∧ (M0.1 175 14).toInt ≤ q ∧ q ≤ e ∧ ((okZq = 1 ∧ (M'.1 175 15).toInt = -1) ∨ (okZq = 0 ∧ (M'.1 175 15).toInt = q)))) ∧ li_fs (fun i k => (i = 175 ∧ k = 14) ∨ (i = 175 ∧ k = 15)) M0 M' ∧ li_J M') := by
              try clear bM36
              try clear mM36_15
              try clear mM36_14
              try clear mM36_13
              try clear mM36_12
              try clear rM36_15
              try clear rM36_14
              try clear rM36_13
              try clear rM36_12
              try clear kM36
              try clear gx35
              try clear qx35
              try clear h37
              try clear jM36
              try clear cCq
              try clear tc34
              try clear finZq
              try clear c34Zq
              try clear h23x
              try clear bM32
              try clear mM32_15
              try clear mM32_14
              try clear mM32_13
              try clear mM32_12
              try clear rM32_15
              try clear rM32_14
              try clear rM32_13
              try clear rM32_12
              try clear kM32
              try clear gx31
              try clear qx31
              try clear h33
              try clear jM32
              try clear ch23
              try clear tc13
              try clear c17
              try clear bM15
              try clear mM15_15
              try clear mM15_14
              try clear mM15_13
              try clear mM15_12
              try clear rM15_15
              try clear rM15_14
              try clear rM15_13
              try clear rM15_12
              try clear kM15
              try clear gx14
              try clear qx14
              try clear h16Zq
              try clear jM15
              try clear c13Zq
              try clear h14x
              try clear bM11
              try clear mM11_15
              try clear mM11_14
              try clear mM11_13
              try clear mM11_12
              try clear rM11_15
              try clear rM11_14
              try clear rM11_13
              try clear rM11_12
              try clear kM11
              try clear gx10
              try clear qx10
              try clear h12
              try clear jM11
              try clear ch14
              try clear rkq
              try clear hA1
              try clear cZq
              try clear bM7
              try clear mM7_15
              try clear mM7_14
              try clear mM7_13
              try clear mM7_12
              try clear rM7_15
              try clear rM7_14
              try clear rM7_13
              try clear rM7_12
              try clear kM7
              try clear qx6
              try clear h8
              try clear jM7
              try clear i0Zq
              try clear i1Zq
              try clear i2Zq
              try clear i3Zq
              try clear i4Zq
              try clear mM5_13
              try clear mM5_12
              try clear rM5_15
              try clear rM5_14
              try clear rM5_13
              try clear rM5_12
              try clear okA
              try clear qA
              try clear ra
              try clear ea1
              try clear ea2
              try clear ea3
              try clear ea4
              try clear bM2
              try clear mM2_13
              try clear mM2_12
              try clear rM2_15
              try clear rM2_14
              try clear rM2_13
              try clear rM2_12
              try clear gx1
              try clear qx1
              try clear h3
              try clear jM2
              try clear rM0_15
              try clear rM0_14
              try clear rM0_13
              try clear rM0_12
              try clear hiZq
              intro x39 M40 hf hJ hiZq bM40
              have gx39 := tl_rg x39
              have rM40_12 := J_sl12 (M := M40) hJ
              have rM40_13 := J_sl13 (M := M40) hJ
              have rM40_14 := J_sl14 (M := M40) hJ
              have rM40_15 := J_sl15 (M := M40) hJ
              have mM40_12 : (M40.1 175 12).toInt = (M0.1 175 12).toInt := tl_slot (hf.1 175 12 (show ¬ ((175 = 175 ∧ 12 = 14) ∨ (175 = 175 ∧ 12 = 15)) by decide))
              have mM40_13 : (M40.1 175 13).toInt = (M0.1 175 13).toInt := tl_slot (hf.1 175 13 (show ¬ ((175 = 175 ∧ 13 = 14) ∨ (175 = 175 ∧ 13 = 15)) by decide))
              obtain ⟨k0Zq, k1Zq, k2Zq, k3Zq, k4Zq, k6Zq, k9, kCZq⟩ := hiZq
              have lt45 := rd_lt (rp_add_nn kCZq)
              refine li_istore_n [(3, .int x39), (2, .int x4Zq), (0, .ref (Z.2.2 175)), (1, .int p1Zq)] dX12_sum_45 (by decide) rfl ?_
              refine li_aload_n 2 dX12_sum_46 rfl ?_
              refine li_dup dX12_sum_47 rfl ?_
              refine li_geti (k := 14) (N := 52) (T := TX12) (C0 := RX12) dX12_sum_48 (by decide) sh_175 rfl rfl (by decide) li_in12 w_1418 ?_
              refine li_top (fun x41 ex41 => ?_)
              have gx41 : 0 ≤ x41.toInt ∧ x41.toInt ≤ 81 := by rw [ex41]; exact J_sl14 hJ
              have mx41 : x41.toInt = (M40.1 175 14).toInt := tl_slot ex41
              refine li_iconst 1 dX12_sum_51 (by decide) ?_
              refine li_iadd dX12_sum_52 ?_
              refine li_top (fun x42 ex42 => ?_)
              have z1 : (1 : Int32).toInt = 1 := rfl
              try (have tx42 : x42.toInt = (x41 : Int32).toInt + (1 : Int32).toInt := tl_add ex42 ⟨by omega, by omega⟩)
              refine li_puti (k := 14) (N := 52) (T := TX12) (C0 := RX12) dX12_sum_53 (by decide) sh_175 rfl rfl (by decide) li_in12 tyX12_ok nmX12 rfl rfl rfl rfl w_1418 ?_
              refine li_nm (fun M43 eM43 => ?_)
              have hf := li_fs_ui hf (Or.inl ⟨rfl, rfl⟩) eM43
              have hJ := J_pt14 hJ (show 0 ≤ (x42 : Int32).toInt ∧ (x42 : Int32).toInt ≤ 81 from ⟨(by omega), (by omega)⟩) eM43
              have rM43_12 := J_sl12 (M := M43) hJ
              have rM43_13 := J_sl13 (M := M43) hJ
              have rM43_14 := J_sl14 (M := M43) hJ
              have rM43_15 := J_sl15 (M := M43) hJ
              have mM43_12 : (M43.1 175 12).toInt = (M40.1 175 12).toInt := by rw [eM43, li_ui_at, if_pos rfl, if_neg (by decide)]
              have mM43_13 : (M43.1 175 13).toInt = (M40.1 175 13).toInt := by rw [eM43, li_ui_at, if_pos rfl, if_neg (by decide)]
              have mM43_14 : (M43.1 175 14).toInt = x42.toInt := by rw [eM43, li_ui_at, if_pos rfl, if_pos rfl]
              have mM43_15 : (M43.1 175 15).toInt = (M40.1 175 15).toInt := by rw [eM43, li_ui_at, if_pos rfl, if_neg (by decide)]
              have bM43 : M43.2.2 0 = some 180 := by rw [eM43]; exact bM40
              refine li_aload_n 2 dX12_sum_56 rfl ?_
              refine li_iload_n 3 dX12_sum_57 rfl ?_
              refine li_callV (n := 1) (As := [.int p1Zq]) dX12_sum_58 (PRZq p1Zq M43 hJ bM43 ((congrArg li_by (funext fun i => hf.1 180 i ((fun i => (show ¬ ((180 = 175 ∧ i = 14) ∨ (180 = 175 ∧ i = 15)) by first | (simp; done) | omega)) i))).trans hhB) (by rw [show (M43.1 175 12).toInt = (M0.1 175 12).toInt from Int.le_antisymm (by omega) (by omega), show (M43.1 175 13).toInt = (M0.1 175 13).toInt from Int.le_antisymm (by omega) (by omega)]; exact he) (by omega) (by omega) (Int.le_antisymm (by omega) (by omega)) ⟨by omega, by omega⟩) (by omega) (Nat.le_of_ble_eq_true rfl) w_1633 w_1635 w_54 w_112 w_1636 (by decide +kernel) rfl (by decide) sh_175 rfl rfl (Nat.le_of_ble_eq_true rfl) (fun r M45 h46 => ?_)
              obtain ⟨⟨x44, rfl, qx44⟩, h46, jM45⟩ := h46
              have gx44 := tl_rg x44
              have hf := li_fs_trans hf h46 (fun i k => fun hZq => Or.elim hZq (fun hZq => Or.inl hZq) (fun hZq => Or.inr hZq))
              have hJ := jM45
              have rM45_12 := J_sl12 (M := M45) hJ
              have rM45_13 := J_sl13 (M := M45) hJ
              have rM45_14 := J_sl14 (M := M45) hJ
              have rM45_15 := J_sl15 (M := M45) hJ
              have mM45_12 : (M45.1 175 12).toInt = (M43.1 175 12).toInt := tl_slot (h46.1 175 12 (show ¬ ((175 = 175 ∧ 12 = 14) ∨ (175 = 175 ∧ 12 = 15)) by decide))
              have mM45_13 : (M45.1 175 13).toInt = (M43.1 175 13).toInt := tl_slot (h46.1 175 13 (show ¬ ((175 = 175 ∧ 13 = 14) ∨ (175 = 175 ∧ 13 = 15)) by decide))
              have bM45 : M45.2.2 0 = some 180 := (h46.2.2 0 (fun h9 => by first | exact (h9 : False).elim | (simp at h9; done) | omega)).trans bM43
              obtain ⟨okB, qB, rb, eb1, eb2, eb3, eb4⟩ := qx44
              refine li_istore [(4, .int x44), (3, .int x39), (2, .int x4Zq), (0, .ref (Z.2.2 175)), (1, .int p1Zq)] dX12_sum_61 (by decide) rfl ?_
              refine li_iload_n 1 dX12_sum_63 rfl ?_
              have J78 : ∀ (x48 : Int32) (M49 : li_M), li_fs (fun i k => (i = 175 ∧ k = 14) ∨ (i = 175 ∧ k = 15)) M0 M49 → li_J M49 → (M0.1 175 14).toInt ≤ (M49.1 175 14).toInt ∧ (M49.1 175 14).toInt ≤ e ∧ (M49.1 175 12).toInt = (M0.1 175 12).toInt ∧ (M49.1 175 13).toInt = (M0.1 175 13).toInt ∧ (M5Zq.1 175 14).toInt + 1 ≤ (M49.1 175 14).toInt ∧ li_hd (((M49.1 175 15).toInt = -1 ∧ li_rk hBZq e 1 (p1Zq.toInt) ((M0.1 175 14).toInt) 2 (p1Zq.toInt) ((M49.1 175 14).toInt)) ∨ (¬ (M49.1 175 15).toInt = -1 ∧ (M49.1 175 15).toInt = (M49.1 175 14).toInt ∧ rpr hBZq e 1 (p1Zq.toInt) ((M0.1 175 14).toInt) 0 ((M49.1 175 14).toInt))) → M49.2.2 0 = some 180 → li_T l Z YX12_sum d 78 [(4, .int x44), (3, .int x39), (2, .int x4Zq), (0, .ref (Z.2.2 175)), (1, .int p1Zq)] [.int x48] M49 (fun r M' => (∃ x : Int32, r = some (.int x) ∧ (∃ okZq q : Int, rpr hBZq e 1 (p1Zq.toInt) ((M0.1 175 14).toInt) okZq q ∧ (M'.1 175 14).toInt = q ∧ (M0.1 175 14).toInt ≤ q ∧ q ≤ e ∧ ((okZq = 1 ∧ (M'.1 175 15).toInt = -1) ∨ (okZq = 0 ∧ (M'.1 175 15).toInt = q)))) ∧ li_fs (fun i k => (i = 175 ∧ k = 14) ∨ (i = 175 ∧ k = 15)) M0 M' ∧ li_J M') := by
                try clear okB
                try clear qB
                try clear rb
                try clear eb1
                try clear eb2
                try clear eb3
                try clear eb4
                try clear bM45
                try clear mM45_13
                try clear mM45_12
                try clear rM45_15
                try clear rM45_14
                try clear rM45_13
                try clear rM45_12
                try clear qx44
                try clear h46
                try clear jM45
                try clear bM43
                try clear mM43_15
                try clear mM43_14
                try clear mM43_13
                try clear mM43_12
                try clear rM43_15
                try clear rM43_14
                try clear rM43_13
                try clear rM43_12
                try clear eM43
                try clear tx42
                try clear ex42
                try clear mx41
                try clear gx41
                try clear ex41
                try clear lt45
                try clear k0Zq
                try clear k1Zq
                try clear k2Zq
                try clear k3Zq
                try clear k4Zq
                try clear k6Zq
                try clear k9
                try clear kCZq
                try clear mM40_13
                try clear mM40_12
                try clear rM40_15
                try clear rM40_14
                try clear rM40_13
                try clear rM40_12
                try clear bM36
                try clear mM36_15
                try clear mM36_14
                try clear mM36_13
                try clear mM36_12
                try clear rM36_15
                try clear rM36_14
                try clear rM36_13
                try clear rM36_12
                try clear kM36
                try clear gx35
                try clear qx35
                try clear h37
                try clear jM36
                try clear cCq
                try clear tc34
                try clear finZq
                try clear c34Zq
                try clear h23x
                try clear bM32
                try clear mM32_15
                try clear mM32_14
                try clear mM32_13
                try clear mM32_12
                try clear rM32_15
                try clear rM32_14
                try clear rM32_13
                try clear rM32_12
                try clear kM32
                try clear gx31
                try clear qx31
                try clear h33
                try clear jM32
                try clear ch23
                try clear tc13
                try clear c17
                try clear bM15
                try clear mM15_15
                try clear mM15_14
                try clear mM15_13
                try clear mM15_12
                try clear rM15_15
                try clear rM15_14
                try clear rM15_13
                try clear rM15_12
                try clear kM15
                try clear gx14
                try clear qx14
                try clear h16Zq
                try clear jM15
                try clear c13Zq
                try clear h14x
                try clear bM11
                try clear mM11_15
                try clear mM11_14
                try clear mM11_13
                try clear mM11_12
                try clear rM11_15
                try clear rM11_14
                try clear rM11_13
                try clear rM11_12
                try clear kM11
                try clear gx10
                try clear qx10
                try clear h12
                try clear jM11
                try clear ch14
                try clear rkq
                try clear hA1
                try clear cZq
                try clear bM7
                try clear mM7_15
                try clear mM7_14
                try clear mM7_13
                try clear mM7_12
                try clear rM7_15
                try clear rM7_14
                try clear rM7_13
                try clear rM7_12
                try clear kM7
                try clear qx6
                try clear h8
                try clear jM7
                try clear i0Zq
                try clear i1Zq
                try clear i2Zq
                try clear i3Zq
                try clear i4Zq
                try clear mM5_13
                try clear mM5_12
                try clear rM5_15
                try clear rM5_14
                try clear rM5_13
                try clear rM5_12
                try clear okA
                try clear qA
                try clear ra
                try clear ea1
                try clear ea2
                try clear ea3
                try clear ea4
                try clear bM2
                try clear mM2_13
                try clear mM2_12
                try clear rM2_15
                try clear rM2_14
                try clear rM2_13
                try clear rM2_12
                try clear gx1
                try clear qx1
                try clear h3
                try clear jM2
                try clear rM0_15
                try clear rM0_14
                try clear rM0_13
                try clear rM0_12
                try clear hiZq
                try clear hiZq
                intro x48 M49 hf hJ hiZq bM49
                have gx48 := tl_rg x48
                have rM49_12 := J_sl12 (M := M49) hJ
                have rM49_13 := J_sl13 (M := M49) hJ
                have rM49_14 := J_sl14 (M := M49) hJ
                have rM49_15 := J_sl15 (M := M49) hJ
                have mM49_12 : (M49.1 175 12).toInt = (M0.1 175 12).toInt := tl_slot (hf.1 175 12 (show ¬ ((175 = 175 ∧ 12 = 14) ∨ (175 = 175 ∧ 12 = 15)) by decide))
                have mM49_13 : (M49.1 175 13).toInt = (M0.1 175 13).toInt := tl_slot (hf.1 175 13 (show ¬ ((175 = 175 ∧ 13 = 14) ∨ (175 = 175 ∧ 13 = 15)) by decide))
                obtain ⟨k0Zq, k1Zq, k2Zq, k3Zq, k4Zq, k5Zq⟩ := hiZq
                refine li_istore_n [(2, .int x48), (4, .int x44), (3, .int x39), (0, .ref (Z.2.2 175)), (1, .int p1Zq)] dX12_sum_78 (by decide) rfl ?_
                refine li_goto 6 dX12_sum_79 (by decide) ?_
                refine li_pick [0, 3, 4] [(2, .int x48), (0, .ref (Z.2.2 175)), (1, .int p1Zq)] rfl ?_
                exact ih6 x48 M49 (by omega) hf hJ ⟨(by omega), (by omega), (Int.le_antisymm (by omega) (by omega)), (Int.le_antisymm (by omega) (by omega)), (by first | (exact Or.elim k5Zq (fun cZq => Or.inl ⟨cZq.1, cZq.2⟩) (fun cZq => Or.inr cZq)) | (rcases ea4 with cZq | cZq; exact Or.inl ⟨cZq.2, rk_to (rk_2 (rp_to ra rfl rfl cZq.1.symm rfl)) (Int.le_antisymm (by omega) (by omega))⟩; exact Or.inr ⟨by omega, Int.le_antisymm (by omega) (by omega), rk_1f (rp_to ra rfl rfl cZq.1.symm (Int.le_antisymm (by omega) (by omega)))⟩))⟩ bM49
              refine li_if_eq 74 dX12_sum_64 (by decide) (fun c47Zq => ?_) (fun c47Zq => ?_)
              · have tc47 : x39.toInt = 0 := tl_eq c47Zq
                refine li_iload_n 2 dX12_sum_74 rfl ?_
                refine li_iload 0 dX12_sum_75 rfl ?_
                refine li_isub dX12_sum_77 ?_
                refine li_top (fun x50 ex50 => ?_)
                try (have tx50 : x50.toInt = (x4Zq : Int32).toInt - (x44 : Int32).toInt := tl_sub ex50 ⟨by omega, by omega⟩)
                refine li_pick [0, 1, 2, 3, 4] [(4, .int x44), (3, .int x39), (2, .int x4Zq), (0, .ref (Z.2.2 175)), (1, .int p1Zq)] rfl ?_
                exact J78 x50 M45 hf hJ ⟨(by omega), (by omega), (Int.le_antisymm (by omega) (by omega)), (Int.le_antisymm (by omega) (by omega)), (by omega), (by first | (rcases eb4 with cZq | cZq; exact Or.inl ⟨cZq.2, rk_to (rk_2s k9 kCZq (rp_to rb rfl (Int.le_antisymm (by omega) (by omega)) cZq.1.symm rfl)) (Int.le_antisymm (by omega) (by omega))⟩; exact Or.inr ⟨by omega, Int.le_antisymm (by omega) (by omega), rp_to (rk_2f k9 kCZq (rp_to rb rfl (Int.le_antisymm (by omega) (by omega)) cZq.1.symm rfl)) rfl rfl rfl (Int.le_antisymm (by omega) (by omega))⟩))⟩ bM45
              · have tc47 : ¬ x39.toInt = 0 := tl_ne c47Zq
                refine li_iload_n 2 dX12_sum_67 rfl ?_
                refine li_iload 0 dX12_sum_68 rfl ?_
                refine li_iadd dX12_sum_70 ?_
                refine li_top (fun x51 ex51 => ?_)
                try (have tx51 : x51.toInt = (x4Zq : Int32).toInt + (x44 : Int32).toInt := tl_add ex51 ⟨by omega, by omega⟩)
                refine li_goto 78 dX12_sum_71 (by decide) ?_
                refine li_pick [0, 1, 2, 3, 4] [(4, .int x44), (3, .int x39), (2, .int x4Zq), (0, .ref (Z.2.2 175)), (1, .int p1Zq)] rfl ?_
                exact J78 x51 M45 hf hJ ⟨(by omega), (by omega), (Int.le_antisymm (by omega) (by omega)), (Int.le_antisymm (by omega) (by omega)), (by omega), (by first | (rcases eb4 with cZq | cZq; exact Or.inl ⟨cZq.2, rk_to (rk_2s k9 kCZq (rp_to rb rfl (Int.le_antisymm (by omega) (by omega)) cZq.1.symm rfl)) (Int.le_antisymm (by omega) (by omega))⟩; exact Or.inr ⟨by omega, Int.le_antisymm (by omega) (by omega), rp_to (rk_2f k9 kCZq (rp_to rb rfl (Int.le_antisymm (by omega) (by omega)) cZq.1.symm rfl)) rfl rfl rfl (Int.le_antisymm (by omega) (by omega))⟩))⟩ bM45
            refine li_icmp_ne 44 dX12_sum_37 (by decide) (fun c38 => ?_) (fun c38 => ?_)
            · have tc38 : ¬ x35.toInt = 43 := tl_ne c38
              refine li_iconst 0 dX12_sum_44 (by decide) ?_
              refine li_pick [0, 1, 2] [(2, .int x4Zq), (0, .ref (Z.2.2 175)), (1, .int p1Zq)] rfl ?_
              have z0 : (0 : Int32).toInt = 0 := rfl
              exact J45 0 M36 hf hJ ⟨(by omega), (Int.le_antisymm (by omega) (by omega)), (Int.le_antisymm (by omega) (by omega)), (Int.le_antisymm (by omega) (by omega)), (Int.le_antisymm (by omega) (by omega)), (by omega), (rk_to rkq (Int.le_antisymm (by omega) (by omega))), (by exact rp_mv2 cCq (Int.le_antisymm (by omega) (by omega)))⟩ bM36
            · have tc38 : x35.toInt = 43 := tl_eq c38
              refine li_iconst 1 dX12_sum_40 (by decide) ?_
              refine li_goto 45 dX12_sum_41 (by decide) ?_
              refine li_pick [0, 1, 2] [(2, .int x4Zq), (0, .ref (Z.2.2 175)), (1, .int p1Zq)] rfl ?_
              have z1 : (1 : Int32).toInt = 1 := rfl
              exact J45 1 M36 hf hJ ⟨(by omega), (Int.le_antisymm (by omega) (by omega)), (Int.le_antisymm (by omega) (by omega)), (Int.le_antisymm (by omega) (by omega)), (Int.le_antisymm (by omega) (by omega)), (by omega), (rk_to rkq (Int.le_antisymm (by omega) (by omega))), (by exact rp_mv2 cCq (Int.le_antisymm (by omega) (by omega)))⟩ bM36
      · skip
        refine li_if_eq 82 dX12_sum_10 (by decide) (fun cZq => ?_) (fun cZq => absurd rfl cZq)
        have finZq : ∃ okZq q : Int, rpr hBZq e 1 (p1Zq.toInt) ((M0.1 175 14).toInt) okZq q ∧ (M7Zq.1 175 14).toInt = q ∧ (M0.1 175 14).toInt ≤ q ∧ q ≤ e ∧ ((okZq = 1 ∧ (M7Zq.1 175 15).toInt = -1) ∨ (okZq = 0 ∧ (M7Zq.1 175 15).toInt = q)) := by
          first | (have nCq : ¬ rp_add (rd_ch hBZq e A1) := by unfold rp_add; omega) | skip
          first | exact ⟨1, A1, rk_2e rkq nCq, Int.le_antisymm (by omega) (by omega), by omega, by omega, Or.inl ⟨rfl, Int.le_antisymm (by omega) (by omega)⟩⟩ | (rcases i4Zq with cZq | cZq; exact absurd cZq.1 (by omega); exact ⟨0, _, rp_to cZq.2.2 rfl (Int.le_antisymm (by omega) (by omega)) rfl rfl, Int.le_antisymm (by omega) (by omega), by omega, by omega, Or.inr ⟨rfl, Int.le_antisymm (by omega) (by omega)⟩⟩)
        refine li_iload_n 0 dX12_sum_82 rfl ?_
        exact li_iret dX12_sum_83 rfl rfl ⟨⟨_, rfl, (by exact finZq)⟩, hf, hJ⟩
  exact L6Zq _ x1Zq M2Zq (Nat.lt_succ_self _) hf hJ ⟨(by omega), (by omega), (Int.le_antisymm (by omega) (by omega)), (Int.le_antisymm (by omega) (by omega)), (by first | (exact Or.elim k5Zq (fun cZq => Or.inl ⟨cZq.1, cZq.2⟩) (fun cZq => Or.inr cZq)) | (rcases ea4 with cZq | cZq; exact Or.inl ⟨cZq.2, rk_to (rk_2 (rp_to ra rfl rfl cZq.1.symm rfl)) (Int.le_antisymm (by omega) (by omega))⟩; exact Or.inr ⟨by omega, Int.le_antisymm (by omega) (by omega), rk_1f (rp_to ra rfl rfl cZq.1.symm (Int.le_antisymm (by omega) (by omega)))⟩))⟩ bM2
