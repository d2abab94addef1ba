set_option maxRecDepth 100000 in
set_option maxHeartbeats 4000000 in
theorem k15_X11_best {l : Launch} {Z : li_Z} (d : Nat) (hdZq : 2 ≤ d) (p1Zq : Int32) (M0 : li_M) (z50Zq : (M0.1 5 0).toInt = 0) : li_Met l Z YX11_best d [.ref (Z.2.2 0), .int p1Zq] M0 (fun r M' => (∃ x : Int32, r = some (.int x) ∧ (x.toInt = -1)) ∧ li_fr (fun i => False) M0 M') := by
  refine li_enter (by decide +kernel) (Nat.le_of_ble_eq_true rfl) ?_
  show li_T l Z YX11_best d 0 [(0, .ref (Z.2.2 0)), (1, .int p1Zq)] [] M0 _
  have hf : li_fr (fun i => False) M0 M0 := li_fr_refl
  have gp1 := tl_rg p1Zq
  refine li_aload_n 0 dX11_best_0 rfl ?_
  refine li_getr (k := 2) (N := 13) (T := TX11) (C0 := RX11) dX11_best_1 (by decide) sh_0 rfl rfl (by decide) (by decide) li_in11 w_475 ?_
  refine li_iload_n 1 dX11_best_4 rfl ?_
  refine li_callV (n := 1) (As := [.int p1Zq]) dX11_best_5 (k6_X8_hasPerson (d - 1) (by omega) p1Zq M0) (by omega) (Nat.le_of_ble_eq_true rfl) w_758 w_759 w_760 w_104 w_761 (by decide +kernel) rfl (by decide) sh_5 rfl rfl (Nat.le_of_ble_eq_true rfl) (fun r M2Zq h3 => ?_)
  obtain ⟨⟨x1Zq, rfl, bx1, qx1⟩, h3⟩ := h3
  have ux1 := tl_b bx1
  have hf := li_fr_trans hf h3 (fun i hZq => False.elim hZq)
  have mM2_5_0 : (M2Zq.1 5 0).toInt = (M0.1 5 0).toInt := by rw [h3.1 5 id]
  have mM2_5_1 : (M2Zq.1 5 1).toInt = (M0.1 5 1).toInt := by rw [h3.1 5 id]
  refine li_if_ne 13 dX11_best_8 (by decide) (fun c4 => ?_) (fun c4 => ?_)
  · have tc4 : ¬ x1Zq.toInt = 0 := tl_ne c4
    exfalso; omega
  · have tc4 : x1Zq.toInt = 0 := tl_eq c4
    refine li_iconst (-1) dX11_best_11 (by decide) ?_
    have zm1 : ((-1) : Int32).toInt = -1 := rfl
    exact li_iret dX11_best_12 rfl rfl ⟨⟨_, rfl, (by first | omega | (intro _; omega) | (intro hZq; exact absurd hZq (by decide)))⟩, hf⟩
set_option maxRecDepth 100000 in
set_option maxHeartbeats 4000000 in
theorem k15_X11_lacks {l : Launch} {Z : li_Z} (d : Nat) (hdZq : 2 ≤ d) (p1Zq : Int32) (M0 : li_M) (z50Zq : (M0.1 5 0).toInt = 0) : li_Met l Z YX11_lacks d [.ref (Z.2.2 0), .int p1Zq] M0 (fun r M' => (∃ x : Int32, r = some (.int x) ∧ (x.toInt = -1)) ∧ li_fr (fun i => False) M0 M') := by
  refine li_enter (by decide +kernel) (Nat.le_of_ble_eq_true rfl) ?_
  show li_T l Z YX11_lacks d 0 [(0, .ref (Z.2.2 0)), (1, .int p1Zq)] [] M0 _
  have hf : li_fr (fun i => False) M0 M0 := li_fr_refl
  have gp1 := tl_rg p1Zq
  refine li_aload_n 0 dX11_lacks_0 rfl ?_
  refine li_getr (k := 2) (N := 13) (T := TX11) (C0 := RX11) dX11_lacks_1 (by decide) sh_0 rfl rfl (by decide) (by decide) li_in11 w_475 ?_
  refine li_iload_n 1 dX11_lacks_4 rfl ?_
  refine li_callV (n := 1) (As := [.int p1Zq]) dX11_lacks_5 (k6_X8_hasPerson (d - 1) (by omega) p1Zq M0) (by omega) (Nat.le_of_ble_eq_true rfl) w_758 w_759 w_760 w_104 w_761 (by decide +kernel) rfl (by decide) sh_5 rfl rfl (Nat.le_of_ble_eq_true rfl) (fun r M2Zq h3 => ?_)
  obtain ⟨⟨x1Zq, rfl, bx1, qx1⟩, h3⟩ := h3
  have ux1 := tl_b bx1
  have hf := li_fr_trans hf h3 (fun i hZq => False.elim hZq)
  have mM2_5_0 : (M2Zq.1 5 0).toInt = (M0.1 5 0).toInt := by rw [h3.1 5 id]
  have mM2_5_1 : (M2Zq.1 5 1).toInt = (M0.1 5 1).toInt := by rw [h3.1 5 id]
  refine li_if_ne 13 dX11_lacks_8 (by decide) (fun c4 => ?_) (fun c4 => ?_)
  · have tc4 : ¬ x1Zq.toInt = 0 := tl_ne c4
    exfalso; omega
  · have tc4 : x1Zq.toInt = 0 := tl_eq c4
    refine li_iconst (-1) dX11_lacks_11 (by decide) ?_
    have zm1 : ((-1) : Int32).toInt = -1 := rfl
    exact li_iret dX11_lacks_12 rfl rfl ⟨⟨_, rfl, (by first | omega | (intro _; omega) | (intro hZq; exact absurd hZq (by decide)))⟩, hf⟩
set_option maxRecDepth 100000 in
set_option maxHeartbeats 4000000 in
theorem k15_X11_spoke {l : Launch} {Z : li_Z} (d : Nat) (hdZq : 2 ≤ d) (p1Zq : Int32) (M0 : li_M) (z50Zq : (M0.1 5 0).toInt = 0) : li_Met l Z YX11_spoke d [.ref (Z.2.2 0), .int p1Zq] M0 (fun r M' => (∃ x : Int32, r = some (.int x) ∧ (x.toInt = -1)) ∧ li_fr (fun i => False) M0 M') := by
  refine li_enter (by decide +kernel) (Nat.le_of_ble_eq_true rfl) ?_
  show li_T l Z YX11_spoke d 0 [(0, .ref (Z.2.2 0)), (1, .int p1Zq)] [] M0 _
  have hf : li_fr (fun i => False) M0 M0 := li_fr_refl
  have gp1 := tl_rg p1Zq
  refine li_aload_n 0 dX11_spoke_0 rfl ?_
  refine li_getr (k := 2) (N := 13) (T := TX11) (C0 := RX11) dX11_spoke_1 (by decide) sh_0 rfl rfl (by decide) (by decide) li_in11 w_475 ?_
  refine li_iload_n 1 dX11_spoke_4 rfl ?_
  refine li_callV (n := 1) (As := [.int p1Zq]) dX11_spoke_5 (k6_X8_hasPerson (d - 1) (by omega) p1Zq M0) (by omega) (Nat.le_of_ble_eq_true rfl) w_758 w_759 w_760 w_104 w_761 (by decide +kernel) rfl (by decide) sh_5 rfl rfl (Nat.le_of_ble_eq_true rfl) (fun r M2Zq h3 => ?_)
  obtain ⟨⟨x1Zq, rfl, bx1, qx1⟩, h3⟩ := h3
  have ux1 := tl_b bx1
  have hf := li_fr_trans hf h3 (fun i hZq => False.elim hZq)
  have mM2_5_0 : (M2Zq.1 5 0).toInt = (M0.1 5 0).toInt := by rw [h3.1 5 id]
  have mM2_5_1 : (M2Zq.1 5 1).toInt = (M0.1 5 1).toInt := by rw [h3.1 5 id]
  refine li_if_ne 13 dX11_spoke_8 (by decide) (fun c4 => ?_) (fun c4 => ?_)
  · have tc4 : ¬ x1Zq.toInt = 0 := tl_ne c4
    exfalso; omega
  · have tc4 : x1Zq.toInt = 0 := tl_eq c4
    refine li_iconst (-1) dX11_spoke_11 (by decide) ?_
    have zm1 : ((-1) : Int32).toInt = -1 := rfl
    exact li_iret dX11_spoke_12 rfl rfl ⟨⟨_, rfl, (by first | omega | (intro _; omega) | (intro hZq; exact absurd hZq (by decide)))⟩, hf⟩
set_option maxRecDepth 100000 in
set_option maxHeartbeats 4000000 in
theorem k15_X11_run {l : Launch} {Z : li_Z} (d : Nat) (hdZq : 2 ≤ d) (p1Zq : Int32) (M0 : li_M) (z50Zq : (M0.1 5 0).toInt = 0) : li_Met l Z YX11_run d [.ref (Z.2.2 0), .int p1Zq] M0 (fun r M' => (∃ x : Int32, r = some (.int x) ∧ (x.toInt = -1)) ∧ li_fr (fun i => False) M0 M') := by
  refine li_enter (by decide +kernel) (Nat.le_of_ble_eq_true rfl) ?_
  show li_T l Z YX11_run d 0 [(0, .ref (Z.2.2 0)), (1, .int p1Zq)] [] M0 _
  have hf : li_fr (fun i => False) M0 M0 := li_fr_refl
  have gp1 := tl_rg p1Zq
  refine li_aload_n 0 dX11_run_0 rfl ?_
  refine li_getr (k := 2) (N := 13) (T := TX11) (C0 := RX11) dX11_run_1 (by decide) sh_0 rfl rfl (by decide) (by decide) li_in11 w_475 ?_
  refine li_iload_n 1 dX11_run_4 rfl ?_
  refine li_callV (n := 1) (As := [.int p1Zq]) dX11_run_5 (k6_X8_hasPerson (d - 1) (by omega) p1Zq M0) (by omega) (Nat.le_of_ble_eq_true rfl) w_758 w_759 w_760 w_104 w_761 (by decide +kernel) rfl (by decide) sh_5 rfl rfl (Nat.le_of_ble_eq_true rfl) (fun r M2Zq h3 => ?_)
  obtain ⟨⟨x1Zq, rfl, bx1, qx1⟩, h3⟩ := h3
  have ux1 := tl_b bx1
  have hf := li_fr_trans hf h3 (fun i hZq => False.elim hZq)
  have mM2_5_0 : (M2Zq.1 5 0).toInt = (M0.1 5 0).toInt := by rw [h3.1 5 id]
  have mM2_5_1 : (M2Zq.1 5 1).toInt = (M0.1 5 1).toInt := by rw [h3.1 5 id]
  refine li_if_ne 13 dX11_run_8 (by decide) (fun c4 => ?_) (fun c4 => ?_)
  · have tc4 : ¬ x1Zq.toInt = 0 := tl_ne c4
    exfalso; omega
  · have tc4 : x1Zq.toInt = 0 := tl_eq c4
    refine li_iconst (-1) dX11_run_11 (by decide) ?_
    have zm1 : ((-1) : Int32).toInt = -1 := rfl
    exact li_iret dX11_run_12 rfl rfl ⟨⟨_, rfl, (by first | omega | (intro _; omega) | (intro hZq; exact absurd hZq (by decide)))⟩, hf⟩
set_option maxRecDepth 100000 in
set_option maxHeartbeats 4000000 in
theorem k15_X11_relay {l : Launch} {Z : li_Z} (d : Nat) (hdZq : 2 ≤ d) (p1Zq : Int32) (p2Zq : Int32) (p3Zq : Int32) (M0 : li_M) (z50Zq : (M0.1 5 0).toInt = 0) : li_Met l Z YX11_relay d [.ref (Z.2.2 0), .int p1Zq, .int p2Zq, .int p3Zq] M0 (fun r M' => (∃ x : Int32, r = some (.int x) ∧ (x.toInt = -1)) ∧ li_fr (fun i => False) M0 M') := by
  refine li_enter (by decide +kernel) (Nat.le_of_ble_eq_true rfl) ?_
  show li_T l Z YX11_relay d 0 [(0, .ref (Z.2.2 0)), (1, .int p1Zq), (2, .int p2Zq), (3, .int p3Zq)] [] M0 _
  have hf : li_fr (fun i => False) M0 M0 := li_fr_refl
  have gp1 := tl_rg p1Zq
  have gp2 := tl_rg p2Zq
  have gp3 := tl_rg p3Zq
  refine li_aload_n 0 dX11_relay_0 rfl ?_
  refine li_getr (k := 2) (N := 13) (T := TX11) (C0 := RX11) dX11_relay_1 (by decide) sh_0 rfl rfl (by decide) (by decide) li_in11 w_475 ?_
  refine li_iload_n 1 dX11_relay_4 rfl ?_
  refine li_callV (n := 1) (As := [.int p1Zq]) dX11_relay_5 (k6_X8_hasPerson (d - 1) (by omega) p1Zq M0) (by omega) (Nat.le_of_ble_eq_true rfl) w_758 w_759 w_760 w_104 w_761 (by decide +kernel) rfl (by decide) sh_5 rfl rfl (Nat.le_of_ble_eq_true rfl) (fun r M2Zq h3 => ?_)
  obtain ⟨⟨x1Zq, rfl, bx1, qx1⟩, h3⟩ := h3
  have ux1 := tl_b bx1
  have hf := li_fr_trans hf h3 (fun i hZq => False.elim hZq)
  have mM2_5_0 : (M2Zq.1 5 0).toInt = (M0.1 5 0).toInt := by rw [h3.1 5 id]
  have mM2_5_1 : (M2Zq.1 5 1).toInt = (M0.1 5 1).toInt := by rw [h3.1 5 id]
  refine li_if_eq 32 dX11_relay_8 (by decide) (fun c4 => ?_) (fun c4 => ?_)
  · have tc4 : x1Zq.toInt = 0 := tl_eq c4
    refine li_iconst (-1) dX11_relay_32 (by decide) ?_
    have zm1 : ((-1) : Int32).toInt = -1 := rfl
    exact li_iret dX11_relay_33 rfl rfl ⟨⟨_, rfl, (by first | omega | (intro _; omega) | (intro hZq; exact absurd hZq (by decide)))⟩, hf⟩
  · have tc4 : ¬ x1Zq.toInt = 0 := tl_ne c4
    exfalso; omega
set_option maxRecDepth 100000 in
set_option maxHeartbeats 4000000 in
theorem k15_X11_criers {l : Launch} {Z : li_Z} (d : Nat) (hdZq : 2 ≤ d) (p1Zq : Int32) (p2Zq : Int32) (p3Zq : Int32) (M0 : li_M) (z50Zq : (M0.1 5 0).toInt = 0) : li_Met l Z YX11_criers d [.ref (Z.2.2 0), .int p1Zq, .int p2Zq, .int p3Zq] M0 (fun r M' => (∃ x : Int32, r = some (.int x) ∧ (x.toInt = -1)) ∧ li_fr (fun i => False) M0 M') := by
  refine li_enter (by decide +kernel) (Nat.le_of_ble_eq_true rfl) ?_
  show li_T l Z YX11_criers d 0 [(0, .ref (Z.2.2 0)), (1, .int p1Zq), (2, .int p2Zq), (3, .int p3Zq)] [] M0 _
  have hf : li_fr (fun i => False) M0 M0 := li_fr_refl
  have gp1 := tl_rg p1Zq
  have gp2 := tl_rg p2Zq
  have gp3 := tl_rg p3Zq
  refine li_aload_n 0 dX11_criers_0 rfl ?_
  refine li_getr (k := 2) (N := 13) (T := TX11) (C0 := RX11) dX11_criers_1 (by decide) sh_0 rfl rfl (by decide) (by decide) li_in11 w_475 ?_
  refine li_iload_n 1 dX11_criers_4 rfl ?_
  refine li_callV (n := 1) (As := [.int p1Zq]) dX11_criers_5 (k6_X8_hasPerson (d - 1) (by omega) p1Zq M0) (by omega) (Nat.le_of_ble_eq_true rfl) w_758 w_759 w_760 w_104 w_761 (by decide +kernel) rfl (by decide) sh_5 rfl rfl (Nat.le_of_ble_eq_true rfl) (fun r M2Zq h3 => ?_)
  obtain ⟨⟨x1Zq, rfl, bx1, qx1⟩, h3⟩ := h3
  have ux1 := tl_b bx1
  have hf := li_fr_trans hf h3 (fun i hZq => False.elim hZq)
  have mM2_5_0 : (M2Zq.1 5 0).toInt = (M0.1 5 0).toInt := by rw [h3.1 5 id]
  have mM2_5_1 : (M2Zq.1 5 1).toInt = (M0.1 5 1).toInt := by rw [h3.1 5 id]
  refine li_if_eq 35 dX11_criers_8 (by decide) (fun c4 => ?_) (fun c4 => ?_)
  · have tc4 : x1Zq.toInt = 0 := tl_eq c4
    refine li_iconst (-1) dX11_criers_35 (by decide) ?_
    have zm1 : ((-1) : Int32).toInt = -1 := rfl
    exact li_iret dX11_criers_36 rfl rfl ⟨⟨_, rfl, (by first | omega | (intro _; omega) | (intro hZq; exact absurd hZq (by decide)))⟩, hf⟩
  · have tc4 : ¬ x1Zq.toInt = 0 := tl_ne c4
    exfalso; omega
set_option maxRecDepth 100000 in
set_option maxHeartbeats 4000000 in
theorem k15_X11_move {l : Launch} {Z : li_Z} (d : Nat) (hdZq : 2 ≤ d) (p1Zq : Int32) (p2Zq : Int32) (M0 : li_M) (z50Zq : (M0.1 5 0).toInt = 0) : li_Met l Z YX11_move d [.ref (Z.2.2 0), .int p1Zq, .int p2Zq] M0 (fun r M' => (∃ x : Int32, r = some (.int x) ∧ (x.toInt = -1)) ∧ li_fr (fun i => False) M0 M') := by
  refine li_enter (by decide +kernel) (Nat.le_of_ble_eq_true rfl) ?_
  show li_T l Z YX11_move d 0 [(0, .ref (Z.2.2 0)), (1, .int p1Zq), (2, .int p2Zq)] [] M0 _
  have hf : li_fr (fun i => False) M0 M0 := li_fr_refl
  have gp1 := tl_rg p1Zq
  have gp2 := tl_rg p2Zq
  refine li_aload_n 0 dX11_move_0 rfl ?_
  refine li_getr (k := 2) (N := 13) (T := TX11) (C0 := RX11) dX11_move_1 (by decide) sh_0 rfl rfl (by decide) (by decide) li_in11 w_475 ?_
  refine li_iload_n 1 dX11_move_4 rfl ?_
  refine li_callV (n := 1) (As := [.int p1Zq]) dX11_move_5 (k6_X8_hasPerson (d - 1) (by omega) p1Zq M0) (by omega) (Nat.le_of_ble_eq_true rfl) w_758 w_759 w_760 w_104 w_761 (by decide +kernel) rfl (by decide) sh_5 rfl rfl (Nat.le_of_ble_eq_true rfl) (fun r M2Zq h3 => ?_)
  obtain ⟨⟨x1Zq, rfl, bx1, qx1⟩, h3⟩ := h3
  have ux1 := tl_b bx1
  have hf := li_fr_trans hf h3 (fun i hZq => False.elim hZq)
  have mM2_5_0 : (M2Zq.1 5 0).toInt = (M0.1 5 0).toInt := by rw [h3.1 5 id]
  have mM2_5_1 : (M2Zq.1 5 1).toInt = (M0.1 5 1).toInt := by rw [h3.1 5 id]
  refine li_if_eq 21 dX11_move_8 (by decide) (fun c4 => ?_) (fun c4 => ?_)
  · have tc4 : x1Zq.toInt = 0 := tl_eq c4
    refine li_iconst (-1) dX11_move_21 (by decide) ?_
    have zm1 : ((-1) : Int32).toInt = -1 := rfl
    exact li_iret dX11_move_22 rfl rfl ⟨⟨_, rfl, (by first | omega | (intro _; omega) | (intro hZq; exact absurd hZq (by decide)))⟩, hf⟩
  · have tc4 : ¬ x1Zq.toInt = 0 := tl_ne c4
    exfalso; omega
set_option maxRecDepth 100000 in
set_option maxHeartbeats 4000000 in
theorem k15_X11_read {l : Launch} {Z : li_Z} (d : Nat) (hdZq : 2 ≤ d) (p1Zq : Int32) (p2Zq : Int32) (M0 : li_M) (z50Zq : (M0.1 5 0).toInt = 0) : li_Met l Z YX11_read d [.ref (Z.2.2 0), .int p1Zq, .int p2Zq] M0 (fun r M' => (∃ x : Int32, r = some (.int x) ∧ (x.toInt = -1)) ∧ li_fr (fun i => False) M0 M') := by
  refine li_enter (by decide +kernel) (Nat.le_of_ble_eq_true rfl) ?_
  show li_T l Z YX11_read d 0 [(0, .ref (Z.2.2 0)), (1, .int p1Zq), (2, .int p2Zq)] [] M0 _
  have hf : li_fr (fun i => False) M0 M0 := li_fr_refl
  have gp1 := tl_rg p1Zq
  have gp2 := tl_rg p2Zq
  refine li_aload_n 0 dX11_read_0 rfl ?_
  refine li_getr (k := 2) (N := 13) (T := TX11) (C0 := RX11) dX11_read_1 (by decide) sh_0 rfl rfl (by decide) (by decide) li_in11 w_475 ?_
  refine li_iload_n 1 dX11_read_4 rfl ?_
  refine li_callV (n := 1) (As := [.int p1Zq]) dX11_read_5 (k6_X8_hasPerson (d - 1) (by omega) p1Zq M0) (by omega) (Nat.le_of_ble_eq_true rfl) w_758 w_759 w_760 w_104 w_761 (by decide +kernel) rfl (by decide) sh_5 rfl rfl (Nat.le_of_ble_eq_true rfl) (fun r M2Zq h3 => ?_)
  obtain ⟨⟨x1Zq, rfl, bx1, qx1⟩, h3⟩ := h3
  have ux1 := tl_b bx1
  have hf := li_fr_trans hf h3 (fun i hZq => False.elim hZq)
  have mM2_5_0 : (M2Zq.1 5 0).toInt = (M0.1 5 0).toInt := by rw [h3.1 5 id]
  have mM2_5_1 : (M2Zq.1 5 1).toInt = (M0.1 5 1).toInt := by rw [h3.1 5 id]
  refine li_if_eq 22 dX11_read_8 (by decide) (fun c4 => ?_) (fun c4 => ?_)
  · have tc4 : x1Zq.toInt = 0 := tl_eq c4
    refine li_iconst (-1) dX11_read_22 (by decide) ?_
    have zm1 : ((-1) : Int32).toInt = -1 := rfl
    exact li_iret dX11_read_23 rfl rfl ⟨⟨_, rfl, (by first | omega | (intro _; omega) | (intro hZq; exact absurd hZq (by decide)))⟩, hf⟩
  · have tc4 : ¬ x1Zq.toInt = 0 := tl_ne c4
    exfalso; omega
set_option maxRecDepth 100000 in
set_option maxHeartbeats 4000000 in
theorem k15_X0_openThings {l : Launch} {Z : li_Z} (d : Nat) (hdZq : 1 ≤ d) {c : Nat} (hcZq : li_co c) (M0 : li_M) (z51 : (M0.1 5 1).toInt = 0) : li_Met l Z YX0_openThings d [.ref (Z.2.2 c)] M0 (fun r M' => (∃ x : Int32, r = some (.int x) ∧ (x.toInt = 0)) ∧ li_fr (fun i => False) M0 M') := by
  refine li_enter (by decide +kernel) (Nat.le_of_ble_eq_true rfl) ?_
  show li_T l Z YX0_openThings d 0 [(0, .ref (Z.2.2 c))] [] M0 _
  have hf : li_fr (fun i => False) M0 M0 := li_fr_refl
  refine li_iconst 0 dX0_openThings_0 (by decide) ?_
  refine li_istore_n [(1, .int 0), (0, .ref (Z.2.2 c))] dX0_openThings_1 (by decide) rfl ?_
  refine li_iconst 0 dX0_openThings_2 (by decide) ?_
  refine li_istore_n [(2, .int 0), (1, .int 0), (0, .ref (Z.2.2 c))] dX0_openThings_3 (by decide) rfl ?_
  have L4Zq : ∀ (n : Nat) (x1Zq : Int32) (x2Zq : Int32) (M3Zq : li_M), ((x1Zq : Int32).toInt).toNat < n → li_fr (fun i => False) M0 M3Zq → 0 ≤ (x1Zq : Int32).toInt ∧ (x2Zq : Int32).toInt = 0 ∧ (M3Zq.1 5 1).toInt = 0 → li_T l Z YX0_openThings d 4 [(2, .int x1Zq), (1, .int x2Zq), (0, .ref (Z.2.2 c))] [] M3Zq (fun r M' => (∃ x : Int32, r = some (.int x) ∧ (x.toInt = 0)) ∧ li_fr (fun i => False) M0 M') := by
    intro n
    induction n with
    | zero => intro x1Zq x2Zq M3Zq hn; exact absurd hn (Nat.not_lt_zero _)
    | succ n ih4 =>
      intro x1Zq x2Zq M3Zq hn hf hiZq
      have gx1 := tl_rg x1Zq
      have gx2 := tl_rg x2Zq
      refine li_iload_n 0 dX0_openThings_4 rfl ?_
      refine li_aload_n 2 dX0_openThings_5 rfl ?_
      refine li_getr (k := 0) (N := 8) (T := TX0) (C0 := RX0) dX0_openThings_6 (snC0 hcZq) (shC0 hcZq) rfl rfl (by decide) (by decide) li_in0 w_368 ?_
      refine li_geti (k := 1) (N := 9) (T := TX8) (C0 := RX8) dX0_openThings_9 (by decide) sh_5 rfl rfl (by decide) li_in8 w_181 ?_
      refine li_top (fun x4Zq ex4 => ?_)
      have gx4 := tl_rg x4Zq
      have vx4 : x4Zq.toInt = (M3Zq.1 5 1).toInt := tl_eq ex4
      refine li_icmp_ge 56 dX0_openThings_12 (by decide) (fun c5Zq => ?_) (fun c5Zq => ?_)
      · have tc5 : x4Zq.toInt ≤ x1Zq.toInt := tl_le c5Zq
        refine li_iload_n 1 dX0_openThings_56 rfl ?_
        exact li_iret dX0_openThings_57 rfl rfl ⟨⟨_, rfl, (by first | omega | (intro _; omega) | (intro hZq; exact absurd hZq (by decide)))⟩, hf⟩
      · have tc5 : x1Zq.toInt < x4Zq.toInt := tl_nle c5Zq
        exfalso; omega
  have z0 : (0 : Int32).toInt = 0 := rfl
  have z0 : (0 : Int32).toInt = 0 := rfl
  exact L4Zq _ 0 0 M0 (Nat.lt_succ_self _) hf (by omega)
set_option maxRecDepth 100000 in
set_option maxHeartbeats 4000000 in
theorem k15_X0_fill {l : Launch} {Z : li_Z} (d : Nat) (hdZq : 1 ≤ d) {c : Nat} (hcZq : li_co c) (M0 : li_M) (z51 : (M0.1 5 1).toInt = 0) : li_Met l Z YX0_fill d [.ref (Z.2.2 c)] M0 (li_SV (fun i => False) M0) := by
  refine li_enter (by decide +kernel) (Nat.le_of_ble_eq_true rfl) ?_
  show li_T l Z YX0_fill d 0 [(0, .ref (Z.2.2 c))] [] M0 _
  have hf : li_fr (fun i => False) M0 M0 := li_fr_refl
  refine li_iconst 0 dX0_fill_0 (by decide) ?_
  refine li_istore_n [(1, .int 0), (0, .ref (Z.2.2 c))] dX0_fill_1 (by decide) rfl ?_
  have L2Zq : ∀ (n : Nat) (x1Zq : Int32) (M2Zq : li_M), ((x1Zq : Int32).toInt).toNat < n → li_fr (fun i => False) M0 M2Zq → 0 ≤ (x1Zq : Int32).toInt ∧ (M2Zq.1 5 1).toInt = 0 → li_T l Z YX0_fill d 2 [(1, .int x1Zq), (0, .ref (Z.2.2 c))] [] M2Zq (li_SV (fun i => False) M0) := by
    intro n
    induction n with
    | zero => intro x1Zq M2Zq hn; exact absurd hn (Nat.not_lt_zero _)
    | succ n ih2 =>
      intro x1Zq M2Zq hn hf hiZq
      have gx1 := tl_rg x1Zq
      refine li_iload_n 0 dX0_fill_2 rfl ?_
      refine li_aload_n 1 dX0_fill_3 rfl ?_
      refine li_getr (k := 0) (N := 8) (T := TX0) (C0 := RX0) dX0_fill_4 (snC0 hcZq) (shC0 hcZq) rfl rfl (by decide) (by decide) li_in0 w_368 ?_
      refine li_geti (k := 1) (N := 9) (T := TX8) (C0 := RX8) dX0_fill_7 (by decide) sh_5 rfl rfl (by decide) li_in8 w_181 ?_
      refine li_top (fun x3 ex3Zq => ?_)
      have gx3 := tl_rg x3
      have vx3 : x3.toInt = (M2Zq.1 5 1).toInt := tl_eq ex3Zq
      refine li_icmp_ge 96 dX0_fill_10 (by decide) (fun c4 => ?_) (fun c4 => ?_)
      · have tc4 : x3.toInt ≤ x1Zq.toInt := tl_le c4
        exact li_vret dX0_fill_96 rfl ⟨rfl, hf⟩
      · have tc4 : x1Zq.toInt < x3.toInt := tl_nle c4
        exfalso; omega
  have z0 : (0 : Int32).toInt = 0 := rfl
  exact L2Zq _ 0 M0 (Nat.lt_succ_self _) hf (by omega)
set_option maxRecDepth 100000 in
set_option maxHeartbeats 4000000 in
theorem k15_X0_leastOfAll {l : Launch} {Z : li_Z} (d : Nat) (hdZq : 1 ≤ d) {c : Nat} (hcZq : li_co c) (p1Zq : Int32) (M0 : li_M) (z51 : (M0.1 5 1).toInt = 0) : li_Met l Z YX0_leastOfAll d [.ref (Z.2.2 c), .int p1Zq] M0 (fun r M' => (∃ x : Int32, r = some (.int x) ∧ (x.toInt = 0)) ∧ li_fr (fun i => False) M0 M') := by
  refine li_enter (by decide +kernel) (Nat.le_of_ble_eq_true rfl) ?_
  show li_T l Z YX0_leastOfAll d 0 [(0, .ref (Z.2.2 c)), (1, .int p1Zq)] [] M0 _
  have hf : li_fr (fun i => False) M0 M0 := li_fr_refl
  have gp1 := tl_rg p1Zq
  refine li_iconst 0 dX0_leastOfAll_0 (by decide) ?_
  refine li_istore_n [(2, .int 0), (0, .ref (Z.2.2 c)), (1, .int p1Zq)] dX0_leastOfAll_1 (by decide) rfl ?_
  refine li_iconst 0 dX0_leastOfAll_2 (by decide) ?_
  refine li_istore_n [(3, .int 0), (2, .int 0), (0, .ref (Z.2.2 c)), (1, .int p1Zq)] dX0_leastOfAll_3 (by decide) rfl ?_
  have L4Zq : ∀ (n : Nat) (x1Zq : Int32) (x2Zq : Int32) (M3Zq : li_M), ((x1Zq : Int32).toInt).toNat < n → li_fr (fun i => False) M0 M3Zq → 0 ≤ (x1Zq : Int32).toInt ∧ (x2Zq : Int32).toInt = 0 ∧ (M3Zq.1 5 1).toInt = 0 → li_T l Z YX0_leastOfAll d 4 [(3, .int x1Zq), (2, .int x2Zq), (0, .ref (Z.2.2 c)), (1, .int p1Zq)] [] M3Zq (fun r M' => (∃ x : Int32, r = some (.int x) ∧ (x.toInt = 0)) ∧ li_fr (fun i => False) M0 M') := by
    intro n
    induction n with
    | zero => intro x1Zq x2Zq M3Zq hn; exact absurd hn (Nat.not_lt_zero _)
    | succ n ih4 =>
      intro x1Zq x2Zq M3Zq hn hf hiZq
      have gx1 := tl_rg x1Zq
      have gx2 := tl_rg x2Zq
      refine li_iload_n 0 dX0_leastOfAll_4 rfl ?_
      refine li_aload_n 2 dX0_leastOfAll_5 rfl ?_
      refine li_getr (k := 0) (N := 8) (T := TX0) (C0 := RX0) dX0_leastOfAll_6 (snC0 hcZq) (shC0 hcZq) rfl rfl (by decide) (by decide) li_in0 w_368 ?_
      refine li_geti (k := 1) (N := 9) (T := TX8) (C0 := RX8) dX0_leastOfAll_9 (by decide) sh_5 rfl rfl (by decide) li_in8 w_181 ?_
      refine li_top (fun x4Zq ex4 => ?_)
      have gx4 := tl_rg x4Zq
      have vx4 : x4Zq.toInt = (M3Zq.1 5 1).toInt := tl_eq ex4
      refine li_icmp_ge 40 dX0_leastOfAll_12 (by decide) (fun c5Zq => ?_) (fun c5Zq => ?_)
      · have tc5 : x4Zq.toInt ≤ x1Zq.toInt := tl_le c5Zq
        refine li_iload_n 1 dX0_leastOfAll_40 rfl ?_
        exact li_iret dX0_leastOfAll_41 rfl rfl ⟨⟨_, rfl, (by first | omega | (intro _; omega) | (intro hZq; exact absurd hZq (by decide)))⟩, hf⟩
      · have tc5 : x1Zq.toInt < x4Zq.toInt := tl_nle c5Zq
        exfalso; omega
  have z0 : (0 : Int32).toInt = 0 := rfl
  have z0 : (0 : Int32).toInt = 0 := rfl
  exact L4Zq _ 0 0 M0 (Nat.lt_succ_self _) hf (by omega)
set_option maxRecDepth 100000 in
set_option maxHeartbeats 4000000 in
theorem k15_X0_choose {l : Launch} {Z : li_Z} (d : Nat) (hdZq : 1 ≤ d) (p1Zq p2Zq : Int32) (M0 : li_M) (h1 : p1Zq.toInt = 0) : li_Met l Z YX0_choose d [.ref (Z.2.2 148), .int p1Zq, .int p2Zq] M0 (fun r M' => r = none ∧ li_fr (fun i => i = 148) M0 M' ∧ (M'.1 148 7).toInt = 0) := by
  refine li_enter (by decide +kernel) (Nat.le_of_ble_eq_true rfl) ?_
  show li_T l Z YX0_choose d 0 [(0, .ref (Z.2.2 148)), (1, .int p1Zq), (2, .int p2Zq)] [] M0 _
  have hf : li_fr (fun i => i = 148) M0 M0 := li_fr_refl
  have gp1 := tl_rg p1Zq
  have gp2 := tl_rg p2Zq
  refine li_aload_n 0 dX0_choose_0 rfl ?_
  refine li_iconst 0 dX0_choose_1 (by decide) ?_
  refine li_puti (k := 5) (N := 8) (T := TX0) (C0 := RX0) dX0_choose_2 (by decide) sh_148 rfl rfl (by decide) li_in0 tyX0_ok nmX0 rfl rfl rfl rfl w_375 ?_
  refine li_nm (fun M1Zq eM1 => ?_)
  have hf := li_fr_ui hf (show 148 = 148 by omega) eM1
  have mM1_148_7 : (M1Zq.1 148 7).toInt = (M0.1 148 7).toInt := by rw [eM1, li_ui_at, if_pos rfl, if_neg (by decide)]
  have k2Zq : M1Zq.1 148 5 = 0 := by rw [eM1, li_ui_at, if_pos rfl, if_pos rfl]
  refine li_aload_n 0 dX0_choose_5 rfl ?_
  refine li_iconst 0 dX0_choose_6 (by decide) ?_
  refine li_puti (k := 6) (N := 8) (T := TX0) (C0 := RX0) dX0_choose_7 (by decide) sh_148 rfl rfl (by decide) li_in0 tyX0_ok nmX0 rfl rfl rfl rfl w_377 ?_
  refine li_nm (fun M3Zq eM3 => ?_)
  have hf := li_fr_ui hf (show 148 = 148 by omega) eM3
  have mM3_148_7 : (M3Zq.1 148 7).toInt = (M1Zq.1 148 7).toInt := by rw [eM3, li_ui_at, if_pos rfl, if_neg (by decide)]
  have k4Zq : M3Zq.1 148 5 = 0 := by rw [eM3, li_ui_at, if_pos rfl, if_neg (by decide)]; exact k2Zq
  have k5Zq : M3Zq.1 148 6 = 0 := by rw [eM3, li_ui_at, if_pos rfl, if_pos rfl]
  refine li_aload_n 0 dX0_choose_10 rfl ?_
  refine li_iconst 0 dX0_choose_11 (by decide) ?_
  refine li_puti (k := 7) (N := 8) (T := TX0) (C0 := RX0) dX0_choose_12 (by decide) sh_148 rfl rfl (by decide) li_in0 tyX0_ok nmX0 rfl rfl rfl rfl w_379 ?_
  refine li_nm (fun M6Zq eM6 => ?_)
  have hf := li_fr_ui hf (show 148 = 148 by omega) eM6
  have mM6_148_7 : (M6Zq.1 148 7).toInt = 0 := by rw [eM6, li_ui_at, if_pos rfl, if_pos rfl]; rfl
  have k7Zq : M6Zq.1 148 5 = 0 := by rw [eM6, li_ui_at, if_pos rfl, if_neg (by decide)]; exact k4Zq
  have k8Zq : M6Zq.1 148 6 = 0 := by rw [eM6, li_ui_at, if_pos rfl, if_neg (by decide)]; exact k5Zq
  have k9 : M6Zq.1 148 7 = 0 := by rw [eM6, li_ui_at, if_pos rfl, if_pos rfl]
  refine li_iconst 1 dX0_choose_15 (by decide) ?_
  refine li_istore_n [(3, .int 1), (0, .ref (Z.2.2 148)), (1, .int p1Zq), (2, .int p2Zq)] dX0_choose_16 (by decide) rfl ?_
  have L17 : ∀ (n : Nat) (x10 : Int32) (M11 : li_M), (256 - (x10 : Int32).toInt).toNat < n → li_fr (fun i => i = 148) M0 M11 → 1 ≤ (x10 : Int32).toInt ∧ (M11.1 148 7).toInt = 0 → li_T l Z YX0_choose d 17 [(3, .int x10), (0, .ref (Z.2.2 148)), (1, .int p1Zq), (2, .int p2Zq)] [] M11 (fun r M' => r = none ∧ li_fr (fun i => i = 148) M0 M' ∧ (M'.1 148 7).toInt = 0) := by
    intro n
    induction n with
    | zero => intro x10 M11 hn; exact absurd hn (Nat.not_lt_zero _)
    | succ n ih17 =>
      intro x10 M11 hn hf hiZq
      have gx10 := tl_rg x10
      refine li_iload_n 0 dX0_choose_17 rfl ?_
      refine li_sipush 256 dX0_choose_18 (by decide) ?_
      refine li_icmp_ge 44 dX0_choose_21 (by decide) (fun c12Zq => ?_) (fun c12Zq => ?_)
      · have tc12 : 256 ≤ x10.toInt := tl_le c12Zq
        exact li_vret dX0_choose_44 rfl ⟨rfl, hf, (by omega)⟩
      · have tc12 : x10.toInt < 256 := tl_nle c12Zq
        refine li_iload_n 0 dX0_choose_24 rfl ?_
        refine li_iload_n 2 dX0_choose_25 rfl ?_
        refine li_iconst (-1) dX0_choose_26 (by decide) ?_
        refine li_ixor dX0_choose_27 ?_
        refine li_top (fun x13 ex13 => ?_)
        refine li_iand dX0_choose_28 ?_
        refine li_top (fun x14 ex14 => ?_)
        have xs : x14 = x10 := and_n0 h1 ex13 ex14
        have xt : x14.toInt = (x10 : Int32).toInt := by rw [xs]
        have J38 : ∀  (M16 : li_M), li_fr (fun i => i = 148) M0 M16 → (M16.1 148 7).toInt = 0 → li_T l Z YX0_choose d 38 [(3, .int x10), (0, .ref (Z.2.2 148)), (1, .int p1Zq), (2, .int p2Zq)] [] M16 (fun r M' => r = none ∧ li_fr (fun i => i = 148) M0 M' ∧ (M'.1 148 7).toInt = 0) := by
          intro  M16 hf hiZq
          obtain ⟨x17, ex17⟩ : ∃ y : Int32, y = x10 + 1 := ⟨_, rfl⟩
          have tx17 : (-2147483648 ≤ x10.toInt + 1 ∧ x10.toInt + 1 ≤ 2147483647) → x17.toInt = x10.toInt + 1 := tl_add ex17
          refine li_iinc 0 [(3, .int x17), (0, .ref (Z.2.2 148)), (1, .int p1Zq), (2, .int p2Zq)] x17 dX0_choose_38 rfl (by rw [ex17]; rfl) (by decide) rfl ?_
          refine li_goto 17 dX0_choose_41 (by decide) ?_
          refine li_pick [0, 1, 2, 3] [(3, .int x17), (0, .ref (Z.2.2 148)), (1, .int p1Zq), (2, .int p2Zq)] rfl ?_
          exact ih17 x17 M16 (by omega) hf (by omega)
        refine li_if_ne 38 dX0_choose_29 (by decide) (fun c15Zq => ?_) (fun c15Zq => ?_)
        · have tc15 : ¬ x14.toInt = 0 := tl_ne c15Zq
          refine li_pick [0, 1, 2, 3] [(3, .int x10), (0, .ref (Z.2.2 148)), (1, .int p1Zq), (2, .int p2Zq)] rfl ?_
          exact J38  M11 hf (by omega)
        · have tc15 : x14.toInt = 0 := tl_eq c15Zq
          exfalso; omega
  have z1 : (1 : Int32).toInt = 1 := rfl
  exact L17 _ 1 M6Zq (Nat.lt_succ_self _) hf (by omega)
set_option maxRecDepth 100000 in
set_option maxHeartbeats 4000000 in
theorem k15_X0_firstUnpayable {l : Launch} {Z : li_Z} (d : Nat) (hdZq : 2 ≤ d) {c : Nat} (hcZq : li_co c) (M0 : li_M) (z51 : (M0.1 5 1).toInt = 0) : li_Met l Z YX0_firstUnpayable d [.ref (Z.2.2 c)] M0 (fun r M' => (∃ x : Int32, r = some (.int x) ∧ (x.toInt = -1)) ∧ li_fr (fun i => False) M0 M') := by
  refine li_enter (by decide +kernel) (Nat.le_of_ble_eq_true rfl) ?_
  show li_T l Z YX0_firstUnpayable d 0 [(0, .ref (Z.2.2 c))] [] M0 _
  have hf : li_fr (fun i => False) M0 M0 := li_fr_refl
  refine li_aload_n 0 dX0_firstUnpayable_0 rfl ?_
  refine li_callV (n := 0) (As := []) dX0_firstUnpayable_1 (k15_X0_openThings (d - 1) (by omega) hcZq M0 (by first | omega | decide)) (by omega) (Nat.le_of_ble_eq_true rfl) w_1003 w_1004 w_1005 w_109 w_1006 (by decide +kernel) rfl (snC0 hcZq) (shC0 hcZq) rfl rfl (Nat.le_of_ble_eq_true rfl) (fun r M2Zq h3 => ?_)
  obtain ⟨⟨x1Zq, rfl, qx1⟩, h3⟩ := h3
  have gx1 := tl_rg x1Zq
  have hf := li_fr_trans hf h3 (fun i hZq => False.elim hZq)
  have mM2_5_0 : (M2Zq.1 5 0).toInt = (M0.1 5 0).toInt := by rw [h3.1 5 id]
  have mM2_5_1 : (M2Zq.1 5 1).toInt = (M0.1 5 1).toInt := by rw [h3.1 5 id]
  refine li_istore_n [(1, .int x1Zq), (0, .ref (Z.2.2 c))] dX0_firstUnpayable_4 (by decide) rfl ?_
  refine li_iconst (-1) dX0_firstUnpayable_5 (by decide) ?_
  refine li_istore_n [(2, .int (-1)), (1, .int x1Zq), (0, .ref (Z.2.2 c))] dX0_firstUnpayable_6 (by decide) rfl ?_
  refine li_iconst 0 dX0_firstUnpayable_7 (by decide) ?_
  refine li_istore_n [(3, .int 0), (2, .int (-1)), (1, .int x1Zq), (0, .ref (Z.2.2 c))] dX0_firstUnpayable_8 (by decide) rfl ?_
  have L9 : ∀ (n : Nat) (x4Zq : Int32) (x5Zq : Int32) (M6Zq : li_M), ((x4Zq : Int32).toInt).toNat < n → li_fr (fun i => False) M0 M6Zq → 0 ≤ (x4Zq : Int32).toInt ∧ (x5Zq : Int32).toInt = -1 ∧ (M6Zq.1 5 1).toInt = 0 → li_T l Z YX0_firstUnpayable d 9 [(3, .int x4Zq), (2, .int x5Zq), (1, .int x1Zq), (0, .ref (Z.2.2 c))] [] M6Zq (fun r M' => (∃ x : Int32, r = some (.int x) ∧ (x.toInt = -1)) ∧ li_fr (fun i => False) M0 M') := by
    intro n
    induction n with
    | zero => intro x4Zq x5Zq M6Zq hn; exact absurd hn (Nat.not_lt_zero _)
    | succ n ih9 =>
      intro x4Zq x5Zq M6Zq hn hf hiZq
      have gx4 := tl_rg x4Zq
      have gx5 := tl_rg x5Zq
      refine li_iload_n 0 dX0_firstUnpayable_9 rfl ?_
      refine li_aload_n 3 dX0_firstUnpayable_10 rfl ?_
      refine li_getr (k := 0) (N := 8) (T := TX0) (C0 := RX0) dX0_firstUnpayable_11 (snC0 hcZq) (shC0 hcZq) rfl rfl (by decide) (by decide) li_in0 w_368 ?_
      refine li_geti (k := 1) (N := 9) (T := TX8) (C0 := RX8) dX0_firstUnpayable_14 (by decide) sh_5 rfl rfl (by decide) li_in8 w_181 ?_
      refine li_top (fun x7 ex7 => ?_)
      have gx7 := tl_rg x7
      have vx7 : x7.toInt = (M6Zq.1 5 1).toInt := tl_eq ex7
      refine li_icmp_ge 109 dX0_firstUnpayable_17 (by decide) (fun c8Zq => ?_) (fun c8Zq => ?_)
      · have tc8 : x7.toInt ≤ x4Zq.toInt := tl_le c8Zq
        refine li_iload_n 1 dX0_firstUnpayable_109 rfl ?_
        exact li_iret dX0_firstUnpayable_110 rfl rfl ⟨⟨_, rfl, (by first | omega | (intro _; omega) | (intro hZq; exact absurd hZq (by decide)))⟩, hf⟩
      · have tc8 : x4Zq.toInt < x7.toInt := tl_nle c8Zq
        exfalso; omega
  have z0 : (0 : Int32).toInt = 0 := rfl
  have zm1 : ((-1) : Int32).toInt = -1 := rfl
  exact L9 _ 0 (-1) M2Zq (Nat.lt_succ_self _) hf (by omega)
set_option maxRecDepth 100000 in
set_option maxHeartbeats 4000000 in
theorem k15_X4_allClocks {l : Launch} {Z : li_Z} (d : Nat) (hdZq : 1 ≤ d) (p1Zq : Int32) (M0 : li_M) (h1 : p1Zq.toInt = 0) : li_Met l Z YX4_allClocks d [.ref (Z.2.2 13), .int p1Zq] M0 (fun r M' => (∃ x : Int32, r = some (.int x) ∧ (x.toInt = 0)) ∧ li_fr (fun i => False) M0 M') := by
  refine li_enter (by decide +kernel) (Nat.le_of_ble_eq_true rfl) ?_
  show li_T l Z YX4_allClocks d 0 [(0, .ref (Z.2.2 13)), (1, .int p1Zq)] [] M0 _
  have hf : li_fr (fun i => False) M0 M0 := li_fr_refl
  have gp1 := tl_rg p1Zq
  refine li_iconst 0 dX4_allClocks_0 (by decide) ?_
  refine li_istore_n [(2, .int 0), (0, .ref (Z.2.2 13)), (1, .int p1Zq)] dX4_allClocks_1 (by decide) rfl ?_
  refine li_iconst 0 dX4_allClocks_2 (by decide) ?_
  refine li_istore_n [(3, .int 0), (2, .int 0), (0, .ref (Z.2.2 13)), (1, .int p1Zq)] dX4_allClocks_3 (by decide) rfl ?_
  have L4Zq : ∀ (n : Nat) (x1Zq : Int32) (x2Zq : Int32) (M3Zq : li_M), ((x1Zq : Int32).toInt).toNat < n → li_fr (fun i => False) M0 M3Zq → 0 ≤ (x1Zq : Int32).toInt ∧ (x2Zq : Int32).toInt = 0 → li_T l Z YX4_allClocks d 4 [(3, .int x1Zq), (2, .int x2Zq), (0, .ref (Z.2.2 13)), (1, .int p1Zq)] [] M3Zq (fun r M' => (∃ x : Int32, r = some (.int x) ∧ (x.toInt = 0)) ∧ li_fr (fun i => False) M0 M') := by
    intro n
    induction n with
    | zero => intro x1Zq x2Zq M3Zq hn; exact absurd hn (Nat.not_lt_zero _)
    | succ n ih4 =>
      intro x1Zq x2Zq M3Zq hn hf hiZq
      have gx1 := tl_rg x1Zq
      have gx2 := tl_rg x2Zq
      refine li_iload_n 0 dX4_allClocks_4 rfl ?_
      refine li_iload_n 3 dX4_allClocks_5 rfl ?_
      refine li_icmp_ge 26 dX4_allClocks_6 (by decide) (fun c4 => ?_) (fun c4 => ?_)
      · have tc4 : p1Zq.toInt ≤ x1Zq.toInt := tl_le c4
        refine li_iload_n 1 dX4_allClocks_26 rfl ?_
        exact li_iret dX4_allClocks_27 rfl rfl ⟨⟨_, rfl, (by first | omega | (intro _; omega) | (intro hZq; exact absurd hZq (by decide)))⟩, hf⟩
      · have tc4 : x1Zq.toInt < p1Zq.toInt := tl_nle c4
        exfalso; omega
  have z0 : (0 : Int32).toInt = 0 := rfl
  have z0 : (0 : Int32).toInt = 0 := rfl
  exact L4Zq _ 0 0 M0 (Nat.lt_succ_self _) hf (by omega)
set_option maxRecDepth 100000 in
set_option maxHeartbeats 4000000 in
theorem k15_X11_pool {l : Launch} {Z : li_Z} (d : Nat) (hdZq : 3 ≤ d) (M0 : li_M) (z50Zq : (M0.1 5 0).toInt = 0) (z51 : (M0.1 5 1).toInt = 0) : li_Met l Z YX11_pool d [.ref (Z.2.2 0)] M0 (fun r M' => (∃ x : Int32, r = some (.int x) ∧ (x.toInt = 0)) ∧ li_fr (fun i => i = 148 ∨ i = 3 ∨ i = 4) M0 M') := by
  refine li_enter (by decide +kernel) (Nat.le_of_ble_eq_true rfl) ?_
  show li_T l Z YX11_pool d 0 [(0, .ref (Z.2.2 0))] [] M0 _
  have hf : li_fr (fun i => i = 148 ∨ i = 3 ∨ i = 4) M0 M0 := li_fr_refl
  refine li_aload_n 0 dX11_pool_0 rfl ?_
  refine li_getr (k := 7) (N := 13) (T := TX11) (C0 := RX11) dX11_pool_1 (by decide) sh_0 rfl rfl (by decide) (by decide) li_in11 w_480 ?_
  refine li_callV (n := 0) (As := []) dX11_pool_4 (k15_X0_fill (d - 1) (by omega) cob_148 M0 (by first | omega | decide)) (by omega) (Nat.le_of_ble_eq_true rfl) w_988 w_989 w_990 w_109 w_991 (by decide +kernel) rfl (by decide) sh_148 rfl rfl (Nat.le_of_ble_eq_true rfl) (fun r M2Zq h3 => ?_)
  obtain ⟨rfl, h3⟩ := h3
  have hf := li_fr_trans hf h3 (fun i hZq => False.elim hZq)
  have mM2_5_0 : (M2Zq.1 5 0).toInt = (M0.1 5 0).toInt := by rw [h3.1 5 id]
  have mM2_5_1 : (M2Zq.1 5 1).toInt = (M0.1 5 1).toInt := by rw [h3.1 5 id]
  have mM2_148_7 : (M2Zq.1 148 7).toInt = (M0.1 148 7).toInt := by rw [h3.1 148 id]
  refine li_aload_n 0 dX11_pool_7 rfl ?_
  refine li_getr (k := 7) (N := 13) (T := TX11) (C0 := RX11) dX11_pool_8 (by decide) sh_0 rfl rfl (by decide) (by decide) li_in11 w_480 ?_
  refine li_aload_n 0 dX11_pool_11 rfl ?_
  refine li_getr (k := 7) (N := 13) (T := TX11) (C0 := RX11) dX11_pool_12 (by decide) sh_0 rfl rfl (by decide) (by decide) li_in11 w_480 ?_
  refine li_callV (n := 0) (As := []) dX11_pool_15 (k15_X0_openThings (d - 1) (by omega) cob_148 M2Zq (by first | omega | decide)) (by omega) (Nat.le_of_ble_eq_true rfl) w_1035 w_1004 w_1005 w_109 w_1006 (by decide +kernel) rfl (by decide) sh_148 rfl rfl (Nat.le_of_ble_eq_true rfl) (fun r M5Zq h6 => ?_)
  obtain ⟨⟨x4Zq, rfl, qx4⟩, h6⟩ := h6
  have gx4 := tl_rg x4Zq
  have hf := li_fr_trans hf h6 (fun i hZq => False.elim hZq)
  have mM5_5_0 : (M5Zq.1 5 0).toInt = (M2Zq.1 5 0).toInt := by rw [h6.1 5 id]
  have mM5_5_1 : (M5Zq.1 5 1).toInt = (M2Zq.1 5 1).toInt := by rw [h6.1 5 id]
  have mM5_148_7 : (M5Zq.1 148 7).toInt = (M2Zq.1 148 7).toInt := by rw [h6.1 148 id]
  refine li_aload_n 0 dX11_pool_18 rfl ?_
  refine li_getr (k := 3) (N := 13) (T := TX11) (C0 := RX11) dX11_pool_19 (by decide) sh_0 rfl rfl (by decide) (by decide) li_in11 w_476 ?_
  refine li_aload_n 0 dX11_pool_22 rfl ?_
  refine li_getr (k := 2) (N := 13) (T := TX11) (C0 := RX11) dX11_pool_23 (by decide) sh_0 rfl rfl (by decide) (by decide) li_in11 w_475 ?_
  refine li_geti (k := 0) (N := 9) (T := TX8) (C0 := RX8) dX11_pool_26 (by decide) sh_5 rfl rfl (by decide) li_in8 w_178 ?_
  refine li_top (fun x7 ex7 => ?_)
  have gx7 := tl_rg x7
  have vx7 : x7.toInt = (M5Zq.1 5 0).toInt := tl_eq ex7
  refine li_callV (n := 1) (As := [.int x7]) dX11_pool_29 (k15_X4_allClocks (d - 1) (by omega) x7 M5Zq (by first | omega | decide)) (by omega) (Nat.le_of_ble_eq_true rfl) w_776 w_777 w_778 w_105 w_779 (by decide +kernel) rfl (by decide) sh_13 rfl rfl (Nat.le_of_ble_eq_true rfl) (fun r M9Zq h10 => ?_)
  obtain ⟨⟨x8, rfl, qx8⟩, h10⟩ := h10
  have gx8 := tl_rg x8
  have hf := li_fr_trans hf h10 (fun i hZq => False.elim hZq)
  have mM9_5_0 : (M9Zq.1 5 0).toInt = (M5Zq.1 5 0).toInt := by rw [h10.1 5 id]
  have mM9_5_1 : (M9Zq.1 5 1).toInt = (M5Zq.1 5 1).toInt := by rw [h10.1 5 id]
  have mM9_148_7 : (M9Zq.1 148 7).toInt = (M5Zq.1 148 7).toInt := by rw [h10.1 148 id]
  refine li_callV (n := 2) (As := [.int x4Zq, .int x8]) dX11_pool_32 (k15_X0_choose (d - 1) (by omega) x4Zq x8 M9Zq (by first | omega | decide)) (by omega) (Nat.le_of_ble_eq_true rfl) w_1036 w_1014 w_1015 w_109 w_1016 (by decide +kernel) rfl (by decide) sh_148 rfl rfl (Nat.le_of_ble_eq_true rfl) (fun r M12 h13 => ?_)
  obtain ⟨rfl, h13, nM12⟩ := h13
  have hf := li_fr_trans hf h13 (fun i (hZq : i = 148) => (show i = 148 ∨ i = 3 ∨ i = 4 by omega))
  have mM12_5_0 : (M12.1 5 0).toInt = (M9Zq.1 5 0).toInt := by rw [h13.1 5 (show ¬ (5 = 148) by omega)]
  have mM12_5_1 : (M12.1 5 1).toInt = (M9Zq.1 5 1).toInt := by rw [h13.1 5 (show ¬ (5 = 148) by omega)]
  refine li_aload_n 0 dX11_pool_35 rfl ?_
  refine li_getr (k := 1) (N := 13) (T := TX11) (C0 := RX11) dX11_pool_36 (by decide) sh_0 rfl rfl (by decide) (by decide) li_in11 w_474 ?_
  refine li_aload_n 0 dX11_pool_39 rfl ?_
  refine li_getr (k := 7) (N := 13) (T := TX11) (C0 := RX11) dX11_pool_40 (by decide) sh_0 rfl rfl (by decide) (by decide) li_in11 w_480 ?_
  refine li_geti (k := 5) (N := 8) (T := TX0) (C0 := RX0) dX11_pool_43 (by decide) sh_148 rfl rfl (by decide) li_in0 w_376 ?_
  refine li_top (fun x14 ex14 => ?_)
  have gx14 := tl_rg x14
  refine li_aload_n 0 dX11_pool_46 rfl ?_
  refine li_getr (k := 7) (N := 13) (T := TX11) (C0 := RX11) dX11_pool_47 (by decide) sh_0 rfl rfl (by decide) (by decide) li_in11 w_480 ?_
  refine li_geti (k := 6) (N := 8) (T := TX0) (C0 := RX0) dX11_pool_50 (by decide) sh_148 rfl rfl (by decide) li_in0 w_378 ?_
  refine li_top (fun x15 ex15 => ?_)
  have gx15 := tl_rg x15
  refine li_callV (n := 2) (As := [.int x14, .int x15]) dX11_pool_53 (k_X5_tellTwo (d - 1) (by omega) x14 x15 M12) (by omega) (Nat.le_of_ble_eq_true rfl) w_951 w_952 w_953 w_103 w_954 (by decide +kernel) rfl (by decide) sh_3 rfl rfl (Nat.le_of_ble_eq_true rfl) (fun r M17 h18 => ?_)
  obtain ⟨rfl, h18⟩ := h18
  have hf := li_fr_trans hf h18 (fun i (hZq : i = 3 ∨ i = 4) => (show i = 148 ∨ i = 3 ∨ i = 4 by omega))
  have mM17_5_0 : (M17.1 5 0).toInt = (M12.1 5 0).toInt := by rw [h18.1 5 (show ¬ (5 = 3 ∨ 5 = 4) by omega)]
  have mM17_5_1 : (M17.1 5 1).toInt = (M12.1 5 1).toInt := by rw [h18.1 5 (show ¬ (5 = 3 ∨ 5 = 4) by omega)]
  have mM17_148_7 : (M17.1 148 7).toInt = (M12.1 148 7).toInt := by rw [h18.1 148 (show ¬ (148 = 3 ∨ 148 = 4) by omega)]
  refine li_aload_n 0 dX11_pool_56 rfl ?_
  refine li_getr (k := 7) (N := 13) (T := TX11) (C0 := RX11) dX11_pool_57 (by decide) sh_0 rfl rfl (by decide) (by decide) li_in11 w_480 ?_
  refine li_geti (k := 7) (N := 8) (T := TX0) (C0 := RX0) dX11_pool_60 (by decide) sh_148 rfl rfl (by decide) li_in0 w_380 ?_
  refine li_top (fun x19 ex19 => ?_)
  have gx19 := tl_rg x19
  have vx19 : x19.toInt = (M17.1 148 7).toInt := tl_eq ex19
  exact li_iret dX11_pool_63 rfl rfl ⟨⟨_, rfl, (by first | omega | (intro _; omega) | (intro hZq; exact absurd hZq (by decide)))⟩, hf⟩
set_option maxRecDepth 100000 in
set_option maxHeartbeats 4000000 in
theorem k15_X11_gifts {l : Launch} {Z : li_Z} (d : Nat) (hdZq : 3 ≤ d) (p1Zq : Int32) (M0 : li_M) (z50Zq : (M0.1 5 0).toInt = 0) (z51 : (M0.1 5 1).toInt = 0) : li_Met l Z YX11_gifts d [.ref (Z.2.2 0), .int p1Zq] M0 (fun r M' => (∃ x : Int32, r = some (.int x) ∧ ((p1Zq.toInt = 0 ∧ x.toInt = 0) ∨ (¬ p1Zq.toInt = 0 ∧ x.toInt = -1))) ∧ li_fr (fun i => i = 3 ∨ i = 4) M0 M') := by
  refine li_enter (by decide +kernel) (Nat.le_of_ble_eq_true rfl) ?_
  show li_T l Z YX11_gifts d 0 [(0, .ref (Z.2.2 0)), (1, .int p1Zq)] [] M0 _
  have hf : li_fr (fun i => i = 3 ∨ i = 4) M0 M0 := li_fr_refl
  have gp1 := tl_rg p1Zq
  refine li_iload_n 1 dX11_gifts_0 rfl ?_
  refine li_aload_n 0 dX11_gifts_1 rfl ?_
  refine li_getr (k := 2) (N := 13) (T := TX11) (C0 := RX11) dX11_gifts_2 (by decide) sh_0 rfl rfl (by decide) (by decide) li_in11 w_475 ?_
  refine li_geti (k := 1) (N := 9) (T := TX8) (C0 := RX8) dX11_gifts_5 (by decide) sh_5 rfl rfl (by decide) li_in8 w_180 ?_
  refine li_top (fun x1Zq ex1 => ?_)
  have gx1 := tl_rg x1Zq
  have vx1 : x1Zq.toInt = (M0.1 5 1).toInt := tl_eq ex1
  refine li_callS (n := 2) (As := [.int p1Zq, .int x1Zq]) dX11_gifts_8 (k15_X11_areBitsOf (d - 1) (by omega) p1Zq x1Zq M0 (by first | omega | decide)) (by omega) (Nat.le_of_ble_eq_true rfl) w_1041 w_1042 w_101 w_1043 (by decide +kernel) rfl rfl (Nat.le_of_ble_eq_true rfl) (fun r M3Zq h4 => ?_)
  obtain ⟨⟨x2Zq, rfl, bx2, qx2⟩, h4⟩ := h4
  have ux2 := tl_b bx2
  have hf := li_fr_trans hf h4 (fun i hZq => False.elim hZq)
  have mM3_5_0 : (M3Zq.1 5 0).toInt = (M0.1 5 0).toInt := by rw [h4.1 5 id]
  have mM3_5_1 : (M3Zq.1 5 1).toInt = (M0.1 5 1).toInt := by rw [h4.1 5 id]
  refine li_if_ne 16 dX11_gifts_11 (by decide) (fun c5Zq => ?_) (fun c5Zq => ?_)
  · have tc5 : ¬ x2Zq.toInt = 0 := tl_ne c5Zq
    refine li_aload_n 0 dX11_gifts_16 rfl ?_
    refine li_getr (k := 7) (N := 13) (T := TX11) (C0 := RX11) dX11_gifts_17 (by decide) sh_0 rfl rfl (by decide) (by decide) li_in11 w_480 ?_
    refine li_callV (n := 0) (As := []) dX11_gifts_20 (k15_X0_fill (d - 1) (by omega) cob_148 M3Zq (by first | omega | decide)) (by omega) (Nat.le_of_ble_eq_true rfl) w_988 w_989 w_990 w_109 w_991 (by decide +kernel) rfl (by decide) sh_148 rfl rfl (Nat.le_of_ble_eq_true rfl) (fun r M7Zq h8 => ?_)
    obtain ⟨rfl, h8⟩ := h8
    have hf := li_fr_trans hf h8 (fun i hZq => False.elim hZq)
    have mM7_5_0 : (M7Zq.1 5 0).toInt = (M3Zq.1 5 0).toInt := by rw [h8.1 5 id]
    have mM7_5_1 : (M7Zq.1 5 1).toInt = (M3Zq.1 5 1).toInt := by rw [h8.1 5 id]
    refine li_iload_n 1 dX11_gifts_23 rfl ?_
    refine li_aload_n 0 dX11_gifts_24 rfl ?_
    refine li_getr (k := 7) (N := 13) (T := TX11) (C0 := RX11) dX11_gifts_25 (by decide) sh_0 rfl rfl (by decide) (by decide) li_in11 w_480 ?_
    refine li_callV (n := 0) (As := []) dX11_gifts_28 (k15_X0_openThings (d - 1) (by omega) cob_148 M7Zq (by first | omega | decide)) (by omega) (Nat.le_of_ble_eq_true rfl) w_1035 w_1004 w_1005 w_109 w_1006 (by decide +kernel) rfl (by decide) sh_148 rfl rfl (Nat.le_of_ble_eq_true rfl) (fun r M10 h11 => ?_)
    obtain ⟨⟨x9, rfl, qx9⟩, h11⟩ := h11
    have gx9 := tl_rg x9
    have hf := li_fr_trans hf h11 (fun i hZq => False.elim hZq)
    have mM10_5_0 : (M10.1 5 0).toInt = (M7Zq.1 5 0).toInt := by rw [h11.1 5 id]
    have mM10_5_1 : (M10.1 5 1).toInt = (M7Zq.1 5 1).toInt := by rw [h11.1 5 id]
    refine li_iconst (-1) dX11_gifts_31 (by decide) ?_
    refine li_ixor dX11_gifts_32 ?_
    refine li_top (fun x12 ex12 => ?_)
    refine li_iand dX11_gifts_33 ?_
    refine li_top (fun x13 ex13 => ?_)
    have xs : x13.toInt = 0 := and_z (a := p1Zq) (by omega) ex13
    refine li_if_eq 40 dX11_gifts_34 (by decide) (fun c14Zq => ?_) (fun c14Zq => ?_)
    · have tc14 : x13.toInt = 0 := tl_eq c14Zq
      refine li_aload_n 0 dX11_gifts_40 rfl ?_
      refine li_getr (k := 7) (N := 13) (T := TX11) (C0 := RX11) dX11_gifts_41 (by decide) sh_0 rfl rfl (by decide) (by decide) li_in11 w_480 ?_
      refine li_iload_n 1 dX11_gifts_44 rfl ?_
      refine li_callV (n := 1) (As := [.int p1Zq]) dX11_gifts_45 (k15_X0_leastOfAll (d - 1) (by omega) cob_148 p1Zq M10 (by first | omega | decide)) (by omega) (Nat.le_of_ble_eq_true rfl) w_1026 w_1027 w_1028 w_109 w_1029 (by decide +kernel) rfl (by decide) sh_148 rfl rfl (Nat.le_of_ble_eq_true rfl) (fun r M16 h17 => ?_)
      obtain ⟨⟨x15, rfl, qx15⟩, h17⟩ := h17
      have gx15 := tl_rg x15
      have hf := li_fr_trans hf h17 (fun i hZq => False.elim hZq)
      have mM16_5_0 : (M16.1 5 0).toInt = (M10.1 5 0).toInt := by rw [h17.1 5 id]
      have mM16_5_1 : (M16.1 5 1).toInt = (M10.1 5 1).toInt := by rw [h17.1 5 id]
      refine li_aload_n 0 dX11_gifts_48 rfl ?_
      refine li_getr (k := 3) (N := 13) (T := TX11) (C0 := RX11) dX11_gifts_49 (by decide) sh_0 rfl rfl (by decide) (by decide) li_in11 w_476 ?_
      refine li_aload_n 0 dX11_gifts_52 rfl ?_
      refine li_getr (k := 2) (N := 13) (T := TX11) (C0 := RX11) dX11_gifts_53 (by decide) sh_0 rfl rfl (by decide) (by decide) li_in11 w_475 ?_
      refine li_geti (k := 0) (N := 9) (T := TX8) (C0 := RX8) dX11_gifts_56 (by decide) sh_5 rfl rfl (by decide) li_in8 w_178 ?_
      refine li_top (fun x18 ex18 => ?_)
      have gx18 := tl_rg x18
      have vx18 : x18.toInt = (M16.1 5 0).toInt := tl_eq ex18
      refine li_callV (n := 1) (As := [.int x18]) dX11_gifts_59 (k15_X4_allClocks (d - 1) (by omega) x18 M16 (by first | omega | decide)) (by omega) (Nat.le_of_ble_eq_true rfl) w_776 w_777 w_778 w_105 w_779 (by decide +kernel) rfl (by decide) sh_13 rfl rfl (Nat.le_of_ble_eq_true rfl) (fun r M20 h21 => ?_)
      obtain ⟨⟨x19, rfl, qx19⟩, h21⟩ := h21
      have gx19 := tl_rg x19
      have hf := li_fr_trans hf h21 (fun i hZq => False.elim hZq)
      have mM20_5_0 : (M20.1 5 0).toInt = (M16.1 5 0).toInt := by rw [h21.1 5 id]
      have mM20_5_1 : (M20.1 5 1).toInt = (M16.1 5 1).toInt := by rw [h21.1 5 id]
      refine li_icmp_le 68 dX11_gifts_62 (by decide) (fun c22 => ?_) (fun c22 => ?_)
      · have tc22 : x15.toInt ≤ x19.toInt := tl_le c22
        refine li_iconst 0 dX11_gifts_68 (by decide) ?_
        refine li_istore_n [(2, .int 0), (0, .ref (Z.2.2 0)), (1, .int p1Zq)] dX11_gifts_69 (by decide) rfl ?_
        refine li_iconst 0 dX11_gifts_70 (by decide) ?_
        refine li_istore_n [(3, .int 0), (2, .int 0), (0, .ref (Z.2.2 0)), (1, .int p1Zq)] dX11_gifts_71 (by decide) rfl ?_
        refine li_iconst 0 dX11_gifts_72 (by decide) ?_
        refine li_istore [(4, .int 0), (3, .int 0), (2, .int 0), (0, .ref (Z.2.2 0)), (1, .int p1Zq)] dX11_gifts_73 (by decide) rfl ?_
        have L75 : ∀ (n : Nat) (x23 : Int32) (x24 : Int32) (x25 : Int32) (M26 : li_M), ((x23 : Int32).toInt).toNat < n → li_fr (fun i => i = 3 ∨ i = 4) M0 M26 → 0 ≤ (x23 : Int32).toInt ∧ (x25 : Int32).toInt = 0 ∧ (M26.1 5 0).toInt = 0 → li_T l Z YX11_gifts d 75 [(4, .int x23), (3, .int x24), (2, .int x25), (0, .ref (Z.2.2 0)), (1, .int p1Zq)] [] M26 (fun r M' => (∃ x : Int32, r = some (.int x) ∧ ((p1Zq.toInt = 0 ∧ x.toInt = 0) ∨ (¬ p1Zq.toInt = 0 ∧ x.toInt = -1))) ∧ li_fr (fun i => i = 3 ∨ i = 4) M0 M') := by
          intro n
          induction n with
          | zero => intro x23 x24 x25 M26 hn; exact absurd hn (Nat.not_lt_zero _)
          | succ n ih75 =>
            intro x23 x24 x25 M26 hn hf hiZq
            have gx23 := tl_rg x23
            have gx24 := tl_rg x24
            have gx25 := tl_rg x25
            refine li_iload 0 dX11_gifts_75 rfl ?_
            refine li_aload_n 3 dX11_gifts_77 rfl ?_
            refine li_getr (k := 2) (N := 13) (T := TX11) (C0 := RX11) dX11_gifts_78 (by decide) sh_0 rfl rfl (by decide) (by decide) li_in11 w_475 ?_
            refine li_geti (k := 0) (N := 9) (T := TX8) (C0 := RX8) dX11_gifts_81 (by decide) sh_5 rfl rfl (by decide) li_in8 w_178 ?_
            refine li_top (fun x27 ex27 => ?_)
            have gx27 := tl_rg x27
            have vx27 : x27.toInt = (M26.1 5 0).toInt := tl_eq ex27
            refine li_icmp_ge 139 dX11_gifts_84 (by decide) (fun c28Zq => ?_) (fun c28Zq => ?_)
            · have tc28 : x27.toInt ≤ x23.toInt := tl_le c28Zq
              refine li_aload_n 3 dX11_gifts_139 rfl ?_
              refine li_getr (k := 1) (N := 13) (T := TX11) (C0 := RX11) dX11_gifts_140 (by decide) sh_0 rfl rfl (by decide) (by decide) li_in11 w_474 ?_
              refine li_iload_n 1 dX11_gifts_143 rfl ?_
              refine li_callV (n := 1) (As := [.int x24]) dX11_gifts_144 (k_X5_tell (d - 1) (by omega) x24 M26) (by omega) (Nat.le_of_ble_eq_true rfl) w_1045 w_1046 w_1047 w_103 w_1048 (by decide +kernel) rfl (by decide) sh_3 rfl rfl (Nat.le_of_ble_eq_true rfl) (fun r M30 h31 => ?_)
              obtain ⟨rfl, h31⟩ := h31
              have hf := li_fr_trans hf h31 (fun i (hZq : i = 3 ∨ i = 4) => (show i = 3 ∨ i = 4 by omega))
              have mM30_5_0 : (M30.1 5 0).toInt = (M26.1 5 0).toInt := by rw [h31.1 5 (show ¬ (5 = 3 ∨ 5 = 4) by omega)]
              have mM30_5_1 : (M30.1 5 1).toInt = (M26.1 5 1).toInt := by rw [h31.1 5 (show ¬ (5 = 3 ∨ 5 = 4) by omega)]
              refine li_iload_n 2 dX11_gifts_147 rfl ?_
              exact li_iret dX11_gifts_148 rfl rfl ⟨⟨_, rfl, (by first | omega | (intro _; omega) | (intro hZq; exact absurd hZq (by decide)))⟩, hf⟩
            · have tc28 : x23.toInt < x27.toInt := tl_nle c28Zq
              exfalso; omega
        have z0 : (0 : Int32).toInt = 0 := rfl
        have z0 : (0 : Int32).toInt = 0 := rfl
        have z0 : (0 : Int32).toInt = 0 := rfl
        exact L75 _ 0 0 0 M20 (Nat.lt_succ_self _) hf (by omega)
      · have tc22 : x19.toInt < x15.toInt := tl_nle c22
        exfalso; omega
    · have tc14 : ¬ x13.toInt = 0 := tl_ne c14Zq
      exfalso; omega
  · have tc5 : x2Zq.toInt = 0 := tl_eq c5Zq
    refine li_iconst (-1) dX11_gifts_14 (by decide) ?_
    have zm1 : ((-1) : Int32).toInt = -1 := rfl
    exact li_iret dX11_gifts_15 rfl rfl ⟨⟨_, rfl, (by first | omega | (intro _; omega) | (intro hZq; exact absurd hZq (by decide)))⟩, hf⟩
set_option maxRecDepth 100000 in
set_option maxHeartbeats 4000000 in
theorem k15_X11_mute {l : Launch} {Z : li_Z} (d : Nat) (hdZq : 3 ≤ d) (M0 : li_M) (z50Zq : (M0.1 5 0).toInt = 0) (z51 : (M0.1 5 1).toInt = 0) : li_Met l Z YX11_mute d [.ref (Z.2.2 0)] M0 (fun r M' => (∃ x : Int32, r = some (.int x) ∧ (x.toInt = -2)) ∧ li_fr (fun i => False) M0 M') := by
  refine li_enter (by decide +kernel) (Nat.le_of_ble_eq_true rfl) ?_
  show li_T l Z YX11_mute d 0 [(0, .ref (Z.2.2 0))] [] M0 _
  have hf : li_fr (fun i => False) M0 M0 := li_fr_refl
  refine li_aload_n 0 dX11_mute_0 rfl ?_
  refine li_getr (k := 7) (N := 13) (T := TX11) (C0 := RX11) dX11_mute_1 (by decide) sh_0 rfl rfl (by decide) (by decide) li_in11 w_480 ?_
  refine li_callV (n := 0) (As := []) dX11_mute_4 (k15_X0_fill (d - 1) (by omega) cob_148 M0 (by first | omega | decide)) (by omega) (Nat.le_of_ble_eq_true rfl) w_988 w_989 w_990 w_109 w_991 (by decide +kernel) rfl (by decide) sh_148 rfl rfl (Nat.le_of_ble_eq_true rfl) (fun r M2Zq h3 => ?_)
  obtain ⟨rfl, h3⟩ := h3
  have hf := li_fr_trans hf h3 (fun i hZq => False.elim hZq)
  have mM2_5_0 : (M2Zq.1 5 0).toInt = (M0.1 5 0).toInt := by rw [h3.1 5 id]
  have mM2_5_1 : (M2Zq.1 5 1).toInt = (M0.1 5 1).toInt := by rw [h3.1 5 id]
  refine li_aload_n 0 dX11_mute_7 rfl ?_
  refine li_getr (k := 7) (N := 13) (T := TX11) (C0 := RX11) dX11_mute_8 (by decide) sh_0 rfl rfl (by decide) (by decide) li_in11 w_480 ?_
  refine li_callV (n := 0) (As := []) dX11_mute_11 (k15_X0_firstUnpayable (d - 1) (by omega) cob_148 M2Zq (by first | omega | decide)) (by omega) (Nat.le_of_ble_eq_true rfl) w_1053 w_1054 w_1055 w_109 w_1056 (by decide +kernel) rfl (by decide) sh_148 rfl rfl (Nat.le_of_ble_eq_true rfl) (fun r M5Zq h6 => ?_)
  obtain ⟨⟨x4Zq, rfl, qx4⟩, h6⟩ := h6
  have gx4 := tl_rg x4Zq
  have hf := li_fr_trans hf h6 (fun i hZq => False.elim hZq)
  have mM5_5_0 : (M5Zq.1 5 0).toInt = (M2Zq.1 5 0).toInt := by rw [h6.1 5 id]
  have mM5_5_1 : (M5Zq.1 5 1).toInt = (M2Zq.1 5 1).toInt := by rw [h6.1 5 id]
  refine li_istore_n [(1, .int x4Zq), (0, .ref (Z.2.2 0))] dX11_mute_14 (by decide) rfl ?_
  refine li_iload_n 0 dX11_mute_15 rfl ?_
  refine li_if_ge 22 dX11_mute_16 (by decide) (fun c7Zq => ?_) (fun c7Zq => ?_)
  · have tc7 : 0 ≤ x4Zq.toInt := tl_le c7Zq
    exfalso; omega
  · have tc7 : x4Zq.toInt < 0 := tl_nle c7Zq
    refine li_bipush (-2) dX11_mute_19 (by decide) ?_
    have zm2 : ((-2) : Int32).toInt = -2 := rfl
    exact li_iret dX11_mute_21 rfl rfl ⟨⟨_, rfl, (by first | omega | (intro _; omega) | (intro hZq; exact absurd hZq (by decide)))⟩, hf⟩
set_option maxRecDepth 100000 in
set_option maxHeartbeats 4000000 in
theorem k15_X11_look {l : Launch} {Z : li_Z} (d : Nat) (hdZq : 2 ≤ d) (M0 : li_M) (z50Zq : (M0.1 5 0).toInt = 0) (z51 : (M0.1 5 1).toInt = 0) : li_Met l Z YX11_look d [.ref (Z.2.2 0)] M0 (fun r M' => (∃ x : Int32, r = some (.int x) ∧ (x.toInt = -2)) ∧ li_fr (fun i => False) M0 M') := by
  refine li_enter (by decide +kernel) (Nat.le_of_ble_eq_true rfl) ?_
  show li_T l Z YX11_look d 0 [(0, .ref (Z.2.2 0))] [] M0 _
  have hf : li_fr (fun i => False) M0 M0 := li_fr_refl
  refine li_aload_n 0 dX11_look_0 rfl ?_
  refine li_getr (k := 7) (N := 13) (T := TX11) (C0 := RX11) dX11_look_1 (by decide) sh_0 rfl rfl (by decide) (by decide) li_in11 w_480 ?_
  refine li_callV (n := 0) (As := []) dX11_look_4 (k15_X0_fill (d - 1) (by omega) cob_148 M0 (by first | omega | decide)) (by omega) (Nat.le_of_ble_eq_true rfl) w_988 w_989 w_990 w_109 w_991 (by decide +kernel) rfl (by decide) sh_148 rfl rfl (Nat.le_of_ble_eq_true rfl) (fun r M2Zq h3 => ?_)
  obtain ⟨rfl, h3⟩ := h3
  have hf := li_fr_trans hf h3 (fun i hZq => False.elim hZq)
  have mM2_5_0 : (M2Zq.1 5 0).toInt = (M0.1 5 0).toInt := by rw [h3.1 5 id]
  have mM2_5_1 : (M2Zq.1 5 1).toInt = (M0.1 5 1).toInt := by rw [h3.1 5 id]
  refine li_iconst 0 dX11_look_7 (by decide) ?_
  refine li_istore_n [(1, .int 0), (0, .ref (Z.2.2 0))] dX11_look_8 (by decide) rfl ?_
  refine li_iconst (-1) dX11_look_9 (by decide) ?_
  refine li_istore_n [(2, .int (-1)), (1, .int 0), (0, .ref (Z.2.2 0))] dX11_look_10 (by decide) rfl ?_
  refine li_iconst 0 dX11_look_11 (by decide) ?_
  refine li_istore_n [(3, .int 0), (2, .int (-1)), (1, .int 0), (0, .ref (Z.2.2 0))] dX11_look_12 (by decide) rfl ?_
  have L13 : ∀ (n : Nat) (x4Zq : Int32) (x5Zq : Int32) (x6 : Int32) (M7Zq : li_M), ((x4Zq : Int32).toInt).toNat < n → li_fr (fun i => False) M0 M7Zq → 0 ≤ (x4Zq : Int32).toInt ∧ (x5Zq : Int32).toInt = -1 ∧ (M7Zq.1 5 0).toInt = 0 → li_T l Z YX11_look d 13 [(3, .int x4Zq), (2, .int x5Zq), (1, .int x6), (0, .ref (Z.2.2 0))] [] M7Zq (fun r M' => (∃ x : Int32, r = some (.int x) ∧ (x.toInt = -2)) ∧ li_fr (fun i => False) M0 M') := by
    intro n
    induction n with
    | zero => intro x4Zq x5Zq x6 M7Zq hn; exact absurd hn (Nat.not_lt_zero _)
    | succ n ih13 =>
      intro x4Zq x5Zq x6 M7Zq hn hf hiZq
      have gx4 := tl_rg x4Zq
      have gx5 := tl_rg x5Zq
      have gx6 := tl_rg x6
      refine li_iload_n 0 dX11_look_13 rfl ?_
      refine li_aload_n 3 dX11_look_14 rfl ?_
      refine li_getr (k := 2) (N := 13) (T := TX11) (C0 := RX11) dX11_look_15 (by decide) sh_0 rfl rfl (by decide) (by decide) li_in11 w_475 ?_
      refine li_geti (k := 0) (N := 9) (T := TX8) (C0 := RX8) dX11_look_18 (by decide) sh_5 rfl rfl (by decide) li_in8 w_178 ?_
      refine li_top (fun x8 ex8 => ?_)
      have gx8 := tl_rg x8
      have vx8 : x8.toInt = (M7Zq.1 5 0).toInt := tl_eq ex8
      refine li_icmp_ge 69 dX11_look_21 (by decide) (fun c9Zq => ?_) (fun c9Zq => ?_)
      · have tc9 : x8.toInt ≤ x4Zq.toInt := tl_le c9Zq
        refine li_iload_n 1 dX11_look_69 rfl ?_
        refine li_if_ge 76 dX11_look_70 (by decide) (fun c10Zq => ?_) (fun c10Zq => ?_)
        · have tc10 : 0 ≤ x5Zq.toInt := tl_le c10Zq
          exfalso; omega
        · have tc10 : x5Zq.toInt < 0 := tl_nle c10Zq
          refine li_bipush (-2) dX11_look_73 (by decide) ?_
          have zm2 : ((-2) : Int32).toInt = -2 := rfl
          exact li_iret dX11_look_75 rfl rfl ⟨⟨_, rfl, (by first | omega | (intro _; omega) | (intro hZq; exact absurd hZq (by decide)))⟩, hf⟩
      · have tc9 : x4Zq.toInt < x8.toInt := tl_nle c9Zq
        exfalso; omega
  have z0 : (0 : Int32).toInt = 0 := rfl
  have zm1 : ((-1) : Int32).toInt = -1 := rfl
  have z0 : (0 : Int32).toInt = 0 := rfl
  exact L13 _ 0 (-1) 0 M2Zq (Nat.lt_succ_self _) hf (by omega)
set_option maxRecDepth 100000 in
set_option maxHeartbeats 4000000 in
theorem k15_X11_bestOfAll {l : Launch} {Z : li_Z} (d : Nat) (hdZq : 2 ≤ d) {c : Nat} (hcZq : li_co c) (M0 : li_M) (z50Zq : (M0.1 5 0).toInt = 0) (z51 : (M0.1 5 1).toInt = 0) : li_Met l Z YX11_bestOfAll d [.ref (Z.2.2 0), .ref (Z.2.2 c)] M0 (fun r M' => (∃ x : Int32, r = some (.int x) ∧ (x.toInt = 0)) ∧ li_fr (fun i => False) M0 M') := by
  refine li_enter (by decide +kernel) (Nat.le_of_ble_eq_true rfl) ?_
  show li_T l Z YX11_bestOfAll d 0 [(0, .ref (Z.2.2 0)), (1, .ref (Z.2.2 c))] [] M0 _
  have hf : li_fr (fun i => False) M0 M0 := li_fr_refl
  refine li_aload_n 1 dX11_bestOfAll_0 rfl ?_
  refine li_callV (n := 0) (As := []) dX11_bestOfAll_1 (k15_X0_fill (d - 1) (by omega) hcZq M0 (by first | omega | decide)) (by omega) (Nat.le_of_ble_eq_true rfl) w_988 w_989 w_990 w_109 w_991 (by decide +kernel) rfl (snC0 hcZq) (shC0 hcZq) rfl rfl (Nat.le_of_ble_eq_true rfl) (fun r M2Zq h3 => ?_)
  obtain ⟨rfl, h3⟩ := h3
  have hf := li_fr_trans hf h3 (fun i hZq => False.elim hZq)
  have mM2_5_0 : (M2Zq.1 5 0).toInt = (M0.1 5 0).toInt := by rw [h3.1 5 id]
  have mM2_5_1 : (M2Zq.1 5 1).toInt = (M0.1 5 1).toInt := by rw [h3.1 5 id]
  refine li_iconst 0 dX11_bestOfAll_4 (by decide) ?_
  refine li_istore_n [(2, .int 0), (0, .ref (Z.2.2 0)), (1, .ref (Z.2.2 c))] dX11_bestOfAll_5 (by decide) rfl ?_
  refine li_iconst 0 dX11_bestOfAll_6 (by decide) ?_
  refine li_istore_n [(3, .int 0), (2, .int 0), (0, .ref (Z.2.2 0)), (1, .ref (Z.2.2 c))] dX11_bestOfAll_7 (by decide) rfl ?_
  have L8Zq : ∀ (n : Nat) (x4Zq : Int32) (x5Zq : Int32) (M6Zq : li_M), ((x4Zq : Int32).toInt).toNat < n → li_fr (fun i => False) M0 M6Zq → 0 ≤ (x4Zq : Int32).toInt ∧ (x5Zq : Int32).toInt = 0 ∧ (M6Zq.1 5 0).toInt = 0 → li_T l Z YX11_bestOfAll d 8 [(3, .int x4Zq), (2, .int x5Zq), (0, .ref (Z.2.2 0)), (1, .ref (Z.2.2 c))] [] M6Zq (fun r M' => (∃ x : Int32, r = some (.int x) ∧ (x.toInt = 0)) ∧ li_fr (fun i => False) M0 M') := by
    intro n
    induction n with
    | zero => intro x4Zq x5Zq M6Zq hn; exact absurd hn (Nat.not_lt_zero _)
    | succ n ih8 =>
      intro x4Zq x5Zq M6Zq hn hf hiZq
      have gx4 := tl_rg x4Zq
      have gx5 := tl_rg x5Zq
      refine li_iload_n 0 dX11_bestOfAll_8 rfl ?_
      refine li_aload_n 2 dX11_bestOfAll_9 rfl ?_
      refine li_getr (k := 2) (N := 13) (T := TX11) (C0 := RX11) dX11_bestOfAll_10 (by decide) sh_0 rfl rfl (by decide) (by decide) li_in11 w_475 ?_
      refine li_geti (k := 0) (N := 9) (T := TX8) (C0 := RX8) dX11_bestOfAll_13 (by decide) sh_5 rfl rfl (by decide) li_in8 w_178 ?_
      refine li_top (fun x7 ex7 => ?_)
      have gx7 := tl_rg x7
      have vx7 : x7.toInt = (M6Zq.1 5 0).toInt := tl_eq ex7
      refine li_icmp_ge 37 dX11_bestOfAll_16 (by decide) (fun c8Zq => ?_) (fun c8Zq => ?_)
      · have tc8 : x7.toInt ≤ x4Zq.toInt := tl_le c8Zq
        refine li_iload_n 1 dX11_bestOfAll_37 rfl ?_
        exact li_iret dX11_bestOfAll_38 rfl rfl ⟨⟨_, rfl, (by first | omega | (intro _; omega) | (intro hZq; exact absurd hZq (by decide)))⟩, hf⟩
      · have tc8 : x4Zq.toInt < x7.toInt := tl_nle c8Zq
        exfalso; omega
  have z0 : (0 : Int32).toInt = 0 := rfl
  have z0 : (0 : Int32).toInt = 0 := rfl
  exact L8Zq _ 0 0 M2Zq (Nat.lt_succ_self _) hf (by omega)
set_option maxRecDepth 100000 in
set_option maxHeartbeats 4000000 in
theorem k15_X4_addTenths {l : Launch} {Z : li_Z} (d : Nat) (hdZq : 1 ≤ d) (M0 : li_M) (z132 : (M0.1 13 2).toInt = 0) : li_Met l Z YX4_addTenths d [.ref (Z.2.2 13)] M0 (li_SV (fun i => False) M0) := by
  refine li_enter (by decide +kernel) (Nat.le_of_ble_eq_true rfl) ?_
  show li_T l Z YX4_addTenths d 0 [(0, .ref (Z.2.2 13))] [] M0 _
  have hf : li_fr (fun i => False) M0 M0 := li_fr_refl
  refine li_iconst 0 dX4_addTenths_0 (by decide) ?_
  refine li_istore_n [(1, .int 0), (0, .ref (Z.2.2 13))] dX4_addTenths_1 (by decide) rfl ?_
  have L2Zq : ∀ (n : Nat) (x1Zq : Int32) (M2Zq : li_M), ((x1Zq : Int32).toInt).toNat < n → li_fr (fun i => False) M0 M2Zq → 0 ≤ (x1Zq : Int32).toInt ∧ (M2Zq.1 13 2).toInt = 0 ∧ (M2Zq.1 13 0).toInt = (M0.1 13 0).toInt → li_T l Z YX4_addTenths d 2 [(1, .int x1Zq), (0, .ref (Z.2.2 13))] [] M2Zq (li_SV (fun i => False) M0) := by
    intro n
    induction n with
    | zero => intro x1Zq M2Zq hn; exact absurd hn (Nat.not_lt_zero _)
    | succ n ih2 =>
      intro x1Zq M2Zq hn hf hiZq
      have gx1 := tl_rg x1Zq
      refine li_iload_n 0 dX4_addTenths_2 rfl ?_
      refine li_aload_n 1 dX4_addTenths_3 rfl ?_
      refine li_geti (k := 2) (N := 11) (T := TX4) (C0 := RX4) dX4_addTenths_4 (by decide) sh_13 rfl rfl (by decide) li_in4 w_235 ?_
      refine li_top (fun x3 ex3Zq => ?_)
      have gx3 := tl_rg x3
      have vx3 : x3.toInt = (M2Zq.1 13 2).toInt := tl_eq ex3Zq
      refine li_icmp_ge 53 dX4_addTenths_7 (by decide) (fun c4 => ?_) (fun c4 => ?_)
      · have tc4 : x3.toInt ≤ x1Zq.toInt := tl_le c4
        exact li_vret dX4_addTenths_53 rfl ⟨rfl, hf⟩
      · have tc4 : x1Zq.toInt < x3.toInt := tl_nle c4
        exfalso; omega
  have z0 : (0 : Int32).toInt = 0 := rfl
  exact L2Zq _ 0 M0 (Nat.lt_succ_self _) hf (by omega)
