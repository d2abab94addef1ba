def rd_nm (g : Nat → Int32) (len : Int) : Nat → Int → Int → Int × Int
  | 0, v, p => (v, p)
  | k + 1, v, p => if 48 ≤ rd_ch g len p ∧ rd_ch g len p ≤ 57 then rd_nm g len k (max v 0 * 10 + (rd_ch g len p - 48)) (p + 1) else (v, p)
def li_nq (g : Nat → Int32) (len k v p r q : Int) : Prop := rd_nm g len k.toNat v p = (r, q)
theorem li_nq_tr {g g' : Nat → Int32} {len len' k k' v v' p p' r r' q q' : Int} (hg : g' = g) (h1 : len' = len) (h2 : k' = k) (h3 : v' = v) (h4 : p' = p) (h5 : r' = r) (h6 : q' = q) (h : li_nq g len k v p r q) : li_nq g' len' k' v' p' r' q' := by
  subst hg; subst h1; subst h2; subst h3; subst h4; subst h5; subst h6; exact h
theorem li_nq_st {g : Nat → Int32} {len k v p r q k' v' p' : Int} (h : li_nq g len k v p r q) (hk : 0 < k) (hd : 48 ≤ rd_ch g len p ∧ rd_ch g len p ≤ 57) (ek : k' = k - 1) (ev : v' = max v 0 * 10 + (rd_ch g len p - 48)) (ep : p' = p + 1) : li_nq g len k' v' p' r q := by
  unfold li_nq at h ⊢
  rw [show k.toNat = k'.toNat + 1 by omega] at h
  unfold rd_nm at h
  rw [if_pos hd] at h
  rw [ev, ep]; exact h
theorem li_nq_no {g : Nat → Int32} {len k v p r q : Int} (h : li_nq g len k v p r q) (hd : ¬ (48 ≤ rd_ch g len p ∧ rd_ch g len p ≤ 57)) : v = r ∧ p = q := by
  unfold li_nq at h
  cases hk : k.toNat with
  | zero => rw [hk] at h; exact Prod.mk.inj h
  | succ n => rw [hk] at h; unfold rd_nm at h; rw [if_neg hd] at h; exact Prod.mk.inj h
theorem li_nq_z {g : Nat → Int32} {len k v p r q : Int} (h : li_nq g len k v p r q) (hk : k ≤ 0) : v = r ∧ p = q := by
  unfold li_nq at h
  rw [show k.toNat = 0 by omega] at h
  exact Prod.mk.inj h
/-- a digit's number, where there is one -/
def li_cd (g : Nat → Int32) (len p d : Int) : Prop := (48 ≤ rd_ch g len p ∧ rd_ch g len p ≤ 57 ∧ d = rd_ch g len p - 48) ∨ (¬ (48 ≤ rd_ch g len p ∧ rd_ch g len p ≤ 57) ∧ ¬ (0 ≤ d ∧ d ≤ 9))
theorem li_cd_tr {g g' : Nat → Int32} {len len' p p' d d' : Int} (hg : g' = g) (h1 : len' = len) (h2 : p' = p) (h3 : d' = d) (h : li_cd g len p d) : li_cd g' len' p' d' := by
  subst hg; subst h1; subst h2; subst h3; exact h
theorem li_cd_no {g : Nat → Int32} {len p d : Int} (hp : len ≤ p) (hd : d = -1) : li_cd g len p d := by
  refine Or.inr ⟨?_, by omega⟩
  unfold rd_ch
  rw [if_neg (by omega)]; omega
theorem li_cd_of {g : Nat → Int32} {len p d x : Int} (h : rd_ch g len p = x) (hd : d = x - 48) : li_cd g len p d := by
  by_cases c : 48 ≤ rd_ch g len p ∧ rd_ch g len p ≤ 57
  · exact Or.inl ⟨c.1, c.2, by omega⟩
  · exact Or.inr ⟨c, by omega⟩
theorem rd_lt {g : Nat → Int32} {len p : Int} (h : 0 ≤ rd_ch g len p) : p < len := by
  by_cases c : p < len
  · exact c
  · unfold rd_ch at h; rw [if_neg c] at h; omega
theorem li_nq_self {g : Nat → Int32} {len k v p : Int} : ∃ r q : Int, li_nq g len k v p r q := ⟨_, _, rfl⟩
theorem li_cd_nd {g : Nat → Int32} {len p d : Int} (h : li_cd g len p d) (hd : ¬ (0 ≤ d ∧ d ≤ 9)) : ¬ (48 ≤ rd_ch g len p ∧ rd_ch g len p ≤ 57) := by
  rcases h with h | h
  · omega
  · exact h.1
theorem li_cd_d {g : Nat → Int32} {len p d : Int} (h : li_cd g len p d) (hd : 0 ≤ d ∧ d ≤ 9) : 48 ≤ rd_ch g len p ∧ rd_ch g len p ≤ 57 ∧ d = rd_ch g len p - 48 := by
  rcases h with h | h
  · exact h
  · exact absurd hd h.2
set_option maxRecDepth 100000 in
set_option maxHeartbeats 4000000 in
theorem k5_X7_takeNumber {l : Launch} {Z : li_Z} (d : Nat) (hd : 2 ≤ d) (p1 : Int32) (M0 : li_M) (h1 : 0 ≤ (M0.1 1 2).toInt ∧ (M0.1 1 2).toInt ≤ (M0.1 1 1).toInt ∧ (M0.1 1 1).toInt ≤ 80) (Psg_M0 : li_sg (M0.1 2)) (h2 : 1 ≤ p1.toInt ∧ p1.toInt ≤ 3) (R Q : Int) (Pnq_M0 : li_nq (M0.1 2) ((M0.1 1 1).toInt) (p1.toInt) (-1) ((M0.1 1 2).toInt) (R) (Q)) : li_Met l Z YX7_takeNumber d [.ref (Z.2.2 1), .int p1] M0 (fun r M' => (∃ x : Int32, r = some (.int x) ∧ (x.toInt = R ∧ (M'.1 1 2).toInt = Q ∧ (M'.1 1 1).toInt = (M0.1 1 1).toInt ∧ (M0.1 1 2).toInt ≤ (M'.1 1 2).toInt ∧ (M'.1 1 2).toInt ≤ (M0.1 1 1).toInt)) ∧ li_fr (fun i => i = 1) M0 M') := by
  refine li_enter (by decide +kernel) (Nat.le_of_ble_eq_true rfl) ?_
  show li_T l Z YX7_takeNumber d 0 [(0, .ref (Z.2.2 1)), (1, .int p1)] [] M0 _
  have hf : li_fr (fun i => i = 1) M0 M0 := li_fr_refl
  have gp1 := tl_rg p1
  refine li_iconst (-1) dX7_takeNumber_0 (by decide) ?_
  refine li_istore_n [(2, .int (-1)), (0, .ref (Z.2.2 1)), (1, .int p1)] dX7_takeNumber_1 (by decide) rfl ?_
  refine li_iconst 0 dX7_takeNumber_2 (by decide) ?_
  refine li_istore_n [(3, .int 0), (2, .int (-1)), (0, .ref (Z.2.2 1)), (1, .int p1)] dX7_takeNumber_3 (by decide) rfl ?_
  have L4 : ∀ (n : Nat) (x1 : Int32) (x2 : Int32) (M3 : li_M), (p1.toInt - (x1 : Int32).toInt).toNat < n → li_fr (fun i => i = 1) M0 M3 → 0 ≤ (x1 : Int32).toInt ∧ (x1 : Int32).toInt ≤ p1.toInt ∧ (M0.1 1 2).toInt ≤ (M3.1 1 2).toInt ∧ (M3.1 1 2).toInt ≤ (M3.1 1 1).toInt ∧ (M3.1 1 1).toInt = (M0.1 1 1).toInt ∧ -1 ≤ (x2 : Int32).toInt ∧ ((x1 : Int32).toInt = 0 → (x2 : Int32).toInt = -1) ∧ ((x1 : Int32).toInt ≤ 1 → (x2 : Int32).toInt ≤ 9) ∧ ((x1 : Int32).toInt ≤ 2 → (x2 : Int32).toInt ≤ 99) → li_sg (M3.1 2)  → li_nq (M3.1 2) ((M3.1 1 1).toInt) (p1.toInt - (x1 : Int32).toInt) ((x2 : Int32).toInt) ((M3.1 1 2).toInt) (R) (Q) → li_T l Z YX7_takeNumber d 4 [(3, .int x1), (2, .int x2), (0, .ref (Z.2.2 1)), (1, .int p1)] [] M3 (fun r M' => (∃ x : Int32, r = some (.int x) ∧ (x.toInt = R ∧ (M'.1 1 2).toInt = Q ∧ (M'.1 1 1).toInt = (M0.1 1 1).toInt ∧ (M0.1 1 2).toInt ≤ (M'.1 1 2).toInt ∧ (M'.1 1 2).toInt ≤ (M0.1 1 1).toInt)) ∧ li_fr (fun i => i = 1) M0 M') := by
    intro n
    induction n with
    | zero => intro x1 x2 M3 hn; exact absurd hn (Nat.not_lt_zero _)
    | succ n ih4 =>
      intro x1 x2 M3 hn hf hi Psg_M3 Pnq_M3
      have gx1 := tl_rg x1
      have gx2 := tl_rg x2
      refine li_iload_n 0 dX7_takeNumber_4 rfl ?_
      refine li_iload_n 3 dX7_takeNumber_5 rfl ?_
      refine li_icmp_ge 82 dX7_takeNumber_6 (by decide) (fun c4 => ?_) (fun c4 => ?_)
      · have tc4 : p1.toInt ≤ x1.toInt := tl_le c4
        refine li_iload_n 1 dX7_takeNumber_82 rfl ?_
        exact li_iret dX7_takeNumber_83 rfl rfl ⟨⟨_, rfl, (by first | (have zz9 := li_nq_z Pnq_M3 (by omega); refine ⟨?_, ?_, ?_, ?_, ?_⟩ <;> omega) | (have zz8 := li_cd_nd Pcd_M3 (by omega); have zz9 := li_nq_no Pnq_M3 zz8; refine ⟨?_, ?_, ?_, ?_, ?_⟩ <;> omega))⟩, hf⟩
      · have tc4 : x1.toInt < p1.toInt := tl_nle c4
        refine li_aload_n 2 dX7_takeNumber_9 rfl ?_
        refine li_geti (k := 2) (N := 3) (T := TX7) (C0 := RX7) dX7_takeNumber_10 (by decide) sh_1 rfl rfl (by decide) li_in7 w_142 ?_
        refine li_top (fun x5 ex5 => ?_)
        have gx5 := tl_rg x5
        have vx5 : x5.toInt = (M3.1 1 2).toInt := tl_eq ex5
        refine li_aload_n 2 dX7_takeNumber_13 rfl ?_
        refine li_geti (k := 1) (N := 3) (T := TX7) (C0 := RX7) dX7_takeNumber_14 (by decide) sh_1 rfl rfl (by decide) li_in7 w_139 ?_
        refine li_top (fun x6 ex6 => ?_)
        have gx6 := tl_rg x6
        have vx6 : x6.toInt = (M3.1 1 1).toInt := tl_eq ex6
        have J38 : ∀ (x8 : Int32) (M9 : li_M), li_fr (fun i => i = 1) M0 M9 → (M0.1 1 2).toInt ≤ (M9.1 1 2).toInt ∧ (M9.1 1 2).toInt ≤ (M9.1 1 1).toInt ∧ (M9.1 1 1).toInt = (M0.1 1 1).toInt → li_sg (M9.1 2)  → li_nq (M9.1 2) ((M9.1 1 1).toInt) (p1.toInt - (x1 : Int32).toInt) ((x2 : Int32).toInt) ((M9.1 1 2).toInt) (R) (Q) → li_cd (M9.1 2) ((M9.1 1 1).toInt) ((M9.1 1 2).toInt) ((x8 : Int32).toInt) → li_T l Z YX7_takeNumber d 38 [(3, .int x1), (2, .int x2), (0, .ref (Z.2.2 1)), (1, .int p1)] [.int x8] M9 (fun r M' => (∃ x : Int32, r = some (.int x) ∧ (x.toInt = R ∧ (M'.1 1 2).toInt = Q ∧ (M'.1 1 1).toInt = (M0.1 1 1).toInt ∧ (M0.1 1 2).toInt ≤ (M'.1 1 2).toInt ∧ (M'.1 1 2).toInt ≤ (M0.1 1 1).toInt)) ∧ li_fr (fun i => i = 1) M0 M') := by
          intro x8 M9 hf hi Psg_M9 Pnq_M9 Pcd_M9
          have gx8 := tl_rg x8
          refine li_istore [(4, .int x8), (3, .int x1), (2, .int x2), (0, .ref (Z.2.2 1)), (1, .int p1)] dX7_takeNumber_38 (by decide) rfl ?_
          refine li_iload 0 dX7_takeNumber_40 rfl ?_
          refine li_iconst 0 dX7_takeNumber_42 (by decide) ?_
          refine li_bipush 9 dX7_takeNumber_43 (by decide) ?_
          refine li_callN (n := 3) (As := [.int x8, .int 0, .int 9]) dX7_takeNumber_45 (k4_X11_within2 (d - 1) (by omega) x8 0 9 M9) (by omega) (Nat.le_of_ble_eq_true rfl) nw_10 w_639 w_101 w_640 (by decide +kernel) rfl rfl (Nat.le_of_ble_eq_true rfl) (fun r M11 h12 => ?_)
          have z0 : (0 : Int32).toInt = 0 := rfl
          have z9 : (9 : Int32).toInt = 9 := rfl
          obtain ⟨⟨x10, rfl, bx10, qx10⟩, h12⟩ := h12
          have ux10 := tl_b bx10
          have hf := li_fr_trans hf h12 (fun i h => False.elim h)
          have mM11_1_1 : (M11.1 1 1).toInt = (M9.1 1 1).toInt := by rw [h12.1 1 id]
          have mM11_1_2 : (M11.1 1 2).toInt = (M9.1 1 2).toInt := by rw [h12.1 1 id]
          have Psg_M11 : li_sg (M11.1 2)  := li_sg_tr (h12.1 2 (fun h => by first | exact (h : False).elim | omega))  Psg_M9
          have Pnq_M11 : li_nq (M11.1 2) ((M11.1 1 1).toInt) (p1.toInt - (x1 : Int32).toInt) ((x2 : Int32).toInt) ((M11.1 1 2).toInt) (R) (Q) := li_nq_tr (h12.1 2 (fun h => by first | exact (h : False).elim | omega)) (by omega) (by omega) (by omega) (by omega) (by omega) (by omega) Pnq_M9
          have Pcd_M11 : li_cd (M11.1 2) ((M11.1 1 1).toInt) ((M11.1 1 2).toInt) ((x8 : Int32).toInt) := li_cd_tr (h12.1 2 (fun h => by first | exact (h : False).elim | omega)) (by omega) (by omega) (by omega) Pcd_M9
          refine li_if_ne 54 dX7_takeNumber_48 (by decide) (fun c13 => ?_) (fun c13 => ?_)
          · have tc13 : ¬ x10.toInt = 0 := tl_ne c13
            refine li_aload_n 3 dX7_takeNumber_54 rfl ?_
            refine li_dup dX7_takeNumber_55 rfl ?_
            refine li_geti (k := 2) (N := 3) (T := TX7) (C0 := RX7) dX7_takeNumber_56 (by decide) sh_1 rfl rfl (by decide) li_in7 w_142 ?_
            refine li_top (fun x14 ex14 => ?_)
            have gx14 := tl_rg x14
            have vx14 : x14.toInt = (M11.1 1 2).toInt := tl_eq ex14
            refine li_iconst 1 dX7_takeNumber_59 (by decide) ?_
            refine li_iadd dX7_takeNumber_60 ?_
            refine li_top (fun x15 ex15 => ?_)
            have tx15 : (-2147483648 ≤ x14.toInt + 1 ∧ x14.toInt + 1 ≤ 2147483647) → x15.toInt = x14.toInt + 1 := tl_add ex15
            refine li_puti (k := 2) (N := 3) (T := TX7) (C0 := RX7) dX7_takeNumber_61 (by decide) sh_1 rfl rfl (by decide) li_in7 tyX7_ok nmX7 rfl rfl rfl rfl w_142 ?_
            refine li_nm (fun M16 eM16 => ?_)
            have hf := li_fr_ui hf (show 1 = 1 by omega) eM16
            have mM16_1_1 : (M16.1 1 1).toInt = (M11.1 1 1).toInt := by rw [eM16, li_ui_at, if_pos rfl, if_neg (by decide)]
            have mM16_1_2 : (M16.1 1 2).toInt = x15.toInt := by rw [eM16, li_ui_at, if_pos rfl, if_pos rfl]
            have Psg_M16 : li_sg (M16.1 2)  := li_sg_tr (li_cell_ui eM16 (by decide))  Psg_M11
            have cdd := li_cd_d Pcd_M11 (by omega)
            have cdl := rd_lt (show 0 ≤ rd_ch (M11.1 2) ((M11.1 1 1).toInt) ((M11.1 1 2).toInt) by omega)
            have Pnq_M16 : li_nq (M16.1 2) ((M16.1 1 1).toInt) (p1.toInt - (x1 : Int32).toInt - 1) (max (x2 : Int32).toInt 0 * 10 + (x8 : Int32).toInt) ((M16.1 1 2).toInt) (R) (Q) := li_nq_tr (li_cell_ui eM16 (by decide)) (by omega) rfl rfl rfl rfl rfl (li_nq_st Pnq_M11 (by omega) ⟨cdd.1, cdd.2.1⟩ (by omega) (by omega) (by omega))
            have k17 : M16.1 1 2 = x15 := by rw [eM16, li_ui_at, if_pos rfl, if_pos rfl]
            refine li_iload_n 2 dX7_takeNumber_64 rfl ?_
            refine li_iconst 0 dX7_takeNumber_65 (by decide) ?_
            refine li_mmax dX7_takeNumber_66 (by omega) w_641 w_642 w_113 w_643 (Nat.le_of_ble_eq_true rfl) ?_
            refine li_top (fun x18 ex18 => ?_)
            have tx18 : (x2.toInt < 0 → x18.toInt = 0) ∧ (0 ≤ x2.toInt → x18.toInt = x2.toInt) := tl_max ex18
            refine li_bipush 10 dX7_takeNumber_69 (by decide) ?_
            refine li_imul dX7_takeNumber_71 ?_
            refine li_top (fun x19 ex19 => ?_)
            have tx19 : (-2147483648 ≤ x18.toInt * 10 ∧ x18.toInt * 10 ≤ 2147483647) → x19.toInt = x18.toInt * 10 := tl_mul ex19
            refine li_iload 0 dX7_takeNumber_72 rfl ?_
            refine li_iadd dX7_takeNumber_74 ?_
            refine li_top (fun x20 ex20 => ?_)
            have tx20 : (-2147483648 ≤ x19.toInt + x8.toInt ∧ x19.toInt + x8.toInt ≤ 2147483647) → x20.toInt = x19.toInt + x8.toInt := tl_add ex20
            refine li_istore_n [(2, .int x20), (4, .int x8), (3, .int x1), (0, .ref (Z.2.2 1)), (1, .int p1)] dX7_takeNumber_75 (by decide) rfl ?_
            obtain ⟨x21, ex21⟩ : ∃ y : Int32, y = x1 + 1 := ⟨_, rfl⟩
            have tx21 : (-2147483648 ≤ x1.toInt + 1 ∧ x1.toInt + 1 ≤ 2147483647) → x21.toInt = x1.toInt + 1 := tl_add ex21
            refine li_iinc 2 [(3, .int x21), (2, .int x20), (4, .int x8), (0, .ref (Z.2.2 1)), (1, .int p1)] x21 dX7_takeNumber_76 rfl (by rw [ex21]; rfl) (by decide) rfl ?_
            refine li_goto 4 dX7_takeNumber_79 (by decide) ?_
            refine li_pick [0, 1, 3, 4] [(3, .int x21), (2, .int x20), (0, .ref (Z.2.2 1)), (1, .int p1)] rfl ?_
            exact ih4 x21 x20 M16 (by omega) hf (by omega) (by first | exact li_sg_tr rfl  Psg_M16) (by first | exact li_nq_tr rfl (by omega) (by omega) (by omega) (by omega) (by omega) (by omega) Pnq_M16 | exact li_nq_st Pnq_M16 (by omega) (by omega) (by omega) (by omega) (by omega))
          · have tc13 : x10.toInt = 0 := tl_eq c13
            refine li_goto 82 dX7_takeNumber_51 (by decide) ?_
            refine li_iload_n 2 dX7_takeNumber_82 rfl ?_
            exact li_iret dX7_takeNumber_83 rfl rfl ⟨⟨_, rfl, (by first | (have zz9 := li_nq_z Pnq_M11 (by omega); refine ⟨?_, ?_, ?_, ?_, ?_⟩ <;> omega) | (have zz8 := li_cd_nd Pcd_M11 (by omega); have zz9 := li_nq_no Pnq_M11 zz8; refine ⟨?_, ?_, ?_, ?_, ?_⟩ <;> omega))⟩, hf⟩
        refine li_icmp_ge 37 dX7_takeNumber_17 (by decide) (fun c7 => ?_) (fun c7 => ?_)
        · have tc7 : x6.toInt ≤ x5.toInt := tl_le c7
          refine li_iconst (-1) dX7_takeNumber_37 (by decide) ?_
          refine li_pick [0, 1, 2, 3] [(3, .int x1), (2, .int x2), (0, .ref (Z.2.2 1)), (1, .int p1)] rfl ?_
          have zm1 : ((-1) : Int32).toInt = -1 := rfl
          exact J38 (-1) M3 hf (by omega) (by first | exact li_sg_tr rfl  Psg_M3) (by first | exact li_nq_tr rfl (by omega) (by omega) (by omega) (by omega) (by omega) (by omega) Pnq_M3 | exact li_nq_st Pnq_M3 (by omega) (by omega) (by omega) (by omega) (by omega)) (by first | exact li_cd_no (by omega) (by omega) | exact li_cd_of chq (by omega))
        · have tc7 : x5.toInt < x6.toInt := tl_nle c7
          refine li_aload_n 2 dX7_takeNumber_20 rfl ?_
          refine li_getr (k := 0) (N := 3) (T := TX7) (C0 := RX7) dX7_takeNumber_21 (by decide) sh_1 rfl rfl (by decide) (by decide) li_in7 w_138 ?_
          refine li_aload_n 2 dX7_takeNumber_24 rfl ?_
          refine li_geti (k := 2) (N := 3) (T := TX7) (C0 := RX7) dX7_takeNumber_25 (by decide) sh_1 rfl rfl (by decide) li_in7 w_142 ?_
          refine li_top (fun x22 ex22 => ?_)
          have gx22 := tl_rg x22
          have vx22 : x22.toInt = (M3.1 1 2).toInt := tl_eq ex22
          have tvx22 : x22.toInt = x5.toInt := tl_eq (ex22.trans ex5.symm)
          refine li_callN (n := 2) (As := [.ref (Z.2.2 2), .int x22]) dX7_takeNumber_28 (a_X11_at (d - 1) (by omega) (by decide) sh_2 (by decide) x22 M3) (by omega) (Nat.le_of_ble_eq_true rfl) nw_8 w_569 w_101 w_570 (by decide +kernel) rfl rfl (Nat.le_of_ble_eq_true rfl) (fun r M24 h25 => ?_)
          obtain ⟨⟨x23, rfl, qx23⟩, h25⟩ := h25
          have gx23 := tl_rg x23
          have hf := li_fr_trans hf h25 (fun i h => False.elim h)
          have mM24_1_1 : (M24.1 1 1).toInt = (M3.1 1 1).toInt := by rw [h25.1 1 id]
          have mM24_1_2 : (M24.1 1 2).toInt = (M3.1 1 2).toInt := by rw [h25.1 1 id]
          have Psg_M24 : li_sg (M24.1 2)  := li_sg_tr (h25.1 2 (fun h => by first | exact (h : False).elim | omega))  Psg_M3
          have Pnq_M24 : li_nq (M24.1 2) ((M24.1 1 1).toInt) (p1.toInt - (x1 : Int32).toInt) ((x2 : Int32).toInt) ((M24.1 1 2).toInt) (R) (Q) := li_nq_tr (h25.1 2 (fun h => by first | exact (h : False).elim | omega)) (by omega) (by omega) (by omega) (by omega) (by omega) (by omega) Pnq_M3
          have sgq := li_sg_at Psg_M3 qx23
          have chq : rd_ch (M24.1 2) ((M24.1 1 1).toInt) ((M24.1 1 2).toInt) = x23.toInt := by rw [show M24.1 2 = M3.1 2 from h25.1 2 (fun h => h)]; exact rd_ch_at qx23 (by omega) (by omega) (by omega) (by omega)
          refine li_bipush 48 dX7_takeNumber_31 (by decide) ?_
          refine li_isub dX7_takeNumber_33 ?_
          refine li_top (fun x26 ex26 => ?_)
          have tx26 : (-2147483648 ≤ x23.toInt - 48 ∧ x23.toInt - 48 ≤ 2147483647) → x26.toInt = x23.toInt - 48 := tl_sub ex26
          refine li_goto 38 dX7_takeNumber_34 (by decide) ?_
          refine li_pick [0, 1, 2, 3] [(3, .int x1), (2, .int x2), (0, .ref (Z.2.2 1)), (1, .int p1)] rfl ?_
          exact J38 x26 M24 hf (by omega) (by first | exact li_sg_tr rfl  Psg_M24) (by first | exact li_nq_tr rfl (by omega) (by omega) (by omega) (by omega) (by omega) (by omega) Pnq_M24 | exact li_nq_st Pnq_M24 (by omega) (by omega) (by omega) (by omega) (by omega)) (by first | exact li_cd_no (by omega) (by omega) | exact li_cd_of chq (by omega))
  have z0 : (0 : Int32).toInt = 0 := rfl
  have zm1 : ((-1) : Int32).toInt = -1 := rfl
  exact L4 _ 0 (-1) M0 (Nat.lt_succ_self _) hf (by omega) (by first | exact li_sg_tr rfl  Psg_M0) (by first | exact li_nq_tr rfl (by omega) (by omega) (by omega) (by omega) (by omega) (by omega) Pnq_M0 | exact li_nq_st Pnq_M0 (by omega) (by omega) (by omega) (by omega) (by omega))
theorem rd_nm_ge {g : Nat → Int32} {len : Int} : ∀ (k : Nat) (v p : Int), p ≤ (rd_nm g len k v p).2
  | 0, v, p => Int.le_refl p
  | k + 1, v, p => by
    unfold rd_nm
    split
    · have := rd_nm_ge (g := g) (len := len) k (max v 0 * 10 + (rd_ch g len p - 48)) (p + 1)
      omega
    · exact Int.le_refl p
theorem rd_nm_lim {g : Nat → Int32} {len e : Int} (he : e ≤ len) : ∀ (k : Nat) (v p : Int), p ≤ e → (rd_nm g e k v p).2 ≤ e ∧ ((rd_nm g e k v p).2 < e → rd_nm g len k v p = rd_nm g e k v p) ∧ ((rd_nm g e k v p).2 = e → e ≤ (rd_nm g len k v p).2)
  | 0, v, p, hp => ⟨hp, fun _ => rfl, fun h => Int.le_of_eq h.symm⟩
  | k + 1, v, p, hp => by
    by_cases c : p < e
    · have ec : rd_ch g len p = rd_ch g e p := by unfold rd_ch; rw [if_pos c, if_pos (by omega)]
      unfold rd_nm
      rw [ec]
      split
      · exact rd_nm_lim he k _ (p + 1) (by omega)
      · exact ⟨hp, fun _ => rfl, fun h => Int.le_of_eq h.symm⟩
    · have hpe : p = e := by omega
      have e1 : rd_nm g e (k + 1) v p = (v, p) := by
        unfold rd_nm
        rw [if_neg]
        unfold rd_ch
        rw [if_neg c]; omega
      rw [e1]
      exact ⟨hp, fun h => absurd h c, fun _ => by have := rd_nm_ge (g := g) (len := len) (k + 1) v p; omega⟩
theorem rd_ch_lim {g : Nat → Int32} {len e p : Int} (he : e ≤ len) (hp : p < e) : rd_ch g len p = rd_ch g e p := by unfold rd_ch; rw [if_pos hp, if_pos (by omega)]
theorem rd_ch_no {g : Nat → Int32} {len p : Int} (h : len ≤ p) : rd_ch g len p = -1 := by unfold rd_ch; rw [if_neg (by omega)]
abbrev li_mq (g : Nat → Int32) (e k v p r q : Int) : Prop := li_nq (li_by g) e k v p r q
theorem li_mq_tr {g g' : Nat → Int32} {e e' k k' v v' p p' r r' q q' : Int} (hg : g' = g) (h1 : e' = e) (h2 : k' = k) (h3 : v' = v) (h4 : p' = p) (h5 : r' = r) (h6 : q' = q) (h : li_mq g e k v p r q) : li_mq g' e' k' v' p' r' q' := li_nq_tr (congrArg li_by hg) h1 h2 h3 h4 h5 h6 h
theorem li_mq_no {g : Nat → Int32} {e k v p r q H : Int} (h : li_mq g e k v p r q) (hc : H = rd_ch (li_by g) e p) : ¬ (48 ≤ H ∧ H ≤ 57) → v = r ∧ p = q := fun hd => li_nq_no h (by rw [← hc]; exact hd)
def li_ng (g : Nat → Int32) (e k v p r q w : Int) : Prop := w = -1 → li_mq g e k v p r q
theorem li_ng_tr {g g' : Nat → Int32} {e e' k k' v v' p p' r r' q q' w w' : Int} (hg : g' = g) (h1 : e' = e) (h2 : k' = k) (h3 : v' = v) (h4 : p' = p) (h5 : r' = r) (h6 : q' = q) (h7 : w' = w) (h : li_ng g e k v p r q w) : li_ng g' e' k' v' p' r' q' w' := fun hw => li_mq_tr hg h1 h2 h3 h4 h5 h6 (h (h7.symm.trans hw))
theorem li_ng_st {g g' : Nat → Int32} {e e' k v p r q H k' v' p' w : Int} (hg : g' = g) (he : e' = e) (h : li_mq g e k v p r q) (hc : H = rd_ch (li_by g) e p) (hk : 0 < k) (hk' : k' = k - 1) (hw : w = -1 → 48 ≤ H ∧ H ≤ 57 ∧ v' = max v 0 * 10 + (H - 48) ∧ p' = p + 1) : li_ng g' e' k' v' p' r q w := by
  subst hg; subst he
  intro w1
  obtain ⟨a, b, c, d⟩ := hw w1
  exact li_nq_st h hk ⟨by rw [← hc]; exact a, by rw [← hc]; exact b⟩ hk' (by rw [← hc]; exact c) d
theorem li_ng_z {g : Nat → Int32} {e k v p r q w : Int} (h : li_ng g e k v p r q w) : k ≤ 0 → w = -1 → v = r ∧ p = q := fun hk hw => li_nq_z (h hw) hk
theorem li_ng_no {g : Nat → Int32} {e k v p r q w H : Int} (h : li_ng g e k v p r q w) (hc : H = rd_ch (li_by g) e p) : w = -1 → ¬ (48 ≤ H ∧ H ≤ 57) → v = r ∧ p = q := fun hw => li_mq_no (h hw) hc

set_option maxRecDepth 100000 in
set_option maxHeartbeats 4000000 in
theorem k5_X12_number {l : Launch} {Z : li_Z} (d : Nat) (hd : 4 ≤ d) (p1 : Int32) (M0 : li_M) (hJ : li_J M0) (h1 : 1 ≤ p1.toInt ∧ p1.toInt ≤ 3) (bM0 : M0.2.2 0 = some 180) (R Q : Int) (Pmq_M0 : li_mq (M0.1 180) (min (M0.1 175 12).toInt (M0.1 175 13).toInt) (p1.toInt) (-1) ((M0.1 175 14).toInt) (R) (Q)) : li_Met l Z YX12_number d [.ref (Z.2.2 175), .int p1] M0 (fun r M' => (∃ x : Int32, r = some (.int x) ∧ (((M0.1 175 15).toInt = -1 → (R < 0 → x.toInt = 0 ∧ (M'.1 175 14).toInt = (M0.1 175 14).toInt ∧ (M'.1 175 15).toInt = (M0.1 175 14).toInt ∧ Q = (M0.1 175 14).toInt ∧ R = -1) ∧ (0 ≤ R → x.toInt = R ∧ (M'.1 175 14).toInt = Q ∧ (M'.1 175 15).toInt = -1)) ∧ (¬ (M0.1 175 15).toInt = -1 → x.toInt = 0 ∧ (M'.1 175 14).toInt = (M0.1 175 14).toInt ∧ (M'.1 175 15).toInt = (M0.1 175 15).toInt) ∧ (M0.1 175 14).toInt ≤ (M'.1 175 14).toInt ∧ ((M0.1 175 14).toInt ≤ (min (M0.1 175 12).toInt (M0.1 175 13).toInt) → (M'.1 175 14).toInt ≤ (min (M0.1 175 12).toInt (M0.1 175 13).toInt)))) ∧ li_fs (fun i k => (i = 175 ∧ k = 14) ∨ (i = 175 ∧ k = 15)) M0 M' ∧ li_J M') := by
  refine li_enter (by decide +kernel) (Nat.le_of_ble_eq_true rfl) ?_
  show li_T l Z YX12_number d 0 [(0, .ref (Z.2.2 175)), (1, .int p1)] [] M0 _
  have hf : li_fs (fun i k => (i = 175 ∧ k = 14) ∨ (i = 175 ∧ k = 15)) M0 M0 := li_fs_refl
  have gp1 := tl_rg p1
  have rM0_12 := J_sl12 (M := M0) hJ
  have rM0_13 := J_sl13 (M := M0) hJ
  have rM0_14 := J_sl14 (M := M0) hJ
  have rM0_15 := J_sl15 (M := M0) hJ
  refine li_aload_n 0 dX12_number_0 rfl ?_
  refine li_bipush 48 dX12_number_1 (by decide) ?_
  refine li_bipush 10 dX12_number_3 (by decide) ?_
  refine li_iconst (-1) dX12_number_5 (by decide) ?_
  have z48 : (48 : Int32).toInt = 48 := rfl
  have z10 : (10 : Int32).toInt = 10 := rfl
  have zm1 : ((-1) : Int32).toInt = -1 := rfl
  refine li_callV (n := 3) (As := [.int 48, .int 10, .int (-1)]) dX12_number_6 (k_X12_oneOf (d - 1) (by omega) 48 10 (-1) M0 hJ (by omega) (by omega)) (by omega) (Nat.le_of_ble_eq_true rfl) w_1593 w_1595 w_46 w_112 w_1596 (by decide +kernel) rfl (by decide) sh_175 rfl rfl (Nat.le_of_ble_eq_true rfl) (fun r M2 h3 => ?_)
  obtain ⟨⟨x1, rfl, qx1⟩, h3, jM2⟩ := h3
  have gx1 := tl_rg x1
  have hf := li_fs_trans hf h3 (fun i k => fun h => Or.elim h (fun h => Or.inl h) (fun h => Or.inr h))
  have hJ := jM2
  have rM2_12 := J_sl12 (M := M2) hJ
  have rM2_13 := J_sl13 (M := M2) hJ
  have rM2_14 := J_sl14 (M := M2) hJ
  have rM2_15 := J_sl15 (M := M2) hJ
  have mM2_12 : (M2.1 175 12).toInt = (M0.1 175 12).toInt := tl_slot (h3.1 175 12 (show ¬ ((175 = 175 ∧ 12 = 14) ∨ (175 = 175 ∧ 12 = 15)) by decide))
  have mM2_13 : (M2.1 175 13).toInt = (M0.1 175 13).toInt := tl_slot (h3.1 175 13 (show ¬ ((175 = 175 ∧ 13 = 14) ∨ (175 = 175 ∧ 13 = 15)) by decide))
  have bM2 : M2.2.2 0 = some 180 := (h3.2.2 0 (fun h9 => by first | exact (h9 : False).elim | omega)).trans bM0
  have crd : (li_hr M0).toInt = rd_ch (li_by (M0.1 180)) (min (M0.1 175 12).toInt (M0.1 175 13).toInt) ((M0.1 175 14).toInt) := hr_rd bM0 (by omega)
  have zz0 := li_mq_no Pmq_M0 crd
  have Png_M2 : li_ng (M2.1 180) (min (M2.1 175 12).toInt (M2.1 175 13).toInt) (p1.toInt - 1) (x1.toInt) ((M2.1 175 14).toInt) (R) (Q) ((M2.1 175 15).toInt) := li_ng_st (funext fun i => h3.1 180 i (show ¬ ((180 = 175 ∧ i = 14) ∨ (180 = 175 ∧ i = 15)) by omega)) (by omega) Pmq_M0 crd (by omega) (by omega) (fun h9 => by refine ⟨?_, ?_, ?_, ?_⟩ <;> omega)
  refine li_istore_n [(2, .int x1), (0, .ref (Z.2.2 175)), (1, .int p1)] dX12_number_9 (by decide) rfl ?_
  refine li_iconst 1 dX12_number_10 (by decide) ?_
  refine li_istore_n [(3, .int 1), (2, .int x1), (0, .ref (Z.2.2 175)), (1, .int p1)] dX12_number_11 (by decide) rfl ?_
  have L12 : ∀ (n : Nat) (x4 : Int32) (x5 : Int32) (M6 : li_M), (p1.toInt - (x4 : Int32).toInt).toNat < n → li_fs (fun i k => (i = 175 ∧ k = 14) ∨ (i = 175 ∧ k = 15)) M0 M6 → li_J M6 → 1 ≤ (x4 : Int32).toInt ∧ (x4 : Int32).toInt ≤ p1.toInt ∧ 0 ≤ (x5 : Int32).toInt ∧ ((x4 : Int32).toInt ≤ 1 → (x5 : Int32).toInt ≤ 9) ∧ ((x4 : Int32).toInt ≤ 2 → (x5 : Int32).toInt ≤ 99) ∧ (x5 : Int32).toInt ≤ 999 ∧ ((M6.1 175 15).toInt = -1 → (M0.1 175 15).toInt = -1) ∧ (¬ (M6.1 175 15).toInt = -1 → (x5 : Int32).toInt = 0 ∧ (M6.1 175 14).toInt = (M0.1 175 14).toInt ∧ (((M0.1 175 15).toInt = -1 ∧ (M6.1 175 15).toInt = (M0.1 175 14).toInt ∧ R = -1 ∧ Q = (M0.1 175 14).toInt) ∨ (¬ (M0.1 175 15).toInt = -1 ∧ (M6.1 175 15).toInt = (M0.1 175 15).toInt))) ∧ (M0.1 175 14).toInt ≤ (M6.1 175 14).toInt ∧ ((M0.1 175 14).toInt ≤ (min (M0.1 175 12).toInt (M0.1 175 13).toInt) → (M6.1 175 14).toInt ≤ (min (M0.1 175 12).toInt (M0.1 175 13).toInt)) → li_ng (M6.1 180) (min (M6.1 175 12).toInt (M6.1 175 13).toInt) (p1.toInt - (x4 : Int32).toInt) ((x5 : Int32).toInt) ((M6.1 175 14).toInt) (R) (Q) ((M6.1 175 15).toInt) → M6.2.2 0 = some 180 → li_T l Z YX12_number d 12 [(3, .int x4), (2, .int x5), (0, .ref (Z.2.2 175)), (1, .int p1)] [] M6 (fun r M' => (∃ x : Int32, r = some (.int x) ∧ (((M0.1 175 15).toInt = -1 → (R < 0 → x.toInt = 0 ∧ (M'.1 175 14).toInt = (M0.1 175 14).toInt ∧ (M'.1 175 15).toInt = (M0.1 175 14).toInt ∧ Q = (M0.1 175 14).toInt ∧ R = -1) ∧ (0 ≤ R → x.toInt = R ∧ (M'.1 175 14).toInt = Q ∧ (M'.1 175 15).toInt = -1)) ∧ (¬ (M0.1 175 15).toInt = -1 → x.toInt = 0 ∧ (M'.1 175 14).toInt = (M0.1 175 14).toInt ∧ (M'.1 175 15).toInt = (M0.1 175 15).toInt) ∧ (M0.1 175 14).toInt ≤ (M'.1 175 14).toInt ∧ ((M0.1 175 14).toInt ≤ (min (M0.1 175 12).toInt (M0.1 175 13).toInt) → (M'.1 175 14).toInt ≤ (min (M0.1 175 12).toInt (M0.1 175 13).toInt)))) ∧ li_fs (fun i k => (i = 175 ∧ k = 14) ∨ (i = 175 ∧ k = 15)) M0 M' ∧ li_J M') := by
    intro n
    induction n with
    | zero => intro x4 x5 M6 hn; exact absurd hn (Nat.not_lt_zero _)
    | succ n ih12 =>
      intro x4 x5 M6 hn hf hJ hi Png_M6 bM6
      have gx4 := tl_rg x4
      have gx5 := tl_rg x5
      have rM6_12 := J_sl12 (M := M6) hJ
      have rM6_13 := J_sl13 (M := M6) hJ
      have rM6_14 := J_sl14 (M := M6) hJ
      have rM6_15 := J_sl15 (M := M6) hJ
      have mM6_12 : (M6.1 175 12).toInt = (M0.1 175 12).toInt := tl_slot (hf.1 175 12 (show ¬ ((175 = 175 ∧ 12 = 14) ∨ (175 = 175 ∧ 12 = 15)) by decide))
      have mM6_13 : (M6.1 175 13).toInt = (M0.1 175 13).toInt := tl_slot (hf.1 175 13 (show ¬ ((175 = 175 ∧ 13 = 14) ∨ (175 = 175 ∧ 13 = 15)) by decide))
      refine li_iload_n 0 dX12_number_12 rfl ?_
      refine li_iload_n 3 dX12_number_13 rfl ?_
      refine li_icmp_ge 59 dX12_number_14 (by decide) (fun c7 => ?_) (fun c7 => ?_)
      · have tc7 : p1.toInt ≤ x4.toInt := tl_le c7
        refine li_iload_n 1 dX12_number_59 rfl ?_
        exact li_iret dX12_number_60 rfl rfl ⟨⟨_, rfl, (by have z1 := li_ng_z Png_M6; have z2 := li_ng_no Png_M6 (hr_rd bM6 (by omega)); refine ⟨?_, ?_, ?_, ?_⟩ <;> (intros; omega))⟩, hf, hJ⟩
      · have tc7 : x4.toInt < p1.toInt := tl_nle c7
        refine li_aload_n 2 dX12_number_17 rfl ?_
        refine li_callV (n := 0) (As := []) dX12_number_18 (k_X12_fine (d - 1) (by omega)  M6 hJ ) (by omega) (Nat.le_of_ble_eq_true rfl) w_1581 w_1583 w_43 w_112 w_1584 (by decide +kernel) rfl (by decide) sh_175 rfl rfl (Nat.le_of_ble_eq_true rfl) (fun r M9 h10 => ?_)
        obtain ⟨qx8, h10, jM9⟩ := h10
        have hf := li_fs_trans hf h10 (fun i k h => False.elim h)
        have kM9 : (li_hr M9).toInt = (li_hr M6).toInt := li_hr_fs h10 id id id id (fun _ _ _ => id) (by assumption)
        have hJ := jM9
        have rM9_12 := J_sl12 (M := M9) hJ
        have rM9_13 := J_sl13 (M := M9) hJ
        have rM9_14 := J_sl14 (M := M9) hJ
        have rM9_15 := J_sl15 (M := M9) hJ
        have mM9_12 : (M9.1 175 12).toInt = (M6.1 175 12).toInt := tl_slot (h10.1 175 12 id)
        have mM9_13 : (M9.1 175 13).toInt = (M6.1 175 13).toInt := tl_slot (h10.1 175 13 id)
        have mM9_14 : (M9.1 175 14).toInt = (M6.1 175 14).toInt := tl_slot (h10.1 175 14 id)
        have mM9_15 : (M9.1 175 15).toInt = (M6.1 175 15).toInt := tl_slot (h10.1 175 15 id)
        have Png_M9 : li_ng (M9.1 180) (min (M9.1 175 12).toInt (M9.1 175 13).toInt) (p1.toInt - (x4 : Int32).toInt) ((x5 : Int32).toInt) ((M9.1 175 14).toInt) (R) (Q) ((M9.1 175 15).toInt) := li_ng_tr (funext fun i => h10.1 180 i id) (by omega) (by omega) (by omega) (by omega) (by omega) (by omega) (by omega) Png_M6
        have bM9 : M9.2.2 0 = some 180 := (h10.2.2 0 (fun h9 => by first | exact (h9 : False).elim | omega)).trans bM6
        rcases qx8 with ⟨rfl, qx8⟩ | ⟨rfl, qx8⟩
        · skip
          refine li_if_eq 59 dX12_number_21 (by decide) (fun c => absurd c (by decide)) (fun c => ?_)
          refine li_aload_n 2 dX12_number_24 rfl ?_
          refine li_callV (n := 0) (As := []) dX12_number_25 (k_X12_here (d - 1) (by omega)  M9 hJ ) (by omega) (Nat.le_of_ble_eq_true rfl) w_1597 w_1599 w_47 w_112 w_1600 (by decide +kernel) rfl (by decide) sh_175 rfl rfl (Nat.le_of_ble_eq_true rfl) (fun r M13 h14 => ?_)
          obtain ⟨⟨x12, rfl, qx12⟩, h14, jM13⟩ := h14
          have gx12 := tl_rg x12
          have hf := li_fs_trans hf h14 (fun i k h => False.elim h)
          have kM13 : (li_hr M13).toInt = (li_hr M9).toInt := li_hr_fs h14 id id id id (fun _ _ _ => id) (by assumption)
          have hJ := jM13
          have rM13_12 := J_sl12 (M := M13) hJ
          have rM13_13 := J_sl13 (M := M13) hJ
          have rM13_14 := J_sl14 (M := M13) hJ
          have rM13_15 := J_sl15 (M := M13) hJ
          have mM13_12 : (M13.1 175 12).toInt = (M9.1 175 12).toInt := tl_slot (h14.1 175 12 id)
          have mM13_13 : (M13.1 175 13).toInt = (M9.1 175 13).toInt := tl_slot (h14.1 175 13 id)
          have mM13_14 : (M13.1 175 14).toInt = (M9.1 175 14).toInt := tl_slot (h14.1 175 14 id)
          have mM13_15 : (M13.1 175 15).toInt = (M9.1 175 15).toInt := tl_slot (h14.1 175 15 id)
          have Png_M13 : li_ng (M13.1 180) (min (M13.1 175 12).toInt (M13.1 175 13).toInt) (p1.toInt - (x4 : Int32).toInt) ((x5 : Int32).toInt) ((M13.1 175 14).toInt) (R) (Q) ((M13.1 175 15).toInt) := li_ng_tr (funext fun i => h14.1 180 i id) (by omega) (by omega) (by omega) (by omega) (by omega) (by omega) (by omega) Png_M9
          have bM13 : M13.2.2 0 = some 180 := (h14.2.2 0 (fun h9 => by first | exact (h9 : False).elim | omega)).trans bM9
          refine li_bipush 48 dX12_number_28 (by decide) ?_
          refine li_bipush 57 dX12_number_30 (by decide) ?_
          have z48 : (48 : Int32).toInt = 48 := rfl
          have z57 : (57 : Int32).toInt = 57 := rfl
          refine li_callS (n := 3) (As := [.int x12, .int 48, .int 57]) dX12_number_32 (k_X12_in (d - 1) (by omega) x12 48 57 M13 hJ ) (by omega) (Nat.le_of_ble_eq_true rfl) w_1570 w_1571 w_112 w_1572 (by decide +kernel) rfl rfl (Nat.le_of_ble_eq_true rfl) (fun r M16 h17 => ?_)
          obtain ⟨qx15, h17, jM16⟩ := h17
          have hf := li_fs_trans hf h17 (fun i k h => False.elim h)
          have kM16 : (li_hr M16).toInt = (li_hr M13).toInt := li_hr_fs h17 id id id id (fun _ _ _ => id) (by assumption)
          have hJ := jM16
          have rM16_12 := J_sl12 (M := M16) hJ
          have rM16_13 := J_sl13 (M := M16) hJ
          have rM16_14 := J_sl14 (M := M16) hJ
          have rM16_15 := J_sl15 (M := M16) hJ
          have mM16_12 : (M16.1 175 12).toInt = (M13.1 175 12).toInt := tl_slot (h17.1 175 12 id)
          have mM16_13 : (M16.1 175 13).toInt = (M13.1 175 13).toInt := tl_slot (h17.1 175 13 id)
          have mM16_14 : (M16.1 175 14).toInt = (M13.1 175 14).toInt := tl_slot (h17.1 175 14 id)
          have mM16_15 : (M16.1 175 15).toInt = (M13.1 175 15).toInt := tl_slot (h17.1 175 15 id)
          have Png_M16 : li_ng (M16.1 180) (min (M16.1 175 12).toInt (M16.1 175 13).toInt) (p1.toInt - (x4 : Int32).toInt) ((x5 : Int32).toInt) ((M16.1 175 14).toInt) (R) (Q) ((M16.1 175 15).toInt) := li_ng_tr (funext fun i => h17.1 180 i id) (by omega) (by omega) (by omega) (by omega) (by omega) (by omega) (by omega) Png_M13
          have bM16 : M16.2.2 0 = some 180 := (h17.2.2 0 (fun h9 => by first | exact (h9 : False).elim | omega)).trans bM13
          rcases qx15 with ⟨rfl, qx15⟩ | ⟨rfl, qx15⟩
          · skip
            refine li_if_eq 59 dX12_number_35 (by decide) (fun c => absurd c (by decide)) (fun c => ?_)
            refine li_bipush 10 dX12_number_38 (by decide) ?_
            refine li_iload_n 1 dX12_number_40 rfl ?_
            refine li_imul dX12_number_41 ?_
            refine li_top (fun x19 ex19 => ?_)
            have z10 : (10 : Int32).toInt = 10 := rfl
            try (have tx19 : x19.toInt = 10 * (x5 : Int32).toInt := tl_mul ex19 (show -2147483648 ≤ 10 * (x5 : Int32).toInt ∧ 10 * (x5 : Int32).toInt ≤ 2147483647 by omega))
            refine li_aload_n 2 dX12_number_42 rfl ?_
            refine li_bipush 48 dX12_number_43 (by decide) ?_
            refine li_bipush 10 dX12_number_45 (by decide) ?_
            refine li_iconst (-1) dX12_number_47 (by decide) ?_
            have z48 : (48 : Int32).toInt = 48 := rfl
            have z10 : (10 : Int32).toInt = 10 := rfl
            have zm1 : ((-1) : Int32).toInt = -1 := rfl
            refine li_callV (n := 3) (As := [.int 48, .int 10, .int (-1)]) dX12_number_48 (k_X12_oneOf (d - 1) (by omega) 48 10 (-1) M16 hJ (by omega) (by omega)) (by omega) (Nat.le_of_ble_eq_true rfl) w_1593 w_1595 w_46 w_112 w_1596 (by decide +kernel) rfl (by decide) sh_175 rfl rfl (Nat.le_of_ble_eq_true rfl) (fun r M21 h22 => ?_)
            obtain ⟨⟨x20, rfl, qx20⟩, h22, jM21⟩ := h22
            have gx20 := tl_rg x20
            have hf := li_fs_trans hf h22 (fun i k => fun h => Or.elim h (fun h => Or.inl h) (fun h => Or.inr h))
            have hJ := jM21
            have rM21_12 := J_sl12 (M := M21) hJ
            have rM21_13 := J_sl13 (M := M21) hJ
            have rM21_14 := J_sl14 (M := M21) hJ
            have rM21_15 := J_sl15 (M := M21) hJ
            have mM21_12 : (M21.1 175 12).toInt = (M16.1 175 12).toInt := tl_slot (h22.1 175 12 (show ¬ ((175 = 175 ∧ 12 = 14) ∨ (175 = 175 ∧ 12 = 15)) by decide))
            have mM21_13 : (M21.1 175 13).toInt = (M16.1 175 13).toInt := tl_slot (h22.1 175 13 (show ¬ ((175 = 175 ∧ 13 = 14) ∨ (175 = 175 ∧ 13 = 15)) by decide))
            have bM21 : M21.2.2 0 = some 180 := (h22.2.2 0 (fun h9 => by first | exact (h9 : False).elim | omega)).trans bM16
            have crd : (li_hr M16).toInt = rd_ch (li_by (M16.1 180)) (min (M16.1 175 12).toInt (M16.1 175 13).toInt) ((M16.1 175 14).toInt) := hr_rd bM16 (by omega)
            have Png_M21 : li_ng (M21.1 180) (min (M21.1 175 12).toInt (M21.1 175 13).toInt) (p1.toInt - (x4 : Int32).toInt - 1) (10 * (x5 : Int32).toInt + x20.toInt) ((M21.1 175 14).toInt) (R) (Q) ((M21.1 175 15).toInt) := li_ng_st (funext fun i => h22.1 180 i (show ¬ ((180 = 175 ∧ i = 14) ∨ (180 = 175 ∧ i = 15)) by omega)) (by omega) (Png_M16 (by omega)) crd (by omega) (by omega) (fun h9 => by refine ⟨?_, ?_, ?_, ?_⟩ <;> omega)
            refine li_iadd dX12_number_51 ?_
            refine li_top (fun x23 ex23 => ?_)
            try (have tx23 : x23.toInt = (x19 : Int32).toInt + (x20 : Int32).toInt := tl_add ex23 (by omega))
            refine li_istore_n [(2, .int x23), (3, .int x4), (0, .ref (Z.2.2 175)), (1, .int p1)] dX12_number_52 (by decide) rfl ?_
            obtain ⟨x24, ex24⟩ : ∃ y : Int32, y = x4 + 1 := ⟨_, rfl⟩
            have z1 : (1 : Int32).toInt = 1 := rfl
            try (have tx24 : x24.toInt = (x4 : Int32).toInt + (1 : Int32).toInt := tl_add ex24 (by omega))
            refine li_iinc 1 [(3, .int x24), (2, .int x23), (0, .ref (Z.2.2 175)), (1, .int p1)] x24 dX12_number_53 rfl (by rw [ex24]; rfl) (by decide) rfl ?_
            refine li_goto 12 dX12_number_56 (by decide) ?_
            refine li_pick [0, 1, 2, 3] [(3, .int x24), (2, .int x23), (0, .ref (Z.2.2 175)), (1, .int p1)] rfl ?_
            exact ih12 x24 x23 M21 (by omega) hf hJ (by omega) (by first | exact li_ng_tr rfl (by omega) (by omega) (by omega) (by omega) (by omega) (by omega) (by omega) Png_M21) bM21
          · skip
            refine li_if_eq 59 dX12_number_35 (by decide) (fun c => ?_) (fun c => absurd rfl c)
            refine li_iload_n 1 dX12_number_59 rfl ?_
            exact li_iret dX12_number_60 rfl rfl ⟨⟨_, rfl, (by have z1 := li_ng_z Png_M16; have z2 := li_ng_no Png_M16 (hr_rd bM16 (by omega)); refine ⟨?_, ?_, ?_, ?_⟩ <;> (intros; omega))⟩, hf, hJ⟩
        · skip
          refine li_if_eq 59 dX12_number_21 (by decide) (fun c => ?_) (fun c => absurd rfl c)
          refine li_iload_n 1 dX12_number_59 rfl ?_
          exact li_iret dX12_number_60 rfl rfl ⟨⟨_, rfl, (by have z1 := li_ng_z Png_M9; have z2 := li_ng_no Png_M9 (hr_rd bM9 (by omega)); refine ⟨?_, ?_, ?_, ?_⟩ <;> (intros; omega))⟩, hf, hJ⟩
  have z1 : (1 : Int32).toInt = 1 := rfl
  exact L12 _ 1 x1 M2 (Nat.lt_succ_self _) hf hJ (by omega) (by first | exact li_ng_tr rfl (by omega) (by omega) (by omega) (by omega) (by omega) (by omega) (by omega) Png_M2) bM2

