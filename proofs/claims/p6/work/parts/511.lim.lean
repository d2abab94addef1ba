theorem rd_nm_ge {g : Nat → Int32} {len : Int} : ∀ (k : Nat) (v p : Int), p ≤ (rd_nm g len k v p).2
  | 0, v, p => Int.le_refl p
  | k + 1, v, p => by
    unfold rd_nm
    split
    · have := rd_nm_ge (g := g) (len := len) k (max v 0 * 10 + (rd_ch g len p - 48)) (p + 1)
      omega
    · exact Int.le_refl p
theorem rd_nm_lim {g : Nat → Int32} {len e : Int} (he : e ≤ len) : ∀ (k : Nat) (v p : Int), p ≤ e → (rd_nm g e k v p).2 ≤ e ∧ ((rd_nm g e k v p).2 < e → rd_nm g len k v p = rd_nm g e k v p) ∧ ((rd_nm g e k v p).2 = e → e ≤ (rd_nm g len k v p).2)
  | 0, v, p, hp => ⟨hp, fun _ => rfl, fun h => Int.le_of_eq h.symm⟩
  | k + 1, v, p, hp => by
    by_cases c : p < e
    · have ec : rd_ch g len p = rd_ch g e p := by unfold rd_ch; rw [if_pos c, if_pos (by omega)]
      unfold rd_nm
      rw [ec]
      split
      · exact rd_nm_lim he k _ (p + 1) (by omega)
      · exact ⟨hp, fun _ => rfl, fun h => Int.le_of_eq h.symm⟩
    · have hpe : p = e := by omega
      have e1 : rd_nm g e (k + 1) v p = (v, p) := by
        unfold rd_nm
        rw [if_neg]
        unfold rd_ch
        rw [if_neg c]; omega
      rw [e1]
      exact ⟨hp, fun h => absurd h c, fun _ => by have := rd_nm_ge (g := g) (len := len) (k + 1) v p; omega⟩
theorem rd_ch_lim {g : Nat → Int32} {len e p : Int} (he : e ≤ len) (hp : p < e) : rd_ch g len p = rd_ch g e p := by unfold rd_ch; rw [if_pos hp, if_pos (by omega)]
theorem rd_ch_no {g : Nat → Int32} {len p : Int} (h : len ≤ p) : rd_ch g len p = -1 := by unfold rd_ch; rw [if_neg (by omega)]
