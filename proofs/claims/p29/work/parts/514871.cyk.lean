/-- what sets ofZq lettersZq sideZq by sideZq become by so manyZq lines; by allZq cutsZq upZq toZq oneZq; the tableZq -/
def cy_jl (GZq : Nat → Int32) (a b : Int32) : Nat → Int32
  | 0 => 0
  | l + 1 => if lb_bit a (GZq (3 * l)).toInt.toNat = true ∧ lb_bit b (GZq (3 * l + 1)).toInt.toNat = true then cy_jl GZq a b l ||| (1 <<< (GZq (3 * l + 2) &&& 31)) else cy_jl GZq a b l
def cy_cf (T GZq : Nat → Int32) (m f s : Nat) : Nat → Int32
  | 0 => 0
  | c + 1 => cy_cf T GZq m f s c ||| cy_jl GZq (T (16 * f + (c + 1))) (T (16 * (f + (c + 1)) + (s - (c + 1)))) m
def cy_v (T GZq X : Nat → Int32) (m s f : Nat) : Int32 := if s = 1 then 1 <<< (X f &&& 31) else cy_cf T GZq m f s (s - 1)
def cy_tb (T GZq X : Nat → Int32) (m n SZq FZq : Int) : Prop := ∀ s f : Nat, 1 ≤ s → (f : Int) + s ≤ n → ((s : Int) < SZq ∨ ((s : Int) = SZq ∧ (f : Int) < FZq)) → T (16 * f + s) = cy_v T GZq X m.toNat s f
theorem cy_jl_eq {GZq G' : Nat → Int32} {a b : Int32} : ∀ {m : Nat}, (∀ i, i < 3 * m → G' i = GZq i) → cy_jl G' a b m = cy_jl GZq a b m
  | 0, _ => rfl
  | m + 1, hZq => by
    unfold cy_jl
    rw [cy_jl_eq (m := m) (fun i hiZq => hZq i (by omega)), hZq (3 * m) (by omega), hZq (3 * m + 1) (by omega), hZq (3 * m + 2) (by omega)]
theorem cy_cf_eq {T T' GZq G' : Nat → Int32} {m f s n : Nat} (hG : ∀ i, i < 3 * m → G' i = GZq i) (hTZq : ∀ s' f' : Nat, 1 ≤ s' → s' < s → f' + s' ≤ n → T' (16 * f' + s') = T (16 * f' + s')) (hf : f + s ≤ n) : ∀ c : Nat, c < s → cy_cf T' G' m f s c = cy_cf T GZq m f s c
  | 0, _ => rfl
  | c + 1, hcZq => by
    unfold cy_cf
    rw [cy_cf_eq hG hTZq hf c (by omega), hTZq (c + 1) f (by omega) hcZq (by omega), hTZq (s - (c + 1)) (f + (c + 1)) (by omega) (by omega) (by omega), cy_jl_eq hG]
theorem cy_v_eq {T T' GZq G' X X' : Nat → Int32} {m f s n : Nat} (hG : ∀ i, i < 3 * m → G' i = GZq i) (hX : ∀ i, i < n → X' i = X i) (hTZq : ∀ s' f' : Nat, 1 ≤ s' → s' < s → f' + s' ≤ n → T' (16 * f' + s') = T (16 * f' + s')) (hs : 1 ≤ s) (hf : f + s ≤ n) : cy_v T' G' X' m s f = cy_v T GZq X m s f := by
  unfold cy_v
  by_cases c : s = 1
  · rw [if_pos c, if_pos c, hX f (by omega)]
  · rw [if_neg c, if_neg c]
    exact cy_cf_eq hG hTZq hf (s - 1) (by omega)
theorem cy_same {T T' GZq G' X X' : Nat → Int32} {m n : Int} (hZq : cy_tb T GZq X m n (n + 1) 0) (h' : cy_tb T' G' X' m n (n + 1) 0) (hG : ∀ i : Nat, (i : Int) < 3 * m → G' i = GZq i) (hX : ∀ i : Nat, (i : Int) < n → X' i = X i) : ∀ k s f : Nat, s ≤ k → 1 ≤ s → (f : Int) + s ≤ n → T' (16 * f + s) = T (16 * f + s) := by
  intro k
  induction k with
  | zero => intro s f h1 h2; omega
  | succ k ihZq =>
    intro s f h1 h2 h3
    rw [hZq s f h2 h3 (by omega), h' s f h2 h3 (by omega)]
    exact cy_v_eq (n := n.toNat) (fun i hiZq => hG i (by omega)) (fun i hiZq => hX i (by omega)) (fun s' f' a b c => ihZq s' f' (by omega) a (by omega)) h2 (by omega)
theorem cy_16 {a b FZq SZq : Int} (hZq : 16 * a + b = 16 * FZq + SZq) (b1 : 1 ≤ b) (b2 : b ≤ 15) (s1Zq : 1 ≤ SZq) (s2Zq : SZq ≤ 15) : a = FZq ∧ b = SZq := by
  have e : a = FZq := Int.le_antisymm (by omega) (by omega)
  exact ⟨e, by omega⟩
theorem cy_ij {s f jZq : Nat} {n SZq FZq : Int} (hj : (jZq : Int) = 16 * FZq + SZq) (hSZq : 1 ≤ SZq) (h14 : SZq ≤ 14) (h1 : 1 ≤ s) (h2 : s ≤ 14) (c : 16 * f + s = jZq) : (f : Int) = FZq ∧ (s : Int) = SZq := cy_16 (by omega) (by omega) (by omega) hSZq (by omega)
theorem cy_st {T T' GZq X : Nat → Int32} {m n SZq FZq : Int} {v : Int32} (hZq : cy_tb T GZq X m n SZq FZq) (jZq : Nat) (hp : ∀ i : Nat, T' i = if i = jZq then v else T i) (hj : (jZq : Int) = 16 * FZq + SZq) (hSZq : 1 ≤ SZq) (hF : 0 ≤ FZq) (hn : FZq + SZq ≤ n) (h14 : n ≤ 14) (hv : v = cy_v T GZq X m.toNat SZq.toNat FZq.toNat) : cy_tb T' GZq X m n SZq (FZq + 1) := by
  have hS14 : SZq ≤ 14 := by omega
  intro s f h1 h2 h3
  have h4 : (s : Int) ≤ SZq := by rcases h3 with q | q; exact Int.le_of_lt q; exact Int.le_of_eq q.1
  have h5 : (s : Int) < SZq ∨ ((s : Int) = SZq ∧ (f : Int) < FZq + 1) := h3
  clear h3
  have ag : ∀ s' f' : Nat, 1 ≤ s' → s' < s → f' + s' ≤ n.toNat → T' (16 * f' + s') = T (16 * f' + s') := fun s' f' a b d => by
    rw [hp, if_neg (fun q => by
      clear h5
      have zZq := (cy_ij (n := n) hj hSZq hS14 a (by omega) q).2
      omega)]
  have evZq : cy_v T' GZq X m.toNat s f = cy_v T GZq X m.toNat s f := cy_v_eq (n := n.toNat) (fun i _ => rfl) (fun i _ => rfl) ag h1 (by clear h5; omega)
  rw [evZq, hp]
  by_cases c : 16 * f + s = jZq
  · have zZq := cy_ij (n := n) hj hSZq hS14 h1 (by clear h5; omega) c
    have zf : f = FZq.toNat := by clear h5; omega
    have zs : s = SZq.toNat := by clear h5; omega
    rw [if_pos c, hv, zs, zf]
  · rw [if_neg c]
    refine hZq s f h1 h2 ?_
    rcases h5 with q | q
    · exact Or.inl q
    · refine Or.inr ⟨q.1, ?_⟩
      have : ¬ (f : Int) = FZq := fun wZq => c (by omega)
      omega
theorem cy_nx {T GZq X : Nat → Int32} {m n SZq FZq : Int} (hZq : cy_tb T GZq X m n SZq FZq) (hF : n < FZq + SZq) : cy_tb T GZq X m n (SZq + 1) 0 := fun s f h1 h2 h3 => hZq s f h1 h2 (by omega)
theorem cy_0 {T GZq X : Nat → Int32} {m n SZq FZq : Int} (hSZq : SZq ≤ 1) (hF : FZq ≤ 0) : cy_tb T GZq X m n SZq FZq := fun s f h1 h2 h3 => absurd h3 (by omega)
def li_cy (T GZq X : Nat → Int32) (m n SZq FZq : Int) : Prop := cy_tb T GZq X m n SZq FZq
theorem li_cy_tr {T T' GZq G' X X' : Nat → Int32} {m m' n n' SZq S' FZq F' : Int} (hTZq : T' = T) (h1 : G' = GZq) (h2 : X' = X) (h3 : m' = m) (h4 : n' = n) (h5 : S' = SZq) (h6 : F' = FZq) (hZq : li_cy T GZq X m n SZq FZq) : li_cy T' G' X' m' n' S' F' := by
  subst hTZq; subst h1; subst h2; subst h3; subst h4; subst h5; subst h6; exact hZq
/-- so farZq in a cut's lines -/
def li_cj (T GZq : Nat → Int32) (m f s c l : Int) (b : Int32) : Prop := b = cy_cf T GZq m.toNat f.toNat s.toNat (c - 1).toNat ||| cy_jl GZq (T (16 * f + c).toNat) (T (16 * (f + c) + (s - c)).toNat) l.toNat
theorem li_cj_tr {T T' GZq G' : Nat → Int32} {m m' f f' s s' c c' l l' : Int} {b b' : Int32} (hTZq : T' = T) (h1 : G' = GZq) (h2 : m' = m) (h3 : f' = f) (h4 : s' = s) (h5 : c' = c) (h6 : l' = l) (h7 : b' = b) (hZq : li_cj T GZq m f s c l b) : li_cj T' G' m' f' s' c' l' b' := by
  subst hTZq; subst h1; subst h2; subst h3; subst h4; subst h5; subst h6; subst h7; exact hZq
theorem li_cj_0 {T GZq : Nat → Int32} {m f s c l : Int} {b : Int32} (hbZq : b = 0) (hcZq : c = 1) (hl : l = 0) : li_cj T GZq m f s c l b := by
  subst hbZq; subst hcZq; subst hl
  unfold li_cj
  rw [show ((1 : Int) - 1).toNat = 0 from rfl, show (0 : Int).toNat = 0 from rfl, cy_cf, cy_jl]
  exact Int32.or_zero.symm
theorem li_cj_yes {T GZq : Nat → Int32} {m f s c l l' : Int} {b b' x y g : Int32} (hZq : li_cj T GZq m f s c l b) (hl : 0 ≤ l) (e : l' = l + 1) (hx : lb_bit x (GZq (3 * l).toNat).toInt.toNat = true) (hy : lb_bit y (GZq (3 * l + 1).toNat).toInt.toNat = true) (ex : x = T (16 * f + c).toNat) (ey : y = T (16 * (f + c) + (s - c)).toNat) (hbZq : b' = b ||| (1 <<< (g &&& 31))) (hg : g = GZq (3 * l + 2).toNat) : li_cj T GZq m f s c l' b' := by
  unfold li_cj at hZq ⊢
  subst e
  rw [hbZq, hZq, hg, show (l + 1).toNat = l.toNat + 1 by omega, Int32.or_assoc]
  refine congrArg (HOr.hOr (cy_cf T GZq m.toNat f.toNat s.toNat (c - 1).toNat)) ?_
  rw [cy_jl, if_pos ⟨by rw [← ex, show 3 * l.toNat = (3 * l).toNat by omega]; exact hx, by rw [← ey, show 3 * l.toNat + 1 = (3 * l + 1).toNat by omega]; exact hy⟩, show 3 * l.toNat + 2 = (3 * l + 2).toNat by omega]
theorem li_cj_no {T GZq : Nat → Int32} {m f s c l l' : Int} {b b' x y : Int32} (hZq : li_cj T GZq m f s c l b) (hl : 0 ≤ l) (e : l' = l + 1) (hn : ¬ (lb_bit x (GZq (3 * l).toNat).toInt.toNat = true ∧ lb_bit y (GZq (3 * l + 1).toNat).toInt.toNat = true)) (ex : x = T (16 * f + c).toNat) (ey : y = T (16 * (f + c) + (s - c)).toNat) (hbZq : b' = b) : li_cj T GZq m f s c l' b' := by
  unfold li_cj at hZq ⊢
  subst e; subst hbZq
  rw [show (l + 1).toNat = l.toNat + 1 by omega, cy_jl, if_neg ?_]
  · exact hZq
  · rw [← ex, ← ey, show 3 * l.toNat = (3 * l).toNat by omega, show (3 * l).toNat + 1 = (3 * l + 1).toNat by omega]; exact hn
theorem li_cj_nx {T GZq : Nat → Int32} {m f s c c' l l' : Int} {b : Int32} (hZq : li_cj T GZq m f s c l b) (hcZq : 1 ≤ c) (hs : c ≤ s) (hf : 0 ≤ f) (hl : l = m) (ec : c' = c + 1) (el : l' = 0) : li_cj T GZq m f s c' l' b := by
  unfold li_cj at hZq ⊢
  subst hl; subst ec; subst el
  rw [show (c + 1 - 1).toNat = (c - 1).toNat + 1 by omega, show (0 : Int).toNat = 0 from rfl, cy_jl, Int32.or_zero, hZq, cy_cf, show (c - 1).toNat + 1 = c.toNat by omega, show (16 * f + c).toNat = 16 * f.toNat + c.toNat by omega, show (16 * (f + c) + (s - c)).toNat = 16 * (f.toNat + c.toNat) + (s.toNat - c.toNat) by omega]
theorem li_cj_end {T GZq : Nat → Int32} {m f s c l : Int} {b : Int32} (hZq : li_cj T GZq m f s c l b) (hl : l = 0) (hcZq : s ≤ c) (hc' : c ≤ s) : b = cy_cf T GZq m.toNat f.toNat s.toNat (s.toNat - 1) := by
  unfold li_cj at hZq
  subst hl
  rw [hZq, show (c - 1).toNat = s.toNat - 1 by omega, show (0 : Int).toNat = 0 from rfl, cy_jl, Int32.or_zero]
theorem lb_z : ∀ jZq, jZq < 32 → lb_bit 0 jZq = false := by decide +kernel
/-- a set's bitZq, asZq the class asksZq it -/
theorem hb_bit {b i : Int32} (h0 : 0 ≤ i.toInt) (h1 : i.toInt < 32) : (¬ li_hb b i = 0) ↔ lb_bit b i.toInt.toNat = true := by
  have hn : i.toInt.toNat < 32 := by omega
  have ek : i = nI i.toInt.toNat := Int32.toInt_inj.mp (by rw [nI_toInt (by omega)]; omega)
  have hz : (0 : Int32).toInt = 0 := rfl
  have b0 : lb_bit (li_us b i &&& 1) 0 = lb_bit b i.toInt.toNat := by
    rw [lb_and, lb_one 0 (by decide)]
    conv => lhs; rw [ek]
    rw [lb_us _ hn]
    simp
  have bz : lb_bit b i.toInt.toNat = false → li_us b i &&& 1 = 0 := fun q => by
    apply lb_ext
    intro jZq hj
    by_cases c : jZq = 0
    · subst c; rw [b0, q]; decide
    · rw [lb_and, lb_one jZq hj]
      simp only [c, decide_false, Bool.and_false]
      rw [lb_z jZq hj]
  unfold li_hb
  constructor
  · intro q
    cases e : lb_bit b i.toInt.toNat with
    | true => rfl
    | false => exact absurd (by rw [bz e]; exact hz) q
  · intro q wZq
    have zZq : li_us b i &&& 1 = 0 := Int32.toInt_inj.mp (wZq.trans hz.symm)
    rw [zZq, q] at b0
    exact absurd b0 (by decide)

