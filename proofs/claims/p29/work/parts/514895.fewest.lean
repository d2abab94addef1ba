def fq_v (T : Nat → Int32) (FZq : Nat → Int) (capZq : Int) (f : Nat) : Nat → Int
  | 0 => capZq
  | c + 1 => if (T (16 * f + (c + 1))).toInt = 0 then fq_v T FZq capZq f c else min (fq_v T FZq capZq f c) (1 + FZq (f + (c + 1)))
theorem fq_v_eq {T : Nat → Int32} {FZq F' : Nat → Int} {capZq : Int} {f : Nat} : ∀ c : Nat, (∀ i : Nat, f < i → i ≤ f + c → F' i = FZq i) → fq_v T F' capZq f c = fq_v T FZq capZq f c
  | 0, _ => rfl
  | c + 1, hZq => by
    unfold fq_v
    rw [fq_v_eq c (fun i a b => hZq i a (by omega)), hZq (f + (c + 1)) (by omega) (by omega)]
abbrev fq_F (g : Nat → Int32) : Nat → Int := fun i => (g i).toInt
/-- fewest lettersZq from eachZq placeZq from k onZq -/
def li_fq (g T : Nat → Int32) (n capZq k : Int) : Prop := ∀ f : Nat, k ≤ (f : Int) → (f : Int) ≤ n → (g f).toInt = (if (f : Int) = n then 0 else fq_v T (fq_F g) capZq f (n.toNat - f)) ∧ 0 ≤ (g f).toInt ∧ (g f).toInt ≤ capZq
theorem li_fq_tr {g g' T T' : Nat → Int32} {n n' capZq cap' k k' : Int} (hg : g' = g) (hTZq : T' = T) (h1 : n' = n) (h2 : cap' = capZq) (h3 : k' = k) (hZq : li_fq g T n capZq k) : li_fq g' T' n' cap' k' := by
  subst hg; subst hTZq; subst h1; subst h2; subst h3; exact hZq
/-- at oneZq placeZq, so manyZq endsZq in -/
def li_fn (g T : Nat → Int32) (capZq f c : Int) : Prop := (g f.toNat).toInt = fq_v T (fq_F g) capZq f.toNat c.toNat ∧ 0 ≤ (g f.toNat).toInt ∧ (g f.toNat).toInt ≤ capZq
theorem li_fn_tr {g g' T T' : Nat → Int32} {capZq cap' f f' c c' : Int} (hg : g' = g) (hTZq : T' = T) (h1 : cap' = capZq) (h2 : f' = f) (h3 : c' = c) (hZq : li_fn g T capZq f c) : li_fn g' T' cap' f' c' := by
  subst hg; subst hTZq; subst h1; subst h2; subst h3; exact hZq
/-- only the placeZq f changesZq -/
theorem li_fq_up {g g' T : Nat → Int32} {n capZq k f : Int} (hZq : li_fq g T n capZq k) (hf : f < k) (h0 : 0 ≤ f) (hp : ∀ i : Nat, ¬ i = f.toNat → g' i = g i) : li_fq g' T n capZq k := by
  intro i hiZq hn
  have e : g' i = g i := hp i (by omega)
  rw [e]
  have zZq := hZq i hiZq hn
  refine ⟨?_, zZq.2⟩
  rw [zZq.1]
  by_cases c : (i : Int) = n
  · rw [if_pos c, if_pos c]
  · rw [if_neg c, if_neg c]
    exact (fq_v_eq (n.toNat - i) (fun jZq a b => by show (g' jZq).toInt = (g jZq).toInt; rw [hp jZq (by omega)])).symm
theorem li_fq_0 {g' T : Nat → Int32} {n capZq : Int} (hv : (g' n.toNat).toInt = 0) (h0 : 0 ≤ n) (hcZq : 0 ≤ capZq) : li_fq g' T n capZq n := by
  intro i hiZq hn
  rw [if_pos (by omega), show i = n.toNat by omega, hv]
  exact ⟨rfl, by omega, hcZq⟩
theorem li_fn_0 {g' T : Nat → Int32} {capZq f c : Int} (hv : (g' f.toNat).toInt = capZq) (hcZq : c = 0) (h0 : 0 ≤ capZq) : li_fn g' T capZq f c := by
  subst hcZq
  unfold li_fn
  rw [hv]
  exact ⟨rfl, h0, Int.le_refl _⟩
theorem li_fn_no {g T : Nat → Int32} {capZq f c c' : Int} {x : Int32} (hZq : li_fn g T capZq f c) (hcZq : 0 ≤ c) (hf : 0 ≤ f) (ex : x = T (16 * f + (c + 1)).toNat) (hx : x.toInt = 0) (e : c' = c + 1) : li_fn g T capZq f c' := by
  subst e
  unfold li_fn at hZq ⊢
  rw [show (c + 1).toNat = c.toNat + 1 by omega, fq_v, if_pos (by rw [show 16 * f.toNat + (c.toNat + 1) = (16 * f + (c + 1)).toNat by omega, ← ex]; exact hx)]
  exact hZq
theorem li_fn_st {g g' T : Nat → Int32} {n capZq f c c' : Int} {x : Int32} (hZq : li_fn g T capZq f c) (hq : li_fq g T n capZq (f + 1)) (hcZq : 0 ≤ c) (hf : 0 ≤ f) (hn : f + (c + 1) ≤ n) (ex : x = T (16 * f + (c + 1)).toNat) (hx : ¬ x.toInt = 0) (hp : ∀ i : Nat, ¬ i = f.toNat → g' i = g i) (hv : (g' f.toNat).toInt = min (g f.toNat).toInt (1 + (g (f + (c + 1)).toNat).toInt)) (e : c' = c + 1) : li_fn g' T capZq f c' := by
  subst e
  unfold li_fn at hZq ⊢
  have zZq := hq (f + (c + 1)).toNat (by omega) (by omega)
  have e2Zq : fq_v T (fq_F g') capZq f.toNat c.toNat = fq_v T (fq_F g) capZq f.toNat c.toNat := fq_v_eq c.toNat (fun jZq a b => by show (g' jZq).toInt = (g jZq).toInt; rw [hp jZq (by omega)])
  have e3Zq : fq_F g' (f.toNat + (c.toNat + 1)) = (g (f + (c + 1)).toNat).toInt := by show (g' (f.toNat + (c.toNat + 1))).toInt = _; rw [hp _ (by omega), show f.toNat + (c.toNat + 1) = (f + (c + 1)).toNat by omega]
  refine ⟨?_, by omega, by omega⟩
  rw [show (c + 1).toNat = c.toNat + 1 by omega, fq_v, if_neg (by rw [show 16 * f.toNat + (c.toNat + 1) = (16 * f + (c + 1)).toNat by omega, ← ex]; exact hx), e2Zq, e3Zq, hv, hZq.1]
theorem li_fq_nx {g T : Nat → Int32} {n capZq f c k : Int} (hq : li_fq g T n capZq (f + 1)) (hZq : li_fn g T capZq f c) (hf : 0 ≤ f) (hn : f < n) (hcZq : c = n - f) (hk : k = f) : li_fq g T n capZq k := by
  subst hk; subst hcZq
  intro i hiZq hin
  by_cases d : (i : Int) = k
  · have zZq := hZq
    unfold li_fn at zZq
    rw [if_neg (by omega), show i = k.toNat by omega]
    refine ⟨?_, zZq.2⟩
    rw [zZq.1, show (n - k).toNat = n.toNat - k.toNat by omega]
  · exact hq i (by omega) hin
theorem fq_eq {g g' T T' : Nat → Int32} {n capZq cap' : Int} (hZq : li_fq g T n capZq 0) (h' : li_fq g' T' n cap' 0) (hTZq : ∀ s f : Nat, 1 ≤ s → (f : Int) + s ≤ n → (T' (16 * f + s)).toInt = (T (16 * f + s)).toInt) (nz : ∀ f : Nat, (f : Int) < n → ¬ (T (16 * f + 1)).toInt = 0) (c1 : 15 ≤ capZq) (c2 : 15 ≤ cap') (hn : 0 ≤ n ∧ n ≤ 14) : ∀ k d f : Nat, d ≤ k → (f : Int) + d = n → (g' f).toInt = (g f).toInt ∧ 0 ≤ (g f).toInt ∧ (g f).toInt ≤ d := by
  intro k
  induction k with
  | zero =>
    intro d f hdZq hf
    have a := (hZq f (by omega) (by omega)).1
    have b := (h' f (by omega) (by omega)).1
    rw [if_pos (by omega)] at a b
    omega
  | succ k ihZq =>
    intro d f hdZq hf
    by_cases d0Zq : d = 0
    · exact ihZq d f (by omega) hf
    · have a := (hZq f (by omega) (by omega)).1
      have b := (h' f (by omega) (by omega)).1
      rw [if_neg (by omega)] at a b
      have keyZq : ∀ c : Nat, 1 ≤ c → c ≤ d → fq_v T' (fq_F g') cap' f c = fq_v T (fq_F g) capZq f c ∧ 0 ≤ fq_v T (fq_F g) capZq f c ∧ fq_v T (fq_F g) capZq f c ≤ d := by
        intro c
        induction c with
        | zero => intro q; omega
        | succ c ic =>
          intro _ hcZq
          have wZq := ihZq (d - (c + 1)) (f + (c + 1)) (by omega) (by omega)
          have w1 : fq_F g' (f + (c + 1)) = fq_F g (f + (c + 1)) := wZq.1
          have w2Zq : 0 ≤ fq_F g (f + (c + 1)) ∧ fq_F g (f + (c + 1)) ≤ ((d - (c + 1) : Nat) : Int) := wZq.2
          unfold fq_v
          rw [hTZq (c + 1) f (by omega) (by omega), w1]
          by_cases c0 : c = 0
          · subst c0
            have nz0 := nz f (by omega)
            rw [if_neg nz0, if_neg nz0]
            unfold fq_v
            omega
          · have i2Zq := ic (by omega) (by omega)
            rw [i2Zq.1]
            split
            · exact ⟨rfl, i2Zq.2⟩
            · omega
      have kd := keyZq d (by omega) (Nat.le_refl _)
      rw [show n.toNat - f = d by omega] at a b
      omega
def li_ce (g g0 : Nat → Int32) : Prop := g = g0
theorem li_ce_tr {g g' g0 g0' : Nat → Int32} (hg : g' = g) (h0 : g0' = g0) (hZq : li_ce g g0) : li_ce g' g0' := by
  subst hg; subst h0; exact hZq
abbrev li_t5 (g g0 : Nat → Int32) : Prop := li_ce g g0
theorem li_t5_tr {g g' g0 g0' : Nat → Int32} (hg : g' = g) (h0 : g0' = g0) (hZq : li_t5 g g0) : li_t5 g' g0' := li_ce_tr hg h0 hZq
/-- an end weighed: only the placeZq f changesZq, toZq the fewerZq -/
def fq_st (g' g : Nat → Int32) (f t : Int) : Prop := (∀ i : Nat, ¬ i = f.toNat → g' i = g i) ∧ (g' f.toNat).toInt = min (g f.toNat).toInt (1 + (g t.toNat).toInt)
theorem fq_st_no {g g0 : Nat → Int32} {f t : Int} (hZq : li_ce g g0) (hle : (g0 f.toNat).toInt ≤ 1 + (g0 t.toNat).toInt) : fq_st g g0 f t := by
  unfold li_ce at hZq
  subst hZq
  exact ⟨fun _ _ => rfl, by omega⟩
theorem put_at {g g' : Nat → Int32} {jZq : Nat} {v : Int32} {f : Int} (hp : ∀ k : Nat, g' k = if k = jZq then v else g k) (hj : (jZq : Int) = f) : g' f.toNat = v := by
  rw [hp, if_pos (by omega)]
theorem put_ne {g g' : Nat → Int32} {jZq : Nat} {v : Int32} {f : Int} (hp : ∀ k : Nat, g' k = if k = jZq then v else g k) (hj : (jZq : Int) = f) : ∀ i : Nat, ¬ i = f.toNat → g' i = g i := fun i hZq => by
  rw [hp, if_neg (by omega)]
theorem fq_st_yes {g g' g0 : Nat → Int32} {f t : Int} {jZq : Nat} {v : Int32} (hZq : li_ce g g0) (hp : ∀ k : Nat, g' k = if k = jZq then v else g k) (hj : (jZq : Int) = f) (hv : v.toInt = 1 + (g0 t.toNat).toInt) (hle : 1 + (g0 t.toNat).toInt ≤ (g0 f.toNat).toInt) : fq_st g' g0 f t := by
  unfold li_ce at hZq
  subst hZq
  refine ⟨put_ne hp hj, ?_⟩
  rw [put_at hp hj]
  omega
theorem fq_min {x y zZq : Int32} (hZq : zZq = if y < x then y else x) : zZq.toInt = min x.toInt y.toInt := by
  have := tl_min hZq
  omega
theorem cy_tp {T GZq X : Nat → Int32} {m n : Int} (hZq : li_cy T GZq X m n (n + 1) 0) : li_tp T n := fun i hiZq => by
  have e := hZq 1 i (by omega) (by omega) (by omega)
  exact tl_shlnz (y := X i) (by rw [e]; unfold cy_v; rw [if_pos rfl])
theorem sho_eq {T1 T2 G1Zq G2Zq X1 X2 F1Zq F2 : Nat → Int32} {m m' n n' : Int} (h1 : li_cy T1 G1Zq X1 m n (n + 1) 0) (h2 : li_cy T2 G2Zq X2 m' n' (n' + 1) 0) (q1Zq : li_fq F1Zq T1 n 15 0) (q2Zq : li_fq F2 T2 n' 1000000 0) (hmZq : m' = m) (hn : n' = n) (hG : ∀ i : Nat, (i : Int) < 3 * m → G2Zq i = G1Zq i) (hX : ∀ i : Nat, (i : Int) < n → X2 i = X1 i) (h0 : 0 < n ∧ n ≤ 14) : (F2 0).toInt = (F1Zq 0).toInt := by
  subst hmZq; subst hn
  exact (fq_eq q1Zq q2Zq (fun s f a b => congrArg Int32.toInt (cy_same h1 h2 hG hX s s f (Nat.le_refl _) a b)) (fun f hf => cy_tp h1 f hf) (by omega) (by omega) ⟨by omega, h0.2⟩ n'.toNat n'.toNat 0 (Nat.le_refl _) (by omega)).1

