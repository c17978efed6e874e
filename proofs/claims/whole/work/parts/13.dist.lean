/-! ===== the ways behind as many rounds as there are KNOTS: nothing changes any more ===== -/
theorem cN_lt {p q : Nat → Bool} {y : Nat} (hpq : ∀ i, p i = true → q i = true) (hq : q y = true) (hp : p y = false) : ∀ n, y < n → cN p n + 1 ≤ cN q n := by
  have hle : ∀ n, cN p n ≤ cN q n := by
    intro n
    induction n with
    | zero => exact Nat.le_refl _
    | succ n ih =>
      rw [cN_s, cN_s]
      by_cases h : p n = true
      · simp [h, hpq n h]; exact ih
      · simp [h]; omega
  intro n
  induction n with
  | zero => intro h; omega
  | succ n ih =>
    intro h
    rw [cN_s, cN_s]
    by_cases e : y = n
    · subst e
      have := hle y
      simp [hq, hp]; omega
    · have h1 := ih (by omega)
      by_cases h : p n = true
      · simp [h, hpq n h]; omega
      · simp [h]; omega
theorem pig (D : Nat → Nat) (N : Nat) : ∀ v, (∀ w, w ≤ v → ∃ y, y < N ∧ D y = w) → v + 1 ≤ cN (fun y => decide (D y ≤ v)) N := by
  intro v
  induction v with
  | zero =>
    intro h
    obtain ⟨y, hy, e⟩ := h 0 (Nat.le_refl _)
    have := cN_lt (p := fun _ => false) (q := fun y => decide (D y ≤ 0)) (y := y) (fun _ q => by simp at q) (by simp [e]) rfl N hy
    omega
  | succ v ih =>
    intro h
    have h1 := ih (fun w hw => h w (by omega))
    obtain ⟨y, hy, e⟩ := h (v + 1) (Nat.le_refl _)
    have := cN_lt (p := fun y => decide (D y ≤ v)) (q := fun y => decide (D y ≤ v + 1)) (y := y) (fun i q => by simp at q ⊢; omega) (by simp [e]) (by simp [e]) N hy
    omega
section DST
variable {fr to : Nat → Nat} {sh : Nat → Bool} {n b : Nat}
def dP (fr to : Nat → Nat) (sh : Nat → Bool) (n b : Nat) (D : Nat → Nat) : Prop := D b = 0 ∧ (∀ x, x ≠ b → 1 ≤ D x) ∧ (∀ x, x ≠ b → D x < 100 → ∃ l, l < n ∧ sh l = false ∧ fr l = x ∧ D (to l) + 1 ≤ D x)
def dC (fr to : Nat → Nat) (sh : Nat → Bool) (n r : Nat) (D : Nat → Nat) : Prop := ∀ l, l < n → sh l = false → D (to l) < r → D (fr l) ≤ D (to l) + 1
theorem dP_rlx {D : Nat → Nat} (h : dP fr to sh n b D) {l : Nat} (hl : l < n) : dP fr to sh n b (rlx fr to sh D l) := by
  obtain ⟨h1, h2, h3⟩ := h
  refine ⟨?_, fun x hx => ?_, fun x hx hlt => ?_⟩
  · have := rlx_le fr to sh D l b
    omega
  · unfold rlx
    split
    · omega
    · exact h2 x hx
  · by_cases hc : sh l = false ∧ x = fr l ∧ D (to l) + 1 < D x
    · refine ⟨l, hl, hc.1, hc.2.1.symm, ?_⟩
      have h4 := rlx_le fr to sh D l (to l)
      have h5 : rlx fr to sh D l x = D (to l) + 1 := if_pos hc
      omega
    · have h5 : rlx fr to sh D l x = D x := if_neg hc
      obtain ⟨j, a1, a2, a3, a4⟩ := h3 x hx (by omega)
      have h4 := rlx_le fr to sh D l (to j)
      exact ⟨j, a1, a2, a3, by omega⟩
theorem dP_rnd {D : Nat → Nat} (h : dP fr to sh n b D) : ∀ l, l ≤ n → dP fr to sh n b (rnd fr to sh D l)
  | 0, _ => h
  | l + 1, hl => dP_rlx (dP_rnd h l (by omega)) (by omega)
theorem dP_wy : ∀ r, dP fr to sh n b (wyR fr to sh n b r)
  | 0 => by
    refine ⟨by simp [wyR], fun x hx => by simp [wyR, hx], fun x hx h => ?_⟩
    simp [wyR, hx] at h
  | r + 1 => dP_rnd (dP_wy r) n (Nat.le_refl _)
theorem dC_rnd {D : Nat → Nat} {r : Nat} (h : dC fr to sh n r D) : ∀ l, l ≤ n → (∀ x, rnd fr to sh D l x ≤ D x ∧ (rnd fr to sh D l x = D x ∨ r + 1 ≤ rnd fr to sh D l x)) ∧ (∀ j, j < l → sh j = false → rnd fr to sh D l (to j) < r + 1 → rnd fr to sh D l (fr j) ≤ rnd fr to sh D l (to j) + 1) := by
  intro l
  induction l with
  | zero =>
    intro _
    exact ⟨fun x => ⟨Nat.le_refl _, Or.inl rfl⟩, fun j hj => by omega⟩
  | succ l ih =>
    intro hl
    obtain ⟨hS, hT⟩ := ih (by omega)
    generalize hE : rnd fr to sh D l = E at hS hT
    have e : rnd fr to sh D (l + 1) = rlx fr to sh E l := by rw [rnd, hE]
    rw [e]
    have hS' : ∀ x, rlx fr to sh E l x ≤ D x ∧ (rlx fr to sh E l x = D x ∨ r + 1 ≤ rlx fr to sh E l x) := by
      intro x
      obtain ⟨s1, s2⟩ := hS x
      by_cases hc : sh l = false ∧ x = fr l ∧ E (to l) + 1 < E x
      · have h5 : rlx fr to sh E l x = E (to l) + 1 := if_pos hc
        refine ⟨by omega, Or.inr ?_⟩
        rw [h5]
        rcases Nat.lt_or_ge (E (to l)) r with q | q
        · exfalso
          obtain ⟨t1, t2⟩ := hS (to l)
          have t3 : E (to l) = D (to l) := by omega
          have t4 := h l (by omega) hc.1 (by omega)
          obtain ⟨-, c2, c3⟩ := hc
          subst c2
          omega
        · omega
      · have h5 : rlx fr to sh E l x = E x := if_neg hc
        rw [h5]
        exact ⟨s1, s2⟩
    refine ⟨hS', fun j hj hsj hlt => ?_⟩
    have u1 := rlx_le fr to sh E l (fr j)
    have u2 := rlx_le fr to sh E l (to j)
    obtain ⟨v1, v2⟩ := hS' (to j)
    obtain ⟨v3, v4⟩ := hS (to j)
    have v5 : rlx fr to sh E l (to j) = E (to j) := by omega
    by_cases ej : j = l
    · subst ej
      by_cases hc : sh j = false ∧ fr j = fr j ∧ E (to j) + 1 < E (fr j)
      · have h5 : rlx fr to sh E j (fr j) = E (to j) + 1 := if_pos hc
        omega
      · have h6 : ¬ E (to j) + 1 < E (fr j) := fun q => hc ⟨hsj, rfl, q⟩
        omega
    · have := hT j (by omega) hsj (by omega)
      omega
theorem dC_wy : ∀ r, dC fr to sh n r (wyR fr to sh n b r)
  | 0 => fun l _ _ h => by omega
  | r + 1 => fun l hl hs h => (dC_rnd (dC_wy r) n (Nat.le_refl _)).2 l hl hs h
/-- the finite ways: below N, with all that are smaller; the next LINE is one nearer -/
theorem wy_key {N : Nat} (hb : b < N) (hto : ∀ l, l < n → to l < N) : ∀ k x, x < N → wyR fr to sh n b N x ≤ k → wyR fr to sh n b N x < 100 → wyR fr to sh n b N x + 1 ≤ N ∧ (∀ w, w ≤ wyR fr to sh n b N x → ∃ y, y < N ∧ wyR fr to sh n b N y = w) ∧ (x ≠ b → ∃ l, l < n ∧ sh l = false ∧ fr l = x ∧ wyR fr to sh n b N (to l) + 1 = wyR fr to sh n b N x) := by
  obtain ⟨p1, p2, p3⟩ := dP_wy (fr := fr) (to := to) (sh := sh) (n := n) (b := b) N
  have hC := dC_wy (fr := fr) (to := to) (sh := sh) (n := n) (b := b) N
  generalize wyR fr to sh n b N = D at p1 p2 p3 hC
  have fin : ∀ v, (∀ w, w ≤ v → ∃ y, y < N ∧ D y = w) → v + 1 ≤ N := fun v h => Nat.le_trans (pig D N v h) (cN_le _ N)
  intro k
  induction k with
  | zero =>
    intro x hx h0 h1
    have hxb : x = b := Classical.byContradiction fun q => by
      have := p2 x q
      omega
    subst hxb
    refine ⟨by omega, fun w hw => ⟨x, hx, by omega⟩, fun q => absurd rfl q⟩
  | succ k ih =>
    intro x hx h0 h1
    by_cases hxb : x = b
    · subst hxb
      refine ⟨by omega, fun w hw => ⟨x, hx, by omega⟩, fun q => absurd rfl q⟩
    · obtain ⟨l, l1, l2, l3, l4⟩ := p3 x hxb h1
      obtain ⟨i1, i2, -⟩ := ih (to l) (hto l l1) (by omega) (by omega)
      have c := hC l l1 l2 (by omega)
      rw [l3] at c
      have e : D (to l) + 1 = D x := by omega
      have all : ∀ w, w ≤ D x → ∃ y, y < N ∧ D y = w := by
        intro w hw
        by_cases ew : w = D x
        · exact ⟨x, hx, ew.symm⟩
        · exact i2 w (by omega)
      exact ⟨fin _ all, all, fun _ => ⟨l, l1, l2, l3, e⟩⟩
theorem wy_lt {N x : Nat} (hb : b < N) (hto : ∀ l, l < n → to l < N) (hx : x < N) (h : wyR fr to sh n b N x < 100) : wyR fr to sh n b N x + 1 ≤ N := (wy_key hb hto _ x hx (Nat.le_refl _) h).1
theorem wy_next {N x : Nat} (hb : b < N) (hto : ∀ l, l < n → to l < N) (hx : x < N) (h : wyR fr to sh n b N x < 100) (hxb : x ≠ b) : ∃ l, l < n ∧ sh l = false ∧ fr l = x ∧ wyR fr to sh n b N (to l) + 1 = wyR fr to sh n b N x := (wy_key hb hto _ x hx (Nat.le_refl _) h).2.2 hxb
theorem wy_b (N : Nat) : wyR fr to sh n b N b = 0 := (dP_wy N).1
theorem wy_pos {N x : Nat} (h : x ≠ b) : 1 ≤ wyR fr to sh n b N x := (dP_wy N).2.1 x h
end DST
/-! ===== THE ROUTE ===== -/
/-- the first place from i on, of f, where p holds -/
def fnd (p : Nat → Bool) : Nat → Nat → Nat
  | 0, i => i
  | f + 1, i => if p i = true then i else fnd p f (i + 1)
theorem fnd_spec (p : Nat → Bool) : ∀ f i, (∃ j, i ≤ j ∧ j < i + f ∧ p j = true) → p (fnd p f i) = true ∧ i ≤ fnd p f i ∧ fnd p f i < i + f ∧ ∀ j, i ≤ j → j < fnd p f i → p j = false
  | 0, i, ⟨j, h1, h2, _⟩ => by omega
  | f + 1, i, ⟨j, h1, h2, h3⟩ => by
    unfold fnd
    by_cases e : p i = true
    · rw [if_pos e]
      exact ⟨e, Nat.le_refl _, by omega, fun q a b => by omega⟩
    · rw [if_neg e]
      have hj : i ≠ j := fun q => e (q ▸ h3)
      obtain ⟨a1, a2, a3, a4⟩ := fnd_spec p f (i + 1) ⟨j, by omega, by omega, h3⟩
      refine ⟨a1, by omega, by omega, fun q b1 b2 => ?_⟩
      by_cases eq : q = i
      · subst eq; simpa using e
      · exact a4 q (by omega) b2
/-- does the LINE l lead on from x -/
def ldP (fr to : Nat → Nat) (sh : Nat → Bool) (D : Nat → Nat) (x l : Nat) : Bool := !sh l && (fr l == x && D (to l) + 1 == D x)
/-- THE ROUTE from x to b: f LINES at most -/
def rtL (fr to : Nat → Nat) (sh : Nat → Bool) (n b : Nat) (D : Nat → Nat) : Nat → Nat → List Nat
  | 0, _ => []
  | f + 1, x => if x = b then [] else fnd (ldP fr to sh D x) n 0 :: rtL fr to sh n b D f (to (fnd (ldP fr to sh D x) n 0))
