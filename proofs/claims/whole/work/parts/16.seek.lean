/-! ===== SEEKING: its events, one behind the other: none is a TRY, some A a FIT with the numbers A ===== -/
def upN (A : Nat → Nat) (k v : Nat) : Nat → Nat := fun j => if j = k then v else A j
theorem upN_same (A : Nat → Nat) (k v : Nat) : upN A k v k = v := by simp [upN]
theorem upN_ne {A : Nat → Nat} {k v j : Nat} (h : j ≠ k) : upN A k v j = A j := by simp [upN, h]
theorem upN_upN (A : Nat → Nat) (k v u : Nat) : upN (upN A k v) k u = upN A k u := by
  funext j
  by_cases h : j = k <;> simp [upN, h]
/-- least and most that the LINES let through: g goes by, la goes by last -/
def begN (g la : Nat) (lf : Nat → Nat) : Nat → Nat × Nat
  | 0 => (0, 200)
  | l + 1 => if g.testBit l = true then (if la.testBit l = true ∧ (begN g la lf l).1 < lf l then lf l else (begN g la lf l).1, if lf l < (begN g la lf l).2 then lf l else (begN g la lf l).2) else begN g la lf l
/-- the numbers from the first to below the second -/
def rgN (fx : Option Nat) (b : Nat × Nat) : Nat × Nat := match fx with
  | none => (b.1, b.2 + 1)
  | some f => (f, if b.1 ≤ f ∧ f ≤ b.2 then f + 1 else f)
def subN (g : Nat) (lf : Nat → Nat) (v : Nat) : Nat → Nat := fun l => if g.testBit l = true then lf l - v else lf l
abbrev EvS : Type := List (Option (Nat → Nat))
def lpE (h : Nat → EvS) : Nat → Nat → EvS
  | _, 0 => []
  | v, c + 1 => none :: (h v ++ lpE h (v + 1) c)
def allB (q : Nat → Bool) : Nat → Bool
  | 0 => true
  | i + 1 => allB q i && q i
theorem allB_iff (q : Nat → Bool) : ∀ n, allB q n = true ↔ ∀ i, i < n → q i = true
  | 0 => by simp [allB]
  | n + 1 => by
    rw [allB, Bool.and_eq_true, allB_iff q n]
    constructor
    · intro ⟨h1, h2⟩ i hi
      by_cases e : i = n
      · subst e; exact h2
      · exact h1 i (by omega)
    · intro h
      exact ⟨fun i hi => h i (by omega), h n (by omega)⟩
/-- what SEEKING goes by: g, la, fx of each place among those sought; tl: is CARRIED told -/
def rgE (g la : Nat → Nat) (fx : Nat → Option Nat) (n k : Nat) (lf : Nat → Nat) : Nat × Nat := rgN (fx k) (begN (g k) (la k) lf n)
def evS (g la : Nat → Nat) (fx : Nat → Option Nat) (tl : Nat → Bool) (n : Nat) : Nat → Nat → (Nat → Nat) → (Nat → Nat) → EvS
  | 0, _, lf, A => if allB (fun l => !tl l || lf l == 0) n = true then [some A] else []
  | f + 1, k, lf, A => lpE (fun v => evS g la fx tl n f (k + 1) (subN (g k) lf v) (upN A k v)) (rgE g la fx n k lf).1 ((rgE g la fx n k lf).2 - (rgE g la fx n k lf).1)
/-- what is left at the place k, with the numbers A ahead of it -/
def lfA (g : Nat → Nat) (lf0 A : Nat → Nat) : Nat → Nat → Nat
  | 0 => lf0
  | k + 1 => subN (g k) (lfA g lf0 A k) (A k)
/-- the events behind the part below the place k -/
def bkE (g la : Nat → Nat) (fx : Nat → Option Nat) (tl : Nat → Bool) (n m : Nat) (lf0 A : Nat → Nat) : Nat → EvS
  | 0 => []
  | k + 1 => lpE (fun v => evS g la fx tl n (m - (k + 1)) (k + 1) (subN (g k) (lfA g lf0 A k) v) (upN A k v)) (A k + 1) ((rgE g la fx n k (lfA g lf0 A k)).2 - (A k + 1)) ++ bkE g la fx tl n m lf0 A k
theorem lfA_congr {g : Nat → Nat} {lf0 A B : Nat → Nat} : ∀ k, (∀ j, j < k → A j = B j) → lfA g lf0 A k = lfA g lf0 B k
  | 0, _ => rfl
  | k + 1, h => by
    rw [lfA, lfA, lfA_congr k (fun j hj => h j (by omega)), h k (by omega)]
theorem lfA_up {g : Nat → Nat} {lf0 A : Nat → Nat} {k v : Nat} : lfA g lf0 (upN A k v) k = lfA g lf0 A k := lfA_congr k (fun j hj => upN_ne (by omega))
theorem lfA_up1 {g : Nat → Nat} {lf0 A : Nat → Nat} {k v : Nat} : lfA g lf0 (upN A k v) (k + 1) = subN (g k) (lfA g lf0 A k) v := by
  rw [lfA, lfA_up, upN_same]
/-- where a FIT stands, it is the numbers of A below m that count -/
def nxE (lim : Nat) : Nat → EvS → Nat × Option (Option ((Nat → Nat) × EvS))
  | t, [] => (t, some none)
  | t, none :: E => if t = lim then (t, none) else nxE lim (t + 1) E
  | t, some A :: E => (t, some (some (A, E)))
theorem nxE_le {lim : Nat} : ∀ (E : EvS) (t : Nat), t ≤ lim → (nxE lim t E).1 ≤ lim
  | [], t, h => h
  | none :: E, t, h => by
    rw [nxE]
    by_cases e : t = lim
    · rw [if_pos e]; exact h
    · rw [if_neg e]; exact nxE_le E (t + 1) (by omega)
  | some A :: E, t, h => h
theorem begN_le (g la : Nat) (lf : Nat → Nat) : ∀ n, (begN g la lf n).2 ≤ 200 ∧ ∀ l, l < n → g.testBit l = true → (begN g la lf n).2 ≤ lf l
  | 0 => ⟨Nat.le_refl _, fun l h => by omega⟩
  | n + 1 => by
    obtain ⟨h1, h2⟩ := begN_le g la lf n
    rw [begN]
    by_cases e : g.testBit n = true
    · rw [if_pos e]
      simp only
      by_cases q : lf n < (begN g la lf n).2
      · rw [if_pos q]
        refine ⟨by omega, fun l hl hg => ?_⟩
        by_cases e2 : l = n
        · subst e2; omega
        · have := h2 l (by omega) hg
          omega
      · rw [if_neg q]
        refine ⟨h1, fun l hl hg => ?_⟩
        by_cases e2 : l = n
        · subst e2; omega
        · exact h2 l (by omega) hg
    · rw [if_neg e]
      refine ⟨h1, fun l hl hg => ?_⟩
      by_cases e2 : l = n
      · subst e2; exact absurd hg e
      · exact h2 l (by omega) hg
theorem begN_lo (g la : Nat) (lf : Nat → Nat) (M : Nat) (h : ∀ l, lf l ≤ M) : ∀ n, (begN g la lf n).1 ≤ M
  | 0 => Nat.zero_le _
  | n + 1 => by
    have h1 := begN_lo g la lf M h n
    rw [begN]
    split
    · simp only
      split
      · exact h n
      · exact h1
    · exact h1
/-- a number that SEEKING takes is at most what is left -/
theorem rgE_le {g la : Nat → Nat} {fx : Nat → Option Nat} {n k v : Nat} {lf : Nat → Nat} (h : v < (rgE g la fx n k lf).2) (h1 : (rgE g la fx n k lf).1 ≤ v) : v ≤ 200 ∧ ∀ l, l < n → (g k).testBit l = true → v ≤ lf l := by
  unfold rgE rgN at h h1
  obtain ⟨b1, b2⟩ := begN_le (g k) (la k) lf n
  split at h
  · simp only at h h1
    exact ⟨by omega, fun l hl hg => by have := b2 l hl hg; omega⟩
  · rename_i f hf
    rw [hf] at h1
    simp only at h h1
    split at h
    · exact ⟨by omega, fun l hl hg => by have := b2 l hl hg; omega⟩
    · omega
