/-! ===== the system's Seeker: numbers, rows, runs ===== -/
def scP (I : am_I) (n m M : Nat) (R : Nat → Option (List Nat)) (g la : Nat → Nat) (fx : Nat → Option Nat) (sq : Nat → Nat) (tl : Nat → Bool) : Prop :=
  I 1 1 = nI n ∧ n ≤ 12 ∧ rlP 44 45 n M R I ∧ M ≤ 36 ∧ I 4 8 = nI m ∧ m ≤ 36 ∧ (∀ i j, i < m → j < m → sq i = sq j → i = j) ∧ ∀ k, k < m → I 50 k = nI (sq k) ∧ sq k < M ∧ I 54 (sq k) = fxI (fx k) ∧ (∀ f, fx k = some f → f ≤ 200) ∧ ∃ l, R (sq k) = some l ∧ l.Nodup ∧ (∀ x, x < n → ((g k).testBit x = true ↔ x ∈ l ∧ tl x = true)) ∧ ∀ x, x ∈ l → tl x = true → ((la k).testBit x = true ↔ I 52 x = nI k)
theorem scP_fr {I I0 : am_I} {n m M : Nat} {R : Nat → Option (List Nat)} {g la : Nat → Nat} {fx : Nat → Option Nat} {sq : Nat → Nat} {tl : Nat → Bool} (h : scP I0 n m M R g la fx sq tl) (h1 : I 1 1 = I0 1 1) (h44 : I 44 = I0 44) (h45 : I 45 = I0 45) (h4 : I 4 8 = I0 4 8) (h50 : I 50 = I0 50) (h54 : I 54 = I0 54) (h52 : I 52 = I0 52) : scP I n m M R g la fx sq tl := by
  obtain ⟨a1, a2, a3, a4, a5, a6, a7, a8⟩ := h
  exact ⟨by rw [h1]; exact a1, a2, rl_fr a3 h44 h45, a4, by rw [h4]; exact a5, a6, a7, fun k hk => by rw [h50, h54, h52]; exact a8 k hk⟩
def lcP (I : am_I) (n : Nat) (tl : Nat → Bool) (lf : Nat → Nat) : Prop := ∀ l, l < n → I 53 l = (if tl l = true then nI (lf l) else -9)
theorem lc_told {I : am_I} {n : Nat} {tl : Nat → Bool} {lf : Nat → Nat} (h : lcP I n tl lf) (hf : ∀ l, lf l ≤ 200) {x : Nat} (hx : x < n) : I 53 x ≠ -9 ↔ tl x = true := by
  rw [h x hx]
  by_cases e : tl x = true
  · rw [if_pos e]
    have := hf x
    exact ⟨fun _ => e, fun _ => nI_ne_neg (by omega) (by decide)⟩
  · rw [if_neg e]
    exact ⟨fun q => absurd rfl q, fun q => absurd q e⟩
def lsN (tl : Nat → Bool) (la : Nat) (lf : Nat → Nat) : Nat → List Nat → Nat
  | v, [] => v
  | v, x :: xs => lsN tl la lf (if tl x = true ∧ la.testBit x = true then max v (lf x) else v) xs
def msN (tl : Nat → Bool) (lf : Nat → Nat) : Nat → List Nat → Nat
  | v, [] => v
  | v, x :: xs => msN tl lf (if tl x = true then min v (lf x) else v) xs
theorem lsN_iff (tl : Nat → Bool) (la : Nat) (lf : Nat → Nat) (u : Nat) : ∀ (xs : List Nat) (v : Nat), lsN tl la lf v xs ≤ u ↔ v ≤ u ∧ ∀ x ∈ xs, tl x = true → la.testBit x = true → lf x ≤ u
  | [], v => by simp [lsN]
  | x :: xs, v => by
    rw [lsN, lsN_iff tl la lf u xs]
    by_cases e : tl x = true ∧ la.testBit x = true
    · rw [if_pos e]
      constructor
      · rintro ⟨h1, h2⟩
        refine ⟨by omega, fun y hy => ?_⟩
        rcases List.mem_cons.mp hy with rfl | hy
        · exact fun _ _ => by omega
        · exact h2 y hy
      · rintro ⟨h1, h2⟩
        have := h2 x List.mem_cons_self e.1 e.2
        exact ⟨by omega, fun y hy => h2 y (List.mem_cons_of_mem _ hy)⟩
    · rw [if_neg e]
      constructor
      · rintro ⟨h1, h2⟩
        refine ⟨h1, fun y hy => ?_⟩
        rcases List.mem_cons.mp hy with rfl | hy
        · exact fun q1 q2 => absurd ⟨q1, q2⟩ e
        · exact h2 y hy
      · rintro ⟨h1, h2⟩
        exact ⟨h1, fun y hy => h2 y (List.mem_cons_of_mem _ hy)⟩
theorem msN_iff (tl : Nat → Bool) (lf : Nat → Nat) (u : Nat) : ∀ (xs : List Nat) (v : Nat), u ≤ msN tl lf v xs ↔ u ≤ v ∧ ∀ x ∈ xs, tl x = true → u ≤ lf x
  | [], v => by simp [msN]
  | x :: xs, v => by
    rw [msN, msN_iff tl lf u xs]
    by_cases e : tl x = true
    · rw [if_pos e]
      constructor
      · rintro ⟨h1, h2⟩
        refine ⟨by omega, fun y hy => ?_⟩
        rcases List.mem_cons.mp hy with rfl | hy
        · exact fun _ => by omega
        · exact h2 y hy
      · rintro ⟨h1, h2⟩
        have := h2 x List.mem_cons_self e
        exact ⟨by omega, fun y hy => h2 y (List.mem_cons_of_mem _ hy)⟩
    · rw [if_neg e]
      constructor
      · rintro ⟨h1, h2⟩
        refine ⟨h1, fun y hy => ?_⟩
        rcases List.mem_cons.mp hy with rfl | hy
        · exact fun q1 => absurd q1 e
        · exact h2 y hy
      · rintro ⟨h1, h2⟩
        exact ⟨h1, fun y hy => h2 y (List.mem_cons_of_mem _ hy)⟩
theorem begN_iff1 (g la : Nat) (lf : Nat → Nat) (u : Nat) : ∀ n, (begN g la lf n).1 ≤ u ↔ ∀ x, x < n → g.testBit x = true → la.testBit x = true → lf x ≤ u
  | 0 => ⟨fun _ x h => by omega, fun _ => Nat.zero_le _⟩
  | n + 1 => by
    have ih := begN_iff1 g la lf u n
    have st : ∀ q : Prop, (q ↔ (begN g la lf n).1 ≤ u ∧ (g.testBit n = true → la.testBit n = true → lf n ≤ u)) → (q ↔ ∀ x, x < n + 1 → g.testBit x = true → la.testBit x = true → lf x ≤ u) := fun q hq => by
      rw [hq, ih]
      constructor
      · rintro ⟨h1, h2⟩ x hx
        by_cases e : x = n
        · subst e; exact h2
        · exact h1 x (by omega)
      · intro h
        exact ⟨fun x hx => h x (by omega), h n (by omega)⟩
    apply st
    rw [begN]
    by_cases e : g.testBit n = true
    · rw [if_pos e]
      simp only
      by_cases e2 : la.testBit n = true ∧ (begN g la lf n).1 < lf n
      · rw [if_pos e2]
        exact ⟨fun h => ⟨by omega, fun _ _ => h⟩, fun h => h.2 e e2.1⟩
      · rw [if_neg e2]
        refine ⟨fun h => ⟨h, fun _ q => ?_⟩, fun h => h.1⟩
        have : ¬ (begN g la lf n).1 < lf n := fun z => e2 ⟨q, z⟩
        omega
    · rw [if_neg e]
      exact ⟨fun h => ⟨h, fun q => absurd q e⟩, fun h => h.1⟩
theorem begN_iff2 (g la : Nat) (lf : Nat → Nat) (u : Nat) : ∀ n, u ≤ (begN g la lf n).2 ↔ u ≤ 200 ∧ ∀ x, x < n → g.testBit x = true → u ≤ lf x
  | 0 => ⟨fun h => ⟨h, fun x h => by omega⟩, fun h => h.1⟩
  | n + 1 => by
    have ih := begN_iff2 g la lf u n
    have st : ∀ q : Prop, (q ↔ u ≤ (begN g la lf n).2 ∧ (g.testBit n = true → u ≤ lf n)) → (q ↔ u ≤ 200 ∧ ∀ x, x < n + 1 → g.testBit x = true → u ≤ lf x) := fun q hq => by
      rw [hq, ih]
      constructor
      · rintro ⟨⟨h0, h1⟩, h2⟩
        refine ⟨h0, fun x hx => ?_⟩
        by_cases e : x = n
        · subst e; exact h2
        · exact h1 x (by omega)
      · intro h
        exact ⟨⟨h.1, fun x hx => h.2 x (by omega)⟩, h.2 n (by omega)⟩
    apply st
    rw [begN]
    by_cases e : g.testBit n = true
    · rw [if_pos e]
      simp only
      by_cases e2 : lf n < (begN g la lf n).2
      · rw [if_pos e2]
        exact ⟨fun h => ⟨by omega, fun _ => h⟩, fun h => h.2 e⟩
      · rw [if_neg e2]
        exact ⟨fun h => ⟨h, fun q => by omega⟩, fun h => h.1⟩
    · rw [if_neg e]
      exact ⟨fun h => ⟨h, fun q => absurd q e⟩, fun h => h.1⟩
theorem ls_begN {g la n : Nat} {tl : Nat → Bool} {lf : Nat → Nat} {l : List Nat} (hl : ∀ x ∈ l, x < n) (hg : ∀ x, x < n → (g.testBit x = true ↔ x ∈ l ∧ tl x = true)) (v : Nat) : lsN tl la lf v l = max v (begN g la lf n).1 := by
  have key : ∀ u, lsN tl la lf v l ≤ u ↔ max v (begN g la lf n).1 ≤ u := fun u => by
    rw [lsN_iff, Nat.max_le, begN_iff1]
    constructor
    · rintro ⟨h1, h2⟩
      exact ⟨h1, fun x hx q1 q2 => h2 x ((hg x hx).mp q1).1 ((hg x hx).mp q1).2 q2⟩
    · rintro ⟨h1, h2⟩
      exact ⟨h1, fun x hx q1 q2 => h2 x (hl x hx) ((hg x (hl x hx)).mpr ⟨hx, q1⟩) q2⟩
  exact Nat.le_antisymm ((key _).mpr (Nat.le_refl _)) ((key _).mp (Nat.le_refl _))
theorem ms_begN {g la n : Nat} {tl : Nat → Bool} {lf : Nat → Nat} {l : List Nat} (hl : ∀ x ∈ l, x < n) (hg : ∀ x, x < n → (g.testBit x = true ↔ x ∈ l ∧ tl x = true)) {v : Nat} (hv : v ≤ 200) : msN tl lf v l = min v (begN g la lf n).2 := by
  have key : ∀ u, u ≤ msN tl lf v l ↔ u ≤ min v (begN g la lf n).2 := fun u => by
    rw [msN_iff, Nat.le_min, begN_iff2]
    constructor
    · rintro ⟨h1, h2⟩
      exact ⟨h1, by omega, fun x hx q1 => h2 x ((hg x hx).mp q1).1 ((hg x hx).mp q1).2⟩
    · rintro ⟨h1, h0, h2⟩
      exact ⟨h1, fun x hx q1 => h2 x (hl x hx) ((hg x (hl x hx)).mpr ⟨hx, q1⟩)⟩
  exact Nat.le_antisymm ((key _).mp (Nat.le_refl _)) ((key _).mpr (Nat.le_refl _))
theorem lp_rg {g la : Nat → Nat} {fx : Nat → Option Nat} {n k : Nat} {lf : Nat → Nat} (h : Nat → EvS) (hfx : ∀ f, fx k = some f → f ≤ 200) : lpE h (max ((fx k).getD 0) (begN (g k) (la k) lf n).1) (min ((fx k).getD 200) (begN (g k) (la k) lf n).2 + 1 - max ((fx k).getD 0) (begN (g k) (la k) lf n).1) = lpE h (rgE g la fx n k lf).1 ((rgE g la fx n k lf).2 - (rgE g la fx n k lf).1) := by
  have hb := (begN_le (g k) (la k) lf n).1
  unfold rgE rgN
  rcases e : fx k with _ | f
  · simp only [Option.getD_none]
    rw [Nat.zero_max, Nat.min_eq_right hb]
  · simp only [Option.getD_some]
    by_cases q : (begN (g k) (la k) lf n).1 ≤ f ∧ f ≤ (begN (g k) (la k) lf n).2
    · rw [if_pos q, Nat.max_eq_left q.1, Nat.min_eq_left q.2]
    · rw [if_neg q, Nat.sub_self, show min f (begN (g k) (la k) lf n).2 + 1 - max f (begN (g k) (la k) lf n).1 = 0 by omega]
      rfl
/-- the row of what is left, with x taken by the LINES of l -/
def mTe (I : am_I) (l : List Nat) (x : Int32) : am_I := fun a b => if a = 53 ∧ b ∈ l ∧ I 53 b ≠ -9 then I 53 b - x else I a b
theorem mTe_ne {I : am_I} {l : List Nat} {x : Int32} {a : Nat} (h : a ≠ 53) : mTe I l x a = I a := by
  funext b; simp [mTe, h]
theorem mTe_0 (I : am_I) (x : Int32) : mTe I [] x = I := by
  funext a b; simp [mTe]
theorem mTe_no {I : am_I} {y : Nat} {ys : List Nat} {x : Int32} (h : I 53 y = -9) : mTe I ys x = mTe I (y :: ys) x := by
  funext a b
  simp only [mTe, List.mem_cons]
  by_cases e : b = y
  · subst e; simp [h]
  · simp [e]
theorem mTe_s {I : am_I} {y : Nat} {ys : List Nat} {x : Int32} (h : I 53 y ≠ -9) (hy : y ∉ ys) : mTe (am_up I 53 y (I 53 y - x)) ys x = mTe I (y :: ys) x := by
  funext a b
  simp only [mTe, List.mem_cons]
  by_cases e : b = y
  · subst e
    by_cases ea : a = 53
    · subst ea; simp [h, hy, am_up]
    · simp [ea, am_up]
  · by_cases ea : a = 53
    · subst ea
      simp [e, am_up]
    · simp [ea, am_up]
theorem lc_take {I : am_I} {n v gk : Nat} {tl : Nat → Bool} {lf : Nat → Nat} {l : List Nat} (h : lcP I n tl lf) (hf : ∀ l, lf l ≤ 200) (hg : ∀ x, x < n → (gk.testBit x = true ↔ x ∈ l ∧ tl x = true)) (hv : ∀ x, x ∈ l → tl x = true → v ≤ lf x) : lcP (mTe I l (nI v)) n tl (subN gk lf v) := fun y hy => by
  have ht := lc_told h hf hy
  have hy1 := h y hy
  unfold mTe subN
  by_cases e : tl y = true
  · rw [if_pos e] at hy1 ⊢
    by_cases q : y ∈ l
    · rw [if_pos ⟨rfl, q, ht.mpr e⟩, if_pos ((hg y hy).mpr ⟨q, e⟩), hy1]
      exact pk_sub (hv y q e)
    · rw [if_neg (fun z => q z.2.1), if_neg (fun z => q ((hg y hy).mp z).1)]
      exact hy1
  · rw [if_neg e] at hy1 ⊢
    rw [if_neg (fun z => e (ht.mp z.2.2))]
    exact hy1
theorem lc_back {I : am_I} {n v gk : Nat} {tl : Nat → Bool} {lf : Nat → Nat} {l : List Nat} (h : lcP I n tl (subN gk lf v)) (hf : ∀ l, lf l ≤ 200) (hg : ∀ x, x < n → (gk.testBit x = true ↔ x ∈ l ∧ tl x = true)) (hv : ∀ x, x ∈ l → tl x = true → v ≤ lf x) : lcP (mTe I l (-(nI v))) n tl lf := fun y hy => by
  have ht := lc_told h (fun l => by have := hf l; unfold subN; split <;> omega) hy
  have hy1 := h y hy
  unfold mTe
  unfold subN at hy1
  by_cases e : tl y = true
  · rw [if_pos e] at hy1 ⊢
    by_cases q : y ∈ l
    · rw [if_pos ⟨rfl, q, ht.mpr e⟩, hy1, if_pos ((hg y hy).mpr ⟨q, e⟩), Int32.sub_neg, nI_add, Nat.sub_add_cancel (hv y q e)]
    · rw [if_neg (fun z => q z.2.1), hy1, if_neg (fun z => q ((hg y hy).mp z).1)]
  · rw [if_neg e] at hy1 ⊢
    rw [if_neg (fun z => e (ht.mp z.2.2))]
    exact hy1
theorem runS_app {C : Type} (step : C → (Nat → Nat) → C × Bool) (lim : Nat) (E2 : EvS) : ∀ (E1 : EvS) (t : Nat) (c : C), runS step lim t (E1 ++ E2) c = if (runS step lim t E1 c).2.1 = 0 then runS step lim (runS step lim t E1 c).1 E2 (runS step lim t E1 c).2.2 else runS step lim t E1 c
  | [], t, c => by simp [runS]
  | none :: E1, t, c => by
    rw [List.cons_append, runS, runS]
    by_cases e : t = lim
    · rw [if_pos e, if_pos e]; simp
    · rw [if_neg e, if_neg e]; exact runS_app step lim E2 E1 (t + 1) c
  | some A :: E1, t, c => by
    rw [List.cons_append, runS, runS]
    by_cases e : (step c A).2 = true
    · rw [if_pos e, if_pos e]; simp
    · rw [if_neg e, if_neg e]; exact runS_app step lim E2 E1 t _
theorem runS_ge {C : Type} (step : C → (Nat → Nat) → C × Bool) (lim : Nat) : ∀ (E : EvS) (t : Nat) (c : C), t ≤ lim → t ≤ (runS step lim t E c).1 ∧ (runS step lim t E c).1 ≤ lim
  | [], t, c, h => ⟨Nat.le_refl _, h⟩
  | none :: E, t, c, h => by
    rw [runS]
    by_cases e : t = lim
    · rw [if_pos e]; exact ⟨Nat.le_refl _, h⟩
    · rw [if_neg e]
      have := runS_ge step lim E (t + 1) c (by omega)
      exact ⟨by omega, this.2⟩
  | some A :: E, t, c, h => by
    rw [runS]
    split
    · exact ⟨Nat.le_refl _, h⟩
    · exact runS_ge step lim E t _ h
theorem drop_cons {l xs : List Nat} {i x : Nat} (h : l.drop i = x :: xs) : l[i]? = some x ∧ i < l.length ∧ l.drop (i + 1) = xs := by
  have h1 : i < l.length := by
    rcases Nat.lt_or_ge i l.length with q | q
    · exact q
    · rw [List.drop_eq_nil_of_le q] at h; cases h
  have h2 := List.drop_eq_getElem_cons h1
  rw [h] at h2
  injection h2 with h3 h4
  exact ⟨by rw [List.getElem?_eq_getElem h1, h3], h1, h4.symm⟩
theorem drop_nil {l : List Nat} {i : Nat} (h : l.drop i = []) : l.length ≤ i := by
  simpa using h
