/-! ===== runs of goals beside runs of the reference ===== -/
theorem runS_sim {C D : Type} {s1 : C → (Nat → Nat) → C × Bool} {s2 : D → (Nat → Nat) → D × Bool} {lim : Nat} (Rl : C → D → Prop) (P : (Nat → Nat) → Prop) (hs : ∀ c e A, P A → Rl c e → Rl (s1 c A).1 (s2 e A).1 ∧ (s1 c A).2 = (s2 e A).2) : ∀ (E : EvS), (∀ A, some A ∈ E → P A) → ∀ (t : Nat) (c : C) (e : D), Rl c e → (runS s1 lim t E c).1 = (runS s2 lim t E e).1 ∧ (runS s1 lim t E c).2.1 = (runS s2 lim t E e).2.1 ∧ Rl (runS s1 lim t E c).2.2 (runS s2 lim t E e).2.2
  | [], _, t, c, e, h => ⟨rfl, rfl, h⟩
  | none :: E, hE, t, c, e, h => by
    rw [runS, runS]
    by_cases q : t = lim
    · rw [if_pos q, if_pos q]; exact ⟨rfl, rfl, h⟩
    · rw [if_neg q, if_neg q]
      exact runS_sim Rl P hs E (fun A hA => hE A (List.mem_cons_of_mem _ hA)) (t + 1) c e h
  | some A :: E, hE, t, c, e, h => by
    obtain ⟨h1, h2⟩ := hs c e A (hE A List.mem_cons_self) h
    rw [runS, runS, h2]
    by_cases q : (s2 e A).2 = true
    · rw [if_pos q, if_pos q]; exact ⟨rfl, rfl, h1⟩
    · rw [if_neg q, if_neg q]
      exact runS_sim Rl P hs E (fun A hA => hE A (List.mem_cons_of_mem _ hA)) t _ _ h1
theorem lpE_mem {h : Nat → EvS} {B : Nat → Nat} : ∀ (c v : Nat), some B ∈ lpE h v c → ∃ u, v ≤ u ∧ u < v + c ∧ some B ∈ h u
  | 0, v, hB => by simp [lpE] at hB
  | c + 1, v, hB => by
    rw [lpE] at hB
    rcases List.mem_cons.mp hB with e | e
    · cases e
    · rcases List.mem_append.mp e with e | e
      · exact ⟨v, Nat.le_refl _, by omega, e⟩
      · obtain ⟨u, a1, a2, a3⟩ := lpE_mem c (v + 1) e
        exact ⟨u, by omega, by omega, a3⟩
/-- a FIT keeps what stands ahead, its numbers are at most 200, and as fixed -/
theorem ev_fit {g la : Nat → Nat} {fx : Nat → Option Nat} {tl : Nat → Bool} {n : Nat} {B : Nat → Nat} : ∀ (f k : Nat) (lf A : Nat → Nat), some B ∈ evS g la fx tl n f k lf A → (∀ j, j < k → B j = A j) ∧ ∀ j, k ≤ j → j < k + f → B j ≤ 200 ∧ ∀ a, fx j = some a → B j = a
  | 0, k, lf, A, h => by
    rw [evS] at h
    split at h
    · simp at h
      subst h
      exact ⟨fun _ _ => rfl, fun j h1 h2 => by omega⟩
    · simp at h
  | f + 1, k, lf, A, h => by
    rw [evS] at h
    obtain ⟨v, h1, h2, h3⟩ := lpE_mem _ _ h
    obtain ⟨i1, i2⟩ := ev_fit f (k + 1) _ _ h3
    have hk : B k = v := by rw [i1 k (by omega), upN_same]
    refine ⟨fun j hj => by rw [i1 j (by omega), upN_ne (by omega)], fun j q1 q2 => ?_⟩
    by_cases e : j = k
    · subst e
      refine ⟨by rw [hk]; exact (rgE_le (g := g) (la := la) (fx := fx) (n := n) (k := j) (lf := lf) (by omega) h1).1, fun a ha => ?_⟩
      rw [hk]
      have hr : (rgE g la fx n j lf).1 = a ∧ (rgE g la fx n j lf).2 ≤ a + 1 := by
        unfold rgE rgN
        rw [ha]
        refine ⟨rfl, ?_⟩
        show (if _ then a + 1 else a) ≤ a + 1
        split
        · exact Nat.le_refl _
        · exact Nat.le_succ _
      omega
    · exact i2 j (by omega) (by omega)
/-- the FITS alone -/
def fE (E : EvS) : List (Nat → Nat) := E.filterMap id
theorem fE_none (E : EvS) : fE (none :: E) = fE E := rfl
theorem fE_some (A : Nat → Nat) (E : EvS) : fE (some A :: E) = A :: fE E := rfl
theorem fE_app (E E' : EvS) : fE (E ++ E') = fE E ++ fE E' := List.filterMap_append
theorem fE_mem {E : EvS} {A : Nat → Nat} : A ∈ fE E ↔ some A ∈ E := by
  unfold fE
  rw [List.mem_filterMap]
  constructor
  · rintro ⟨a, h1, h2⟩
    cases a with
    | none => cases h2
    | some b => cases h2; exact h1
  · intro h
    exact ⟨_, h, rfl⟩
theorem fE_lp (h : Nat → EvS) (v c : Nat) : fE (lpE h v (c + 1)) = fE (h v) ++ fE (lpE h (v + 1) c) := by
  rw [lpE, fE_none, fE_app]
theorem fl_all {h h' : Nat → EvS} {P : (Nat → Nat) → Bool} : ∀ (c v : Nat), (∀ u, v ≤ u → u < v + c → fE (h' u) = (fE (h u)).filter P) → fE (lpE h' v c) = (fE (lpE h v c)).filter P
  | 0, v, _ => rfl
  | c + 1, v, H => by
    rw [fE_lp, fE_lp, List.filter_append, H v (Nat.le_refl _) (by omega), fl_all c (v + 1) (fun u a b => H u (by omega) (by omega))]
theorem fl_one {h : Nat → EvS} {P : (Nat → Nat) → Bool} {a : Nat} (H : ∀ u, u ≠ a → (fE (h u)).filter P = []) : ∀ (c v : Nat), (fE (lpE h v c)).filter P = if v ≤ a ∧ a < v + c then (fE (h a)).filter P else []
  | 0, v => by rw [if_neg (by omega)]; rfl
  | c + 1, v => by
    rw [fE_lp, List.filter_append, fl_one H c (v + 1)]
    by_cases e : v = a
    · subst e
      rw [if_neg (by omega), if_pos (by omega), List.append_nil]
    · rw [H v e, List.nil_append]
      by_cases q : v ≤ a ∧ a < v + (c + 1)
      · rw [if_pos q, if_pos (by omega)]
      · rw [if_neg q, if_neg (by omega)]
def fxq (fx : Nat → Option Nat) (k : Nat) (B : Nat → Nat) : Bool := match fx k with
  | none => true
  | some a => B k == a
def fxQ (fx : Nat → Option Nat) (k : Nat) : Nat → (Nat → Nat) → Bool
  | 0, _ => true
  | f + 1, B => fxq fx k B && fxQ fx (k + 1) f B
theorem fxQ_iff (fx : Nat → Option Nat) (B : Nat → Nat) : ∀ f k, fxQ fx k f B = true ↔ ∀ j, k ≤ j → j < k + f → ∀ a, fx j = some a → B j = a
  | 0, k => by simp [fxQ]; omega
  | f + 1, k => by
    rw [fxQ, Bool.and_eq_true, fxQ_iff fx B f (k + 1)]
    have h0 : fxq fx k B = true ↔ ∀ a, fx k = some a → B k = a := by
      unfold fxq
      rcases e : fx k with _ | b
      · simp
      · exact ⟨fun h a ha => by cases ha; exact eq_of_beq h, fun h => by show (B k == b) = true; rw [h b rfl]; exact beq_self_eq_true b⟩
    rw [h0]
    constructor
    · rintro ⟨h1, h2⟩ j q1 q2
      by_cases e : j = k
      · subst e; exact h1
      · exact h2 j (by omega) (by omega)
    · intro h
      exact ⟨h k (Nat.le_refl _) (by omega), fun j q1 q2 => h j (by omega) (by omega)⟩
/-- more is fixed: the same FITS, but those that are otherwise there -/
theorem fE_fix {g la : Nat → Nat} {fx fx' : Nat → Option Nat} {tl : Nat → Bool} {n : Nat} (hx : ∀ k a, fx k = some a → fx' k = some a) : ∀ (f k : Nat) (lf A : Nat → Nat), fE (evS g la fx' tl n f k lf A) = (fE (evS g la fx tl n f k lf A)).filter (fxQ fx' k f)
  | 0, k, lf, A => by
    rw [evS, evS]
    exact (List.filter_eq_self.mpr (fun a _ => rfl)).symm
  | f + 1, k, lf, A => by
    rw [evS, evS]
    have hIH : ∀ v, fE (evS g la fx' tl n f (k + 1) (subN (g k) lf v) (upN A k v)) = (fE (evS g la fx tl n f (k + 1) (subN (g k) lf v) (upN A k v))).filter (fxQ fx' (k + 1) f) := fun v => fE_fix hx f (k + 1) _ _
    have hv : ∀ v B, B ∈ fE (evS g la fx tl n f (k + 1) (subN (g k) lf v) (upN A k v)) → B k = v := fun v B hB => by
      rw [(ev_fit f (k + 1) _ _ (fE_mem.mp hB)).1 k (by omega), upN_same]
    rcases e' : fx' k with _ | a
    · have e : fx k = none := by
        rcases e : fx k with _ | b
        · rfl
        · rw [hx k b e] at e'; cases e'
      have hr : rgE g la fx' n k lf = rgE g la fx n k lf := by unfold rgE; rw [e, e']
      rw [hr]
      refine fl_all _ _ (fun u _ _ => ?_)
      rw [hIH u]
      refine List.filter_congr (fun B _ => ?_)
      rw [fxQ, fxq, e']
      rfl
    · have hP1 : (fE (evS g la fx tl n f (k + 1) (subN (g k) lf a) (upN A k a))).filter (fxQ fx' k (f + 1)) = fE (evS g la fx' tl n f (k + 1) (subN (g k) lf a) (upN A k a)) := by
        rw [hIH a]
        refine List.filter_congr (fun B hB => ?_)
        rw [fxQ, fxq, e']
        simp [hv a B hB]
      have hP0 : ∀ u, u ≠ a → (fE (evS g la fx tl n f (k + 1) (subN (g k) lf u) (upN A k u))).filter (fxQ fx' k (f + 1)) = [] := fun u hu => by
        rw [List.filter_eq_nil_iff]
        intro B hB
        rw [fxQ, fxq, e']
        simp [hv u B hB, hu]
      rw [fl_one (h := fun v => evS g la fx tl n f (k + 1) (subN (g k) lf v) (upN A k v)) hP0, hP1]
      have hr' : rgE g la fx' n k lf = (a, if (begN (g k) (la k) lf n).1 ≤ a ∧ a ≤ (begN (g k) (la k) lf n).2 then a + 1 else a) := by unfold rgE rgN; rw [e']
      rw [hr']
      rcases e : fx k with _ | b
      · have hr : rgE g la fx n k lf = ((begN (g k) (la k) lf n).1, (begN (g k) (la k) lf n).2 + 1) := by unfold rgE rgN; rw [e]
        rw [hr]
        simp only
        by_cases q : (begN (g k) (la k) lf n).1 ≤ a ∧ a ≤ (begN (g k) (la k) lf n).2
        · rw [if_pos q, if_pos (by omega), show a + 1 - a = 0 + 1 by omega, fE_lp]
          exact List.append_nil _
        · rw [if_neg q, if_neg (by omega), Nat.sub_self]
          rfl
      · have eb : b = a := by
          have := hx k b e
          rw [e'] at this
          cases this
          rfl
        subst eb
        have hr : rgE g la fx n k lf = (b, if (begN (g k) (la k) lf n).1 ≤ b ∧ b ≤ (begN (g k) (la k) lf n).2 then b + 1 else b) := by unfold rgE rgN; rw [e]
        rw [hr]
        simp only
        by_cases q : (begN (g k) (la k) lf n).1 ≤ b ∧ b ≤ (begN (g k) (la k) lf n).2
        · rw [if_pos q, if_pos (by omega), show b + 1 - b = 0 + 1 by omega, fE_lp]
          exact List.append_nil _
        · rw [if_neg q, if_neg (by omega), Nat.sub_self]
          rfl
theorem nx_fE {lim : Nat} {A : Nat → Nat} {E' : EvS} : ∀ (E : EvS) (t u : Nat), nxE lim t E = (u, some (some (A, E'))) → fE E = A :: fE E'
  | [], t, u, h => by rw [nxE] at h; cases h
  | none :: E, t, u, h => by
    rw [nxE] at h
    split at h
    · cases h
    · rw [fE_none]; exact nx_fE E _ _ h
  | some B :: E, t, u, h => by
    rw [nxE] at h
    cases h
    rfl
/-- what a Tally keeps is the first FIT -/
theorem ta_first {e lim : Nat} : ∀ (E : EvS) (t : Nat) (c : TaC), c.1 = 0 → (runS (taP e) lim t E c).2.2.1 ≠ 0 → ∃ B L, fE E = B :: L ∧ (runS (taP e) lim t E c).2.2.2 = B
  | [], t, c, h, h2 => absurd h h2
  | none :: E, t, c, h, h2 => by
    rw [runS] at h2 ⊢
    rw [fE_none]
    by_cases q : t = lim
    · rw [if_pos q] at h2; exact absurd h h2
    · rw [if_neg q] at h2 ⊢
      exact ta_first E (t + 1) c h h2
  | some A :: E, t, c, h, h2 => by
    refine ⟨A, fE E, rfl, ?_⟩
    have key : ∀ (E : EvS) (t : Nat) (c : TaC), c.1 ≠ 0 → (runS (taP e) lim t E c).2.2.2 = c.2 := by
      intro E
      induction E with
      | nil => intro t c _; rfl
      | cons x E ih =>
        intro t c hc
        cases x with
        | none =>
          rw [runS]
          split
          · rfl
          · exact ih _ _ hc
        | some B =>
          rw [runS]
          split
          · show (if c.1 = 0 then B else c.2) = c.2
            rw [if_neg hc]
          · rw [ih _ _ (by show c.1 + 1 ≠ 0; omega)]
            show (if c.1 = 0 then B else c.2) = c.2
            rw [if_neg hc]
    rw [runS]
    split
    · show (if c.1 = 0 then A else c.2) = A
      rw [if_pos h]
    · rw [key _ _ _ (by show c.1 + 1 ≠ 0; omega)]
      show (if c.1 = 0 then A else c.2) = A
      rw [if_pos h]
/-- credit: no FIT without a TRY of its own -/
def crE : Nat → EvS → Prop
  | _, [] => True
  | c, none :: E => crE (c + 1) E
  | c, some _ :: E => 0 < c ∧ crE (c - 1) E
theorem crE_mono : ∀ (E : EvS) (c e : Nat), c ≤ e → crE c E → crE e E
  | [], _, _, _, _ => trivial
  | none :: E, c, e, h, q => crE_mono E (c + 1) (e + 1) (by omega) q
  | some _ :: E, c, e, h, q => ⟨by have := q.1; omega, crE_mono E (c - 1) (e - 1) (by omega) q.2⟩
theorem crE_app : ∀ (E E' : EvS) (c : Nat), crE c E → crE 0 E' → crE c (E ++ E')
  | [], E', c, _, h => crE_mono E' 0 c (Nat.zero_le _) h
  | none :: E, E', c, q, h => crE_app E E' (c + 1) q h
  | some _ :: E, E', c, q, h => ⟨q.1, crE_app E E' (c - 1) q.2 h⟩
theorem crE_lp {h : Nat → EvS} (H : ∀ v, crE 1 (h v)) : ∀ c v, crE 0 (lpE h v c)
  | 0, _ => trivial
  | c + 1, v => crE_app (h v) _ 1 (H v) (crE_lp H c (v + 1))
theorem crE_ev {g la : Nat → Nat} {fx : Nat → Option Nat} {tl : Nat → Bool} {n : Nat} : ∀ (f k : Nat) (lf A : Nat → Nat), crE 1 (evS g la fx tl n f k lf A)
  | 0, k, lf, A => by
    rw [evS]
    split
    · exact ⟨Nat.one_pos, trivial⟩
    · trivial
  | f + 1, k, lf, A => crE_mono _ 0 1 (Nat.zero_le _) (by
    rw [evS]
    exact crE_lp (fun v => crE_ev f (k + 1) _ _) _ _)
theorem ta_cnt {lim : Nat} (hl : lim ≤ 20000) : ∀ (E : EvS) (t k : Nat) (c : TaC), crE k E → c.1 + k ≤ t + 1 → t ≤ lim → (runS (taP (2 ^ 31 - 1)) lim t E c).1 = (runS cntS lim t E c.1).1 ∧ (runS (taP (2 ^ 31 - 1)) lim t E c).2.1 = (runS cntS lim t E c.1).2.1 ∧ (runS (taP (2 ^ 31 - 1)) lim t E c).2.2.1 = (runS cntS lim t E c.1).2.2
  | [], t, k, c, _, _, _ => ⟨rfl, rfl, rfl⟩
  | none :: E, t, k, c, h, hc, ht => by
    rw [runS, runS]
    by_cases q : t = lim
    · rw [if_pos q, if_pos q]; exact ⟨rfl, rfl, rfl⟩
    · rw [if_neg q, if_neg q]
      exact ta_cnt hl E (t + 1) (k + 1) c h (by omega) (by omega)
  | some A :: E, t, k, c, h, hc, ht => by
    have h0 : (taP (2 ^ 31 - 1) c A).2 = false := by
      show decide (2 ^ 31 - 1 ≤ c.1 + 1) = false
      rw [decide_eq_false_iff_not]
      omega
    have hk := h.1
    rw [runS, runS, h0, if_neg (by decide), show (cntS c.1 A).2 = false from rfl, if_neg (by decide)]
    exact ta_cnt hl E t (k - 1) (taP (2 ^ 31 - 1) c A).1 h.2 (by show c.1 + 1 + (k - 1) ≤ t + 1; omega) ht
