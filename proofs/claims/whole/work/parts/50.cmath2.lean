/-! ===== the system's Seeker begun, in the words of the reference ===== -/
theorem rtL_nd {F T : Nat → Nat} {S : Nat → Bool} {n b N : Nat} (hb : b < N) (hT : ∀ l, l < n → T l < N) : ∀ f x, x < N → wyR F T S n b N x = f → f < 100 → (rtL F T S n b (wyR F T S n b N) f x).Nodup ∧ ∀ l ∈ rtL F T S n b (wyR F T S n b N) f x, wyR F T S n b N (F l) ≤ f
  | 0, x, _, _, _ => ⟨by simp [rtL], fun l h => by simp [rtL] at h⟩
  | f + 1, x, hx, hf, hlt => by
    have exb : x ≠ b := fun q => by
      subst q
      rw [wy_b] at hf
      omega
    obtain ⟨l0, q1, q2, q3, q4⟩ := wy_next (fr := F) (to := T) (sh := S) (n := n) hb hT hx (by omega) exb
    obtain ⟨m1, m2, m3, m4⟩ := fnd_spec (ldP F T S (wyR F T S n b N) x) n 0 ⟨l0, by omega, by omega, by simp [ldP, q2, q3, q4]⟩
    have m5 : S (fnd (ldP F T S (wyR F T S n b N) x) n 0) = false ∧ F (fnd (ldP F T S (wyR F T S n b N) x) n 0) = x ∧ wyR F T S n b N (T (fnd (ldP F T S (wyR F T S n b N) x) n 0)) + 1 = wyR F T S n b N x := by simpa [ldP] using m1
    obtain ⟨i1, i2⟩ := rtL_nd (F := F) (S := S) hb hT f (T (fnd (ldP F T S (wyR F T S n b N) x) n 0)) (hT _ (by omega)) (by omega) (by omega)
    rw [rtL, if_neg exb]
    refine ⟨List.nodup_cons.mpr ⟨fun hm => ?_, i1⟩, fun l hl => ?_⟩
    · have := i2 _ hm
      rw [m5.2.1] at this
      omega
    · rcases List.mem_cons.mp hl with e | e
      · rw [e, m5.2.1]; omega
      · have := i2 l e
        omega
theorem rtO_nd {F T : Nat → Nat} {S : Nat → Bool} {n N a b : Nat} (ha : a < N) (hb : b < N) (hT : ∀ l, l < n → T l < N) (h : wyR F T S n b N a < 100) : (rtO F T S n N a b).Nodup := (rtL_nd hb hT _ a ha rfl h).1
theorem rbR_RoC {F T : Nat → Nat} {S : Nat → Bool} {n N p : Nat} (hN : N ≤ 6) (hT : ∀ l, l < n → T l < N) (hp : p < N * N) : rbR (RoC F T S n N) p = rbO F T S n N p := by
  have hN0 : 0 < N := by
    rcases Nat.eq_zero_or_pos N with e | e
    · subst e; omega
    · exact e
  have h1 : p % N < N := Nat.mod_lt _ hN0
  have h2 : p / N < N := Nat.div_lt_of_lt_mul hp
  unfold rbO
  by_cases hw : wyR F T S n (p % N) N (p / N) < 100
  · have hR : RoC F T S n N p = some (rtO F T S n N (p / N) (p % N)) := by unfold RoC; rw [if_pos hw]
    have hlen := (rtO_len hN h2 h1 hT hw).1
    by_cases e : p / N = p % N
    · rw [if_pos (Or.inl e)]
      refine rbR_none (Or.inr ?_)
      rw [hR]
      congr 1
      apply List.eq_nil_of_length_eq_zero
      rw [hlen, e, wy_b]
    · rw [if_neg (fun z => z.elim e (fun z => by omega))]
      refine rbR_some hR (fun z => ?_)
      have := wy_pos (fr := F) (to := T) (sh := S) (n := n) (N := N) e
      rw [z] at hlen
      simp only [List.length_nil] at hlen
      omega
  · rw [if_pos (Or.inr (by omega))]
    refine rbR_none (Or.inl ?_)
    unfold RoC; rw [if_neg hw]
theorem sqL_congr {rb rb' : Nat → Option Nat} {me me' : Nat → Int32} {tb : Nat} : ∀ p, (∀ q, q < p → rb q = rb' q ∧ me q = me' q) → sqL rb me tb p = sqL rb' me' tb p
  | 0, _ => rfl
  | p + 1, h => by
    rw [sqL, sqL, sqL_congr p (fun q hq => h q (by omega))]
    have : selQ rb me tb p = selQ rb' me' tb p := by
      unfold selQ
      rw [(h p (by omega)).1, (h p (by omega)).2]
    rw [this]
theorem tbN_congr {p q : Nat → Bool} : ∀ n, (∀ l, l < n → p l = q l) → tbN p n = tbN q n
  | 0, _ => rfl
  | n + 1, h => by
    rw [tbN, tbN, tbN_congr n (fun l hl => h l (by omega)), h n (by omega)]
theorem bhN_test {g : Nat → Nat} {m x : Nat} : ∀ c, (bhN g m c).testBit x = true ↔ ∃ i, i < c ∧ (g (m - 1 - i)).testBit x = true
  | 0 => by simp [bhN]
  | c + 1 => by
    rw [bhN, Nat.testBit_or, Bool.or_eq_true, bhN_test c]
    constructor
    · rintro (⟨i, h1, h2⟩ | h)
      · exact ⟨i, by omega, h2⟩
      · exact ⟨c, by omega, h⟩
    · rintro ⟨i, h1, h2⟩
      by_cases e : i = c
      · subst e; exact Or.inr h2
      · exact Or.inl ⟨i, by omega, h2⟩
theorem laN_test {g : Nat → Nat} {m k x : Nat} (hk : k < m) : (laN g m k).testBit x = true ↔ (g k).testBit x = true ∧ ∀ j, k < j → j < m → ¬ (g j).testBit x = true := by
  unfold laN
  rw [Nat.testBit_xor, Nat.testBit_and]
  have h := bhN_test (g := g) (m := m) (x := x) (m - 1 - k)
  have h2 : (∃ i, i < m - 1 - k ∧ (g (m - 1 - i)).testBit x = true) ↔ ∃ j, k < j ∧ j < m ∧ (g j).testBit x = true := by
    constructor
    · rintro ⟨i, a, b⟩
      exact ⟨m - 1 - i, by omega, by omega, b⟩
    · rintro ⟨j, a, b, c⟩
      exact ⟨m - 1 - j, by omega, by rw [show m - 1 - (m - 1 - j) = j by omega]; exact c⟩
  rw [h2] at h
  have h3 : (∀ j, k < j → j < m → ¬ (g j).testBit x = true) ↔ ¬ ∃ j, k < j ∧ j < m ∧ (g j).testBit x = true :=
    ⟨fun z ⟨j, a, b, c⟩ => z j a b c, fun z j a b c => z ⟨j, a, b, c⟩⟩
  rw [h3, ← h]
  cases (g k).testBit x <;> cases (bhN g m (m - 1 - k)).testBit x <;> simp
/-- what system and reference share of the net, as far as SEEKING goes -/
def cqP (I : am_I) (N n : Nat) (F T : Nat → Nat) (S : Nat → Bool) : Prop := 2 ≤ N ∧ N ≤ 6 ∧ I 1 0 = nI N ∧ I 1 1 = nI n ∧ n ≤ 12 ∧ (∀ l, l < n → F l < N ∧ T l < N) ∧ rvC 2 44 45 F T S n N I ∧ (∀ l, l < n → I (20 + l) 5 = I 70 l ∧ vlP (I 70 l)) ∧ ∀ p, p < 36 → I 13 p = I 72 p ∧ vlP (I 72 p)
theorem cq_sq {I : am_I} {N n : Nat} {F T : Nat → Nat} {S : Nat → Bool} (h : cqP I N n F T S) : sLC (RoC F T S n N) I n (N * N) = skL I N n F T S := by
  obtain ⟨a1, a2, a3, a4, a5, a6, a7, a8, a9⟩ := h
  unfold sLC skL skT
  rw [show tbN (tlC I) n = tbN (tlI I) n from tbN_congr n (fun l hl => by unfold tlC tlI; rw [(a8 l hl).1])]
  have hNN : N * N ≤ 36 := Nat.mul_le_mul a2 a2
  exact sqL_congr _ (fun q hq => ⟨rbR_RoC a2 (fun l hl => (a6 l hl).2) hq, (a9 q (by omega)).1⟩)
theorem skL_at {I : am_I} {N n : Nat} {F T : Nat → Nat} {S : Nat → Bool} {k : Nat} (hk : k < (skL I N n F T S).length) : (skL I N n F T S)[k]? = some (skQ I N n F T S k) ∧ skQ I N n F T S k < N * N ∧ selQ (rbO F T S n N) (I 72) (skT I n) (skQ I N n F T S k) = true := by
  have e : (skL I N n F T S)[k]? = some (skQ I N n F T S k) := by
    unfold skQ
    rw [List.getElem?_eq_getElem hk, List.getD_eq_getElem?_getD, List.getElem?_eq_getElem hk, Option.getD_some]
  have hm := List.mem_of_getElem? e
  rw [skL, sqL_mem] at hm
  exact ⟨e, hm⟩
theorem rbO_RoC {F T : Nat → Nat} {S : Nat → Bool} {n N p r : Nat} (h : rbO F T S n N p = some r) : ∃ l, RoC F T S n N p = some l ∧ l = rtO F T S n N (p / N) (p % N) ∧ r = bN l ∧ wyR F T S n (p % N) N (p / N) < 100 := by
  unfold rbO at h
  split at h
  · cases h
  · rename_i hc
    cases h
    have hw : wyR F T S n (p % N) N (p / N) < 100 := by omega
    exact ⟨_, by unfold RoC; rw [if_pos hw], rfl, rfl, hw⟩
theorem lc_of {I I' : am_I} {n : Nat} (h : ∀ l, l < n → I' 53 l = I 70 l ∧ vlP (I 70 l)) : lcP I' n (tlI I) (skF I) := fun l hl => by
  obtain ⟨h1, h2⟩ := h l hl
  rw [h1]
  rcases h2 with e | ⟨c, hc, e⟩
  · simp [tlI, e]
  · have h1 : ¬ nI c = -9 := nI_ne_neg (by omega) (by decide)
    simp only [tlI, skF, e, h1, ne_eq, not_false_eq_true, decide_true, if_true, nI_clamp (show c < 2 ^ 31 by omega)]
    congr 1
    omega
theorem bg_sc {I I' : am_I} {N n : Nat} {F T : Nat → Nat} {S : Nat → Bool} {x : Int32} (h : cqP I N n F T S) (hb : bgQ (RoC F T S n N) (skL I N n F T S) n x I' I) : scP I' n (skL I N n F T S).length (N * N) (RoC F T S n N) (skG I N n F T S) (skA I N n F T S) (skX I N n F T S) (skQ I N n F T S) (tlI I) ∧ lcP I' n (tlI I) (skF I) ∧ nuP (skQ I N n F T S) (skL I N n F T S).length 0 (fun _ => 0) I' := by
  obtain ⟨a1, a2, a3, a4, a5, a6, a7, a8, a9⟩ := h
  obtain ⟨f1, f2, f3, f4, f5, f6, f7, f8, f9, f10⟩ := hb
  have hNN : N * N ≤ 36 := Nat.mul_le_mul a2 a2
  have hT : ∀ l, l < n → T l < N := fun l hl => (a6 l hl).2
  have hrl : rlP 44 45 n (N * N) (RoC F T S n N) I := rv_rl a7 a1 a2 hT
  have hlen : (skL I N n F T S).length ≤ N * N := sqL_len _ _ _ _
  have hG : ∀ k, k < (skL I N n F T S).length → ∃ l, RoC F T S n N (skQ I N n F T S k) = some l ∧ l.Nodup ∧ (∀ x, (skG I N n F T S k).testBit x = true ↔ x ∈ l ∧ tlI I x = true) := by
    intro k hk
    obtain ⟨e, hq, hs⟩ := skL_at hk
    unfold selQ at hs
    rcases er : rbO F T S n N (skQ I N n F T S k) with _ | r
    · rw [er] at hs; cases hs
    · obtain ⟨l, hl, el, erl, hw⟩ := rbO_RoC er
      have h1 : skQ I N n F T S k % N < N := Nat.mod_lt _ (by omega)
      have h2 : skQ I N n F T S k / N < N := Nat.div_lt_of_lt_mul hq
      refine ⟨l, hl, by rw [el]; exact rtO_nd h2 h1 hT hw, fun x => ?_⟩
      unfold skG goB
      rw [er, Option.getD_some, erl]
      exact and_tb ((hrl _ hq).2 l hl).2.2.2 x
  refine ⟨⟨by rw [frZ_row f1 (by decide) (by decide)]; exact a4, a5, rl_fr hrl (frZ_row f1 (by decide) (by decide)) (frZ_row f1 (by decide) (by decide)), hNN, f2, by omega, ?_, fun k hk => ?_⟩, lc_of (fun l hl => ⟨by rw [f8 l hl]; exact (a8 l hl).1, (a8 l hl).2⟩), fun j hj => by omega, fun p hp _ => f10 p hp⟩
  · intro i j hi hj e
    rcases Nat.lt_trichotomy i j with q | q | q
    · exact absurd e (Nat.ne_of_lt (skQ_lt q hj))
    · exact q
    · exact absurd e.symm (Nat.ne_of_lt (skQ_lt q hi))
  · obtain ⟨e, hq, hs⟩ := skL_at hk
    obtain ⟨l, hl, hnd, hg⟩ := hG k hk
    refine ⟨f6 k _ e, hq, ?_, ?_, l, hl, hnd, fun x _ => hg x, fun y hy hty => ?_⟩
    · rw [f9 _ (by omega), (a9 _ (by omega)).1]
      exact (vlP_fx (a9 _ (by omega)).2).1
    · exact (vlP_fx (a9 _ (by omega)).2).2
    · unfold skA
      rw [laN_test hk, f7 y k _ l e hl hy]
      constructor
      · rintro ⟨z1, z2⟩ j q' l' hj hjq hr hm
        have hjl := (List.getElem?_eq_some_iff.mp hjq).1
        obtain ⟨l2, g1, g2, g3⟩ := hG j hjl
        have e2 := (skL_at hjl).1
        rw [hjq] at e2
        cases e2
        rw [hr] at g1
        cases g1
        exact z2 j hj hjl ((g3 y).mpr ⟨hm, hty⟩)
      · intro z
        refine ⟨(hg y).mpr ⟨hy, hty⟩, fun j hj hjl hc => ?_⟩
        obtain ⟨l2, g1, g2, g3⟩ := hG j hjl
        exact z j _ l2 hj (skL_at hjl).1 g1 ((g3 y).mp hc).1
/-- the numbers at a FIT -/
theorem nu_kp {sq A : Nat → Nat} {m : Nat} {I : am_I} (hj : ∀ i j, i < m → j < m → sq i = sq j → i = j) (h : nuP sq m m A I) : ∀ p, p < 36 → I 55 p = kpR (fun _ => nI 0) sq A m p := by
  have key : ∀ k, k ≤ m → ∀ p, ((∃ j, j < k ∧ sq j = p ∧ kpR (fun _ => nI 0) sq A k p = nI (A j)) ∨ ((∀ j, j < k → sq j ≠ p) ∧ kpR (fun _ => nI 0) sq A k p = nI 0)) := by
    intro k
    induction k with
    | zero => intro _ p; exact Or.inr ⟨fun j hj => by omega, rfl⟩
    | succ k ih =>
      intro hk p
      rw [kpR]
      by_cases e : p = sq k
      · subst e
        exact Or.inl ⟨k, by omega, rfl, by simp [upd]⟩
      · have eu : upd (kpR (fun _ => nI 0) sq A k) (sq k) (nI (A k)) p = kpR (fun _ => nI 0) sq A k p := by simp [upd, e]
        rw [eu]
        rcases ih (by omega) p with ⟨j, q1, q2, q3⟩ | ⟨q1, q2⟩
        · exact Or.inl ⟨j, by omega, q2, q3⟩
        · refine Or.inr ⟨fun j hj => ?_, q2⟩
          by_cases ej : j = k
          · subst ej; exact fun z => e z.symm
          · exact q1 j (by omega)
  intro p hp
  rcases key m (Nat.le_refl _) p with ⟨j, q1, q2, q3⟩ | ⟨q1, q2⟩
  · rw [q3, ← q2]; exact (h.1 j q1).1
  · rw [q2]; exact h.2 p hp q1
