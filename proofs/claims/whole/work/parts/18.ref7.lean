/-! ===== the reference: next ===== -/
/-- what SEEKING goes by, as the memory has it -/
def skP (I : am_I) (n m : Nat) (g la : Nat → Nat) (fx : Nat → Option Nat) (sq : Nat → Nat) (tl : Nat → Bool) (lf0 : Nat → Nat) : Prop :=
  I 63 4 = nI n ∧ n ≤ 12 ∧ I 63 20 = nI m ∧ m ≤ 36 ∧ (∀ k, k < m → I 79 k = nI (g k) ∧ g k < 2 ^ 12 ∧ I 80 k = nI (la k) ∧ la k < 2 ^ 12 ∧ I 77 k = nI (sq k) ∧ sq k < 36 ∧ I 81 (sq k) = fxI (fx k) ∧ (∀ f, fx k = some f → f ≤ 200) ∧ ∀ l, l < n → (g k).testBit l = true → tl l = true) ∧ (∀ l, l < n → I 70 l = (if tl l = true then nI (lf0 l) else -9)) ∧ ∀ l, lf0 l ≤ 200
def frS (I I0 : am_I) : Prop := ∀ k j, k ≠ 82 → k ≠ 83 → k ≠ 84 → k ≠ 85 → (k = 63 → j ≠ 29 ∧ j ≠ 31) → I k j = I0 k j
theorem frS_row {I I0 : am_I} (h : frS I I0) {k : Nat} (h1 : k ≠ 82) (h2 : k ≠ 83) (h3 : k ≠ 84) (h4 : k ≠ 85) (h5 : k ≠ 63) : I k = I0 k := by
  funext j
  exact h k j h1 h2 h3 h4 (fun e => absurd e h5)
theorem skP_fr {I I0 : am_I} {n m : Nat} {g la : Nat → Nat} {fx : Nat → Option Nat} {sq : Nat → Nat} {tl : Nat → Bool} {lf0 : Nat → Nat} (h : skP I0 n m g la fx sq tl lf0) (hf : frS I I0) : skP I n m g la fx sq tl lf0 := by
  obtain ⟨h1, h2, h3, h4, h5, h6, h7⟩ := h
  have e (k : Nat) (a : k ≠ 82 := by decide) (b : k ≠ 83 := by decide) (c : k ≠ 84 := by decide) (d : k ≠ 85 := by decide) (q : k ≠ 63 := by decide) : I k = I0 k := frS_row hf a b c d q
  refine ⟨by rw [hf 63 4 (by decide) (by decide) (by decide) (by decide) (by decide)]; exact h1, h2, by rw [hf 63 20 (by decide) (by decide) (by decide) (by decide) (by decide)]; exact h3, h4, fun k hk => ?_, fun l hl => ?_, h7⟩
  · rw [e 79, e 80, e 77, e 81]; exact h5 k hk
  · rw [e 70]; exact h6 l hl
/-- the row of what is left -/
def lfP (I : am_I) (n : Nat) (tl : Nat → Bool) (lf : Nat → Nat) : Prop := ∀ l, l < n → I 82 l = (if tl l = true then nI (lf l) else -9)
/-- the places below k, with the numbers A -/
def cfP (g la : Nat → Nat) (fx : Nat → Option Nat) (n : Nat) (lf0 A : Nat → Nat) (k : Nat) (I : am_I) : Prop := ∀ j, j < k → I 83 j = nI (A j) ∧ I 84 j = nI (rgE g la fx n j (lfA g lf0 A j)).2 - nI 1 ∧ I 85 j = nI 1 ∧ (rgE g la fx n j (lfA g lf0 A j)).1 ≤ A j ∧ A j < (rgE g la fx n j (lfA g lf0 A j)).2
theorem subN_le (g : Nat) (lf : Nat → Nat) (v M : Nat) (h : ∀ l, lf l ≤ M) : ∀ l, subN g lf v l ≤ M := fun l => by
  have := h l
  unfold subN
  split <;> omega
theorem lfA_le {g : Nat → Nat} {lf0 A : Nat → Nat} {M : Nat} (h : ∀ l, lf0 l ≤ M) : ∀ k l, lfA g lf0 A k l ≤ M
  | 0, l => h l
  | k + 1, l => subN_le _ _ _ _ (lfA_le h k) l
theorem rgE_lt {g la : Nat → Nat} {fx : Nat → Option Nat} {n k : Nat} {lf : Nat → Nat} (h : ∀ l, lf l ≤ 200) (hf : ∀ f, fx k = some f → f ≤ 200) : (rgE g la fx n k lf).1 ≤ 200 ∧ (rgE g la fx n k lf).2 ≤ 201 := by
  have b1 := (begN_le (g k) (la k) lf n).1
  have b2 := begN_lo (g k) (la k) lf 200 h n
  unfold rgE rgN
  split
  · exact ⟨b2, by omega⟩
  · rename_i f e
    have := hf f e
    refine ⟨this, ?_⟩
    simp only
    split <;> omega
/-- the memory behind one more TRY at the place k -/
def mTry (I : am_I) (g n k v t : Nat) : am_I := am_up (am_up (mTk (am_up (am_up I 63 29 (nI (t + 1))) 83 k (nI v)) g (nI v) n) 85 k (nI 1)) 63 31 (nI (k + 1))
theorem mTry_row {I : am_I} {g n k v t a b : Nat} (h1 : a ≠ 63) (h2 : a ≠ 82) (h3 : a ≠ 83) (h4 : a ≠ 85) : mTry I g n k v t a b = I a b := by
  simp [mTry, am_up, mTk, h1, h2, h3, h4]
theorem frS_try {I I0 : am_I} (h : frS I I0) (g n k v t : Nat) : frS (mTry I g n k v t) I0 := fun a b h1 h2 h3 h4 h5 => by
  rw [← h a b h1 h2 h3 h4 h5]
  by_cases e : a = 63
  · subst e
    obtain ⟨e1, e2⟩ := h5 rfl
    simp [mTry, am_up, mTk, e1, e2]
  · exact mTry_row e h1 h2 h4
theorem cf_try {g la : Nat → Nat} {fx : Nat → Option Nat} {n : Nat} {lf0 A : Nat → Nat} {k v t : Nat} {I : am_I} (h : cfP g la fx n lf0 A k I) (h2 : I 84 k = nI (rgE g la fx n k (lfA g lf0 A k)).2 - nI 1) (h3 : (rgE g la fx n k (lfA g lf0 A k)).1 ≤ v) (h4 : v < (rgE g la fx n k (lfA g lf0 A k)).2) : cfP g la fx n lf0 (upN A k v) (k + 1) (mTry I (g k) n k v t) := by
  intro j hj
  by_cases e : j = k
  · subst e
    rw [lfA_up, upN_same]
    refine ⟨?_, ?_, ?_, h3, h4⟩
    · simp [mTry, am_up, mTk]
    · rw [mTry_row (by decide) (by decide) (by decide) (by decide)]; exact h2
    · simp [mTry, am_up]
  · obtain ⟨a1, a2, a3, a4, a5⟩ := h j (by omega)
    rw [lfA_congr (A := upN A k v) (B := A) j (fun i hi => upN_ne (by omega)), upN_ne e]
    refine ⟨?_, ?_, ?_, a4, a5⟩
    · simp [mTry, am_up, mTk, e]; exact a1
    · rw [mTry_row (by decide) (by decide) (by decide) (by decide)]; exact a2
    · simp [mTry, am_up, mTk, e]; exact a3
theorem lf_try {g la : Nat → Nat} {fx : Nat → Option Nat} {n : Nat} {lf0 A : Nat → Nat} {tl : Nat → Bool} {k v t : Nat} {I : am_I} (h : lfP I n tl (lfA g lf0 A k)) (hg : ∀ l, l < n → (g k).testBit l = true → tl l = true) (hv : ∀ l, l < n → (g k).testBit l = true → v ≤ lfA g lf0 A k l) : lfP (mTry I (g k) n k v t) n tl (lfA g lf0 (upN A k v) (k + 1)) := by
  intro l hl
  have e1 : mTry I (g k) n k v t 82 l = I 82 l - (if (g k).testBit l = true then nI v else nI 0) := by simp [mTry, am_up, mTk, hl]
  rw [e1, h l hl, lfA_up1]
  by_cases e : (g k).testBit l = true
  · rw [if_pos e, if_pos (hg l hl e), if_pos (hg l hl e), pk_sub (hv l hl e), subN, if_pos e]
  · rw [if_neg e, subN, if_neg e, nI_0]
    simp
/-- the memory behind the number of the place k taken back -/
def mUn (I : am_I) (g n k v : Nat) : am_I := am_up (mTk I g (-nI v) n) 85 k (nI 0)
theorem mUn_row {I : am_I} {g n k v a b : Nat} (h2 : a ≠ 82) (h4 : a ≠ 85) : mUn I g n k v a b = I a b := by
  simp [mUn, am_up, mTk, h2, h4]
theorem frS_un {I I0 : am_I} (h : frS I I0) (g n k v : Nat) : frS (mUn I g n k v) I0 := fun a b h1 h2 h3 h4 h5 => by
  rw [← h a b h1 h2 h3 h4 h5]
  exact mUn_row h1 h4
theorem cf_un {g la : Nat → Nat} {fx : Nat → Option Nat} {n : Nat} {lf0 A : Nat → Nat} {k v : Nat} {I : am_I} (h : cfP g la fx n lf0 A k I) : cfP g la fx n lf0 A k (mUn I (g k) n k v) := by
  intro j hj
  obtain ⟨a1, a2, a3, a4, a5⟩ := h j hj
  refine ⟨by rw [mUn_row (by decide) (by decide)]; exact a1, by rw [mUn_row (by decide) (by decide)]; exact a2, ?_, a4, a5⟩
  simp [mUn, am_up, mTk, show j ≠ k by omega]
  exact a3
theorem lf_un {g : Nat → Nat} {n : Nat} {lf0 A : Nat → Nat} {tl : Nat → Bool} {k : Nat} {I : am_I} (h : lfP I n tl (lfA g lf0 A (k + 1))) (hg : ∀ l, l < n → (g k).testBit l = true → tl l = true) (hv : ∀ l, l < n → (g k).testBit l = true → A k ≤ lfA g lf0 A k l) : lfP (mUn I (g k) n k (A k)) n tl (lfA g lf0 A k) := by
  intro l hl
  have e1 : mUn I (g k) n k (A k) 82 l = I 82 l - (if (g k).testBit l = true then -nI (A k) else nI 0) := by simp [mUn, am_up, mTk, hl]
  rw [e1, h l hl, lfA]
  by_cases e : (g k).testBit l = true
  · rw [if_pos e, if_pos (hg l hl e), if_pos (hg l hl e), subN, if_pos e, Int32.sub_neg, nI_add, Nat.sub_add_cancel (hv l hl e)]
  · rw [if_neg e, subN, if_neg e, nI_0]
    simp
theorem nl_eq {n : Nat} {tl : Nat → Bool} {lf lf0 : Nat → Nat} {I : am_I} (h : lfP I n tl lf) (h6 : ∀ l, l < n → I 70 l = (if tl l = true then nI (lf0 l) else -9)) (h7 : ∀ l, lf0 l ≤ 200) (h8 : ∀ l, lf l ≤ 200) : allB (nlQ I) n = allB (fun l => !tl l || lf l == 0) n := by
  have key : ∀ i, i ≤ n → allB (nlQ I) i = allB (fun l => !tl l || lf l == 0) i := by
    intro i
    induction i with
    | zero => intro _; rfl
    | succ i ih =>
      intro hi
      rw [allB_s, allB_s, ih (by omega)]
      congr 1
      unfold nlQ
      rw [h i (by omega), h6 i (by omega)]
      have b1 := h7 i
      have b2 := h8 i
      by_cases e : tl i = true
      · simp only [e, if_true]
        have n1 : ¬ nI (lf0 i) = -9 := nI_ne_neg (by omega) (by decide)
        by_cases z : lf i = 0
        · simp [z, nI_0]
        · have n2 : ¬ nI (lf i) = 0 := nI_ne0 (by omega) (by omega)
          simp [n1, n2, z]
      · simp [e]
  exact key n (Nat.le_refl _)
theorem evS_0 {g la : Nat → Nat} {fx : Nat → Option Nat} {tl : Nat → Bool} {n k : Nat} {lf A : Nat → Nat} : evS g la fx tl n 0 k lf A = if allB (fun l => !tl l || lf l == 0) n = true then [some A] else [] := rfl
theorem lpE_s {h : Nat → EvS} {v hi : Nat} (e : v < hi) : lpE h v (hi - v) = none :: (h v ++ lpE h (v + 1) (hi - (v + 1))) := by
  obtain ⟨c, hc⟩ : ∃ c, hi - v = c + 1 := ⟨hi - v - 1, by omega⟩
  rw [hc, lpE, show hi - (v + 1) = c by omega]
theorem lpE_0 {h : Nat → EvS} {v hi : Nat} (e : hi ≤ v) : lpE h v (hi - v) = [] := by
  rw [show hi - v = 0 by omega, lpE]
theorem evS_congr {g la : Nat → Nat} {fx : Nat → Option Nat} {tl : Nat → Bool} {n : Nat} : ∀ (f k : Nat) (lf A B : Nat → Nat), (∀ j, j < k ∨ k + f ≤ j → A j = B j) → evS g la fx tl n f k lf A = evS g la fx tl n f k lf B
  | 0, k, lf, A, B, h => by
    rw [show A = B from funext fun j => h j (by omega)]
  | f + 1, k, lf, A, B, h => by
    rw [evS, evS]
    congr 1
    funext v
    refine evS_congr f (k + 1) _ _ _ (fun j hj => ?_)
    by_cases e : j = k
    · subst e; rw [upN_same, upN_same]
    · rw [upN_ne e, upN_ne e]; exact h j (by omega)
theorem bkE_congr {g la : Nat → Nat} {fx : Nat → Option Nat} {tl : Nat → Bool} {n m : Nat} {lf0 A B : Nat → Nat} : ∀ k, k ≤ m → (∀ j, j < k ∨ m ≤ j → A j = B j) → bkE g la fx tl n m lf0 A k = bkE g la fx tl n m lf0 B k
  | 0, _, _ => rfl
  | k + 1, hk, h => by
    rw [bkE, bkE, bkE_congr k (by omega) (fun j hj => h j (by omega)), h k (by omega), lfA_congr (A := A) (B := B) k (fun j hj => h j (by omega))]
    congr 2
    funext v
    refine evS_congr _ _ _ _ _ (fun j hj => ?_)
    by_cases e : j = k
    · subst e; rw [upN_same, upN_same]
    · rw [upN_ne e, upN_ne e]; exact h j (by omega)
/-- a place more: what comes behind it -/
theorem bkE_up {g la : Nat → Nat} {fx : Nat → Option Nat} {tl : Nat → Bool} {n m : Nat} {lf0 A : Nat → Nat} {k v : Nat} (hk : k < m) : bkE g la fx tl n m lf0 (upN A k v) (k + 1) = lpE (fun v => evS g la fx tl n (m - (k + 1)) (k + 1) (subN (g k) (lfA g lf0 A k) v) (upN A k v)) (v + 1) ((rgE g la fx n k (lfA g lf0 A k)).2 - (v + 1)) ++ bkE g la fx tl n m lf0 A k := by
  rw [bkE, lfA_up, upN_same, bkE_congr (A := upN A k v) (B := A) k (by omega) (fun j hj => upN_ne (by omega))]
  congr 2
  funext u
  rw [upN_upN]
theorem mBg_row {I : am_I} {k : Nat} {r : Nat × Nat} {a b : Nat} (h1 : a ≠ 83) (h2 : a ≠ 84) : mBg I k r a b = I a b := by simp [mBg, am_up, h1, h2]
theorem cf_bg {g la : Nat → Nat} {fx : Nat → Option Nat} {n : Nat} {lf0 A : Nat → Nat} {k : Nat} {r : Nat × Nat} {I : am_I} (h : cfP g la fx n lf0 A k I) : cfP g la fx n lf0 A k (mBg (am_up I 85 k (nI 0)) k r) := by
  intro j hj
  obtain ⟨a1, a2, a3, a4, a5⟩ := h j hj
  have e : j ≠ k := by omega
  refine ⟨?_, ?_, ?_, a4, a5⟩
  · simp [mBg, am_up, e]; exact a1
  · simp [mBg, am_up, e]; exact a2
  · simp [mBg, am_up, e]; exact a3
theorem frS_bg {I I0 : am_I} (h : frS I I0) (k : Nat) (r : Nat × Nat) : frS (mBg (am_up I 85 k (nI 0)) k r) I0 := fun a b h1 h2 h3 h4 h5 => by
  rw [← h a b h1 h2 h3 h4 h5, mBg_row h2 h3, am_up_ne h4]
theorem lf_bg {I : am_I} {n : Nat} {tl : Nat → Bool} {lf : Nat → Nat} (h : lfP I n tl lf) (k : Nat) (r : Nat × Nat) : lfP (mBg (am_up I 85 k (nI 0)) k r) n tl lf := fun l hl => by
  rw [mBg_row (by decide) (by decide), am_up_ne (by decide)]
  exact h l hl
theorem prd_add (x y : Int32) : x - y + y = x := by simp
/-- what next() tells: K of each of its answers -/
def nxK (K : Int32 → am_I → am_J → Prop) (J : am_J) (I0 : am_I) (g la : Nat → Nat) (fx : Nat → Option Nat) (tl : Nat → Bool) (n m : Nat) (lf0 : Nat → Nat) (res : Nat × Option (Option ((Nat → Nat) × EvS))) : Prop :=
  (res.2 = some none → ∀ I, frS I I0 → I 63 29 = nI res.1 → K (nI 0) I J) ∧ (res.2 = none → ∀ I, frS I I0 → I 63 29 = nI res.1 → K (-6) I J) ∧
  ∀ A E, res.2 = some (some (A, E)) → ∀ I, frS I I0 → I 63 29 = nI res.1 → I 63 31 = nI m → cfP g la fx n lf0 A m I → lfP I n tl (lfA g lf0 A m) → E = bkE g la fx tl n m lf0 A m → K (nI 1) I J
set_option maxHeartbeats 4000000 in
set_option maxRecDepth 100000 in
theorem lp_next {G : am_G} {d : Nat} {I0 : am_I} {J : am_J} {K : Int32 → am_I → am_J → Prop} {n m lim : Nat} {g la : Nat → Nat} {fx : Nat → Option Nat} {sq : Nat → Nat} {tl : Nat → Bool} {lf0 : Nat → Nat} {res : Nat × Option (Option ((Nat → Nat) × EvS))} {x1 : Int32} (hS : skP I0 n m g la fx sq tl lf0) (hlim : I0 63 30 = nI lim) (hl2 : lim ≤ 20000) (hK : nxK K J I0 g la fx tl n m lf0 res) : ∀ M, (∀ (I : am_I) (A : Nat → Nat) (k t : Nat), k ≤ m → frS I I0 → I 63 29 = nI t → t ≤ lim → I 63 31 = nI k - nI 1 → cfP g la fx n lf0 A k I → lfP I n tl (lfA g lf0 A k) → nxE lim t (bkE g la fx tl n m lf0 A k) = res → (bkE g la fx tl n m lf0 A k).length * (m + 2) + k < M → AW G cX12_next 2 RX12 (d + 1) (am_ex G (some .int) (fun r I J => ∃ x, r = some (.int x) ∧ K x I J)) 21 [some (.ref 63), some (.int x1)] [] I J) ∧ (∀ (I : am_I) (A : Nat → Nat) (k t : Nat), k ≤ m → frS I I0 → I 63 29 = nI t → t ≤ lim → I 63 31 = nI k → cfP g la fx n lf0 A k I → lfP I n tl (lfA g lf0 A k) → (k < m → I 83 k = nI (rgE g la fx n k (lfA g lf0 A k)).1 - nI 1 ∧ I 84 k = nI (rgE g la fx n k (lfA g lf0 A k)).2 - nI 1 ∧ I 85 k = nI 0) → nxE lim t (evS g la fx tl n (m - k) k (lfA g lf0 A k) A ++ bkE g la fx tl n m lf0 A k) = res → (evS g la fx tl n (m - k) k (lfA g lf0 A k) A ++ bkE g la fx tl n m lf0 A k).length * (m + 2) + k + 1 < M → AW G cX12_next 2 RX12 (d + 1) (am_ex G (some .int) (fun r I J => ∃ x, r = some (.int x) ∧ K x I J)) 21 [some (.ref 63), some (.int x1)] [] I J) := by
  obtain ⟨k0, kS, k1⟩ := hK
  intro M
  induction M with
  | zero => exact ⟨fun I A k t _ _ _ _ _ _ _ _ h => absurd h (by omega), fun I A k t _ _ _ _ _ _ _ _ _ h => absurd h (by omega)⟩
  | succ M ih =>
    obtain ⟨ih2, ih1⟩ := ih
    have T : ∀ (I : am_I) (A : Nat → Nat) (k v t : Nat), k < m → frS I I0 → I 63 29 = nI t → t ≤ lim → I 63 31 = nI k → cfP g la fx n lf0 A k I → lfP I n tl (lfA g lf0 A k) → I 83 k = nI v - nI 1 → I 84 k = nI (rgE g la fx n k (lfA g lf0 A k)).2 - nI 1 → (rgE g la fx n k (lfA g lf0 A k)).1 ≤ v → v ≤ 201 → nxE lim t (lpE (fun v => evS g la fx tl n (m - (k + 1)) (k + 1) (subN (g k) (lfA g lf0 A k) v) (upN A k v)) v ((rgE g la fx n k (lfA g lf0 A k)).2 - v) ++ bkE g la fx tl n m lf0 A k) = res → (lpE (fun v => evS g la fx tl n (m - (k + 1)) (k + 1) (subN (g k) (lfA g lf0 A k) v) (upN A k v)) v ((rgE g la fx n k (lfA g lf0 A k)).2 - v) ++ bkE g la fx tl n m lf0 A k).length * (m + 2) + k + 1 ≤ M → AW G cX12_next 2 RX12 (d + 1) (am_ex G (some .int) (fun r I J => ∃ x, r = some (.int x) ∧ K x I J)) 109 [some (.ref 63), some (.int x1)] [] I J := by
      intro I A k v t hkm hf h29 htl h31 hcf hlf h83 h84 hlo hv2 hres hM
      have hS1 := skP_fr hS hf
      obtain ⟨hn, hn12, hm, hm36, hsk, h70, hl0⟩ := hS1
      obtain ⟨q1, q2, q3, q4, q5, q6, q7, q8, q9⟩ := hsk k hkm
      have hlimI : I 63 30 = nI lim := by rw [hf 63 30 (by decide) (by decide) (by decide) (by decide) (by decide)]; exact hlim
      have hi2 := (rgE_lt (g := g) (la := la) (fx := fx) (n := n) (k := k) (lfA_le (g := g) (A := A) hl0 k) q8).2
      by_cases hvh : v < (rgE g la fx n k (lfA g lf0 A k)).2
      · rw [lpE_s hvh, List.cons_append, List.append_assoc, ← bkE_up hkm, ← lfA_up1 (lf0 := lf0)] at hres
        rw [lpE_s hvh, List.cons_append, List.append_assoc, ← bkE_up hkm, ← lfA_up1 (lf0 := lf0), List.length_cons, Nat.succ_mul] at hM
        have hlf1 : lfP (mTry I (g k) n k v t) n tl (lfA g lf0 (upN A k v) (k + 1)) := lf_try (la := la) (fx := fx) hlf q9 (fun l hl hgb => (rgE_le hvh hlo).2 l hl hgb)
        have hM1 : (evS g la fx tl n (m - (k + 1)) (k + 1) (lfA g lf0 (upN A k v) (k + 1)) (upN A k v) ++ bkE g la fx tl n m lf0 (upN A k v) (k + 1)).length * (m + 2) + (k + 1) + 1 < M := by omega
        refine a_aload_n dX12_next_109 rfl ?_
        refine a_getr dX12_next_110 kf_X12_72 ⟨by decide, _, rfl, rfl⟩ ?_
        refine a_aload_n dX12_next_113 rfl ?_
        refine a_geti dX12_next_114 kf_X12_181 ⟨by decide, _, rfl, rfl⟩ h31 ?_
        refine a_iald dX12_next_117 ⟨by decide, rfl⟩ (by omega) h83 ?_
        refine a_aload_n dX12_next_118 rfl ?_
        refine a_getr dX12_next_119 kf_X12_75 ⟨by decide, _, rfl, rfl⟩ ?_
        refine a_aload_n dX12_next_122 rfl ?_
        refine a_geti dX12_next_123 kf_X12_181 ⟨by decide, _, rfl, rfl⟩ h31 ?_
        refine a_iald dX12_next_126 ⟨by decide, rfl⟩ (by omega) h84 ?_
        refine a_icmp_eq (tgt := 151) dX12_next_127 (by decide) (fun h127 => ?_) (fun h127 => ?_)
        · exact absurd ((prd_eq (by omega) (by omega)).mp h127) (by omega)
        · refine a_aload_n dX12_next_130 rfl ?_
          refine a_getr dX12_next_131 kf_X12_72 ⟨by decide, _, rfl, rfl⟩ ?_
          refine a_aload_n dX12_next_134 rfl ?_
          refine a_geti dX12_next_135 kf_X12_181 ⟨by decide, _, rfl, rfl⟩ h31 ?_
          refine a_iald dX12_next_138 ⟨by decide, rfl⟩ (by omega) h83 ?_
          refine a_aload_n dX12_next_139 rfl ?_
          refine a_getr dX12_next_140 kf_X12_75 ⟨by decide, _, rfl, rfl⟩ ?_
          refine a_aload_n dX12_next_143 rfl ?_
          refine a_geti dX12_next_144 kf_X12_181 ⟨by decide, _, rfl, rfl⟩ h31 ?_
          refine a_iald dX12_next_147 ⟨by decide, rfl⟩ (by omega) h84 ?_
          refine a_icmp_le (tgt := 164) dX12_next_148 (by decide) (fun h148 => ?_) (fun h148 => ?_)
          · refine a_aload_n dX12_next_164 rfl ?_
            refine a_geti dX12_next_165 kf_X12_197 ⟨by decide, _, rfl, rfl⟩ h29 ?_
            refine a_aload_n dX12_next_168 rfl ?_
            refine a_geti dX12_next_169 kf_X12_200 ⟨by decide, _, rfl, rfl⟩ hlimI ?_
            refine a_icmp_neN (tgt := 178) dX12_next_172 (by decide) (by omega) (by omega) (fun h172 => ?_) (fun h172 => ?_)
            · rw [nxE, if_neg h172] at hres
              refine a_aload_n dX12_next_178 rfl ?_
              refine a_dup dX12_next_179 rfl ?_
              refine a_geti dX12_next_180 kf_X12_197 ⟨by decide, _, rfl, rfl⟩ h29 ?_
              refine a_iconst (v := nI 1) dX12_next_183 (by decide) ?_
              refine a_iadd dX12_next_184 (by first | exact nI_add _ _ | rfl) ?_
              refine a_puti dX12_next_185 kp_X12_197 ⟨by decide, _, rfl, rfl⟩ ?_
              refine a_aload_n dX12_next_188 rfl ?_
              refine a_getr dX12_next_189 kf_X12_72 ⟨by decide, _, rfl, rfl⟩ ?_
              refine a_aload_n dX12_next_192 rfl ?_
              refine a_geti dX12_next_193 kf_X12_181 ⟨by decide, _, rfl, rfl⟩ h31 ?_
              refine a_dup2 dX12_next_196 rfl rfl ?_
              refine a_iald dX12_next_197 ⟨by decide, rfl⟩ (by omega) h83 ?_
              refine a_iconst (v := nI 1) dX12_next_198 (by decide) ?_
              refine a_iadd dX12_next_199 (prd_add _ _) ?_
              refine a_iast dX12_next_200 ⟨by decide, rfl⟩ (by omega) ?_
              refine a_aload_n dX12_next_201 rfl ?_
              refine a_aload_n dX12_next_202 rfl ?_
              refine a_getr dX12_next_203 kf_X12_72 ⟨by decide, _, rfl, rfl⟩ ?_
              refine a_aload_n dX12_next_206 rfl ?_
              refine a_geti dX12_next_207 kf_X12_181 ⟨by decide, _, rfl, rfl⟩ h31 ?_
              refine a_iald dX12_next_210 ⟨by decide, rfl⟩ (by omega) am_up_same ?_
              refine a_callVv (As := [_]) dX12_next_211 km_X12_194 ⟨by decide, _, _, _, rfl, rfl⟩ rfl rfl (Nat.le_of_ble_eq_true rfl) ?_
              refine c_take (g := g k) hn hn12 h31 (by omega) q1 q2 ?_
              refine a_aload_n dX12_next_214 rfl ?_
              refine a_getr dX12_next_215 kf_X12_78 ⟨by decide, _, rfl, rfl⟩ ?_
              refine a_aload_n dX12_next_218 rfl ?_
              refine a_geti dX12_next_219 kf_X12_181 ⟨by decide, _, rfl, rfl⟩ h31 ?_
              refine a_iconst (v := nI 1) dX12_next_222 (by decide) ?_
              refine a_zast dX12_next_223 ⟨by decide, rfl⟩ (by omega) (by first | exact Or.inl rfl | exact Or.inr rfl) ?_
              refine a_aload_n dX12_next_224 rfl ?_
              refine a_dup dX12_next_225 rfl ?_
              refine a_geti dX12_next_226 kf_X12_181 ⟨by decide, _, rfl, rfl⟩ h31 ?_
              refine a_iconst (v := nI 1) dX12_next_229 (by decide) ?_
              refine a_iadd dX12_next_230 (by first | exact nI_add _ _ | rfl) ?_
              refine a_puti dX12_next_231 kp_X12_181 ⟨by decide, _, rfl, rfl⟩ ?_
              refine a_aload_n dX12_next_234 rfl ?_
              refine a_geti dX12_next_235 kf_X12_181 ⟨by decide, _, rfl, rfl⟩ rfl ?_
              refine a_aload_n dX12_next_238 rfl ?_
              refine a_geti dX12_next_239 kf_X12_178 ⟨by decide, _, rfl, rfl⟩ hm ?_
              refine a_icmp_geN (tgt := 21) dX12_next_242 (by decide) (by omega) (by omega) (fun h242 => ?_) (fun h242 => ?_)
              · have ekm : m - (k + 1) = 0 := by omega
                refine ih1 _ (upN A k v) (k + 1) (t + 1) hkm (frS_try hf _ _ _ _ _) rfl (by omega) rfl (cf_try hcf h84 hlo hvh) hlf1 (fun q => absurd q (by omega)) hres hM1
              · refine a_aload_n dX12_next_245 rfl ?_
                refine a_getr dX12_next_246 kf_X12_78 ⟨by decide, _, rfl, rfl⟩ ?_
                refine a_aload_n dX12_next_249 rfl ?_
                refine a_geti dX12_next_250 kf_X12_181 ⟨by decide, _, rfl, rfl⟩ rfl ?_
                refine a_iconst (v := nI 0) dX12_next_253 (by decide) ?_
                refine a_zast dX12_next_254 ⟨by decide, rfl⟩ (by omega) (by first | exact Or.inl rfl | exact Or.inr rfl) ?_
                refine a_aload_n dX12_next_255 rfl ?_
                refine a_callVv (As := []) dX12_next_256 km_X12_184 ⟨by decide, _, _, _, rfl, rfl⟩ rfl rfl (Nat.le_of_ble_eq_true rfl) ?_
                obtain ⟨p1, p2, p3, p4, p5, p6, p7, p8, p9⟩ := hsk (k + 1) h242
                refine c_begin (I := am_up (mTry I (g k) n k v t) 85 (k + 1) (nI 0)) (fx := fx (k + 1)) (lf := lfA g lf0 (upN A k v) (k + 1)) hn hn12 rfl (by omega) p1 p2 p3 p4 (fun l hl hgb => by rw [am_up_ne (by decide), hlf1 l hl, if_pos (p9 l hl hgb)]) (lfA_le hl0 _) hm h242 hm36 p5 p6 p7 p8 ?_
                refine a_goto (tgt := 21) dX12_next_259 (by decide) ?_
                refine ih1 _ (upN A k v) (k + 1) (t + 1) hkm (frS_bg (frS_try hf _ _ _ _ _) _ _) rfl (by omega) rfl (cf_bg (cf_try hcf h84 hlo hvh)) (lf_bg hlf1 _ _) (fun _ => ⟨?_, ?_, ?_⟩) hres hM1
                · simp [mBg, am_up]; rfl
                · simp [mBg, am_up]; rfl
                · simp [mBg, am_up]
            · refine a_bipush (v := (-6)) dX12_next_175 (by decide) ?_
              exact a_ireturn dX12_next_177 ⟨_, rfl, (kS (by rw [← hres]; simp [nxE, h172]) I hf (by rw [← hres]; simp only [nxE, h172, if_true]; rw [h172] at h29; exact h29))⟩
          · exact absurd ((prd_le (by omega) (by omega)).mpr (Nat.le_of_lt hvh)) h148
      · rw [lpE_0 (by omega), List.nil_append] at hres hM
        refine a_aload_n dX12_next_109 rfl ?_
        refine a_getr dX12_next_110 kf_X12_72 ⟨by decide, _, rfl, rfl⟩ ?_
        refine a_aload_n dX12_next_113 rfl ?_
        refine a_geti dX12_next_114 kf_X12_181 ⟨by decide, _, rfl, rfl⟩ h31 ?_
        refine a_iald dX12_next_117 ⟨by decide, rfl⟩ (by omega) h83 ?_
        refine a_aload_n dX12_next_118 rfl ?_
        refine a_getr dX12_next_119 kf_X12_75 ⟨by decide, _, rfl, rfl⟩ ?_
        refine a_aload_n dX12_next_122 rfl ?_
        refine a_geti dX12_next_123 kf_X12_181 ⟨by decide, _, rfl, rfl⟩ h31 ?_
        refine a_iald dX12_next_126 ⟨by decide, rfl⟩ (by omega) h84 ?_
        refine a_icmp_eq (tgt := 151) dX12_next_127 (by decide) (fun h127 => ?_) (fun h127 => ?_)
        · refine a_aload_n dX12_next_151 rfl ?_
          refine a_dup dX12_next_152 rfl ?_
          refine a_geti dX12_next_153 kf_X12_181 ⟨by decide, _, rfl, rfl⟩ h31 ?_
          refine a_iconst (v := nI 1) dX12_next_156 (by decide) ?_
          refine a_isub dX12_next_157 rfl ?_
          refine a_puti dX12_next_158 kp_X12_181 ⟨by decide, _, rfl, rfl⟩ ?_
          refine a_goto (tgt := 21) dX12_next_161 (by decide) ?_
          refine ih2 _ A k t (by omega) (fun a b z1 z2 z3 z4 z5 => ?_) h29 htl rfl (fun j hj => hcf j hj) (fun l hl => hlf l hl) hres (by omega)
          rw [← hf a b z1 z2 z3 z4 z5]
          simp only [am_up]
          by_cases e : a = 63
          · simp [e, (z5 e).2]
          · simp [e]
        · refine a_aload_n dX12_next_130 rfl ?_
          refine a_getr dX12_next_131 kf_X12_72 ⟨by decide, _, rfl, rfl⟩ ?_
          refine a_aload_n dX12_next_134 rfl ?_
          refine a_geti dX12_next_135 kf_X12_181 ⟨by decide, _, rfl, rfl⟩ h31 ?_
          refine a_iald dX12_next_138 ⟨by decide, rfl⟩ (by omega) h83 ?_
          refine a_aload_n dX12_next_139 rfl ?_
          refine a_getr dX12_next_140 kf_X12_75 ⟨by decide, _, rfl, rfl⟩ ?_
          refine a_aload_n dX12_next_143 rfl ?_
          refine a_geti dX12_next_144 kf_X12_181 ⟨by decide, _, rfl, rfl⟩ h31 ?_
          refine a_iald dX12_next_147 ⟨by decide, rfl⟩ (by omega) h84 ?_
          refine a_icmp_le (tgt := 164) dX12_next_148 (by decide) (fun h148 => ?_) (fun h148 => ?_)
          · exact absurd ((prd_le (by omega) (by omega)).mp h148) (by have z : ¬ v = (rgE g la fx n k (lfA g lf0 A k)).2 := fun e => h127 (by rw [e]); omega)
          · refine a_aload_n dX12_next_151 rfl ?_
            refine a_dup dX12_next_152 rfl ?_
            refine a_geti dX12_next_153 kf_X12_181 ⟨by decide, _, rfl, rfl⟩ h31 ?_
            refine a_iconst (v := nI 1) dX12_next_156 (by decide) ?_
            refine a_isub dX12_next_157 rfl ?_
            refine a_puti dX12_next_158 kp_X12_181 ⟨by decide, _, rfl, rfl⟩ ?_
            refine a_goto (tgt := 21) dX12_next_161 (by decide) ?_
            refine ih2 _ A k t (by omega) (fun a b z1 z2 z3 z4 z5 => ?_) h29 htl rfl (fun j hj => hcf j hj) (fun l hl => hlf l hl) hres (by omega)
            rw [← hf a b z1 z2 z3 z4 z5]
            simp only [am_up]
            by_cases e : a = 63
            · simp [e, (z5 e).2]
            · simp [e]
    refine ⟨?_, ?_⟩
    · intro I A k t hkm hf h29 htl h31 hcf hlf hres hM
      have hS1 := skP_fr hS hf
      obtain ⟨hn, hn12, hm, hm36, hsk, h70, hl0⟩ := hS1
      cases k with
      | zero =>
        rw [bkE, nxE] at hres
        refine a_aload_n dX12_next_21 rfl ?_
        refine a_geti dX12_next_22 kf_X12_181 ⟨by decide, _, rfl, rfl⟩ h31 ?_
        refine a_if_lt (tgt := 262) dX12_next_25 (by decide) (fun h25 => ?_) (fun h25 => ?_)
        · refine a_iconst (v := nI 0) dX12_next_262 (by decide) ?_
          exact a_ireturn dX12_next_263 ⟨_, rfl, (k0 (by rw [← hres]) I hf (by rw [← hres]; exact h29))⟩
        · exact absurd (show nI 0 - nI 1 < 0 by decide) h25
      | succ k =>
        rw [prd_s] at h31
        obtain ⟨c1, c2, c3, c4, c5⟩ := hcf k (by omega)
        obtain ⟨q1, q2, q3, q4, q5, q6, q7, q8, q9⟩ := hsk k (by omega)
        have hA := rgE_le c5 c4
        rw [bkE] at hres hM
        refine a_aload_n dX12_next_21 rfl ?_
        refine a_geti dX12_next_22 kf_X12_181 ⟨by decide, _, rfl, rfl⟩ h31 ?_
        refine a_if_lt (tgt := 262) dX12_next_25 (by decide) (fun h25 => ?_) (fun h25 => ?_)
        · exact absurd h25 (nI_pos (by omega))
        · refine a_aload_n dX12_next_28 rfl ?_
          refine a_geti dX12_next_29 kf_X12_181 ⟨by decide, _, rfl, rfl⟩ h31 ?_
          refine a_aload_n dX12_next_32 rfl ?_
          refine a_geti dX12_next_33 kf_X12_178 ⟨by decide, _, rfl, rfl⟩ hm ?_
          refine a_icmp_neN (tgt := 61) dX12_next_36 (by decide) (by omega) (by omega) (fun h36 => ?_) (fun h36 => ?_)
          · refine a_aload_n dX12_next_61 rfl ?_
            refine a_getr dX12_next_62 kf_X12_72 ⟨by decide, _, rfl, rfl⟩ ?_
            refine a_aload_n dX12_next_65 rfl ?_
            refine a_geti dX12_next_66 kf_X12_181 ⟨by decide, _, rfl, rfl⟩ h31 ?_
            refine a_iald dX12_next_69 ⟨by decide, rfl⟩ (by omega) c1 ?_
            refine a_if_lt (tgt := 109) dX12_next_70 (by decide) (fun h70 => ?_) (fun h70 => ?_)
            · exact absurd h70 (nI_pos (by omega))
            · refine a_aload_n dX12_next_73 rfl ?_
              refine a_getr dX12_next_74 kf_X12_78 ⟨by decide, _, rfl, rfl⟩ ?_
              refine a_aload_n dX12_next_77 rfl ?_
              refine a_geti dX12_next_78 kf_X12_181 ⟨by decide, _, rfl, rfl⟩ h31 ?_
              refine a_zald dX12_next_81 ⟨by decide, rfl⟩ (by omega) c3 ?_
              refine a_if_eq (tgt := 109) dX12_next_82 (by decide) (fun h82 => ?_) (fun h82 => ?_)
              · exact absurd h82 (by decide)
              · refine a_aload_n dX12_next_85 rfl ?_
                refine a_aload_n dX12_next_86 rfl ?_
                refine a_getr dX12_next_87 kf_X12_72 ⟨by decide, _, rfl, rfl⟩ ?_
                refine a_aload_n dX12_next_90 rfl ?_
                refine a_geti dX12_next_91 kf_X12_181 ⟨by decide, _, rfl, rfl⟩ h31 ?_
                refine a_iald dX12_next_94 ⟨by decide, rfl⟩ (by omega) c1 ?_
                refine a_ineg dX12_next_95 rfl ?_
                refine a_callVv (As := [_]) dX12_next_96 km_X12_194 ⟨by decide, _, _, _, rfl, rfl⟩ rfl rfl (Nat.le_of_ble_eq_true rfl) ?_
                refine c_take (g := g k) hn hn12 h31 (by omega) q1 q2 ?_
                refine a_aload_n dX12_next_99 rfl ?_
                refine a_getr dX12_next_100 kf_X12_78 ⟨by decide, _, rfl, rfl⟩ ?_
                refine a_aload_n dX12_next_103 rfl ?_
                refine a_geti dX12_next_104 kf_X12_181 ⟨by decide, _, rfl, rfl⟩ h31 ?_
                refine a_iconst (v := nI 0) dX12_next_107 (by decide) ?_
                refine a_zast dX12_next_108 ⟨by decide, rfl⟩ (by omega) (by first | exact Or.inl rfl | exact Or.inr rfl) ?_
                exact T (mUn I (g k) n k (A k)) A k (A k + 1) t (by omega) (frS_un hf _ _ _ _) h29 htl h31 (cf_un (fun j hj => hcf j (by omega))) (lf_un hlf q9 hA.2) (by rw [mUn_row (by decide) (by decide), c1, prd_s]) (by rw [mUn_row (by decide) (by decide)]; exact c2) (by omega) (by omega) hres (by omega)
          · exact absurd h36 (by omega)
    · intro I A k t hkm hf h29 htl h31 hcf hlf hnw hres hM
      have hS1 := skP_fr hS hf
      obtain ⟨hn, hn12, hm, hm36, hsk, h70, hl0⟩ := hS1
      by_cases ekm : k = m
      · subst ekm
        have eall := nl_eq hlf h70 hl0 (lfA_le (g := g) (A := A) hl0 k)
        rw [Nat.sub_self, evS_0] at hres hM
        by_cases hall : allB (fun l => !tl l || lfA g lf0 A k l == 0) n = true
        · rw [if_pos hall] at hres hM
          refine a_aload_n dX12_next_21 rfl ?_
          refine a_geti dX12_next_22 kf_X12_181 ⟨by decide, _, rfl, rfl⟩ h31 ?_
          refine a_if_lt (tgt := 262) dX12_next_25 (by decide) (fun h25 => ?_) (fun h25 => ?_)
          · exact absurd h25 (nI_pos (by omega))
          · refine a_aload_n dX12_next_28 rfl ?_
            refine a_geti dX12_next_29 kf_X12_181 ⟨by decide, _, rfl, rfl⟩ h31 ?_
            refine a_aload_n dX12_next_32 rfl ?_
            refine a_geti dX12_next_33 kf_X12_178 ⟨by decide, _, rfl, rfl⟩ hm ?_
            refine a_icmp_neN (tgt := 61) dX12_next_36 (by decide) (by omega) (by omega) (fun h36 => ?_) (fun h36 => ?_)
            · exact absurd rfl h36
            · refine a_aload_n dX12_next_39 rfl ?_
              refine a_callVi (As := []) dX12_next_40 km_X12_190 ⟨by decide, _, _, _, rfl, rfl⟩ rfl rfl (Nat.le_of_ble_eq_true rfl) ?_
              refine c_nl hn hn12 ?_
              rw [eall, if_pos hall]
              · refine a_if_eq (tgt := 48) dX12_next_43 (by decide) (fun h43 => ?_) (fun h43 => ?_)
                · exact absurd h43 (by decide)
                · refine a_iconst (v := nI 1) dX12_next_46 (by decide) ?_
                  exact a_ireturn dX12_next_47 ⟨_, rfl, (k1 A (bkE g la fx tl n k lf0 A k) (by rw [← hres]; rfl) I hf (by rw [← hres]; exact h29) h31 hcf hlf rfl)⟩
        · rw [if_neg hall, List.nil_append] at hres hM
          refine a_aload_n dX12_next_21 rfl ?_
          refine a_geti dX12_next_22 kf_X12_181 ⟨by decide, _, rfl, rfl⟩ h31 ?_
          refine a_if_lt (tgt := 262) dX12_next_25 (by decide) (fun h25 => ?_) (fun h25 => ?_)
          · exact absurd h25 (nI_pos (by omega))
          · refine a_aload_n dX12_next_28 rfl ?_
            refine a_geti dX12_next_29 kf_X12_181 ⟨by decide, _, rfl, rfl⟩ h31 ?_
            refine a_aload_n dX12_next_32 rfl ?_
            refine a_geti dX12_next_33 kf_X12_178 ⟨by decide, _, rfl, rfl⟩ hm ?_
            refine a_icmp_neN (tgt := 61) dX12_next_36 (by decide) (by omega) (by omega) (fun h36 => ?_) (fun h36 => ?_)
            · exact absurd rfl h36
            · refine a_aload_n dX12_next_39 rfl ?_
              refine a_callVi (As := []) dX12_next_40 km_X12_190 ⟨by decide, _, _, _, rfl, rfl⟩ rfl rfl (Nat.le_of_ble_eq_true rfl) ?_
              refine c_nl hn hn12 ?_
              rw [eall, if_neg hall]
              · refine a_if_eq (tgt := 48) dX12_next_43 (by decide) (fun h43 => ?_) (fun h43 => ?_)
                · refine a_aload_n dX12_next_48 rfl ?_
                  refine a_dup dX12_next_49 rfl ?_
                  refine a_geti dX12_next_50 kf_X12_181 ⟨by decide, _, rfl, rfl⟩ h31 ?_
                  refine a_iconst (v := nI 1) dX12_next_53 (by decide) ?_
                  refine a_isub dX12_next_54 rfl ?_
                  refine a_puti dX12_next_55 kp_X12_181 ⟨by decide, _, rfl, rfl⟩ ?_
                  refine a_goto (tgt := 21) dX12_next_58 (by decide) ?_
                  refine ih2 _ A k t (Nat.le_refl _) (fun a b z1 z2 z3 z4 z5 => ?_) h29 htl rfl (fun j hj => hcf j hj) (fun l hl => hlf l hl) hres (by omega)
                  rw [← hf a b z1 z2 z3 z4 z5]
                  simp only [am_up]
                  by_cases e : a = 63
                  · simp [e, (z5 e).2]
                  · simp [e]
                · exact absurd h43 (by decide)
      · have hkm2 : k < m := by omega
        obtain ⟨w1, w2, w3⟩ := hnw hkm2
        obtain ⟨q1, q2, q3, q4, q5, q6, q7, q8, q9⟩ := hsk k hkm2
        have hi1 := (rgE_lt (g := g) (la := la) (fx := fx) (n := n) (k := k) (lfA_le (g := g) (A := A) hl0 k) q8).1
        obtain ⟨f, hfm⟩ : ∃ f, m - k = f + 1 := ⟨m - k - 1, by omega⟩
        rw [hfm, evS, show f = m - (k + 1) by omega] at hres hM
        refine a_aload_n dX12_next_21 rfl ?_
        refine a_geti dX12_next_22 kf_X12_181 ⟨by decide, _, rfl, rfl⟩ h31 ?_
        refine a_if_lt (tgt := 262) dX12_next_25 (by decide) (fun h25 => ?_) (fun h25 => ?_)
        · exact absurd h25 (nI_pos (by omega))
        · refine a_aload_n dX12_next_28 rfl ?_
          refine a_geti dX12_next_29 kf_X12_181 ⟨by decide, _, rfl, rfl⟩ h31 ?_
          refine a_aload_n dX12_next_32 rfl ?_
          refine a_geti dX12_next_33 kf_X12_178 ⟨by decide, _, rfl, rfl⟩ hm ?_
          refine a_icmp_neN (tgt := 61) dX12_next_36 (by decide) (by omega) (by omega) (fun h36 => ?_) (fun h36 => ?_)
          · refine a_aload_n dX12_next_61 rfl ?_
            refine a_getr dX12_next_62 kf_X12_72 ⟨by decide, _, rfl, rfl⟩ ?_
            refine a_aload_n dX12_next_65 rfl ?_
            refine a_geti dX12_next_66 kf_X12_181 ⟨by decide, _, rfl, rfl⟩ h31 ?_
            refine a_iald dX12_next_69 ⟨by decide, rfl⟩ (by omega) w1 ?_
            refine a_if_lt (tgt := 109) dX12_next_70 (by decide) (fun h70 => ?_) (fun h70 => ?_)
            · exact T I A k (rgE g la fx n k (lfA g lf0 A k)).1 t hkm2 hf h29 htl h31 hcf hlf w1 w2 (Nat.le_refl _) (by omega) hres (by omega)
            · refine a_aload_n dX12_next_73 rfl ?_
              refine a_getr dX12_next_74 kf_X12_78 ⟨by decide, _, rfl, rfl⟩ ?_
              refine a_aload_n dX12_next_77 rfl ?_
              refine a_geti dX12_next_78 kf_X12_181 ⟨by decide, _, rfl, rfl⟩ h31 ?_
              refine a_zald dX12_next_81 ⟨by decide, rfl⟩ (by omega) w3 ?_
              refine a_if_eq (tgt := 109) dX12_next_82 (by decide) (fun h82 => ?_) (fun h82 => ?_)
              · exact T I A k (rgE g la fx n k (lfA g lf0 A k)).1 t hkm2 hf h29 htl h31 hcf hlf w1 w2 (Nat.le_refl _) (by omega) hres (by omega)
              · exact absurd rfl h82
          · exact absurd h36 ekm

