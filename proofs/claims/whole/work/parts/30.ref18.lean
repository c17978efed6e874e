/-! ===== the reference: meters ===== -/
theorem sqL_sorted (rb : Nat → Option Nat) (me : Nat → Int32) (tb : Nat) : ∀ p, (sqL rb me tb p).Pairwise (· < ·) ∧ ∀ q ∈ sqL rb me tb p, q < p
  | 0 => ⟨List.Pairwise.nil, fun q h => by simp [sqL] at h⟩
  | p + 1 => by
    obtain ⟨h1, h2⟩ := sqL_sorted rb me tb p
    rw [sqL]
    split
    · refine ⟨List.pairwise_append.mpr ⟨h1, List.pairwise_singleton _ _, fun a ha b hb => ?_⟩, fun q hq => ?_⟩
      · rw [List.mem_singleton] at hb; subst hb; exact h2 a ha
      · rcases List.mem_append.mp hq with z | z
        · have := h2 q z; omega
        · rw [List.mem_singleton] at z; omega
    · exact ⟨h1, fun q hq => by have := h2 q hq; omega⟩
theorem skQ_lt {I : am_I} {N n : Nat} {F T : Nat → Nat} {S : Nat → Bool} {j k : Nat} (hj : j < k) (hk : k < (skL I N n F T S).length) : skQ I N n F T S j < skQ I N n F T S k := by
  have h := (sqL_sorted (rbO F T S n N) (I 72) (skT I n) (N * N)).1
  have h2 := List.pairwise_iff_getElem.mp h j k (Nat.lt_trans hj hk) hk hj
  unfold skQ
  rw [List.getD_eq_getElem?_getD, List.getD_eq_getElem?_getD, List.getElem?_eq_getElem (Nat.lt_trans hj hk), List.getElem?_eq_getElem hk]
  exact h2
/-- the free ones among the first k sought -/
def frL (fx : Nat → Option Nat) (sq : Nat → Nat) : Nat → List Nat
  | 0 => []
  | k + 1 => if (fx k).isNone = true then frL fx sq k ++ [sq k] else frL fx sq k
def frN (fx : Nat → Option Nat) (sq : Nat → Nat) (m i : Nat) : Nat := (frL fx sq m).getD i 0
def isN (fx : Nat → Option Nat) : Nat → Bool := fun k => (fx k).isNone
theorem frL_len (fx : Nat → Option Nat) (sq : Nat → Nat) : ∀ k, (frL fx sq k).length = cN (isN fx) k
  | 0 => rfl
  | k + 1 => by
    rw [frL, cN_s, ← frL_len fx sq k]
    unfold isN
    split <;> simp [*]
theorem frL_pre (fx : Nat → Option Nat) (sq : Nat → Nat) {k m : Nat} (h : k ≤ m) : ∀ (i x : Nat), (frL fx sq k)[i]? = some x → (frL fx sq m)[i]? = some x := by
  induction m with
  | zero =>
    intro i x hx
    have : k = 0 := by omega
    subst this; exact hx
  | succ m ih =>
    intro i x hx
    by_cases e : k = m + 1
    · subst e; exact hx
    · have h1 := ih (by omega) i x hx
      rw [frL]
      split
      · rw [List.getElem?_append_left (List.getElem?_eq_some_iff.mp h1).1]; exact h1
      · exact h1
theorem frL_at {fx : Nat → Option Nat} {sq : Nat → Nat} {k m : Nat} (h : k < m) (hn : (fx k).isNone = true) : (frL fx sq m)[cN (isN fx) k]? = some (sq k) := by
  refine frL_pre fx sq (show k + 1 ≤ m by omega) _ _ ?_
  rw [frL, if_pos hn, ← frL_len fx sq k, List.getElem?_append_right (Nat.le_refl _)]
  simp
theorem frL_mem {fx : Nat → Option Nat} {sq : Nat → Nat} {x : Nat} : ∀ m, x ∈ frL fx sq m → ∃ k, k < m ∧ (fx k).isNone = true ∧ x = sq k
  | 0, h => by simp [frL] at h
  | m + 1, h => by
    rw [frL] at h
    split at h
    · rename_i hn
      rcases List.mem_append.mp h with z | z
      · obtain ⟨k, a, b, c⟩ := frL_mem m z
        exact ⟨k, by omega, b, c⟩
      · rw [List.mem_singleton] at z
        exact ⟨m, by omega, hn, z⟩
    · obtain ⟨k, a, b, c⟩ := frL_mem m h
      exact ⟨k, by omega, b, c⟩
theorem cN_mono (p : Nat → Bool) {a b : Nat} (h : a ≤ b) : cN p a ≤ cN p b := by
  induction b with
  | zero => have : a = 0 := by omega
            subst this; exact Nat.le_refl _
  | succ b ih =>
    by_cases e : a = b + 1
    · subst e; exact Nat.le_refl _
    · have := ih (by omega)
      rw [cN_s]; omega
theorem cN_inc {p : Nat → Bool} {a b : Nat} (h : a < b) (hp : p a = true) : cN p a < cN p b := by
  have h1 := cN_mono p (show a + 1 ≤ b by omega)
  rw [cN_s, hp] at h1
  simp at h1
  omega
/-- which index a free place has: each one has one -/
theorem frN_ex {fx : Nat → Option Nat} {sq : Nat → Nat} {m i : Nat} (h : i < (frL fx sq m).length) : ∃ k, k < m ∧ (fx k).isNone = true ∧ i = cN (isN fx) k ∧ frN fx sq m i = sq k := by
  induction m with
  | zero => simp [frL] at h
  | succ m ih =>
    by_cases e : (fx m).isNone = true
    · by_cases hi : i < (frL fx sq m).length
      · obtain ⟨k, a, b, c, dd⟩ := ih hi
        refine ⟨k, by omega, b, c, ?_⟩
        have := frL_at (sq := sq) (show k < m + 1 by omega) b
        unfold frN
        rw [List.getD_eq_getElem?_getD, c, this]
        rfl
      · have hl : (frL fx sq (m + 1)).length = (frL fx sq m).length + 1 := by rw [frL, if_pos e]; simp
        have hi2 : i = cN (isN fx) m := by rw [← frL_len fx sq m]; omega
        refine ⟨m, by omega, e, hi2, ?_⟩
        have := frL_at (sq := sq) (show m < m + 1 by omega) e
        unfold frN
        rw [List.getD_eq_getElem?_getD, hi2, this]
        rfl
    · have e2 : frL fx sq (m + 1) = frL fx sq m := by rw [frL, if_neg e]
      rw [e2] at h
      obtain ⟨k, a, b, c, dd⟩ := ih h
      refine ⟨k, by omega, b, c, ?_⟩
      unfold frN at dd ⊢
      rw [e2]; exact dd
/-- with the set s METERED as in A -/
def fxS (fx : Nat → Option Nat) (A : Nat → Nat) (s k : Nat) : Option Nat := match fx k with
  | some f => some f
  | none => if s.testBit (cN (isN fx) k) = true then some (A k) else none
theorem fxR_ne {base : Nat → Int32} {fr : Nat → Nat} {s : Nat} {ff : Nat → Int32} {p : Nat} : ∀ i, (∀ j, j < i → fr j ≠ p) → fxR base fr s ff i p = base p
  | 0, _ => rfl
  | i + 1, h => by
    rw [fxR]
    unfold upd
    rw [if_neg (fun e => h i (by omega) e.symm)]
    exact fxR_ne i (fun j hj => h j (by omega))
theorem fxR_at {base : Nat → Int32} {fr : Nat → Nat} {s : Nat} {ff : Nat → Int32} {q : Nat} : ∀ i, q < i → (∀ j, j < i → j ≠ q → fr j ≠ fr q) → fxR base fr s ff i (fr q) = if s.testBit q = true then ff (fr q) else -9
  | 0, h, _ => by omega
  | i + 1, h, hinj => by
    rw [fxR]
    unfold upd
    by_cases e : q = i
    · subst e; rw [if_pos rfl]
    · rw [if_neg (fun z => hinj i (by omega) (fun w => e w.symm) z.symm)]
      exact fxR_at i (by omega) (fun j hj => hinj j (by omega))
/-- the memory of the fixed ones, behind the loop of isAlone -/
theorem fxR_S {fx : Nat → Option Nat} {sq A : Nat → Nat} {m s : Nat} {base ff : Nat → Int32} (hsq : ∀ j k, j < k → k < m → sq j < sq k) (hb : ∀ k f, k < m → fx k = some f → base (sq k) = nI f) (hff : ∀ k, k < m → ff (sq k) = nI (A k)) {k : Nat} (hk : k < m) : fxR base (frN fx sq m) s ff (frL fx sq m).length (sq k) = fxI (fxS fx A s k) := by
  have inj : ∀ a b, a < m → b < m → sq a = sq b → a = b := fun a b ha hb e => by
    rcases Nat.lt_trichotomy a b with z | z | z
    · have := hsq a b z hb; omega
    · exact z
    · have := hsq b a z ha; omega
  unfold fxS
  cases hfx : fx k with
  | some f =>
    rw [fxR_ne _ (fun j hj e => ?_), hb k f hk hfx]; rfl
    obtain ⟨k2, a1, a2, a3, a4⟩ := frN_ex hj
    rw [a4] at e
    have := inj k2 k a1 hk e
    subst this
    rw [hfx] at a2
    cases a2
  | none =>
    have hn : (fx k).isNone = true := by rw [hfx]; rfl
    have h1 := frL_at (sq := sq) hk hn
    have hlt := (List.getElem?_eq_some_iff.mp h1).1
    have e1 : frN fx sq m (cN (isN fx) k) = sq k := by unfold frN; rw [List.getD_eq_getElem?_getD, h1]; rfl
    rw [← e1, fxR_at _ hlt (fun j hj hne e => ?_), e1, hff k hk]
    · simp only
      split <;> rfl
    · obtain ⟨k2, a1, a2, a3, a4⟩ := frN_ex hj
      rw [a4, e1] at e
      have := inj k2 k a1 hk e
      subst this
      exact hne a3
/-- the lowest bit's place -/
def czN (s : Nat) : Nat := fnd (fun i => s.testBit i) 64 0
theorem czN_low {j a : Nat} (hj : j < 64) : czN (2 ^ j * (2 * a + 1)) = j := by
  have tb : ∀ i, (2 ^ j * (2 * a + 1)).testBit i = (decide (j ≤ i) && (2 * a + 1).testBit (i - j)) := fun i => by rw [Nat.mul_comm, Nat.testBit_mul_two_pow]
  obtain ⟨h1, h2, h3, h4⟩ := fnd_spec (fun i => (2 ^ j * (2 * a + 1)).testBit i) 64 0 ⟨j, by omega, by omega, by rw [tb]; simp⟩
  unfold czN
  rcases Nat.lt_trichotomy (fnd (fun i => (2 ^ j * (2 * a + 1)).testBit i) 64 0) j with z | z | z
  · rw [tb] at h1
    simp at h1
    omega
  · exact z
  · have := h4 j (by omega) z
    rw [tb] at this
    simp at this
def nxL (s : Nat) : Nat := nxS (czN s) s
/-- the sets, by how many they are, then as numbers: al tells of one whether it makes all sure -/
def mtS (al : Nat → Nat → Nat × Nat × Nat) (fr : Nat) : Nat → Nat → Nat → Nat → Nat × Option (Option (Nat × Nat))
  | 0, _, _, t => (t, some none)
  | f + 1, size, s, t => if fr < size then (t, some none) else if s < 2 ^ fr then (if (al t s).2.1 = 1 then ((al t s).1, none) else if (al t s).2.2 = 1 then ((al t s).1, some (some (size, s))) else mtS al fr f size (if size = 0 then 2 ^ fr else nxL s) (al t s).1) else mtS al fr f (size + 1) (2 ^ (size + 1) - 1) t
def mtM (fr size s : Nat) : Nat := (fr + 1 - size) * (2 ^ fr + 2) + (2 ^ fr + 1 - s)
/-- the bits of the PAIRS of a set -/
def btN (fr : Nat → Nat) (s : Nat) : Nat → Nat
  | 0 => 0
  | k + 1 => btN fr s k ||| (if s.testBit k = true then 2 ^ fr k else 0)
theorem btN_lt {fr : Nat → Nat} {s : Nat} : ∀ k, (∀ i, i < k → fr i < 36) → btN fr s k < 2 ^ 36
  | 0, _ => Nat.two_pow_pos 36
  | k + 1, h => by
    have h1 := btN_lt (s := s) k (fun i hi => h i (by omega))
    rw [btN]
    split
    · exact bx_lt h1 (h k (by omega))
    · rw [Nat.or_zero]; exact h1
set_option maxHeartbeats 4000000 in
set_option maxRecDepth 100000 in
theorem lp_mt4 {G : am_G} {d : Nat} {I0 : am_I} {J : am_J} {K : Int32 → am_I → am_J → Prop} {x1 x2 : Int32} {f z s : Nat} {fr : Nat → Nat} (hf : f ≤ 36) (hs : s < 2 ^ 60) (hfr : ∀ i, i < f → I0 90 i = nI (fr i) ∧ fr i < 36) (hK : K (nI z) I0 (am_upJ J 63 2 (lN (btN fr s f)))) : ∀ k, k ≤ f → AW G cX12_meters 11 RX12 (d + 1) (am_ex G (some .int) (fun r I J => ∃ x, r = some (.int x) ∧ K x I J)) 163 [some (.ref 63), some (.int x1), some (.int x2), some (.int (nI f)), some (.int (nI z)), some (.long (lN s)), none, some (.int (nI 1)), some (.long (lN (btN fr s k))), none, some (.int (nI k))] [] I0 J := by
  refine am_dn f (fun k hk ih => ?_)
  refine a_iload dX12_meters_163 rfl ?_
  refine a_iload_n dX12_meters_165 rfl ?_
  refine a_icmp_geN (tgt := 195) dX12_meters_166 (by decide) (by omega) (by omega) (fun h => ?_) (fun h => ?_)
  · obtain rfl : k = f := by omega
    refine a_aload_n dX12_meters_195 rfl ?_
    refine a_lload dX12_meters_196 rfl ?_
    refine a_iload dX12_meters_198 rfl ?_
    refine a_callVi (As := [_, _]) dX12_meters_200 km_X12_160 ⟨by decide, _, _, _, rfl, rfl⟩ rfl rfl (Nat.le_of_ble_eq_true rfl) ?_
    refine c_tell ?_
    exact a_ireturn dX12_meters_203 ⟨_, rfl, hK⟩
  · obtain ⟨q1, q2⟩ := hfr k h
    refine a_lload dX12_meters_169 rfl ?_
    refine a_lload dX12_meters_171 rfl ?_
    refine a_iload dX12_meters_173 rfl ?_
    refine a_lshr dX12_meters_175 rfl ?_
    refine a_lconst (v := 1) dX12_meters_176 (by decide) ?_
    refine a_land dX12_meters_177 (lx_bit (by omega) (by omega)) ?_
    refine a_aload_n dX12_meters_178 rfl ?_
    refine a_getr dX12_meters_179 kf_X12_93 ⟨by decide, _, rfl, rfl⟩ ?_
    refine a_iload dX12_meters_182 rfl ?_
    refine a_iald dX12_meters_184 ⟨by decide, rfl⟩ (by omega) q1 ?_
    refine a_lshl dX12_meters_185 (lx_shl (by omega) (by split; rw [Nat.one_mul]; exact Nat.pow_lt_pow_right (by decide) (by omega); rw [Nat.zero_mul]; decide)) ?_
    refine a_lor dX12_meters_186 (show _ = lN (btN fr s (k + 1)) by rw [lx_or, btN]; congr 2; split <;> simp) ?_
    refine a_lstore (L' := [_, _, _, _, _, _, _, _, _, _, _]) dX12_meters_187 (Nat.le_of_ble_eq_true rfl) rfl ?_
    refine a_iinc (L' := [_, _, _, _, _, _, _, _, _, _, _]) dX12_meters_189 rfl (nI_inc _) rfl ?_
    refine a_goto (tgt := 163) dX12_meters_192 (by decide) ?_
    exact ih (k + 1) (by omega) (by omega)

