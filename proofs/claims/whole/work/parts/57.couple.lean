/-! ===== system and reference side by side ===== -/
def cpN (I : am_I) (N n : Nat) : Prop := 2 ≤ N ∧ N ≤ 6 ∧ n ≤ 12 ∧ I 1 0 = nI N ∧ I 1 1 = nI n ∧ I 63 3 = nI N ∧ I 63 4 = nI n
def cpK (I : am_I) (N l f t : Nat) (s : Bool) : Prop := I (20 + l) 0 = I 65 l ∧ (∃ k, k ≤ 3 ∧ I 65 l = nI k) ∧ I (20 + l) 1 = nI f ∧ I 66 l = nI f ∧ f < N ∧ I (20 + l) 2 = nI t ∧ I 67 l = nI t ∧ t < N ∧ I (20 + l) 3 = I 68 l ∧ (I 68 l = 0 ∨ I 68 l = 1) ∧ s = decide (I 68 l ≠ 0 ∨ nI l = -9) ∧ I (20 + l) 4 = I 69 l ∧ (∃ r, r ≤ 60000 ∧ I 69 l = nI r) ∧ I (20 + l) 5 = I 70 l ∧ vlP (I 70 l) ∧ ∀ h, h < 24 → I (32 + l) h = I 71 (24 * l + h) ∧ (I 71 (24 * l + h) = -9 ∨ ∃ v, v < (if I 65 l = nI 1 then 256 else 65536) ∧ I 71 (24 * l + h) = nI v)
def cpL (I : am_I) (N n : Nat) (F T : Nat → Nat) (S : Nat → Bool) : Prop := ∀ l, l < n → cpK I N l (F l) (T l) (S l)
def prq (N p : Nat) : Prop := p < N * N ∧ p / N ≠ p % N
def cpM (I : am_I) (N : Nat) : Prop := ∀ p, p < 36 → I 13 p = I 72 p ∧ vlP (I 72 p) ∧ I 14 p = I 73 p ∧ (∃ v, v ≤ 200 ∧ I 73 p = nI v) ∧ (¬ prq N p → I 72 p = -9 ∧ I 73 p = nI 0)
def cpF (I : am_I) : Prop := I 0 10 = I 63 15 ∧ (I 63 15 = 0 ∨ I 63 15 = 1) ∧ (I 63 15 = 1 → ∀ p, p < 36 → I 10 p = I 74 p)
def cpT (I : am_I) : Prop := I 0 13 = I 63 0 ∧ ∀ f, f < 6 → I 11 f = I 64 f
def cpS (I : am_I) : Prop := ∀ s, s < 4 → (I 62 s = -1 ∧ I 91 s = -9 ∨ ∃ n, n ≤ 24 ∧ I 62 s = nI n ∧ I 91 s = nI n) ∧ ∀ h, h < 24 → I (16 + s) h = I 92 (24 * s + h) ∧ (I 92 (24 * s + h)).toInt8.toInt32 = I 92 (24 * s + h)
def cpP (I : am_I) (J : am_J) (N n : Nat) (F T : Nat → Nat) (S : Nat → Bool) : Prop := cpN I N n ∧ cpL I N n F T S ∧ cpM I N ∧ cpF I ∧ cpT I ∧ cpS I ∧ rvC 2 44 45 F T S n N I ∧ I 0 11 = I 63 29 ∧ J 0 12 = J 63 2
def cpE (I : am_I) (J : am_J) : Prop := ∃ N n F T S, cpP I J N n F T S
theorem cpN_fr {I I' : am_I} {N n : Nat} (h : cpN I N n) (h1 : I' 1 = I 1) (h3 : I' 63 3 = I 63 3) (h4 : I' 63 4 = I 63 4) : cpN I' N n := by
  unfold cpN
  rw [h1, h3, h4]
  exact h
theorem cpK_fr {I I' : am_I} {N l f t : Nat} {s : Bool} (h : cpK I N l f t s) (h1 : I' (20 + l) = I (20 + l)) (h2 : I' (32 + l) = I (32 + l)) (h3 : ∀ a, 65 ≤ a → a ≤ 70 → I' a l = I a l) (h4 : ∀ k, k < 24 → I' 71 (24 * l + k) = I 71 (24 * l + k)) : cpK I' N l f t s := by
  obtain ⟨a1, a2, a3, a4, a5, a6, a7, a8, a9, a10, a11, a12, a13, a14, a15, a16⟩ := h
  unfold cpK
  rw [h1, h2, h3 65 (by decide) (by decide), h3 66 (by decide) (by decide), h3 67 (by decide) (by decide), h3 68 (by decide) (by decide), h3 69 (by decide) (by decide), h3 70 (by decide) (by decide)]
  exact ⟨a1, a2, a3, a4, a5, a6, a7, a8, a9, a10, a11, a12, a13, a14, a15, fun k hk => by rw [h4 k hk]; exact a16 k hk⟩
theorem cpL_fr {I I' : am_I} {N n : Nat} {F T : Nat → Nat} {S : Nat → Bool} (h : cpL I N n F T S) (hn : n ≤ 12) (h1 : ∀ a, (20 ≤ a ∧ a < 44) → I' a = I a) (h2 : ∀ a, 65 ≤ a → a ≤ 71 → I' a = I a) : cpL I' N n F T S := fun l hl =>
  cpK_fr (h l hl) (h1 _ (by omega)) (h1 _ (by omega)) (fun a x y => by rw [h2 a x (by omega)]) (fun k _ => by rw [h2 71 (by decide) (by decide)])
theorem cpM_fr {I I' : am_I} {N : Nat} (h : cpM I N) (h1 : I' 13 = I 13) (h2 : I' 14 = I 14) (h3 : I' 72 = I 72) (h4 : I' 73 = I 73) : cpM I' N := by
  unfold cpM
  rw [h1, h2, h3, h4]
  exact h
theorem cpF_fr {I I' : am_I} (h : cpF I) (h1 : I' 0 10 = I 0 10) (h2 : I' 63 15 = I 63 15) (h3 : I' 10 = I 10) (h4 : I' 74 = I 74) : cpF I' := by
  unfold cpF
  rw [h1, h2, h3, h4]
  exact h
theorem cpT_fr {I I' : am_I} (h : cpT I) (h1 : I' 0 13 = I 0 13) (h2 : I' 63 0 = I 63 0) (h3 : I' 11 = I 11) (h4 : I' 64 = I 64) : cpT I' := by
  unfold cpT
  rw [h1, h2, h3, h4]
  exact h
theorem cpS_fr {I I' : am_I} (h : cpS I) (h1 : I' 62 = I 62) (h2 : I' 91 = I 91) (h3 : I' 92 = I 92) (h4 : ∀ s, s < 4 → I' (16 + s) = I (16 + s)) : cpS I' := fun s hs => by
  rw [h1, h2, h3, h4 s hs]
  exact h s hs
theorem rvC_fr {I I' : am_I} {F T : Nat → Nat} {S : Nat → Bool} {n N : Nat} (h : rvC 2 44 45 F T S n N I) (h1 : I' 2 = I 2) (h2 : I' 44 = I 44) (h3 : I' 45 = I 45) : rvC 2 44 45 F T S n N I' := by
  unfold rvC
  rw [h1, h2, h3]
  exact h
/-- the cells that system and reference share, but those of the FIT and of TRIES -/
def rlv (a j : Nat) : Prop := (a = 0 ∧ j = 13) ∨ a = 1 ∨ a = 2 ∨ (11 ≤ a ∧ a < 46) ∨ a = 62 ∨ (a = 63 ∧ (j = 0 ∨ j = 3 ∨ j = 4)) ∨ (64 ≤ a ∧ a < 74) ∨ a = 91 ∨ a = 92
theorem rlv_row {I I' : am_I} (h : ∀ a j, rlv a j → I' a j = I a j) {a : Nat} (ha : a = 1 ∨ a = 2 ∨ (11 ≤ a ∧ a < 46) ∨ a = 62 ∨ (64 ≤ a ∧ a < 74) ∨ a = 91 ∨ a = 92) : I' a = I a := by
  funext j
  refine h a j ?_
  unfold rlv
  omega
theorem cp_rl {I I' : am_I} {J J' : am_J} {N n : Nat} {F T : Nat → Nat} {S : Nat → Bool} (h : cpP I J N n F T S) (hr : ∀ a j, rlv a j → I' a j = I a j) (hF : cpF I') (ht : I' 0 11 = I' 63 29) (hJ : J' 0 12 = J' 63 2) : cpP I' J' N n F T S := by
  obtain ⟨a1, a2, a3, a4, a5, a6, a7, a8, a9⟩ := h
  have R : ∀ a, (a = 1 ∨ a = 2 ∨ (11 ≤ a ∧ a < 46) ∨ a = 62 ∨ (64 ≤ a ∧ a < 74) ∨ a = 91 ∨ a = 92) → I' a = I a := fun a ha => rlv_row hr ha
  exact ⟨cpN_fr a1 (R 1 (by omega)) (hr 63 3 (by unfold rlv; omega)) (hr 63 4 (by unfold rlv; omega)), cpL_fr a2 a1.2.2.1 (fun a x => R a (by omega)) (fun a x y => R a (by omega)), cpM_fr a3 (R 13 (by omega)) (R 14 (by omega)) (R 72 (by omega)) (R 73 (by omega)), hF, cpT_fr a5 (hr 0 13 (by unfold rlv; omega)) (hr 63 0 (by unfold rlv; omega)) (R 11 (by omega)) (R 64 (by omega)), cpS_fr a6 (R 62 (by omega)) (R 91 (by omega)) (R 92 (by omega)) (fun s hs => R _ (by omega)), rvC_fr a7 (R 2 (by omega)) (R 44 (by omega)) (R 45 (by omega)), ht, hJ⟩
theorem cp_frR {I I' : am_I} {J : am_J} {N n : Nat} {F T : Nat → Nat} {S : Nat → Bool} (h : cpP I J N n F T S) (hr : frR I' I) : cpP I' J N n F T S :=
  cp_rl h (fun a j ha => hr a j (by unfold rlv at ha; omega) (by unfold rlv at ha; omega) (by unfold rlv at ha; omega)) (cpF_fr h.2.2.2.1 (hr 0 10 (by decide) (by decide) (by decide)) (hr 63 15 (by decide) (by decide) (by decide)) (frR_row hr (by decide) (by decide) (by decide)) (frR_row hr (by decide) (by decide) (by decide))) (by rw [hr 0 11 (by decide) (by decide) (by decide), hr 63 29 (by decide) (by decide) (by decide)]; exact h.2.2.2.2.2.2.2.1) h.2.2.2.2.2.2.2.2
/-- found -/
def mFou (I : am_I) (f : Nat) : am_I := am_up (am_up I 0 13 (nI f)) 11 f (I 11 f + 1)
theorem cp_meet {I : am_I} {J : am_J} {N n : Nat} {F T : Nat → Nat} {S : Nat → Bool} {f : Nat} (h : cpP I J N n F T S) (hf : f < 6) : cpP (mMeet (mFou I f) f) J N n F T S := by
  obtain ⟨a1, a2, a3, a4, a5, a6, a7, a8, a9⟩ := h
  have R : ∀ a, a ≠ 0 → a ≠ 11 → a ≠ 63 → a ≠ 64 → mMeet (mFou I f) f a = I a := fun a x0 x1 x2 x3 => by
    unfold mMeet mFou
    rw [am_up_ne x3, am_up_ne x2, am_up_ne x1, am_up_ne x0]
  have R63 : ∀ j, j ≠ 0 → mMeet (mFou I f) f 63 j = I 63 j := fun j hj => by
    unfold mMeet mFou
    rw [am_up_ne (by decide), am_up_slot hj, am_up_ne (by decide), am_up_ne (by decide)]
  have R0 : ∀ j, j ≠ 13 → mMeet (mFou I f) f 0 j = I 0 j := fun j hj => by
    unfold mMeet mFou
    rw [am_up_ne (by decide), am_up_ne (by decide), am_up_ne (by decide), am_up_slot hj]
  have e11 : mFou I f 64 = I 64 := by unfold mFou; rw [am_up_ne (by decide), am_up_ne (by decide)]
  refine ⟨cpN_fr a1 (R 1 (by omega) (by omega) (by omega) (by omega)) (R63 3 (by decide)) (R63 4 (by decide)), cpL_fr a2 a1.2.2.1 (fun a x => R a (by omega) (by omega) (by omega) (by omega)) (fun a x y => R a (by omega) (by omega) (by omega) (by omega)), cpM_fr a3 (R 13 (by omega) (by omega) (by omega) (by omega)) (R 14 (by omega) (by omega) (by omega) (by omega)) (R 72 (by omega) (by omega) (by omega) (by omega)) (R 73 (by omega) (by omega) (by omega) (by omega)), cpF_fr a4 (R0 10 (by decide)) (R63 15 (by decide)) (R 10 (by omega) (by omega) (by omega) (by omega)) (R 74 (by omega) (by omega) (by omega) (by omega)), ⟨?_, fun k hk => ?_⟩, cpS_fr a6 (R 62 (by omega) (by omega) (by omega) (by omega)) (R 91 (by omega) (by omega) (by omega) (by omega)) (R 92 (by omega) (by omega) (by omega) (by omega)) (fun s hs => R _ (by omega) (by omega) (by omega) (by omega)), rvC_fr a7 (R 2 (by omega) (by omega) (by omega) (by omega)) (R 44 (by omega) (by omega) (by omega) (by omega)) (R 45 (by omega) (by omega) (by omega) (by omega)), by rw [R0 11 (by decide), R63 29 (by decide)]; exact a8, a9⟩
  · unfold mMeet mFou
    rw [am_up_ne (by decide), am_up_ne (by decide), am_up_ne (by decide), am_up_same, am_up_ne (by decide), am_up_same]
  · show am_up (am_up (mFou I f) 63 0 (nI f)) 64 f (mFou I f 64 f + 1) 11 k = am_up (am_up (mFou I f) 63 0 (nI f)) 64 f (mFou I f 64 f + 1) 64 k
    rw [e11, am_up_ne (by decide), am_up_ne (by decide)]
    by_cases e : k = f
    · subst e
      rw [am_up_same]
      unfold mFou
      rw [am_up_same, a5.2 k hk]
    · rw [am_up_slot e, am_up_ne (by decide), e11]
      unfold mFou
      rw [am_up_slot e, am_up_ne (by decide), a5.2 k hk]
theorem cp_rwR {I : am_I} {J : am_J} {N n : Nat} {F T : Nat → Nat} {S : Nat → Bool} (h : cpP I J N n F T S) : rwR I (-9) N n F T S := by
  obtain ⟨⟨b1, b2, b3, b4, b5, b6, b7⟩, a2, _⟩ := h
  refine ⟨b6, b1, b2, b7, b3, fun l hl => ?_, fun l hl => ?_⟩
  · obtain ⟨_, _, _, c4, c5, _, c7, c8, _⟩ := a2 l hl
    exact ⟨c4, c5, c7, c8⟩
  · obtain ⟨_, _, _, _, _, _, _, _, _, _, c11, _⟩ := a2 l hl
    exact c11
theorem cp_rwC {I : am_I} {J : am_J} {N n : Nat} {F T : Nat → Nat} {S : Nat → Bool} (h : cpP I J N n F T S) : rwC I (-9) N n F T S := by
  obtain ⟨⟨b1, b2, b3, b4, b5, b6, b7⟩, a2, _⟩ := h
  refine ⟨b4, b1, b2, b5, b3, fun l hl => ?_, fun l hl => ?_⟩
  · obtain ⟨_, _, c3, _, c5, c6, _, c8, _⟩ := a2 l hl
    exact ⟨c3, c5, c6, c8⟩
  · obtain ⟨_, _, _, _, _, _, _, _, c9, _, c11, _⟩ := a2 l hl
    rw [c9]
    exact c11
theorem cp_cq {I : am_I} {J : am_J} {N n : Nat} {F T : Nat → Nat} {S : Nat → Bool} (h : cpP I J N n F T S) : cqP I N n F T S := by
  obtain ⟨⟨b1, b2, b3, b4, b5, b6, b7⟩, a2, a3, _, _, _, a7, _⟩ := h
  refine ⟨b1, b2, b4, b5, b3, fun l hl => ?_, a7, fun l hl => ?_, fun p hp => ⟨(a3 p hp).1, (a3 p hp).2.1⟩⟩
  · obtain ⟨_, _, _, _, c5, _, _, c8, _⟩ := a2 l hl
    exact ⟨c5, c8⟩
  · obtain ⟨_, _, _, _, _, _, _, _, _, _, _, _, _, c14, c15, _⟩ := a2 l hl
    exact ⟨c14, c15⟩
theorem cp_rl2 {I : am_I} {J : am_J} {N n : Nat} {F T : Nat → Nat} {S : Nat → Bool} (h : cpP I J N n F T S) : rlP 44 45 n (N * N) (RoC F T S n N) I := by
  obtain ⟨⟨b1, b2, b3, b4, b5, b6, b7⟩, a2, a3, _, _, _, a7, _⟩ := h
  exact rv_rl a7 b1 b2 (fun l hl => by obtain ⟨_, _, _, _, _, _, _, c8, _⟩ := a2 l hl; exact c8)
