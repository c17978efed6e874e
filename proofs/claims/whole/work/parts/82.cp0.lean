/-! ===== the first memory ===== -/
theorem moI_ne {I : am_I} {k : Nat} (h1 : k < 63) : moI I k = I k := by
  funext j
  simp only [moI, mFill, mForget, am_up, moP, if_pos h1, show ¬ k = 91 by omega, show ¬ k = 72 by omega, show ¬ k = 73 by omega, show ¬ k = 63 by omega, false_and, if_false]
theorem moI_hi {I : am_I} {k j : Nat} (h1 : 63 ≤ k) (h2 : k ≠ 72) (h3 : k ≠ 91) (h4 : k = 63 → j ≠ 4 ∧ j ≠ 15) : moI I k j = moT.getD (k - 63) (fun _ => 0) j := by
  simp only [moI, mFill, mForget, am_up, moP, if_neg (show ¬ k < 63 by omega), h3, h2, false_and, if_false]
  by_cases e : k = 63
  · subst e
    simp [(h4 rfl).1, (h4 rfl).2]
  · by_cases e2 : k = 73
    · subst e2
      simp [moT]
    · simp [e, e2]
theorem moI_91 {I : am_I} {s : Nat} (h : s < 4) : moI I 91 s = -9 := by simp [moI, mFill, h]
theorem moI_72 {I : am_I} {p : Nat} (h : p < 36) : moI I 72 p = -9 := by simp [moI, mFill, mForget, h]
theorem moI_z {I : am_I} {k j : Nat} (h1 : 64 ≤ k) (h2 : k ≠ 72) (h3 : k ≠ 91) : moI I k j = 0 := by
  rw [moI_hi (by omega) h2 h3 (by omega)]
  have : moT.length ≤ k - 63 := by show 1 ≤ _; omega
  simp [List.getD, List.getElem?_eq_none this]
theorem mo_cp {I : am_I} (h1 : ∀ k, k ≠ 2 → k ≠ 44 → k ≠ 45 → k ≠ 46 → I k = luI k) (h2 : rvC 2 44 45 (fun _ => 0) (fun _ => 0) (fun _ => false) 0 2 I) : cpE (moI I) (fun _ _ => 0) := by
  have e63 : ∀ j, j ≠ 4 → j ≠ 15 → moI I 63 j = ([0, 0, 0, nI 2] : List Int32).getD j 0 := fun j a b => by rw [moI_hi (by omega) (by decide) (by decide) (fun _ => ⟨a, b⟩)]; rfl
  have e4 : moI I 63 4 = 0 := by simp [moI, mFill, mForget, am_up]
  have e15 : moI I 63 15 = 0 := by simp [moI, mFill, mForget, am_up]
  have R : ∀ k, k < 63 → k ≠ 2 → k ≠ 44 → k ≠ 45 → k ≠ 46 → moI I k = luI k := fun k a b c d e => (moI_ne a).trans (h1 k b c d e)
  refine ⟨2, 0, fun _ => 0, fun _ => 0, fun _ => false, ⟨by decide, by decide, by decide, by rw [R 1 (by decide) (by decide) (by decide) (by decide) (by decide)]; rfl, by rw [R 1 (by decide) (by decide) (by decide) (by decide) (by decide)]; rfl, by rw [e63 3 (by decide) (by decide)]; rfl, by rw [e4]; rfl⟩, fun l hl => by omega, fun p hp => ?_, ⟨?_, Or.inl e15, fun h => ?_⟩, ⟨?_, fun f hf => ?_⟩, fun s hs => ⟨Or.inl ⟨?_, moI_91 hs⟩, fun h hh => ?_⟩, ?_, ?_, rfl⟩
  · have e13 : moI I 13 p = -9 := by
      rw [R 13 (by decide) (by decide) (by decide) (by decide) (by decide)]
      show fiF (fun _ => 0) (-9) 36 p = -9
      simp [fiF, hp]
    have e14 : moI I 14 p = 0 := by rw [R 14 (by decide) (by decide) (by decide) (by decide) (by decide)]; rfl
    have e73 : moI I 73 p = 0 := moI_z (by decide) (by decide) (by decide)
    have e72 := moI_72 (I := I) hp
    exact ⟨e13.trans e72.symm, by rw [e72]; exact Or.inl rfl, e14.trans e73.symm, ⟨0, by decide, by rw [e73]; rfl⟩, fun _ => ⟨e72, by rw [e73]; rfl⟩⟩
  · rw [R 0 (by decide) (by decide) (by decide) (by decide) (by decide), e15]; rfl
  · rw [e15] at h; exact absurd h (by decide)
  · rw [R 0 (by decide) (by decide) (by decide) (by decide) (by decide), e63 0 (by decide) (by decide)]; rfl
  · rw [R 11 (by decide) (by decide) (by decide) (by decide) (by decide), moI_z (by decide) (by decide) (by decide)]; rfl
  · rw [R 62 (by decide) (by decide) (by decide) (by decide) (by decide)]
    show fiF (fun _ => 0) (-1) 4 s = -1
    simp [fiF, hs]
  · have e16 : moI I (16 + s) h = 0 := by
      rw [R (16 + s) (by omega) (by omega) (by omega) (by omega) (by omega)]
      rcases (show s = 0 ∨ s = 1 ∨ s = 2 ∨ s = 3 by omega) with rfl | rfl | rfl | rfl <;> rfl
    have e92 : moI I 92 (24 * s + h) = 0 := moI_z (by decide) (by decide) (by decide)
    exact ⟨e16.trans e92.symm, by rw [e92]; decide⟩
  · exact rvC_fr h2 (moI_ne (by decide)) (moI_ne (by decide)) (moI_ne (by decide))
  · rw [R 0 (by decide) (by decide) (by decide) (by decide) (by decide), e63 29 (by decide) (by decide)]; rfl
