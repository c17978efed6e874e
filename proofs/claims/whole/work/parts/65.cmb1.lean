/-! ===== both sides, call by call: the net ===== -/
theorem mFou_ne {I : am_I} {f a : Nat} (h0 : a ≠ 0) (h1 : a ≠ 11) : mFou I f a = I a := by
  unfold mFou; rw [am_up_ne h1, am_up_ne h0]
theorem n1_2 : ¬ nI 1 = nI 2 := by decide
theorem n1_3 : ¬ nI 1 = nI 3 := by decide
theorem n2_3 : ¬ nI 2 = nI 3 := by decide
theorem cp_line {I M : am_I} {J : am_J} {N n l : Nat} {F T : Nat → Nat} {S S' : Nat → Bool} (hc : cpP I J N n F T S) (hS' : ∀ k, k ≠ l → S' k = S k) (hfr : ∀ a j, a ≠ 20 + l → a ≠ 32 + l → (65 ≤ a → a ≤ 70 → j ≠ l) → (a = 71 → j < 24 * l ∨ 24 * l + 24 ≤ j) → a ≠ 2 → a ≠ 44 → a ≠ 45 → a ≠ 46 → M a j = I a j) (hl : l < n) (hK : cpK M N l (F l) (T l) (S' l)) (hR : rvC 2 44 45 F T S' n N M) : cpP M J N n F T S' := by
  obtain ⟨a1, a2, a3, a4, a5, a6, a7, a8, a9⟩ := hc
  have hn := a1.2.2.1
  have R : ∀ a, a ≠ 20 + l → a ≠ 32 + l → (a < 65 ∨ 71 < a) → a ≠ 2 → a ≠ 44 → a ≠ 45 → a ≠ 46 → M a = I a := fun a b1 b2 b3 b4 b5 b6 b7 => funext fun j => hfr a j b1 b2 (by omega) (by omega) b4 b5 b6 b7
  refine ⟨cpN_fr a1 (R 1 (by omega) (by omega) (by omega) (by omega) (by omega) (by omega) (by omega)) (hfr 63 3 (by omega) (by omega) (by omega) (by omega) (by omega) (by omega) (by omega) (by omega)) (hfr 63 4 (by omega) (by omega) (by omega) (by omega) (by omega) (by omega) (by omega) (by omega)), fun k hk => ?_, cpM_fr a3 (R 13 (by omega) (by omega) (by omega) (by omega) (by omega) (by omega) (by omega)) (R 14 (by omega) (by omega) (by omega) (by omega) (by omega) (by omega) (by omega)) (R 72 (by omega) (by omega) (by omega) (by omega) (by omega) (by omega) (by omega)) (R 73 (by omega) (by omega) (by omega) (by omega) (by omega) (by omega) (by omega)), cpF_fr a4 (by rw [R 0 (by omega) (by omega) (by omega) (by omega) (by omega) (by omega) (by omega)]) (by rw [R 63 (by omega) (by omega) (by omega) (by omega) (by omega) (by omega) (by omega)]) (R 10 (by omega) (by omega) (by omega) (by omega) (by omega) (by omega) (by omega)) (R 74 (by omega) (by omega) (by omega) (by omega) (by omega) (by omega) (by omega)), cpT_fr a5 (by rw [R 0 (by omega) (by omega) (by omega) (by omega) (by omega) (by omega) (by omega)]) (by rw [R 63 (by omega) (by omega) (by omega) (by omega) (by omega) (by omega) (by omega)]) (R 11 (by omega) (by omega) (by omega) (by omega) (by omega) (by omega) (by omega)) (R 64 (by omega) (by omega) (by omega) (by omega) (by omega) (by omega) (by omega)), cpS_fr a6 (R 62 (by omega) (by omega) (by omega) (by omega) (by omega) (by omega) (by omega)) (R 91 (by omega) (by omega) (by omega) (by omega) (by omega) (by omega) (by omega)) (R 92 (by omega) (by omega) (by omega) (by omega) (by omega) (by omega) (by omega)) (fun s hs => R _ (by omega) (by omega) (by omega) (by omega) (by omega) (by omega) (by omega)), hR, by rw [R 0 (by omega) (by omega) (by omega) (by omega) (by omega) (by omega) (by omega), R 63 (by omega) (by omega) (by omega) (by omega) (by omega) (by omega) (by omega)]; exact a8, a9⟩
  by_cases e : k = l
  · subst e; exact hK
  · rw [hS' k e]
    exact cpK_fr (a2 k hk) (R _ (by omega) (by omega) (by omega) (by omega) (by omega) (by omega) (by omega)) (R _ (by omega) (by omega) (by omega) (by omega) (by omega) (by omega) (by omega)) (fun a b1 b2 => hfr a k (by omega) (by omega) (by omega) (by omega) (by omega) (by omega) (by omega) (by omega)) (fun h hh => hfr 71 _ (by omega) (by omega) (by omega) (by omega) (by omega) (by omega) (by omega) (by omega))
set_option maxHeartbeats 4000000 in
set_option maxRecDepth 100000 in
theorem w_net {G : am_G} {d : Nat} {I : am_I} {J : am_J} {x : Int32} (hc : cpE I J)  : CMi G (d + 45) yX11_net [.ref 0, .int x] I J (fun r0 I1 J1 => CMi G (d + 45) yX12_net [.ref 63, .int x] I1 J1 (fun r1 I2 J2 => r1 = r0 ∧ cpE I2 J2)) := by
  obtain ⟨N, n, F, T, S, hc⟩ := hc
  have ok : cpE I J := ⟨N, n, F, T, S, hc⟩
  obtain ⟨⟨hN2, hN6, hn12, k1, k2, k3, k4⟩, hL, hM, hF, hT, hS, hR, ht, hJ⟩ := id hc
  refine l_net (F := F) (T := T) (S := S) (fun k q1 q2 e I1 hf hv => ?_) (fun e0 => ?_)
  · refine c_net (fun k' p1 p2 e' => ⟨rfl, k, 0, F, T, S, ?_⟩) (fun e0 => by exfalso; subst e; exact e0 ⟨(nI_leI (by decide) (by omega)).mpr q1, (nI_leI (by omega) (by decide)).mpr q2⟩)
    have hI1 : ∀ a, a ≠ 2 → a ≠ 44 → a ≠ 45 → a ≠ 46 → a ≠ 1 → a ≠ 13 → a ≠ 14 → I1 a = I a := fun a b1 b2 b3 b4 b5 b6 b7 => by
      rw [hf a b1 b2 b3 b4]
      funext j
      simp [mNB, mFill, b5, b6, b7, am_up]
    have hM1 : ∀ a, a ≠ 0 → a ≠ 63 → a ≠ 72 → a ≠ 73 → mForget (am_up (am_up I1 0 10 (nI 0)) 63 3 x) a = I1 a := fun a b1 b2 b3 b4 => by
      funext j
      simp [mForget, b1, b2, b3, b4, am_up]
    have hM2 : ∀ a, a ≠ 0 → a ≠ 63 → a ≠ 72 → a ≠ 73 → a ≠ 2 → a ≠ 44 → a ≠ 45 → a ≠ 46 → a ≠ 1 → a ≠ 13 → a ≠ 14 → mForget (am_up (am_up I1 0 10 (nI 0)) 63 3 x) a = I a := fun a b1 b2 b3 b4 c1 c2 c3 c4 c5 c6 c7 => by rw [hM1 a b1 b2 b3 b4, hI1 a c1 c2 c3 c4 c5 c6 c7]
    have h0 : ∀ j, j ≠ 10 → mForget (am_up (am_up I1 0 10 (nI 0)) 63 3 x) 0 j = I 0 j := fun j hj => by
      rw [← hI1 0 (by decide) (by decide) (by decide) (by decide) (by decide) (by decide) (by decide)]
      simp [mForget, am_up, hj]
    have h63 : ∀ j, j ≠ 3 → j ≠ 4 → j ≠ 15 → mForget (am_up (am_up I1 0 10 (nI 0)) 63 3 x) 63 j = I 63 j := fun j b1 b2 b3 => by
      rw [← hI1 63 (by decide) (by decide) (by decide) (by decide) (by decide) (by decide) (by decide)]
      simp [mForget, am_up, b1, b2, b3]
    have e1 := hf 1 (by decide) (by decide) (by decide) (by decide)
    have e13 := hf 13 (by decide) (by decide) (by decide) (by decide)
    have e14 := hf 14 (by decide) (by decide) (by decide) (by decide)
    refine ⟨⟨q1, q2, by omega, ?_, ?_, ?_, ?_⟩, fun l hl => by omega, fun p hp => ⟨?_, Or.inl ?_, ?_, ⟨0, by omega, ?_⟩, fun _ => ⟨?_, ?_⟩⟩, ⟨?_, Or.inl ?_, fun z => absurd (z.symm.trans (show mForget (am_up (am_up I1 0 10 (nI 0)) 63 3 x) 63 15 = 0 by simp [mForget, am_up])) (by decide)⟩, ⟨?_, fun f hf6 => ?_⟩, cpS_fr hS (hM2 62 (by omega) (by omega) (by omega) (by omega) (by omega) (by omega) (by omega) (by omega) (by omega) (by omega) (by omega)) (hM2 91 (by omega) (by omega) (by omega) (by omega) (by omega) (by omega) (by omega) (by omega) (by omega) (by omega) (by omega)) (hM2 92 (by omega) (by omega) (by omega) (by omega) (by omega) (by omega) (by omega) (by omega) (by omega) (by omega) (by omega)) (fun s hs => hM2 _ (by omega) (by omega) (by omega) (by omega) (by omega) (by omega) (by omega) (by omega) (by omega) (by omega) (by omega)), rvC_fr hv (hM1 2 (by omega) (by omega) (by omega) (by omega)) (hM1 44 (by omega) (by omega) (by omega) (by omega)) (hM1 45 (by omega) (by omega) (by omega) (by omega)), ?_, hJ⟩
    · rw [hM1 1 (by omega) (by omega) (by omega) (by omega), e1, mNB_10]; exact e
    · rw [hM1 1 (by omega) (by omega) (by omega) (by omega), e1, mNB_11]
    · simp [mForget, am_up, e]
    · simp [mForget, am_up, nI_0]
    · rw [hM1 13 (by omega) (by omega) (by omega) (by omega), e13]; simp [mNB, mFill, hp, mForget]
    · simp [mForget, hp]
    · rw [hM1 14 (by omega) (by omega) (by omega) (by omega), e14]; simp [mNB, mFill, hp, mForget, nI_0]
    · simp [mForget, hp, nI_0]
    · simp [mForget, hp]
    · simp [mForget, hp, nI_0]
    · simp [mForget, am_up, nI_0]
    · simp [mForget, am_up]
    · rw [h0 13 (by decide), h63 0 (by decide) (by decide) (by decide)]; exact hT.1
    · rw [hM2 11 (by omega) (by omega) (by omega) (by omega) (by omega) (by omega) (by omega) (by omega) (by omega) (by omega) (by omega), hM2 64 (by omega) (by omega) (by omega) (by omega) (by omega) (by omega) (by omega) (by omega) (by omega) (by omega) (by omega)]; exact hT.2 f hf6
    · rw [h0 11 (by decide), h63 29 (by decide) (by decide) (by decide)]; exact ht
  · refine c_net (fun k' p1 p2 e' => by exfalso; subst e'; exact e0 ⟨(nI_leI (by decide) (by omega)).mpr p1, (nI_leI (by omega) (by decide)).mpr p2⟩) (fun _ => ⟨rfl, ok⟩)

set_option maxHeartbeats 4000000 in
set_option maxRecDepth 100000 in
theorem w_line {G : am_G} {d : Nat} {I : am_I} {J : am_J} {x y z : Int32} (hc : cpE I J)  : CMi G (d + 45) yX11_line [.ref 0, .int x, .int y, .int z] I J (fun r0 I1 J1 => CMi G (d + 45) yX12_line [.ref 63, .int x, .int y, .int z] I1 J1 (fun r1 I2 J2 => r1 = r0 ∧ cpE I2 J2)) := by
  obtain ⟨N, n, F, T, S, hc⟩ := hc
  have ok : cpE I J := ⟨N, n, F, T, S, hc⟩
  obtain ⟨⟨hN2, hN6, hn12, k1, k2, k3, k4⟩, hL, hM, hF, hT, hS, hR, ht, hJ⟩ := id hc
  refine l_line (cp_rwC hc) (fun k p q hk hp hq hpq ek ep eq hn I1 hf hv => ?_) (fun k hk ek hpr hn => ?_) (fun e0 => ?_)
  · have hI1 : ∀ a, a ≠ 2 → a ≠ 44 → a ≠ 45 → a ≠ 46 → a ≠ 1 → a ≠ 20 + n → a ≠ 32 + n → I1 a = I a := fun a b1 b2 b3 b4 b5 b6 b7 => by
      rw [hf a b1 b2 b3 b4, am_up_ne b5, mLB_row b6 b7]
    have f63 : I1 63 = I 63 := hI1 63 (by omega) (by omega) (by omega) (by omega) (by omega) (by omega) (by omega)
    refine c_line (N := N) (n := n) (by rw [f63]; exact k3) hN6 (by rw [f63]; exact k4) hn12 (fun k' p' q' _ _ _ _ _ _ _ _ => ⟨rfl, N, n + 1, upN F n p, upN T n q, sNo S n, ?_⟩) (fun k' _ _ _ e => by omega) (fun e0 => by exfalso; subst ek; exact e0 ⟨⟨nI_pos' (by omega), (nI_leI (by omega) (by decide)).mpr hk⟩, ⟨p, q, hp, hq, hpq, ep, eq⟩⟩)
    generalize hMd : am_up (mLost (mLine I1 n x y z) n 24) 63 4 (nI (n + 1)) = M
    have hM1 : ∀ a, a ≠ 63 → (a < 65 ∨ 71 < a) → M a = I1 a := fun a b1 b2 => by
      rw [← hMd, am_up_ne b1]
      funext j
      simp only [mLost]
      rw [if_neg (by omega)]
      unfold mLine
      rw [am_up_ne (by omega), am_up_ne (by omega), am_up_ne (by omega), am_up_ne (by omega), am_up_ne (by omega), am_up_ne (by omega)]
    have h63 : ∀ j, j ≠ 4 → M 63 j = I 63 j := fun j hj => by
      rw [← hMd, am_up_slot hj, ← f63]
      simp only [mLost]
      rw [if_neg (by omega)]
      unfold mLine
      rw [am_up_ne (by omega), am_up_ne (by omega), am_up_ne (by omega), am_up_ne (by omega), am_up_ne (by omega), am_up_ne (by omega)]
    have h65 : ∀ a j, 65 ≤ a → a ≤ 70 → j ≠ n → M a j = I a j := fun a j b1 b2 b3 => by
      rw [← hMd, am_up_ne (by omega), ← hI1 a (by omega) (by omega) (by omega) (by omega) (by omega) (by omega) (by omega)]
      simp only [mLost]
      rw [if_neg (by omega)]
      simp [mLine, am_up, b3]
    have h71 : ∀ j, (j < 24 * n ∨ 24 * n + 24 ≤ j) → M 71 j = I 71 j := fun j b1 => by
      rw [← hMd, am_up_ne (by omega), ← hI1 71 (by omega) (by omega) (by omega) (by omega) (by omega) (by omega) (by omega)]
      simp only [mLost]
      rw [if_neg (by omega)]
      simp [mLine, am_up]
    have hM2 : ∀ a, a ≠ 63 → (a < 65 ∨ 71 < a) → a ≠ 2 → a ≠ 44 → a ≠ 45 → a ≠ 46 → a ≠ 1 → a ≠ 20 + n → a ≠ 32 + n → M a = I a := fun a b1 b2 c1 c2 c3 c4 c5 c6 c7 => by rw [hM1 a b1 b2, hI1 a c1 c2 c3 c4 c5 c6 c7]
    have hln := mLB_at (I := I) (n := n) (x := x) (y := y) (z := z)
    have e20 : M (20 + n) = mLB I n x y z (20 + n) := by rw [hM1 _ (by omega) (by omega), hf _ (by omega) (by omega) (by omega) (by omega), am_up_ne (by omega)]
    have e32 : M (32 + n) = mLB I n x y z (32 + n) := by rw [hM1 _ (by omega) (by omega), hf _ (by omega) (by omega) (by omega) (by omega), am_up_ne (by omega)]
    have e1 : M 1 = am_up (mLB I n x y z) 1 1 (nI (n + 1)) 1 := by rw [hM1 1 (by omega) (by omega), hf 1 (by omega) (by omega) (by omega) (by omega)]
    refine ⟨⟨hN2, hN6, by omega, ?_, ?_, ?_, ?_⟩, fun l hl => ?_, cpM_fr hM (hM2 13 (by omega) (by omega) (by omega) (by omega) (by omega) (by omega) (by omega) (by omega) (by omega)) (hM2 14 (by omega) (by omega) (by omega) (by omega) (by omega) (by omega) (by omega) (by omega) (by omega)) (hM2 72 (by omega) (by omega) (by omega) (by omega) (by omega) (by omega) (by omega) (by omega) (by omega)) (hM2 73 (by omega) (by omega) (by omega) (by omega) (by omega) (by omega) (by omega) (by omega) (by omega)), cpF_fr hF (by rw [hM2 0 (by omega) (by omega) (by omega) (by omega) (by omega) (by omega) (by omega) (by omega) (by omega)]) (h63 15 (by decide)) (hM2 10 (by omega) (by omega) (by omega) (by omega) (by omega) (by omega) (by omega) (by omega) (by omega)) (hM2 74 (by omega) (by omega) (by omega) (by omega) (by omega) (by omega) (by omega) (by omega) (by omega)), cpT_fr hT (by rw [hM2 0 (by omega) (by omega) (by omega) (by omega) (by omega) (by omega) (by omega) (by omega) (by omega)]) (h63 0 (by decide)) (hM2 11 (by omega) (by omega) (by omega) (by omega) (by omega) (by omega) (by omega) (by omega) (by omega)) (hM2 64 (by omega) (by omega) (by omega) (by omega) (by omega) (by omega) (by omega) (by omega) (by omega)), cpS_fr hS (hM2 62 (by omega) (by omega) (by omega) (by omega) (by omega) (by omega) (by omega) (by omega) (by omega)) (hM2 91 (by omega) (by omega) (by omega) (by omega) (by omega) (by omega) (by omega) (by omega) (by omega)) (hM2 92 (by omega) (by omega) (by omega) (by omega) (by omega) (by omega) (by omega) (by omega) (by omega)) (fun s hs => hM2 _ (by omega) (by omega) (by omega) (by omega) (by omega) (by omega) (by omega) (by omega) (by omega)), rvC_fr hv (hM1 2 (by omega) (by omega)) (hM1 44 (by omega) (by omega)) (hM1 45 (by omega) (by omega)), ?_, hJ⟩
    · rw [e1, am_up_slot (by decide), mLB_row (by omega) (by omega)]; exact k1
    · rw [e1, am_up_same]
    · rw [h63 3 (by decide)]; exact k3
    · rw [← hMd, am_up_same]
    · by_cases e : l = n
      · subst e
        have d65 : M 65 l = x := by rw [← hMd]; simp [mLost, mLine, am_up]
        have d66 : M 66 l = y := by rw [← hMd]; simp [mLost, mLine, am_up]
        have d67 : M 67 l = z := by rw [← hMd]; simp [mLost, mLine, am_up]
        have d68 : M 68 l = 0 := by rw [← hMd]; simp [mLost, mLine, am_up]
        have d69 : M 69 l = 100 := by rw [← hMd]; simp [mLost, mLine, am_up]
        have d70 : M 70 l = -9 := by rw [← hMd]; simp [mLost, mLine, am_up]
        have d71 : ∀ h, h < 24 → M 71 (24 * l + h) = -9 := fun h hh => by rw [← hMd]; simp [mLost, am_up, hh]
        obtain ⟨g0, g1, g2, g3, g4, g5⟩ := hln
        refine ⟨by rw [e20, g0, d65], ⟨k, hk, by rw [d65]; exact ek⟩, by rw [e20, g1, upN_same]; exact ep, by rw [d66, upN_same]; exact ep, by rw [upN_same]; exact hp, by rw [e20, g2, upN_same]; exact eq, by rw [d67, upN_same]; exact eq, by rw [upN_same]; exact hq, by rw [e20, g3, d68]; rfl, Or.inl d68, ?_, by rw [e20, g4, d69]; rfl, ⟨100, by omega, by rw [d69]; rfl⟩, by rw [e20, g5, d70], Or.inl d70, fun h hh => ⟨by rw [e32, mLB_rd hh, d71 h hh], Or.inl (d71 h hh)⟩⟩
        unfold sNo
        rw [if_pos rfl, d68]
        have : ¬ nI l = -9 := nI_ne_neg (by omega) (by decide)
        simp [this]
      · have hs : sNo S n l = S l := by unfold sNo; rw [if_neg e]
        rw [upN_ne e, upN_ne e, hs]
        exact cpK_fr (hL l (by omega)) (hM2 _ (by omega) (by omega) (by omega) (by omega) (by omega) (by omega) (by omega) (by omega) (by omega)) (hM2 _ (by omega) (by omega) (by omega) (by omega) (by omega) (by omega) (by omega) (by omega) (by omega)) (fun a b1 b2 => h65 a l b1 b2 e) (fun h hh => h71 _ (by omega))
    · rw [hM2 0 (by omega) (by omega) (by omega) (by omega) (by omega) (by omega) (by omega) (by omega) (by omega), h63 29 (by decide)]; exact ht
  · subst hn
    refine c_line k3 hN6 k4 hn12 (fun k' p' q' _ _ _ _ _ _ _ e => by omega) (fun k' _ _ _ _ => ⟨rfl, ok⟩) (fun e0 => by exfalso; subst ek; exact e0 ⟨⟨nI_pos' (by omega), (nI_leI (by omega) (by decide)).mpr hk⟩, hpr⟩)
  · refine c_line k3 hN6 k4 hn12 (fun k' p' q' hk hp hq hpq ek ep eq _ => by exfalso; subst ek; exact e0 ⟨⟨nI_pos' (by omega), (nI_leI (by omega) (by decide)).mpr hk⟩, ⟨p', q', hp, hq, hpq, ep, eq⟩⟩) (fun k' hk ek hpr _ => by exfalso; subst ek; exact e0 ⟨⟨nI_pos' (by omega), (nI_leI (by omega) (by decide)).mpr hk⟩, hpr⟩) (fun _ => ⟨rfl, ok⟩)

set_option maxHeartbeats 4000000 in
set_option maxRecDepth 100000 in
theorem w_told {G : am_G} {d : Nat} {I : am_I} {J : am_J} {x y : Int32} (hc : cpE I J)  : CMi G (d + 45) yX11_told [.ref 0, .int x, .int y] I J (fun r0 I1 J1 => CMi G (d + 45) yX12_told [.ref 63, .int x, .int y] I1 J1 (fun r1 I2 J2 => r1 = r0 ∧ cpE I2 J2)) := by
  obtain ⟨N, n, F, T, S, hc⟩ := hc
  have ok : cpE I J := ⟨N, n, F, T, S, hc⟩
  obtain ⟨⟨hN2, hN6, hn12, k1, k2, k3, k4⟩, hL, hM, hF, hT, hS, hR, ht, hJ⟩ := id hc
  refine l_told k2 hn12 (fun l hl => by obtain ⟨_, _, _, _, _, _, _, _, c9, c10, _⟩ := hL l hl; rw [c9]; exact c10) (fun l j hl el hj ej => ?_) (fun e0 => ?_)
  · subst el ej
    refine c_told k4 hn12 (fun l hl => by obtain ⟨_, _, _, _, _, _, _, _, c9, c10, _⟩ := hL l hl; exact c10) (fun l' j' hl' el' hj' ej' => ?_) (fun e0 => by exfalso; exact e0 ⟨⟨l, hl, rfl⟩, nI_pos' (by omega), (nI_leI (by omega) (by decide)).mpr hj⟩)
    obtain rfl : l = l' := nI_inj (by omega) (by omega) el'
    obtain rfl : j = j' := nI_inj (by omega) (by omega) ej'
    exact ⟨(tl_eq (hL l hl) j).symm, ok⟩
  · refine c_told k4 hn12 (fun l hl => by obtain ⟨_, _, _, _, _, _, _, _, c9, c10, _⟩ := hL l hl; exact c10) (fun l' j' hl' el' hj' ej' => by exfalso; subst ej'; exact e0 ⟨⟨l', hl', el'⟩, nI_pos' (by omega), (nI_leI (by omega) (by decide)).mpr hj'⟩) (fun _ => ⟨rfl, ok⟩)

set_option maxHeartbeats 4000000 in
set_option maxRecDepth 100000 in
theorem w_rate {G : am_G} {d : Nat} {I : am_I} {J : am_J} {x y : Int32} (hc : cpE I J)  : CMi G (d + 45) yX11_rate [.ref 0, .int x, .int y] I J (fun r0 I1 J1 => CMi G (d + 45) yX12_rate [.ref 63, .int x, .int y] I1 J1 (fun r1 I2 J2 => r1 = r0 ∧ cpE I2 J2)) := by
  obtain ⟨N, n, F, T, S, hc⟩ := hc
  have ok : cpE I J := ⟨N, n, F, T, S, hc⟩
  obtain ⟨⟨hN2, hN6, hn12, k1, k2, k3, k4⟩, hL, hM, hF, hT, hS, hR, ht, hJ⟩ := id hc
  refine l_rate k2 hn12 (fun l r hl el hr er => ?_) (fun e0 => ?_)
  · subst el er
    refine c_rate (n := n) (by rw [am_up_ne (by omega)]; exact k4) hn12 (fun l' r' hl' el' hr' er' => ?_) (fun e0 => by exfalso; exact e0 ⟨⟨l, hl, rfl⟩, nI_pos' (by omega), (nI_leI (by omega) (by decide)).mpr hr⟩)
    obtain rfl : l = l' := nI_inj (by omega) (by omega) el'
    obtain ⟨a1, a2, a3, a4, a5, a6, a7, a8, a9, a10, a11, a12, a13, a14, a15, a16⟩ := hL l hl
    refine ⟨by rw [am_up_ne (by omega)]; exact a12.symm, N, n, F, T, S, cp_line (l := l) hc (fun _ _ => rfl) (fun a j b1 b2 b3 b4 b5 b6 b7 b8 => ?_) hl ?_ (rvC_fr hR (by rw [am_up_ne (by omega), am_up_ne (by omega)]) (by rw [am_up_ne (by omega), am_up_ne (by omega)]) (by rw [am_up_ne (by omega), am_up_ne (by omega)]))⟩
    · by_cases e : a = 69
      · subst e
        rw [am_up_slot (b3 (by omega) (by omega)), am_up_ne b1]
      · rw [am_up_ne e, am_up_ne b1]
    · have R : ∀ a, a ≠ 69 → a ≠ 20 + l → am_up (am_up I (20 + l) 4 (nI r)) 69 l (nI r) a = I a := fun a b1 b2 => by rw [am_up_ne b1, am_up_ne b2]
      have R20 : ∀ j, j ≠ 4 → am_up (am_up I (20 + l) 4 (nI r)) 69 l (nI r) (20 + l) j = I (20 + l) j := fun j hj => by rw [am_up_ne (by omega), am_up_slot hj]
      unfold cpK
      rw [R20 0 (by decide), R20 1 (by decide), R20 2 (by decide), R20 3 (by decide), R20 5 (by decide), R 65 (by omega) (by omega), R 66 (by omega) (by omega), R 67 (by omega) (by omega), R 68 (by omega) (by omega), R 70 (by omega) (by omega), R 71 (by omega) (by omega), R (32 + l) (by omega) (by omega)]
      exact ⟨a1, a2, a3, a4, a5, a6, a7, a8, a9, a10, a11, by rw [am_up_ne (by omega), am_up_same, am_up_same], ⟨r, hr, am_up_same⟩, a14, a15, a16⟩
  · refine c_rate k4 hn12 (fun l' r' hl' el' hr' er' => by exfalso; subst er'; exact e0 ⟨⟨l', hl', el'⟩, nI_pos' (by omega), (nI_leI (by omega) (by decide)).mpr hr'⟩) (fun _ => ⟨rfl, ok⟩)

set_option maxHeartbeats 4000000 in
set_option maxRecDepth 100000 in
theorem w_down {G : am_G} {d : Nat} {I : am_I} {J : am_J} {x y : Int32} (hc : cpE I J) (hy : y = 0 ∨ y = 1) : CMi G (d + 45) yX11_down [.ref 0, .int x, .int y] I J (fun r0 I1 J1 => CMi G (d + 45) yX12_down [.ref 63, .int x, .int y] I1 J1 (fun r1 I2 J2 => r1 = r0 ∧ cpE I2 J2)) := by
  obtain ⟨N, n, F, T, S, hc⟩ := hc
  have ok : cpE I J := ⟨N, n, F, T, S, hc⟩
  obtain ⟨⟨hN2, hN6, hn12, k1, k2, k3, k4⟩, hL, hM, hF, hT, hS, hR, ht, hJ⟩ := id hc
  refine l_down (cp_rwC hc) hy (fun l hl => by obtain ⟨_, _, _, _, _, _, _, _, c9, c10, _⟩ := hL l hl; rw [c9]; exact c10) (fun l hl el I1 hf hv => ?_) (fun e0 => ?_)
  · subst el
    have hI1 : ∀ a, a ≠ 2 → a ≠ 44 → a ≠ 45 → a ≠ 46 → a ≠ 20 + l → I1 a = I a := fun a b1 b2 b3 b4 b5 => by rw [hf a b1 b2 b3 b4, am_up_ne b5]
    refine c_down (n := n) (by rw [hI1 63 (by omega) (by omega) (by omega) (by omega) (by omega)]; exact k4) hn12 hy (fun k hk => by rw [hI1 68 (by omega) (by omega) (by omega) (by omega) (by omega)]; obtain ⟨_, _, _, _, _, _, _, _, c9, c10, _⟩ := hL k hk; exact c10) (fun l' hl' el' => ?_) (fun e0 => by exfalso; exact e0 ⟨l, hl, rfl⟩)
    obtain rfl : l = l' := nI_inj (by omega) (by omega) el'
    obtain ⟨a1, a2, a3, a4, a5, a6, a7, a8, a9, a10, a11, a12, a13, a14, a15, a16⟩ := hL l hl
    refine ⟨by rw [hI1 68 (by omega) (by omega) (by omega) (by omega) (by omega)]; exact a9.symm, N, n, F, T, (fun k => if k = l then decide (y ≠ 0 ∨ nI l = -9) else S k), cp_line (l := l) hc (fun k hk => by show (if k = l then _ else S k) = S k; rw [if_neg hk]) (fun a j b1 b2 b3 b4 b5 b6 b7 b8 => ?_) hl ?_ (rvC_fr hv (by rw [am_up_ne (by omega)]) (by rw [am_up_ne (by omega)]) (by rw [am_up_ne (by omega)]))⟩
    · by_cases e : a = 68
      · subst e
        rw [am_up_slot (b3 (by omega) (by omega)), hI1 68 (by omega) (by omega) (by omega) (by omega) (by omega)]
      · rw [am_up_ne e, hI1 a b5 b6 b7 b8 b1]
    · have R : ∀ a, a ≠ 68 → a ≠ 20 + l → a ≠ 2 → a ≠ 44 → a ≠ 45 → a ≠ 46 → am_up I1 68 l y a = I a := fun a b1 b2 b3 b4 b5 b6 => by rw [am_up_ne b1, hI1 a b3 b4 b5 b6 b2]
      have R20 : ∀ j, j ≠ 3 → am_up I1 68 l y (20 + l) j = I (20 + l) j := fun j hj => by rw [am_up_ne (by omega), hf _ (by omega) (by omega) (by omega) (by omega), am_up_slot hj]
      unfold cpK
      rw [R20 0 (by decide), R20 1 (by decide), R20 2 (by decide), R20 4 (by decide), R20 5 (by decide), R 65 (by omega) (by omega) (by omega) (by omega) (by omega) (by omega), R 66 (by omega) (by omega) (by omega) (by omega) (by omega) (by omega), R 67 (by omega) (by omega) (by omega) (by omega) (by omega) (by omega), R 69 (by omega) (by omega) (by omega) (by omega) (by omega) (by omega), R 70 (by omega) (by omega) (by omega) (by omega) (by omega) (by omega), R 71 (by omega) (by omega) (by omega) (by omega) (by omega) (by omega), R (32 + l) (by omega) (by omega) (by omega) (by omega) (by omega) (by omega), am_up_same]
      exact ⟨a1, a2, a3, a4, a5, a6, a7, a8, by rw [am_up_ne (by omega), hf _ (by omega) (by omega) (by omega) (by omega), am_up_same], hy, by rw [if_pos rfl], a12, a13, a14, a15, a16⟩
  · refine c_down k4 hn12 hy (fun l hl => by obtain ⟨_, _, _, _, _, _, _, _, c9, c10, _⟩ := hL l hl; exact c10) (fun l' hl' el' => by exfalso; exact e0 ⟨l', hl', el'⟩) (fun _ => ⟨rfl, ok⟩)

