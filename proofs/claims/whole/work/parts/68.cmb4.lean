/-! ===== both sides, call by call: SEEKING ===== -/
theorem si_ref {I I' : am_I} {J : am_J} {N n : Nat} {F T : Nat → Nat} {S : Nat → Bool} (hc : cpP I J N n F T S) (h : siQ I' I) : rwR I' (-9) N n F T S ∧ (∀ p, p < 36 → vlP (I' 72 p)) ∧ (∀ l, l < n → vlP (I' 70 l)) ∧ evI I' N n F T S = evI I N n F T S ∧ skQ I' N n F T S = skQ I N n F T S ∧ skL I' N n F T S = skL I N n F T S := by
  have R : ∀ a, 62 ≤ a → I' a = I a := fun a ha => siQ_row h (by omega) (by omega)
  obtain ⟨z1, z2, z3⟩ := sk_fr (R 70 (by decide)) (R 72 (by decide)) N n F T S
  refine ⟨?_, fun p hp => ?_, fun l hl => ?_, z1, z2, z3⟩
  · have hr := cp_rwR hc
    unfold rwR at hr ⊢
    rw [R 63 (by decide), R 66 (by decide), R 67 (by decide), R 68 (by decide)]
    exact hr
  · rw [R 72 (by decide)]; exact (hc.2.2.1 p hp).2.1
  · rw [R 70 (by decide)]
    obtain ⟨_, _, _, _, _, _, _, _, _, _, _, _, _, _, c15, _⟩ := hc.2.1 l hl
    exact c15
theorem si_pr {I I' I2 : am_I} (h : siQ I' I) (hp : prP I2 I') : ∀ a j, rlv a j → I2 a j = I a j := fun a j hr => by
  unfold rlv at hr
  rw [hp a j (by omega) (by omega), h a j (by omega) (by omega)]
theorem op_rl {I I' I1 I2 : am_I} {N n : Nat} {F T : Nat → Nat} {S : Nat → Bool} {x : Int32} (h : siQ I' I) (ho : opP I1 I' N n F T S x) (hf : frS I2 I1) : (∀ a j, rlv a j → I2 a j = I a j) ∧ (∀ a j, (a < 63 ∨ a = 74) → I2 a j = I' a j) ∧ I2 63 15 = I' 63 15 := by
  have R : ∀ a j, (a < 75 ∨ 85 < a) → (a = 63 → j ≠ 18 ∧ j ≠ 19 ∧ j ≠ 20 ∧ j ≠ 29 ∧ j ≠ 30 ∧ j ≠ 31) → I2 a j = I' a j := fun a j p q => by
    rw [hf a j (by omega) (by omega) (by omega) (by omega) (by omega), ho.1 a j (by omega) (by omega) (by omega)]
  refine ⟨fun a j hr => ?_, fun a j p => R a j (by omega) (by omega), R 63 15 (by decide) (by decide)⟩
  unfold rlv at hr
  rw [R a j (by omega) (by omega), h a j (by omega) (by omega)]
theorem lim_eq {a b : Nat} (ha : a ≤ 20000) (hb : b ≤ 20000) (h : nI a = nI b) : a = b := nI_inj (by omega) (by omega) h
theorem tr_in {lim : Nat} (h1 : 1 ≤ lim) (h2 : lim ≤ 20000) : nI 1 ≤ nI lim ∧ nI lim ≤ nI 20000 := ⟨(nI_leI (by decide) (by omega)).mpr h1, (nI_leI (by omega) (by decide)).mpr h2⟩
theorem pr_cl {I2 I' : am_I} (h : prP I2 I') {a : Nat} (ha : a < 63) : I2 a = I' a := funext fun j => h a j (by omega) (by omega)
set_option maxHeartbeats 4000000 in
set_option maxRecDepth 100000 in
theorem w_fits {G : am_G} {d : Nat} {I : am_I} {J : am_J} {x : Int32} (hc : cpE I J)  : CMi G (d + 45) yX11_fits [.ref 0, .int x] I J (fun r0 I1 J1 => CMi G (d + 45) yX12_fits [.ref 63, .int x] I1 J1 (fun r1 I2 J2 => r1 = r0 ∧ cpE I2 J2)) := by
  obtain ⟨N, n, F, T, S, hc⟩ := hc
  have ok : cpE I J := ⟨N, n, F, T, S, hc⟩
  obtain ⟨⟨hN2, hN6, hn12, k1, k2, k3, k4⟩, hL, hM, hF, hT, hS, hR, ht, hJ⟩ := id hc
  refine l_fits (cp_cq hc) (fun lim hl1 hl2 el I' t A E hx hsi h11 h10 hrow => ?_) (fun lim hl1 hl2 el I' t hx hsi h11 h10 => ?_) (fun lim hl1 hl2 el I' t hx hsi h11 h10 => ?_) (fun e0 => ?_)
  · subst el
    obtain ⟨g1, g2, g3, z1, z2, z3⟩ := si_ref hc hsi
    refine c_fits g1 g2 g3 (fun lim' hl1' hl2' el' I2 t' A' E' hp h29 h15 h74 hx' => ?_) (fun lim' hl1' hl2' el' I2 t' hp h29 h15 hx' => ?_) (fun lim' hl1' hl2' el' I2 t' hp h29 h15 hx' => ?_) (fun e0 => absurd (tr_in hl1 hl2) e0)
    · obtain rfl : lim = lim' := lim_eq hl2 hl2' el'
      rw [z1, hx] at hx'
      cases hx'
      refine ⟨rfl, N, n, F, T, S, cp_rl hc (si_pr hsi hp) ⟨?_, Or.inr (by rw [h15]; rfl), fun _ p hp36 => ?_⟩ ?_ hJ⟩
      · rw [pr_cl hp (by decide), h10, h15]
      · rw [pr_cl hp (by decide), hrow p hp36, h74 p hp36, z2, z3]
      · rw [pr_cl hp (by decide), h11, h29]
    · exfalso; obtain rfl : lim = lim' := lim_eq hl2 hl2' el'; rw [z1, hx] at hx'; cases hx'
    · exfalso; obtain rfl : lim = lim' := lim_eq hl2 hl2' el'; rw [z1, hx] at hx'; cases hx'
  · subst el
    obtain ⟨g1, g2, g3, z1, z2, z3⟩ := si_ref hc hsi
    refine c_fits g1 g2 g3 (fun lim' hl1' hl2' el' I2 t' A' E' hp h29 h15 h74 hx' => ?_) (fun lim' hl1' hl2' el' I2 t' hp h29 h15 hx' => ?_) (fun lim' hl1' hl2' el' I2 t' hp h29 h15 hx' => ?_) (fun e0 => absurd (tr_in hl1 hl2) e0)
    · exfalso; obtain rfl : lim = lim' := lim_eq hl2 hl2' el'; rw [z1, hx] at hx'; cases hx'
    · obtain rfl : lim = lim' := lim_eq hl2 hl2' el'
      rw [z1, hx] at hx'
      cases hx'
      refine ⟨rfl, N, n, F, T, S, cp_rl hc (si_pr hsi hp) ⟨?_, Or.inl (by rw [h15]; rfl), fun z => absurd (z.symm.trans h15) (by decide)⟩ ?_ hJ⟩
      · rw [pr_cl hp (by decide), h10, h15]
      · rw [pr_cl hp (by decide), h11, h29]
    · exfalso; obtain rfl : lim = lim' := lim_eq hl2 hl2' el'; rw [z1, hx] at hx'; cases hx'
  · subst el
    obtain ⟨g1, g2, g3, z1, z2, z3⟩ := si_ref hc hsi
    refine c_fits g1 g2 g3 (fun lim' hl1' hl2' el' I2 t' A' E' hp h29 h15 h74 hx' => ?_) (fun lim' hl1' hl2' el' I2 t' hp h29 h15 hx' => ?_) (fun lim' hl1' hl2' el' I2 t' hp h29 h15 hx' => ?_) (fun e0 => absurd (tr_in hl1 hl2) e0)
    · exfalso; obtain rfl : lim = lim' := lim_eq hl2 hl2' el'; rw [z1, hx] at hx'; cases hx'
    · exfalso; obtain rfl : lim = lim' := lim_eq hl2 hl2' el'; rw [z1, hx] at hx'; cases hx'
    · obtain rfl : lim = lim' := lim_eq hl2 hl2' el'
      rw [z1, hx] at hx'
      cases hx'
      refine ⟨rfl, N, n, F, T, S, cp_rl hc (si_pr hsi hp) ⟨?_, Or.inl (by rw [h15]; rfl), fun z => absurd (z.symm.trans h15) (by decide)⟩ ?_ hJ⟩
      · rw [pr_cl hp (by decide), h10, h15]
      · rw [pr_cl hp (by decide), h11, h29]
  · obtain ⟨g1, g2, g3, z1, z2, z3⟩ := si_ref hc (fun _ _ _ _ => rfl)
    refine c_fits g1 g2 g3 (fun lim' hl1' hl2' el' I2 t' A' E' hp h29 h15 h74 hx' => ?_) (fun lim' hl1' hl2' el' I2 t' hp h29 h15 hx' => ?_) (fun lim' hl1' hl2' el' I2 t' hp h29 h15 hx' => ?_) (fun _ => ⟨rfl, ok⟩)
    · exfalso; subst el'; exact e0 (tr_in hl1' hl2')
    · exfalso; subst el'; exact e0 (tr_in hl1' hl2')
    · exfalso; subst el'; exact e0 (tr_in hl1' hl2')

set_option maxHeartbeats 4000000 in
set_option maxRecDepth 100000 in
theorem w_many {G : am_G} {d : Nat} {I : am_I} {J : am_J} {x : Int32} (hc : cpE I J)  : CMi G (d + 45) yX11_many [.ref 0, .int x] I J (fun r0 I1 J1 => CMi G (d + 45) yX12_many [.ref 63, .int x] I1 J1 (fun r1 I2 J2 => r1 = r0 ∧ cpE I2 J2)) := by
  obtain ⟨N, n, F, T, S, hc⟩ := hc
  have ok : cpE I J := ⟨N, n, F, T, S, hc⟩
  obtain ⟨⟨hN2, hN6, hn12, k1, k2, k3, k4⟩, hL, hM, hF, hT, hS, hR, ht, hJ⟩ := id hc
  refine l_many (cp_cq hc) (fun lim hl1 hl2 el I' t c hx hsi h11 h10 h10r => ?_) (fun lim hl1 hl2 el I' t c hx hsi h11 h10 h10r => ?_) (fun e0 => ?_)
  · subst el
    obtain ⟨g1, g2, g3, z1, z2, z3⟩ := si_ref hc hsi
    refine c_many g1 g2 g3 (fun lim' hl1' hl2' el' I1 ho I2 t' c' hf h29 hx' => ?_) (fun lim' hl1' hl2' el' I1 ho I2 t' c' hf h29 hx' => ?_) (fun e0 => absurd (tr_in hl1 hl2) e0)
    · obtain rfl : lim = lim' := lim_eq hl2 hl2' el'
      rw [z1, hx] at hx'
      cases hx'
      obtain ⟨o1, o2, o3⟩ := op_rl hsi ho hf
      refine ⟨rfl, N, n, F, T, S, cp_rl hc o1 (cpF_fr hF ((o2 0 10 (by decide)).trans h10) (o3.trans (by rw [siQ_row hsi (by decide) (by decide)])) ((funext fun j => o2 10 j (by decide)).trans h10r) ((funext fun j => o2 74 j (by decide)).trans (siQ_row hsi (by decide) (by decide)))) ?_ rfl⟩
      rw [o2 0 11 (by decide), h11, h29]
    · exfalso; obtain rfl : lim = lim' := lim_eq hl2 hl2' el'; rw [z1, hx] at hx'; cases hx'
  · subst el
    obtain ⟨g1, g2, g3, z1, z2, z3⟩ := si_ref hc hsi
    refine c_many g1 g2 g3 (fun lim' hl1' hl2' el' I1 ho I2 t' c' hf h29 hx' => ?_) (fun lim' hl1' hl2' el' I1 ho I2 t' c' hf h29 hx' => ?_) (fun e0 => absurd (tr_in hl1 hl2) e0)
    · exfalso; obtain rfl : lim = lim' := lim_eq hl2 hl2' el'; rw [z1, hx] at hx'; cases hx'
    · obtain rfl : lim = lim' := lim_eq hl2 hl2' el'
      rw [z1, hx] at hx'
      cases hx'
      obtain ⟨o1, o2, o3⟩ := op_rl hsi ho hf
      refine ⟨rfl, N, n, F, T, S, cp_rl hc o1 (cpF_fr hF ((o2 0 10 (by decide)).trans h10) (o3.trans (by rw [siQ_row hsi (by decide) (by decide)])) ((funext fun j => o2 10 j (by decide)).trans h10r) ((funext fun j => o2 74 j (by decide)).trans (siQ_row hsi (by decide) (by decide)))) ?_ hJ⟩
      rw [o2 0 11 (by decide), h11, h29]
  · obtain ⟨g1, g2, g3, z1, z2, z3⟩ := si_ref hc (fun _ _ _ _ => rfl)
    refine c_many g1 g2 g3 (fun lim' hl1' hl2' el' I1 ho I2 t' c' hf h29 hx' => ?_) (fun lim' hl1' hl2' el' I1 ho I2 t' c' hf h29 hx' => ?_) (fun _ => ⟨rfl, ok⟩)
    · exfalso; subst el'; exact e0 (tr_in hl1' hl2')
    · exfalso; subst el'; exact e0 (tr_in hl1' hl2')

set_option maxHeartbeats 4000000 in
set_option maxRecDepth 100000 in
theorem w_bound {G : am_G} {d : Nat} {I : am_I} {J : am_J} {x y z u : Int32} (hc : cpE I J) (hz : z = 0 ∨ z = 1) : CMi G (d + 45) yX11_bound [.ref 0, .int x, .int y, .int z, .int u] I J (fun r0 I1 J1 => CMi G (d + 45) yX12_bound [.ref 63, .int x, .int y, .int z, .int u] I1 J1 (fun r1 I2 J2 => r1 = r0 ∧ cpE I2 J2)) := by
  obtain ⟨N, n, F, T, S, hc⟩ := hc
  have ok : cpE I J := ⟨N, n, F, T, S, hc⟩
  obtain ⟨⟨hN2, hN6, hn12, k1, k2, k3, k4⟩, hL, hM, hF, hT, hS, hR, ht, hJ⟩ := id hc
  refine l_bound (cp_cq hc) (fun p q lim hp0 hq0 hpq ep eq hl1 hl2 el I' t c hsi h11 h10 h10r hx => ?_) (fun lim hpr hl1 hl2 el I' t c hsi h11 h10 h10r hx => ?_) (fun e0 => ?_)
  · subst el ep eq
    obtain ⟨g1, g2, g3, z1, z2, z3⟩ := si_ref hc hsi
    refine c_bound g1 g2 g3 hz (fun p' q' lim' hp' hq' _ ep' eq' hl1' hl2' el' I2 t' c' ⟨hp, h15, h74, _⟩ h29 hx' => ?_) (fun lim' _ hl1' hl2' el' I2 t' c' ⟨hp, h15, h74, _⟩ h29 hx' => ?_) (fun e0 => absurd ⟨⟨p, q, hp0, hq0, hpq, rfl, rfl⟩, tr_in hl1 hl2⟩ e0)
    · obtain rfl : p = p' := nI_inj (by omega) (by omega) ep'
      obtain rfl : q = q' := nI_inj (by omega) (by omega) eq'
      obtain rfl : lim = lim' := lim_eq hl2 hl2' el'
      rw [z1, z2, z3, hx] at hx'
      cases hx'
      refine ⟨rfl, N, n, F, T, S, cp_rl hc (si_pr hsi hp) (cpF_fr hF (by rw [pr_cl hp (by decide)]; exact h10) (h15.trans (by rw [siQ_row hsi (by decide) (by decide)])) ((pr_cl hp (by decide)).trans h10r) (h74.trans (siQ_row hsi (by decide) (by decide)))) ?_ hJ⟩
      rw [pr_cl hp (by decide), h11, h29]
    · exfalso; obtain rfl : lim = lim' := lim_eq hl2 hl2' el'; rw [z1, z2, z3, hx] at hx'; cases hx'
  · subst el
    obtain ⟨g1, g2, g3, z1, z2, z3⟩ := si_ref hc hsi
    refine c_bound g1 g2 g3 hz (fun p' q' lim' hp' hq' _ ep' eq' hl1' hl2' el' I2 t' c' ⟨hp, h15, h74, _⟩ h29 hx' => ?_) (fun lim' _ hl1' hl2' el' I2 t' c' ⟨hp, h15, h74, _⟩ h29 hx' => ?_) (fun e0 => absurd ⟨hpr, tr_in hl1 hl2⟩ e0)
    · exfalso; obtain rfl : lim = lim' := lim_eq hl2 hl2' el'; rw [z1, z2, z3, hx] at hx'; cases hx'
    · obtain rfl : lim = lim' := lim_eq hl2 hl2' el'
      rw [z1, z2, z3, hx] at hx'
      cases hx'
      refine ⟨rfl, N, n, F, T, S, cp_rl hc (si_pr hsi hp) (cpF_fr hF (by rw [pr_cl hp (by decide)]; exact h10) (h15.trans (by rw [siQ_row hsi (by decide) (by decide)])) ((pr_cl hp (by decide)).trans h10r) (h74.trans (siQ_row hsi (by decide) (by decide)))) ?_ hJ⟩
      rw [pr_cl hp (by decide), h11, h29]
  · obtain ⟨g1, g2, g3, z1, z2, z3⟩ := si_ref hc (fun _ _ _ _ => rfl)
    refine c_bound g1 g2 g3 hz (fun p' q' lim' hp' hq' hpq ep' eq' hl1' hl2' el' I2 t' c' _ h29 hx' => ?_) (fun lim' hpr hl1' hl2' el' I2 t' c' _ h29 hx' => ?_) (fun _ => ⟨rfl, ok⟩)
    · exfalso; subst el'; exact e0 ⟨⟨p', q', hp', hq', hpq, ep', eq'⟩, tr_in hl1' hl2'⟩
    · exfalso; subst el'; exact e0 ⟨hpr, tr_in hl1' hl2'⟩

set_option maxHeartbeats 4000000 in
set_option maxRecDepth 100000 in
theorem w_sure {G : am_G} {d : Nat} {I : am_I} {J : am_J} {x : Int32} (hc : cpE I J)  : CMi G (d + 45) yX11_sure [.ref 0, .int x] I J (fun r0 I1 J1 => CMi G (d + 45) yX12_sure [.ref 63, .int x] I1 J1 (fun r1 I2 J2 => r1 = r0 ∧ cpE I2 J2)) := by
  obtain ⟨N, n, F, T, S, hc⟩ := hc
  have ok : cpE I J := ⟨N, n, F, T, S, hc⟩
  obtain ⟨⟨hN2, hN6, hn12, k1, k2, k3, k4⟩, hL, hM, hF, hT, hS, hR, ht, hJ⟩ := id hc
  refine l_sure (cp_cq hc) (fun lim hl1 hl2 el I' t c hsi h11 h10 h10r hx => ?_) (fun lim hl1 hl2 el I' t c hsi h11 h10 h10r hx => ?_) (fun e0 => ?_)
  · subst el
    obtain ⟨g1, g2, g3, z1, z2, z3⟩ := si_ref hc hsi
    refine c_sure g1 g2 g3 (fun lim' hl1' hl2' el' I2 t' c' ⟨hp, h15, h74, _⟩ h29 hx' => ?_) (fun lim' hl1' hl2' el' I2 t' c' ⟨hp, h15, h74, _⟩ h29 hx' => ?_) (fun e0 => absurd (tr_in hl1 hl2) e0)
    · obtain rfl : lim = lim' := lim_eq hl2 hl2' el'
      rw [z1, z2, z3, hx] at hx'
      cases hx'
      refine ⟨rfl, N, n, F, T, S, cp_rl hc (si_pr hsi hp) (cpF_fr hF (by rw [pr_cl hp (by decide)]; exact h10) (h15.trans (by rw [siQ_row hsi (by decide) (by decide)])) ((pr_cl hp (by decide)).trans h10r) (h74.trans (siQ_row hsi (by decide) (by decide)))) ?_ hJ⟩
      rw [pr_cl hp (by decide), h11, h29]
    · exfalso; obtain rfl : lim = lim' := lim_eq hl2 hl2' el'; rw [z1, z2, z3, hx] at hx'; cases hx'
  · subst el
    obtain ⟨g1, g2, g3, z1, z2, z3⟩ := si_ref hc hsi
    refine c_sure g1 g2 g3 (fun lim' hl1' hl2' el' I2 t' c' ⟨hp, h15, h74, _⟩ h29 hx' => ?_) (fun lim' hl1' hl2' el' I2 t' c' ⟨hp, h15, h74, _⟩ h29 hx' => ?_) (fun e0 => absurd (tr_in hl1 hl2) e0)
    · exfalso; obtain rfl : lim = lim' := lim_eq hl2 hl2' el'; rw [z1, z2, z3, hx] at hx'; cases hx'
    · obtain rfl : lim = lim' := lim_eq hl2 hl2' el'
      rw [z1, z2, z3, hx] at hx'
      cases hx'
      refine ⟨rfl, N, n, F, T, S, cp_rl hc (si_pr hsi hp) (cpF_fr hF (by rw [pr_cl hp (by decide)]; exact h10) (h15.trans (by rw [siQ_row hsi (by decide) (by decide)])) ((pr_cl hp (by decide)).trans h10r) (h74.trans (siQ_row hsi (by decide) (by decide)))) ?_ hJ⟩
      rw [pr_cl hp (by decide), h11, h29]
  · obtain ⟨g1, g2, g3, z1, z2, z3⟩ := si_ref hc (fun _ _ _ _ => rfl)
    refine c_sure g1 g2 g3 (fun lim' hl1' hl2' el' I2 t' c' _ h29 hx' => ?_) (fun lim' hl1' hl2' el' I2 t' c' _ h29 hx' => ?_) (fun _ => ⟨rfl, ok⟩)
    · exfalso; subst el'; exact e0 (tr_in hl1' hl2')
    · exfalso; subst el'; exact e0 (tr_in hl1' hl2')

theorem kc_kp {I I' I2 : am_I} {sq : Nat → Nat} {m : Nat} {o : Option (Nat → Nat)} (h1 : kcP I' sq m o) (h2 : kpP I2 sq m o) (hp : prP I2 I') : cpF I2 := by
  rcases o with _ | B
  · have a : I' 0 10 = nI 0 := h1
    have b : I2 63 15 = nI 0 := h2
    exact ⟨by rw [pr_cl hp (by decide), a, b], Or.inl (by rw [b]; rfl), fun z => absurd (z.symm.trans b) (by decide)⟩
  · obtain ⟨a1, a2⟩ := h1
    obtain ⟨b1, b2⟩ := h2
    exact ⟨by rw [pr_cl hp (by decide), a1, b1], Or.inr (by rw [b1]; rfl), fun _ p hp36 => by rw [pr_cl hp (by decide), a2 p hp36, b2 p hp36]⟩
set_option maxHeartbeats 4000000 in
set_option maxRecDepth 100000 in
theorem w_changed {G : am_G} {d : Nat} {I : am_I} {J : am_J} {x : Int32} (hc : cpE I J)  : CMi G (d + 45) yX11_changed [.ref 0, .int x] I J (fun r0 I1 J1 => CMi G (d + 45) yX12_changed [.ref 63, .int x] I1 J1 (fun r1 I2 J2 => r1 = r0 ∧ cpE I2 J2)) := by
  obtain ⟨N, n, F, T, S, hc⟩ := hc
  have ok : cpE I J := ⟨N, n, F, T, S, hc⟩
  obtain ⟨⟨hN2, hN6, hn12, k1, k2, k3, k4⟩, hL, hM, hF, hT, hS, hR, ht, hJ⟩ := id hc
  have hba : ∀ p, p < 36 → I 14 p = I 73 p := fun p hp => (hM p hp).2.2.1
  have hb0 : ∀ p, N * N ≤ p → p < 36 → I 73 p = nI 0 := fun p h1 h2 => ((hM p h2).2.2.2.2 (fun z => by unfold prq at z; omega)).2
  refine l_changed (cp_cq hc) hba hb0 (fun lim hl1 hl2 el I' t c hx hsi h11 hkc => ?_) (fun lim hl1 hl2 el I' t c hx hsi h11 h10 => ?_) (fun e0 => ?_)
  · subst el
    obtain ⟨g1, g2, g3, z1, z2, z3⟩ := si_ref hc hsi
    have e73 : I' 73 = I 73 := siQ_row hsi (by decide) (by decide)
    refine c_changed g1 g2 g3 (fun lim' hl1' hl2' el' I2 t' c' hp h29 hkp hx' => ?_) (fun lim' hl1' hl2' el' I2 t' c' hp h29 h15 hx' => ?_) (fun e0 => absurd (tr_in hl1 hl2) e0)
    · obtain rfl : lim = lim' := lim_eq hl2 hl2' el'
      rw [z1, z2, z3, e73, hx] at hx'
      cases hx'
      rw [z2, z3] at hkp
      refine ⟨rfl, N, n, F, T, S, cp_rl hc (si_pr hsi hp) (kc_kp (I := I) hkc hkp hp) ?_ hJ⟩
      rw [pr_cl hp (by decide), h11, h29]
    · exfalso; obtain rfl : lim = lim' := lim_eq hl2 hl2' el'; rw [z1, z2, z3, e73, hx] at hx'; cases hx'
  · subst el
    obtain ⟨g1, g2, g3, z1, z2, z3⟩ := si_ref hc hsi
    have e73 : I' 73 = I 73 := siQ_row hsi (by decide) (by decide)
    refine c_changed g1 g2 g3 (fun lim' hl1' hl2' el' I2 t' c' hp h29 hkp hx' => ?_) (fun lim' hl1' hl2' el' I2 t' c' hp h29 h15 hx' => ?_) (fun e0 => absurd (tr_in hl1 hl2) e0)
    · exfalso; obtain rfl : lim = lim' := lim_eq hl2 hl2' el'; rw [z1, z2, z3, e73, hx] at hx'; cases hx'
    · obtain rfl : lim = lim' := lim_eq hl2 hl2' el'
      rw [z1, z2, z3, e73, hx] at hx'
      cases hx'
      refine ⟨rfl, N, n, F, T, S, cp_rl hc (si_pr hsi hp) ⟨by rw [pr_cl hp (by decide), h10, h15], Or.inl (by rw [h15]; rfl), fun z => absurd (z.symm.trans h15) (by decide)⟩ ?_ hJ⟩
      rw [pr_cl hp (by decide), h11, h29]
  · obtain ⟨g1, g2, g3, z1, z2, z3⟩ := si_ref hc (fun _ _ _ _ => rfl)
    refine c_changed g1 g2 g3 (fun lim' hl1' hl2' el' I2 t' c' hp h29 hkp hx' => ?_) (fun lim' hl1' hl2' el' I2 t' c' hp h29 h15 hx' => ?_) (fun _ => ⟨rfl, ok⟩)
    · exfalso; subst el'; exact e0 (tr_in hl1' hl2')
    · exfalso; subst el'; exact e0 (tr_in hl1' hl2')

set_option maxHeartbeats 4000000 in
set_option maxRecDepth 100000 in
theorem w_worst {G : am_G} {d : Nat} {I : am_I} {J : am_J} {x y z : Int32} (hc : cpE I J)  : CMi G (d + 45) yX11_worst [.ref 0, .int x, .int y, .int z] I J (fun r0 I1 J1 => CMi G (d + 45) yX12_worst [.ref 63, .int x, .int y, .int z] I1 J1 (fun r1 I2 J2 => r1 = r0 ∧ cpE I2 J2)) := by
  obtain ⟨N, n, F, T, S, hc⟩ := hc
  have ok : cpE I J := ⟨N, n, F, T, S, hc⟩
  obtain ⟨⟨hN2, hN6, hn12, k1, k2, k3, k4⟩, hL, hM, hF, hT, hS, hR, ht, hJ⟩ := id hc
  have hd : ∀ l, l < n → I (20 + l) 3 = I 68 l := fun l hl => by obtain ⟨_, _, _, _, _, _, _, _, c9, _⟩ := hL l hl; exact c9
  have hS2 : ∀ q, q < n → rwC I (nI q) N n F T (shB I (nI q)) := fun q hq => by
    obtain ⟨r1, r2, r3, r4, r5, r6, r7⟩ := cp_rwC hc
    exact ⟨r1, r2, r3, r4, r5, r6, fun l hl => by unfold shB; rw [hd l hl]⟩
  refine l_worst (cp_cq hc) hS2 (fun l q lim hl hq hlq el0 eq0 hl1 hl2 el d1 d2 I' t c hx hsi h11 hkc => ?_) (fun l q lim hl hq hlq el0 eq0 hl1 hl2 el d1 d2 I' t c hx hsi h11 h10 => ?_) (fun l q hl hq hlq el0 eq0 htr hdn => ?_) (fun e0 => ?_)
  · subst el el0 eq0
    obtain ⟨g1, g2, g3, z1, z2, z3⟩ := si_ref hc hsi
    have e68 : I' 68 = I 68 := siQ_row hsi (by decide) (by decide)
    have esh : shB I' (nI q) = shB I (nI q) := by funext k; unfold shB; rw [e68]
    refine c_worst g1 g2 g3 (fun l' q' lim' hl' hq' _ el0' eq0' hl1' hl2' el' _ _ I2 t' c' hp h29 hkp hx' => ?_) (fun l' q' lim' hl' hq' _ el0' eq0' hl1' hl2' el' _ _ I2 t' c' hp h29 h15 hx' => ?_) (fun l' q' lim' hl' hq' _ el0' eq0' hl1' hl2' el' z => ?_) (fun e0 => absurd ⟨⟨l, hl, rfl⟩, ⟨q, hq, rfl⟩, fun z => hlq (nI_inj (by omega) (by omega) z), tr_in hl1 hl2⟩ e0)
    · obtain rfl : l = l' := nI_inj (by omega) (by omega) el0'
      obtain rfl : q = q' := nI_inj (by omega) (by omega) eq0'
      obtain rfl : lim = lim' := lim_eq hl2 hl2' el'
      rw [z1, z2, z3, esh, hx] at hx'
      cases hx'
      rw [z2, z3] at hkp
      refine ⟨rfl, N, n, F, T, S, cp_rl hc (si_pr hsi hp) (kc_kp (I := I) hkc hkp hp) ?_ hJ⟩
      rw [pr_cl hp (by decide), h11, h29]
    · exfalso
      obtain rfl : l = l' := nI_inj (by omega) (by omega) el0'
      obtain rfl : q = q' := nI_inj (by omega) (by omega) eq0'
      obtain rfl : lim = lim' := lim_eq hl2 hl2' el'
      rw [z1, z2, z3, esh, hx] at hx'
      cases hx'
    · exfalso
      obtain rfl : l = l' := nI_inj (by omega) (by omega) el0'
      obtain rfl : q = q' := nI_inj (by omega) (by omega) eq0'
      rw [e68, ← hd l hl, ← hd q hq, d1, d2] at z
      exact z.elim (fun z => z rfl) (fun z => z rfl)
  · subst el el0 eq0
    obtain ⟨g1, g2, g3, z1, z2, z3⟩ := si_ref hc hsi
    have e68 : I' 68 = I 68 := siQ_row hsi (by decide) (by decide)
    have esh : shB I' (nI q) = shB I (nI q) := by funext k; unfold shB; rw [e68]
    refine c_worst g1 g2 g3 (fun l' q' lim' hl' hq' _ el0' eq0' hl1' hl2' el' _ _ I2 t' c' hp h29 hkp hx' => ?_) (fun l' q' lim' hl' hq' _ el0' eq0' hl1' hl2' el' _ _ I2 t' c' hp h29 h15 hx' => ?_) (fun l' q' lim' hl' hq' _ el0' eq0' hl1' hl2' el' z => ?_) (fun e0 => absurd ⟨⟨l, hl, rfl⟩, ⟨q, hq, rfl⟩, fun z => hlq (nI_inj (by omega) (by omega) z), tr_in hl1 hl2⟩ e0)
    · exfalso
      obtain rfl : l = l' := nI_inj (by omega) (by omega) el0'
      obtain rfl : q = q' := nI_inj (by omega) (by omega) eq0'
      obtain rfl : lim = lim' := lim_eq hl2 hl2' el'
      rw [z1, z2, z3, esh, hx] at hx'
      cases hx'
    · obtain rfl : l = l' := nI_inj (by omega) (by omega) el0'
      obtain rfl : q = q' := nI_inj (by omega) (by omega) eq0'
      obtain rfl : lim = lim' := lim_eq hl2 hl2' el'
      rw [z1, z2, z3, esh, hx] at hx'
      cases hx'
      refine ⟨rfl, N, n, F, T, S, cp_rl hc (si_pr hsi hp) ⟨by rw [pr_cl hp (by decide), h10, h15], Or.inl (by rw [h15]; rfl), fun z => absurd (z.symm.trans h15) (by decide)⟩ ?_ hJ⟩
      rw [pr_cl hp (by decide), h11, h29]
    · exfalso
      obtain rfl : l = l' := nI_inj (by omega) (by omega) el0'
      obtain rfl : q = q' := nI_inj (by omega) (by omega) eq0'
      rw [e68, ← hd l hl, ← hd q hq, d1, d2] at z
      exact z.elim (fun z => z rfl) (fun z => z rfl)
  · subst el0 eq0
    obtain ⟨g1, g2, g3, z1, z2, z3⟩ := si_ref hc (fun _ _ _ _ => rfl)
    rw [hd l hl, hd q hq] at hdn
    refine c_worst g1 g2 g3 (fun l' q' lim' hl' hq' _ el0' eq0' hl1' hl2' el' b1 b2 I2 t' c' hp h29 hkp hx' => ?_) (fun l' q' lim' hl' hq' _ el0' eq0' hl1' hl2' el' b1 b2 I2 t' c' hp h29 h15 hx' => ?_) (fun l' q' lim' hl' hq' _ el0' eq0' hl1' hl2' el' z => ⟨rfl, ok⟩) (fun e0 => absurd ⟨⟨l, hl, rfl⟩, ⟨q, hq, rfl⟩, fun z => hlq (nI_inj (by omega) (by omega) z), htr⟩ e0)
    · exfalso
      obtain rfl : l = l' := nI_inj (by omega) (by omega) el0'
      obtain rfl : q = q' := nI_inj (by omega) (by omega) eq0'
      exact hdn.elim (fun z => z b1) (fun z => z b2)
    · exfalso
      obtain rfl : l = l' := nI_inj (by omega) (by omega) el0'
      obtain rfl : q = q' := nI_inj (by omega) (by omega) eq0'
      exact hdn.elim (fun z => z b1) (fun z => z b2)
  · obtain ⟨g1, g2, g3, z1, z2, z3⟩ := si_ref hc (fun _ _ _ _ => rfl)
    refine c_worst g1 g2 g3 (fun l' q' lim' hl' hq' hlq el0' eq0' hl1' hl2' el' b1 b2 I2 t' c' hp h29 hkp hx' => ?_) (fun l' q' lim' hl' hq' hlq el0' eq0' hl1' hl2' el' b1 b2 I2 t' c' hp h29 h15 hx' => ?_) (fun l' q' lim' hl' hq' hlq el0' eq0' hl1' hl2' el' z => ?_) (fun _ => ⟨rfl, ok⟩)
    · exfalso; subst el' el0' eq0'; exact e0 ⟨⟨l', hl', rfl⟩, ⟨q', hq', rfl⟩, fun z => hlq (nI_inj (by omega) (by omega) z), tr_in hl1' hl2'⟩
    · exfalso; subst el' el0' eq0'; exact e0 ⟨⟨l', hl', rfl⟩, ⟨q', hq', rfl⟩, fun z => hlq (nI_inj (by omega) (by omega) z), tr_in hl1' hl2'⟩
    · exfalso; subst el' el0' eq0'; exact e0 ⟨⟨l', hl', rfl⟩, ⟨q', hq', rfl⟩, fun z => hlq (nI_inj (by omega) (by omega) z), tr_in hl1' hl2'⟩

theorem mt_fr {I I' : am_I} (h70 : I' 70 = I 70) (h72 : I' 72 = I 72) (N n : Nat) (F T : Nat → Nat) (S : Nat → Bool) : mtI I' N n F T S = mtI I N n F T S ∧ btI I' N n F T S = btI I N n F T S := by
  have e0 : tlI I' = tlI I := by unfold tlI; rw [h70]
  have e1 : skL I' N n F T S = skL I N n F T S := by unfold skL skT; rw [e0, h72]
  have e2 : skQ I' N n F T S = skQ I N n F T S := by funext k; unfold skQ; rw [e1]
  have e3 : skG I' N n F T S = skG I N n F T S := by funext k; unfold skG skT; rw [e0, e2]
  have e4 : skA I' N n F T S = skA I N n F T S := by unfold skA; rw [e3, e1]
  have e5 : skX I' N n F T S = skX I N n F T S := by funext k; unfold skX; rw [e2, h72]
  have e6 : skF I' = skF I := by funext l; unfold skF; rw [h70]
  refine ⟨?_, ?_⟩
  · funext A lim t
    unfold mtI
    rw [e0, e1, e2, e3, e4, e5, e6]
  · funext s
    unfold btI
    rw [e1, e2, e5]
set_option maxHeartbeats 4000000 in
set_option maxRecDepth 100000 in
theorem w_meters {G : am_G} {d : Nat} {I : am_I} {J : am_J} {x : Int32} (hc : cpE I J)  : CMi G (d + 45) yX11_meters [.ref 0, .int x] I J (fun r0 I1 J1 => CMi G (d + 45) yX12_meters [.ref 63, .int x] I1 J1 (fun r1 I2 J2 => r1 = r0 ∧ cpE I2 J2)) := by
  obtain ⟨N, n, F, T, S, hc⟩ := hc
  have ok : cpE I J := ⟨N, n, F, T, S, hc⟩
  obtain ⟨⟨hN2, hN6, hn12, k1, k2, k3, k4⟩, hL, hM, hF, hT, hS, hR, ht, hJ⟩ := id hc
  refine l_meters (cp_cq hc) (fun lim hl1 hl2 el I' t hx hsi h10 h10r h11 => ?_) (fun lim hl1 hl2 el I' t hx hsi h10 h10r h11 => ?_) (fun lim hl1 hl2 el I' t A E hx hm hsi h10 h10r h11 => ?_) (fun lim hl1 hl2 el I' t A E hx zz ss hm hsi h10 h10r h11 => ?_) (fun e0 => ?_)
  · subst el
    obtain ⟨g1, g2, g3, z1, z2, z3⟩ := si_ref hc hsi
    refine c_meters g1 g2 g3 (fun lim' hl1' hl2' el' I2 t' ⟨hp, h15, h74⟩ h29 hx' => ?_) (fun lim' hl1' hl2' el' I2 t' ⟨hp, h15, h74⟩ h29 hx' => ?_) (fun lim' hl1' hl2' el' I2 t' A' E' hx' ⟨hp, h15, h74⟩ h29 hm' => ?_) (fun lim' hl1' hl2' el' I2 t' A' E' hx' ⟨hp, h15, h74⟩ h29 hm' => ?_) (fun lim' hl1' hl2' el' I2 t' A' E' hx' ⟨hp, h15, h74⟩ z' s' h29 hm' => ?_) (fun e0 => absurd (tr_in hl1 hl2) e0)
    · obtain rfl : lim = lim' := lim_eq hl2 hl2' el'
      rw [z1, hx] at hx'
      cases hx'
      refine ⟨rfl, N, n, F, T, S, cp_rl hc (si_pr hsi hp) (cpF_fr hF (by rw [pr_cl hp (by decide)]; exact h10) (h15.trans (by rw [siQ_row hsi (by decide) (by decide)])) ((pr_cl hp (by decide)).trans h10r) (h74.trans (siQ_row hsi (by decide) (by decide)))) ?_ hJ⟩
      rw [pr_cl hp (by decide), h11, h29]
    · exfalso; obtain rfl : lim = lim' := lim_eq hl2 hl2' el'; rw [z1, hx] at hx'; cases hx'
    · exfalso; obtain rfl : lim = lim' := lim_eq hl2 hl2' el'; rw [z1, hx] at hx'; cases hx'
    · exfalso; obtain rfl : lim = lim' := lim_eq hl2 hl2' el'; rw [z1, hx] at hx'; cases hx'
    · exfalso; obtain rfl : lim = lim' := lim_eq hl2 hl2' el'; rw [z1, hx] at hx'; cases hx'
  · subst el
    obtain ⟨g1, g2, g3, z1, z2, z3⟩ := si_ref hc hsi
    refine c_meters g1 g2 g3 (fun lim' hl1' hl2' el' I2 t' ⟨hp, h15, h74⟩ h29 hx' => ?_) (fun lim' hl1' hl2' el' I2 t' ⟨hp, h15, h74⟩ h29 hx' => ?_) (fun lim' hl1' hl2' el' I2 t' A' E' hx' ⟨hp, h15, h74⟩ h29 hm' => ?_) (fun lim' hl1' hl2' el' I2 t' A' E' hx' ⟨hp, h15, h74⟩ h29 hm' => ?_) (fun lim' hl1' hl2' el' I2 t' A' E' hx' ⟨hp, h15, h74⟩ z' s' h29 hm' => ?_) (fun e0 => absurd (tr_in hl1 hl2) e0)
    · exfalso; obtain rfl : lim = lim' := lim_eq hl2 hl2' el'; rw [z1, hx] at hx'; cases hx'
    · obtain rfl : lim = lim' := lim_eq hl2 hl2' el'
      rw [z1, hx] at hx'
      cases hx'
      refine ⟨rfl, N, n, F, T, S, cp_rl hc (si_pr hsi hp) (cpF_fr hF (by rw [pr_cl hp (by decide)]; exact h10) (h15.trans (by rw [siQ_row hsi (by decide) (by decide)])) ((pr_cl hp (by decide)).trans h10r) (h74.trans (siQ_row hsi (by decide) (by decide)))) ?_ hJ⟩
      rw [pr_cl hp (by decide), h11, h29]
    · exfalso; obtain rfl : lim = lim' := lim_eq hl2 hl2' el'; rw [z1, hx] at hx'; cases hx'
    · exfalso; obtain rfl : lim = lim' := lim_eq hl2 hl2' el'; rw [z1, hx] at hx'; cases hx'
    · exfalso; obtain rfl : lim = lim' := lim_eq hl2 hl2' el'; rw [z1, hx] at hx'; cases hx'
  · subst el
    obtain ⟨g1, g2, g3, z1, z2, z3⟩ := si_ref hc hsi
    obtain ⟨y1, y2⟩ := mt_fr (siQ_row hsi (a := 70) (by decide) (by decide)) (siQ_row hsi (a := 72) (by decide) (by decide)) N n F T S
    refine c_meters g1 g2 g3 (fun lim' hl1' hl2' el' I2 t' ⟨hp, h15, h74⟩ h29 hx' => ?_) (fun lim' hl1' hl2' el' I2 t' ⟨hp, h15, h74⟩ h29 hx' => ?_) (fun lim' hl1' hl2' el' I2 t' A' E' hx' ⟨hp, h15, h74⟩ h29 hm' => ?_) (fun lim' hl1' hl2' el' I2 t' A' E' hx' ⟨hp, h15, h74⟩ h29 hm' => ?_) (fun lim' hl1' hl2' el' I2 t' A' E' hx' ⟨hp, h15, h74⟩ z' s' h29 hm' => ?_) (fun e0 => absurd (tr_in hl1 hl2) e0)
    · exfalso; obtain rfl : lim = lim' := lim_eq hl2 hl2' el'; rw [z1, hx] at hx'; cases hx'
    · exfalso; obtain rfl : lim = lim' := lim_eq hl2 hl2' el'; rw [z1, hx] at hx'; cases hx'
    · exfalso
      obtain rfl : lim = lim' := lim_eq hl2 hl2' el'
      rw [z1, hx] at hx'
      cases hx'
      rw [y1, hm] at hm'
      cases hm'
    · obtain rfl : lim = lim' := lim_eq hl2 hl2' el'
      rw [z1, hx] at hx'
      cases hx'
      rw [y1] at h29
      refine ⟨rfl, N, n, F, T, S, cp_rl hc (si_pr hsi hp) (cpF_fr hF (by rw [pr_cl hp (by decide)]; exact h10) (h15.trans (by rw [siQ_row hsi (by decide) (by decide)])) ((pr_cl hp (by decide)).trans h10r) (h74.trans (siQ_row hsi (by decide) (by decide)))) ?_ hJ⟩
      rw [pr_cl hp (by decide), h11, h29]
    · exfalso
      obtain rfl : lim = lim' := lim_eq hl2 hl2' el'
      rw [z1, hx] at hx'
      cases hx'
      rw [y1, hm] at hm'
      cases hm'
  · subst el
    obtain ⟨g1, g2, g3, z1, z2, z3⟩ := si_ref hc hsi
    obtain ⟨y1, y2⟩ := mt_fr (siQ_row hsi (a := 70) (by decide) (by decide)) (siQ_row hsi (a := 72) (by decide) (by decide)) N n F T S
    refine c_meters g1 g2 g3 (fun lim' hl1' hl2' el' I2 t' ⟨hp, h15, h74⟩ h29 hx' => ?_) (fun lim' hl1' hl2' el' I2 t' ⟨hp, h15, h74⟩ h29 hx' => ?_) (fun lim' hl1' hl2' el' I2 t' A' E' hx' ⟨hp, h15, h74⟩ h29 hm' => ?_) (fun lim' hl1' hl2' el' I2 t' A' E' hx' ⟨hp, h15, h74⟩ h29 hm' => ?_) (fun lim' hl1' hl2' el' I2 t' A' E' hx' ⟨hp, h15, h74⟩ z' s' h29 hm' => ?_) (fun e0 => absurd (tr_in hl1 hl2) e0)
    · exfalso; obtain rfl : lim = lim' := lim_eq hl2 hl2' el'; rw [z1, hx] at hx'; cases hx'
    · exfalso; obtain rfl : lim = lim' := lim_eq hl2 hl2' el'; rw [z1, hx] at hx'; cases hx'
    · exfalso
      obtain rfl : lim = lim' := lim_eq hl2 hl2' el'
      rw [z1, hx] at hx'
      cases hx'
      rw [y1, hm] at hm'
      cases hm'
    · exfalso
      obtain rfl : lim = lim' := lim_eq hl2 hl2' el'
      rw [z1, hx] at hx'
      cases hx'
      rw [y1, hm] at hm'
      cases hm'
    · obtain rfl : lim = lim' := lim_eq hl2 hl2' el'
      rw [z1, hx] at hx'
      cases hx'
      rw [y1, hm] at hm'
      cases hm'
      rw [y1] at h29
      rw [y2]
      refine ⟨rfl, N, n, F, T, S, cp_rl hc (si_pr hsi hp) (cpF_fr hF (by rw [pr_cl hp (by decide)]; exact h10) (h15.trans (by rw [siQ_row hsi (by decide) (by decide)])) ((pr_cl hp (by decide)).trans h10r) (h74.trans (siQ_row hsi (by decide) (by decide)))) ?_ rfl⟩
      rw [pr_cl hp (by decide), h11, h29]
  · obtain ⟨g1, g2, g3, z1, z2, z3⟩ := si_ref hc (fun _ _ _ _ => rfl)
    refine c_meters g1 g2 g3 (fun lim' hl1' hl2' el' I2 t' ⟨hp, h15, h74⟩ h29 hx' => ?_) (fun lim' hl1' hl2' el' I2 t' ⟨hp, h15, h74⟩ h29 hx' => ?_) (fun lim' hl1' hl2' el' I2 t' A' E' hx' ⟨hp, h15, h74⟩ h29 hm' => ?_) (fun lim' hl1' hl2' el' I2 t' A' E' hx' ⟨hp, h15, h74⟩ h29 hm' => ?_) (fun lim' hl1' hl2' el' I2 t' A' E' hx' ⟨hp, h15, h74⟩ z' s' h29 hm' => ?_) (fun _ => ⟨rfl, ok⟩)
    · exfalso; subst el'; exact e0 (tr_in hl1' hl2')
    · exfalso; subst el'; exact e0 (tr_in hl1' hl2')
    · exfalso; subst el'; exact e0 (tr_in hl1' hl2')
    · exfalso; subst el'; exact e0 (tr_in hl1' hl2')
    · exfalso; subst el'; exact e0 (tr_in hl1' hl2')

