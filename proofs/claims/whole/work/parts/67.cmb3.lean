/-! ===== both sides, call by call: numbers, sheets, what is told ===== -/
theorem vl_of {y : Int32} (h : y = -9 ∨ nI 0 ≤ y ∧ y ≤ nI 200) : vlP y := h.elim Or.inl (fun z => by
  obtain ⟨c, hc, e⟩ := (rg_iff1 (n := 200) (by decide)).mp z
  exact Or.inr ⟨c, hc, e⟩)
theorem prq_ix {N p q : Nat} (hp : p < N) (hq : q < N) (h : p ≠ q) : prq N (N * p + q) := by
  refine ⟨ix_lt2 hp hq, ?_⟩
  rw [Nat.mul_add_div (by omega), Nat.div_eq_of_lt hq, Nat.add_zero, Nat.mul_add_mod, Nat.mod_eq_of_lt hq]
  exact h
theorem cp_pm {I M : am_I} {J : am_J} {N n : Nat} {F T : Nat → Nat} {S : Nat → Bool} (hc : cpP I J N n F T S) (hfr : ∀ a, a ≠ 13 → a ≠ 14 → a ≠ 72 → a ≠ 73 → M a = I a) (hM : cpM M N) : cpP M J N n F T S := by
  obtain ⟨a1, a2, a3, a4, a5, a6, a7, a8, a9⟩ := hc
  have R : ∀ a, a ≠ 13 → a ≠ 14 → a ≠ 72 → a ≠ 73 → M a = I a := hfr
  exact ⟨cpN_fr a1 (R 1 (by omega) (by omega) (by omega) (by omega)) (by rw [R 63 (by omega) (by omega) (by omega) (by omega)]) (by rw [R 63 (by omega) (by omega) (by omega) (by omega)]), cpL_fr a2 a1.2.2.1 (fun a x => R a (by omega) (by omega) (by omega) (by omega)) (fun a x y => R a (by omega) (by omega) (by omega) (by omega)), hM, cpF_fr a4 (by rw [R 0 (by omega) (by omega) (by omega) (by omega)]) (by rw [R 63 (by omega) (by omega) (by omega) (by omega)]) (R 10 (by omega) (by omega) (by omega) (by omega)) (R 74 (by omega) (by omega) (by omega) (by omega)), cpT_fr a5 (by rw [R 0 (by omega) (by omega) (by omega) (by omega)]) (by rw [R 63 (by omega) (by omega) (by omega) (by omega)]) (R 11 (by omega) (by omega) (by omega) (by omega)) (R 64 (by omega) (by omega) (by omega) (by omega)), cpS_fr a6 (R 62 (by omega) (by omega) (by omega) (by omega)) (R 91 (by omega) (by omega) (by omega) (by omega)) (R 92 (by omega) (by omega) (by omega) (by omega)) (fun s hs => R _ (by omega) (by omega) (by omega) (by omega)), rvC_fr a7 (R 2 (by omega) (by omega) (by omega) (by omega)) (R 44 (by omega) (by omega) (by omega) (by omega)) (R 45 (by omega) (by omega) (by omega) (by omega)), by rw [R 0 (by omega) (by omega) (by omega) (by omega), R 63 (by omega) (by omega) (by omega) (by omega)]; exact a8, a9⟩
theorem cp_sh {I M : am_I} {J : am_J} {N n : Nat} {F T : Nat → Nat} {S : Nat → Bool} (hc : cpP I J N n F T S) (R : ∀ a, (a < 16 ∨ 19 < a) → a ≠ 62 → a ≠ 91 → a ≠ 92 → a ≠ 93 → M a = I a) (hS : cpS M) : cpP M J N n F T S := by
  obtain ⟨a1, a2, a3, a4, a5, a6, a7, a8, a9⟩ := hc
  exact ⟨cpN_fr a1 (R 1 (by omega) (by omega) (by omega) (by omega) (by omega)) (by rw [R 63 (by omega) (by omega) (by omega) (by omega) (by omega)]) (by rw [R 63 (by omega) (by omega) (by omega) (by omega) (by omega)]), cpL_fr a2 a1.2.2.1 (fun a x => R a (by omega) (by omega) (by omega) (by omega) (by omega)) (fun a x y => R a (by omega) (by omega) (by omega) (by omega) (by omega)), cpM_fr a3 (R 13 (by omega) (by omega) (by omega) (by omega) (by omega)) (R 14 (by omega) (by omega) (by omega) (by omega) (by omega)) (R 72 (by omega) (by omega) (by omega) (by omega) (by omega)) (R 73 (by omega) (by omega) (by omega) (by omega) (by omega)), cpF_fr a4 (by rw [R 0 (by omega) (by omega) (by omega) (by omega) (by omega)]) (by rw [R 63 (by omega) (by omega) (by omega) (by omega) (by omega)]) (R 10 (by omega) (by omega) (by omega) (by omega) (by omega)) (R 74 (by omega) (by omega) (by omega) (by omega) (by omega)), cpT_fr a5 (by rw [R 0 (by omega) (by omega) (by omega) (by omega) (by omega)]) (by rw [R 63 (by omega) (by omega) (by omega) (by omega) (by omega)]) (R 11 (by omega) (by omega) (by omega) (by omega) (by omega)) (R 64 (by omega) (by omega) (by omega) (by omega) (by omega)), hS, rvC_fr a7 (R 2 (by omega) (by omega) (by omega) (by omega) (by omega)) (R 44 (by omega) (by omega) (by omega) (by omega) (by omega)) (R 45 (by omega) (by omega) (by omega) (by omega) (by omega)), by rw [R 0 (by omega) (by omega) (by omega) (by omega) (by omega), R 63 (by omega) (by omega) (by omega) (by omega) (by omega)]; exact a8, a9⟩
theorem sz_of {I : am_I} (h : cpS I) : szP I := fun s hs => (h s hs).1.elim (fun z => Or.inl z.1) (fun ⟨n, a, b, _⟩ => Or.inr ⟨n, a, b⟩)
theorem sz_of2 {I : am_I} (h : cpS I) : ∀ s, s < 4 → I 91 s = -9 ∨ ∃ n, n ≤ 24 ∧ I 91 s = nI n := fun s hs => (h s hs).1.elim (fun z => Or.inl z.2) (fun ⟨n, a, _, b⟩ => Or.inr ⟨n, a, b⟩)
theorem sz_n {I : am_I} (h : cpS I) {s n : Nat} (hs : s < 4) (e : I 62 s = nI n) (hn : n ≤ 24) : I 91 s = nI n := (h s hs).1.elim (fun z => absurd (e.symm.trans z.1) (nI_ne_neg (by omega) (by decide))) (fun ⟨k, a, b, c⟩ => by
  rw [c, nI_inj (a := k) (b := n) (by omega) (by omega) (b.symm.trans e)])
theorem sz_m {I : am_I} (h : cpS I) {s : Nat} (hs : s < 4) (e : I 62 s = -1) : I 91 s = -9 := (h s hs).1.elim (fun z => z.2) (fun ⟨k, a, b, c⟩ => absurd (b.symm.trans e) (nI_ne_neg (by omega) (by decide)))
theorem and_255 (x : Int32) : ∃ w, w < 256 ∧ x &&& nI 255 = nI w := by
  have hx : x = nI x.toBitVec.toNat := by
    apply Int32.toBitVec_inj.mp
    show x.toBitVec = BitVec.ofNat 32 x.toBitVec.toNat
    rw [BitVec.ofNat_toNat, BitVec.setWidth_eq]
  rw [hx, bx_and]
  exact ⟨_, Nat.lt_of_le_of_lt Nat.and_le_right (by decide), rfl⟩
theorem kp_255 {I : am_I} {l : Nat} (h0 : I (20 + l) 0 = I 65 l) (hk : kdC I l) (x : Int32) : kpC I l (x &&& nI 255) = x &&& nI 255 ∧ ∃ w, w < (if I 65 l = nI 1 then 256 else 65536) ∧ x &&& nI 255 = nI w := by
  obtain ⟨w, hw, e⟩ := and_255 x
  obtain ⟨b, he, c1, c2, c3⟩ := ct_cases h0 hk
  have h8 : 2 ^ 8 ≤ 2 ^ b := Nat.pow_le_pow_right (by decide) (by omega)
  rw [e]
  unfold kpC
  rw [if_neg (nI_ne_neg (by omega) (by decide)), c1, c3, msk, Nat.mod_eq_of_lt (by omega)]
  exact ⟨rfl, w, by omega, rfl⟩
set_option maxHeartbeats 4000000 in
set_option maxRecDepth 100000 in
theorem w_carried {G : am_G} {d : Nat} {I : am_I} {J : am_J} {x y : Int32} (hc : cpE I J)  : CMi G (d + 45) yX11_carried [.ref 0, .int x, .int y] I J (fun r0 I1 J1 => CMi G (d + 45) yX12_carried [.ref 63, .int x, .int y] I1 J1 (fun r1 I2 J2 => r1 = r0 ∧ cpE I2 J2)) := by
  obtain ⟨N, n, F, T, S, hc⟩ := hc
  have ok : cpE I J := ⟨N, n, F, T, S, hc⟩
  obtain ⟨⟨hN2, hN6, hn12, k1, k2, k3, k4⟩, hL, hM, hF, hT, hS, hR, ht, hJ⟩ := id hc
  refine l_carried k2 hn12 (fun l hl el hv hk => ?_) (fun l hl el hv hk => ?_) (fun e0 => ?_)
  · subst el
    obtain ⟨a1, a2, a3, a4, a5, a6, a7, a8, a9, a10, a11, a12, a13, a14, a15, a16⟩ := hL l hl
    have e65 : am_up I (20 + l) 5 y 65 = I 65 := am_up_ne (by omega)
    refine c_carried (n := n) (by rw [am_up_ne (by omega)]; exact k4) hn12 (fun l' hl' el' _ _ => ?_) (fun l' hl' el' _ q => ?_) (fun e0 => by exfalso; exact e0 ⟨⟨l, hl, rfl⟩, hv⟩)
    · obtain rfl : l = l' := nI_inj (by omega) (by omega) el'
      refine ⟨by rw [am_up_ne (by omega)]; exact a14.symm, N, n, F, T, S, cp_line (l := l) hc (fun _ _ => rfl) (fun a j b1 b2 b3 b4 b5 b6 b7 b8 => ?_) hl ?_ (rvC_fr hR (by rw [am_up_ne (by omega), am_up_ne (by omega)]) (by rw [am_up_ne (by omega), am_up_ne (by omega)]) (by rw [am_up_ne (by omega), am_up_ne (by omega)]))⟩
      · by_cases e : a = 70
        · subst e
          rw [am_up_slot (b3 (by omega) (by omega)), am_up_ne b1]
        · rw [am_up_ne e, am_up_ne b1]
      · have R : ∀ a, a ≠ 70 → a ≠ 20 + l → am_up (am_up I (20 + l) 5 y) 70 l y a = I a := fun a b1 b2 => by rw [am_up_ne b1, am_up_ne b2]
        have R20 : ∀ j, j ≠ 5 → am_up (am_up I (20 + l) 5 y) 70 l y (20 + l) j = I (20 + l) j := fun j hj => by rw [am_up_ne (by omega), am_up_slot hj]
        unfold cpK
        rw [R20 0 (by decide), R20 1 (by decide), R20 2 (by decide), R20 3 (by decide), R20 4 (by decide), R 65 (by omega) (by omega), R 66 (by omega) (by omega), R 67 (by omega) (by omega), R 68 (by omega) (by omega), R 69 (by omega) (by omega), R 71 (by omega) (by omega), R (32 + l) (by omega) (by omega)]
        exact ⟨a1, a2, a3, a4, a5, a6, a7, a8, a9, a10, a11, a12, a13, by rw [am_up_ne (by omega), am_up_same, am_up_same], by rw [am_up_same]; exact vl_of hv, a16⟩
    · exfalso
      obtain rfl : l = l' := nI_inj (by omega) (by omega) el'
      rw [e65, ← a1] at q
      exact hk q
  · subst el
    have h0 := (hL l hl).1
    refine c_carried (n := n) k4 hn12 (fun l' hl' el' _ q => ?_) (fun l' hl' el' _ q => ⟨rfl, N, n, F, T, S, cp_meet hc (by decide)⟩) (fun e0 => by exfalso; exact e0 ⟨⟨l, hl, rfl⟩, hv⟩)
    exfalso
    obtain rfl : l = l' := nI_inj (by omega) (by omega) el'
    exact q (h0.symm.trans hk)
  · refine c_carried k4 hn12 (fun l' hl' el' hv _ => ?_) (fun l' hl' el' hv _ => ?_) (fun _ => ⟨rfl, ok⟩)
    · exfalso; exact e0 ⟨⟨l', hl', el'⟩, hv⟩
    · exfalso; exact e0 ⟨⟨l', hl', el'⟩, hv⟩

set_option maxHeartbeats 4000000 in
set_option maxRecDepth 100000 in
theorem w_meter {G : am_G} {d : Nat} {I : am_I} {J : am_J} {x y z : Int32} (hc : cpE I J)  : CMi G (d + 45) yX11_meter [.ref 0, .int x, .int y, .int z] I J (fun r0 I1 J1 => CMi G (d + 45) yX12_meter [.ref 63, .int x, .int y, .int z] I1 J1 (fun r1 I2 J2 => r1 = r0 ∧ cpE I2 J2)) := by
  obtain ⟨N, n, F, T, S, hc⟩ := hc
  have ok : cpE I J := ⟨N, n, F, T, S, hc⟩
  obtain ⟨⟨hN2, hN6, hn12, k1, k2, k3, k4⟩, hL, hM, hF, hT, hS, hR, ht, hJ⟩ := id hc
  refine l_meter k1 hN6 (fun p q hp hq hpq ep eq hv => ?_) (fun e0 => ?_)
  · subst ep eq
    refine c_meter (N := N) (by rw [am_up_ne (by omega)]; exact k3) hN6 (fun p' q' hp' hq' _ ep' eq' _ => ?_) (fun e0 => by exfalso; exact e0 ⟨⟨p, q, hp, hq, hpq, rfl, rfl⟩, hv⟩)
    obtain rfl : p = p' := nI_inj (by omega) (by omega) ep'
    obtain rfl : q = q' := nI_inj (by omega) (by omega) eq'
    have hix := ix_lt hN6 hp hq
    refine ⟨by rw [am_up_ne (by omega)]; exact (hM _ hix).1.symm, N, n, F, T, S, cp_pm hc (fun a b1 b2 b3 b4 => by rw [am_up_ne b3, am_up_ne b1]) (fun i hi => ?_)⟩
    obtain ⟨m1, m2, m3, m4, m5⟩ := hM i hi
    rw [am_up_ne (show 13 ≠ 72 by decide), am_up_ne (show 14 ≠ 72 by decide), am_up_ne (show 73 ≠ 72 by decide), am_up_ne (show 14 ≠ 13 by decide), am_up_ne (show 73 ≠ 13 by decide)]
    by_cases e : i = N * p + q
    · subst e
      rw [am_up_same, am_up_same]
      exact ⟨rfl, vl_of hv, m3, m4, fun z => absurd (prq_ix hp hq hpq) z⟩
    · rw [am_up_slot e, am_up_slot e, am_up_ne (show 72 ≠ 13 by decide)]
      exact ⟨m1, m2, m3, m4, m5⟩
  · refine c_meter k3 hN6 (fun p' q' hp' hq' hpq ep' eq' hv => by exfalso; exact e0 ⟨⟨p', q', hp', hq', hpq, ep', eq'⟩, hv⟩) (fun _ => ⟨rfl, ok⟩)

set_option maxHeartbeats 4000000 in
set_option maxRecDepth 100000 in
theorem w_base {G : am_G} {d : Nat} {I : am_I} {J : am_J} {x y z : Int32} (hc : cpE I J)  : CMi G (d + 45) yX11_base [.ref 0, .int x, .int y, .int z] I J (fun r0 I1 J1 => CMi G (d + 45) yX12_base [.ref 63, .int x, .int y, .int z] I1 J1 (fun r1 I2 J2 => r1 = r0 ∧ cpE I2 J2)) := by
  obtain ⟨N, n, F, T, S, hc⟩ := hc
  have ok : cpE I J := ⟨N, n, F, T, S, hc⟩
  obtain ⟨⟨hN2, hN6, hn12, k1, k2, k3, k4⟩, hL, hM, hF, hT, hS, hR, ht, hJ⟩ := id hc
  refine l_base k1 hN6 (fun p q v hp hq hpq ep eq hv ev => ?_) (fun e0 => ?_)
  · subst ep eq ev
    refine c_base (N := N) (by rw [am_up_ne (by omega)]; exact k3) hN6 (fun p' q' v' hp' hq' _ ep' eq' _ _ => ?_) (fun e0 => by exfalso; exact e0 ⟨⟨p, q, hp, hq, hpq, rfl, rfl⟩, nI_pos' (by omega), (nI_leI (by omega) (by decide)).mpr hv⟩)
    obtain rfl : p = p' := nI_inj (by omega) (by omega) ep'
    obtain rfl : q = q' := nI_inj (by omega) (by omega) eq'
    have hix := ix_lt hN6 hp hq
    refine ⟨by rw [am_up_ne (by omega)]; exact (hM _ hix).2.2.1.symm, N, n, F, T, S, cp_pm hc (fun a b1 b2 b3 b4 => by rw [am_up_ne b4, am_up_ne b2]) (fun i hi => ?_)⟩
    obtain ⟨m1, m2, m3, m4, m5⟩ := hM i hi
    rw [am_up_ne (show 13 ≠ 73 by decide), am_up_ne (show 14 ≠ 73 by decide), am_up_ne (show 72 ≠ 73 by decide), am_up_ne (show 13 ≠ 14 by decide), am_up_ne (show 72 ≠ 14 by decide)]
    by_cases e : i = N * p + q
    · subst e
      rw [am_up_same, am_up_same]
      exact ⟨m1, m2, rfl, ⟨v, hv, rfl⟩, fun z => absurd (prq_ix hp hq hpq) z⟩
    · rw [am_up_slot e, am_up_slot e, am_up_ne (show 73 ≠ 14 by decide)]
      exact ⟨m1, m2, m3, m4, m5⟩
  · refine c_base k3 hN6 (fun p' q' v' hp' hq' hpq ep' eq' hv ev => by exfalso; subst ev; exact e0 ⟨⟨p', q', hp', hq', hpq, ep', eq'⟩, nI_pos' (by omega), (nI_leI (by omega) (by decide)).mpr hv⟩) (fun _ => ⟨rfl, ok⟩)

set_option maxHeartbeats 4000000 in
set_option maxRecDepth 100000 in
theorem w_fit {G : am_G} {d : Nat} {I : am_I} {J : am_J} {x y : Int32} (hc : cpE I J)  : CMi G (d + 45) yX11_fit [.ref 0, .int x, .int y] I J (fun r0 I1 J1 => CMi G (d + 45) yX12_fit [.ref 63, .int x, .int y] I1 J1 (fun r1 I2 J2 => r1 = r0 ∧ cpE I2 J2)) := by
  obtain ⟨N, n, F, T, S, hc⟩ := hc
  have ok : cpE I J := ⟨N, n, F, T, S, hc⟩
  obtain ⟨⟨hN2, hN6, hn12, k1, k2, k3, k4⟩, hL, hM, hF, hT, hS, hR, ht, hJ⟩ := id hc
  refine l_fit k1 hN6 (fun p q hp hq hpq ep eq hf => ?_) (fun hpr hf => ?_) (fun e0 => ?_)
  · subst ep eq
    rw [hF.1] at hf
    refine c_fit k3 hN6 (fun p' q' hp' hq' _ ep' eq' _ => ?_) (fun _ z => absurd z hf) (fun e0 => by exfalso; exact e0 ⟨p, q, hp, hq, hpq, rfl, rfl⟩)
    obtain rfl : p = p' := nI_inj (by omega) (by omega) ep'
    obtain rfl : q = q' := nI_inj (by omega) (by omega) eq'
    exact ⟨(hF.2.2 (hF.2.1.resolve_left hf) _ (ix_lt hN6 hp hq)).symm, ok⟩
  · rw [hF.1] at hf
    refine c_fit k3 hN6 (fun p' q' hp' hq' _ ep' eq' z => absurd hf z) (fun _ _ => ⟨rfl, ok⟩) (fun e0 => absurd hpr e0)
  · refine c_fit k3 hN6 (fun p' q' hp' hq' hpq ep' eq' _ => by exfalso; exact e0 ⟨p', q', hp', hq', hpq, ep', eq'⟩) (fun hpr _ => absurd hpr e0) (fun _ => ⟨rfl, ok⟩)

set_option maxHeartbeats 4000000 in
set_option maxRecDepth 100000 in
theorem w_guess {G : am_G} {d : Nat} {I : am_I} {J : am_J} {x y : Int32} (hc : cpE I J)  : CMi G (d + 45) yX11_guess [.ref 0, .int x, .int y] I J (fun r0 I1 J1 => CMi G (d + 45) yX12_guess [.ref 63, .int x, .int y] I1 J1 (fun r1 I2 J2 => r1 = r0 ∧ cpE I2 J2)) := by
  obtain ⟨N, n, F, T, S, hc⟩ := hc
  have ok : cpE I J := ⟨N, n, F, T, S, hc⟩
  obtain ⟨⟨hN2, hN6, hn12, k1, k2, k3, k4⟩, hL, hM, hF, hT, hS, hR, ht, hJ⟩ := id hc
  have hall := all_eq hN6 n hL
  have hfr : ∀ y, sI (cfC I 1 y) n = sI (goR I y) n := fun y => sI_congr n (fun l hl => (cf_eq (hL l hl) y).1)
  have hto : ∀ y, sI (cfC I 2 y) n = sI (giR I y) n := fun y => sI_congr n (fun l hl => (cf_eq (hL l hl) y).2)
  refine l_guess k1 hN6 k2 hn12 (fun p q hp hq hpq ep eq hz => ?_) (fun hpr hz => ?_) (fun e0 => ?_)
  · rw [hall] at hz
    refine c_guess k3 hN6 k4 hn12 (fun _ _ => ⟨by rw [hall, hfr, hto], ok⟩) (fun _ z => absurd z hz) (fun e0 => by exfalso; exact e0 ⟨p, q, hp, hq, hpq, ep, eq⟩)
  · rw [hall] at hz
    refine c_guess (N := N) (n := n) k3 hN6 k4 hn12 (fun _ z => absurd hz z) (fun _ _ => ⟨rfl, N, n, F, T, S, cp_meet hc (by decide)⟩) (fun e0 => absurd hpr e0)
  · refine c_guess k3 hN6 k4 hn12 (fun hpr _ => absurd hpr e0) (fun hpr _ => absurd hpr e0) (fun _ => ⟨rfl, ok⟩)

set_option maxHeartbeats 4000000 in
set_option maxRecDepth 100000 in
theorem w_tries {G : am_G} {d : Nat} {I : am_I} {J : am_J}  (hc : cpE I J)  : CMi G (d + 45) yX11_tries [.ref 0] I J (fun r0 I1 J1 => CMi G (d + 45) yX12_tries [.ref 63] I1 J1 (fun r1 I2 J2 => r1 = r0 ∧ cpE I2 J2)) := by
  obtain ⟨N, n, F, T, S, hc⟩ := hc
  have ok : cpE I J := ⟨N, n, F, T, S, hc⟩
  obtain ⟨⟨hN2, hN6, hn12, k1, k2, k3, k4⟩, hL, hM, hF, hT, hS, hR, ht, hJ⟩ := id hc
  exact l_tries (c_tries ⟨ht.symm, ok⟩)

set_option maxHeartbeats 4000000 in
set_option maxRecDepth 100000 in
theorem w_asked {G : am_G} {d : Nat} {I : am_I} {J : am_J}  (hc : cpE I J)  : CMl G (d + 45) yX11_asked [.ref 0] I J (fun r0 I1 J1 => CMl G (d + 45) yX12_asked [.ref 63] I1 J1 (fun r1 I2 J2 => r1 = r0 ∧ cpE I2 J2)) := by
  obtain ⟨N, n, F, T, S, hc⟩ := hc
  have ok : cpE I J := ⟨N, n, F, T, S, hc⟩
  obtain ⟨⟨hN2, hN6, hn12, k1, k2, k3, k4⟩, hL, hM, hF, hT, hS, hR, ht, hJ⟩ := id hc
  exact l_asked (c_asked ⟨hJ.symm, ok⟩)

set_option maxHeartbeats 4000000 in
set_option maxRecDepth 100000 in
theorem w_finding {G : am_G} {d : Nat} {I : am_I} {J : am_J}  (hc : cpE I J)  : CMi G (d + 45) yX11_finding [.ref 0] I J (fun r0 I1 J1 => CMi G (d + 45) yX12_finding [.ref 63] I1 J1 (fun r1 I2 J2 => r1 = r0 ∧ cpE I2 J2)) := by
  obtain ⟨N, n, F, T, S, hc⟩ := hc
  have ok : cpE I J := ⟨N, n, F, T, S, hc⟩
  obtain ⟨⟨hN2, hN6, hn12, k1, k2, k3, k4⟩, hL, hM, hF, hT, hS, hR, ht, hJ⟩ := id hc
  exact l_finding (c_finding ⟨hT.1.symm, ok⟩)

set_option maxHeartbeats 4000000 in
set_option maxRecDepth 100000 in
theorem w_findings {G : am_G} {d : Nat} {I : am_I} {J : am_J} {x : Int32} (hc : cpE I J)  : CMi G (d + 45) yX11_findings [.ref 0, .int x] I J (fun r0 I1 J1 => CMi G (d + 45) yX12_findings [.ref 63, .int x] I1 J1 (fun r1 I2 J2 => r1 = r0 ∧ cpE I2 J2)) := by
  obtain ⟨N, n, F, T, S, hc⟩ := hc
  have ok : cpE I J := ⟨N, n, F, T, S, hc⟩
  obtain ⟨⟨hN2, hN6, hn12, k1, k2, k3, k4⟩, hL, hM, hF, hT, hS, hR, ht, hJ⟩ := id hc
  refine l_findings (fun f h1 h2 e => ?_) (fun e0 => ?_)
  · subst e
    refine c_findings (fun f' _ _ e' => ?_) (fun e0 => by exfalso; exact e0 ⟨(nI_leI (by decide) (by omega)).mpr h1, (nI_leI (by omega) (by decide)).mpr h2⟩)
    obtain rfl : f = f' := nI_inj (by omega) (by omega) e'
    exact ⟨(hT.2 f (by omega)).symm, ok⟩
  · refine c_findings (fun f' h1 h2 e' => by exfalso; subst e'; exact e0 ⟨(nI_leI (by decide) (by omega)).mpr h1, (nI_leI (by omega) (by decide)).mpr h2⟩) (fun _ => ⟨rfl, ok⟩)

set_option maxHeartbeats 4000000 in
set_option maxRecDepth 100000 in
theorem w_count {G : am_G} {d : Nat} {I : am_I} {J : am_J} {x : Int32} (hc : cpE I J)  : CMi G (d + 45) yX11_count [.ref 0, .int x] I J (fun r0 I1 J1 => CMi G (d + 45) yX12_count [.ref 63, .int x] I1 J1 (fun r1 I2 J2 => r1 = r0 ∧ cpE I2 J2)) := by
  obtain ⟨N, n, F, T, S, hc⟩ := hc
  have ok : cpE I J := ⟨N, n, F, T, S, hc⟩
  obtain ⟨⟨hN2, hN6, hn12, k1, k2, k3, k4⟩, hL, hM, hF, hT, hS, hR, ht, hJ⟩ := id hc
  refine l_count k1 hN6 k2 hn12 (cp_rl2 hc) hR.1 (fun w hw e => ?_) (fun e0 => ?_)
  · subst e
    refine c_count (cp_rwR hc) (fun w' _ e' I1 hf => ?_) (fun e0 => by exfalso; exact e0 ⟨nI_pos' (by omega), (nI_leI (by omega) (by decide)).mpr hw⟩)
    obtain rfl : w = w' := nI_inj (by omega) (by omega) e'
    exact ⟨(tc_eq hc hw).symm, N, n, F, T, S, cp_frR hc hf⟩
  · refine c_count (cp_rwR hc) (fun w' hw e' I1 hf => by exfalso; subst e'; exact e0 ⟨nI_pos' (by omega), (nI_leI (by omega) (by decide)).mpr hw⟩) (fun _ => ⟨rfl, ok⟩)

set_option maxHeartbeats 4000000 in
set_option maxRecDepth 100000 in
theorem w_digest {G : am_G} {d : Nat} {I : am_I} {J : am_J}  (hc : cpE I J)  : CMl G (d + 45) yX11_digest [.ref 0] I J (fun r0 I1 J1 => CMl G (d + 45) yX12_digest [.ref 63] I1 J1 (fun r1 I2 J2 => r1 = r0 ∧ cpE I2 J2)) := by
  obtain ⟨N, n, F, T, S, hc⟩ := hc
  have ok : cpE I J := ⟨N, n, F, T, S, hc⟩
  obtain ⟨⟨hN2, hN6, hn12, k1, k2, k3, k4⟩, hL, hM, hF, hT, hS, hR, ht, hJ⟩ := id hc
  exact l_digest k1 hN6 k2 hn12 (fun l hl => by obtain ⟨_, _, _, _, _, _, _, _, c9, c10, _⟩ := hL l hl; rw [c9]; exact c10) (sz_of hS) (cp_rl2 hc) hR.1 (c_digest (cp_rwR hc) (fun l hl => by obtain ⟨_, _, _, _, _, _, _, _, c9, c10, _⟩ := hL l hl; exact c10) (sz_of2 hS) (fun I1 hf => ⟨(dg_eq hc).symm, N, n, F, T, S, cp_frR hc hf⟩))

set_option maxHeartbeats 4000000 in
set_option maxRecDepth 100000 in
theorem w_sheet {G : am_G} {d : Nat} {I : am_I} {J : am_J} {x y : Int32} (hc : cpE I J)  : CMi G (d + 45) yX11_sheet [.ref 0, .int x, .int y] I J (fun r0 I1 J1 => CMi G (d + 45) yX12_sheet [.ref 63, .int x, .int y] I1 J1 (fun r1 I2 J2 => r1 = r0 ∧ cpE I2 J2)) := by
  obtain ⟨N, n, F, T, S, hc⟩ := hc
  have ok : cpE I J := ⟨N, n, F, T, S, hc⟩
  obtain ⟨⟨hN2, hN6, hn12, k1, k2, k3, k4⟩, hL, hM, hF, hT, hS, hR, ht, hJ⟩ := id hc
  refine l_sheet (fun s m hs es hm em => ?_) (fun s hs es hy => ?_) (fun e0 => ?_)
  · subst es em
    refine c_sheet (fun s' m' hs' es' _ _ => ?_) (fun s' hs' es' hy => absurd (nI_pos' (by omega)) hy) (fun e0 => by exfalso; exact e0 ⟨⟨s, hs, rfl⟩, (nI_leI (by omega) (by decide)).mpr hm⟩)
    obtain rfl : s = s' := nI_inj (by omega) (by omega) es'
    refine ⟨rfl, N, n, F, T, S, cp_sh hc (fun a b1 b2 b3 b4 b5 => ?_) (fun k hk => ?_)⟩
    · funext j
      simp [mZero, am_up, mFill, b2, b3, b4, show ¬ a = 16 + s by omega]
    · have e62 : mZero (am_up (mFill (am_up I 62 s (nI m)) (16 + s) 24 (nI 0)) 91 s (nI m)) s 24 62 k = if k = s then nI m else I 62 k := by
        simp [mZero, am_up, mFill, show ¬ 62 = 16 + s by omega]
      have e91 : mZero (am_up (mFill (am_up I 62 s (nI m)) (16 + s) 24 (nI 0)) 91 s (nI m)) s 24 91 k = if k = s then nI m else I 91 k := by
        simp [mZero, am_up, mFill, show ¬ 91 = 16 + s by omega]
      refine ⟨?_, fun h hh => ?_⟩
      · rw [e62, e91]
        by_cases e : k = s
        · rw [if_pos e, if_pos e]; exact Or.inr ⟨m, hm, rfl, rfl⟩
        · rw [if_neg e, if_neg e]; exact (hS k hk).1
      · by_cases e : k = s
        · subst e
          have e1 : mZero (am_up (mFill (am_up I 62 k (nI m)) (16 + k) 24 (nI 0)) 91 k (nI m)) k 24 (16 + k) h = nI 0 := by
            simp [mZero, am_up, mFill, hh, show ¬ 16 + k = 92 by omega, show ¬ 16 + k = 91 by omega]
          have e2 : mZero (am_up (mFill (am_up I 62 k (nI m)) (16 + k) 24 (nI 0)) 91 k (nI m)) k 24 92 (24 * k + h) = nI 0 := by
            simp [mZero, hh]
          rw [e1, e2]
          exact ⟨rfl, by decide⟩
        · have e1 : mZero (am_up (mFill (am_up I 62 s (nI m)) (16 + s) 24 (nI 0)) 91 s (nI m)) s 24 (16 + k) h = I (16 + k) h := by
            simp [mZero, am_up, mFill, show ¬ 16 + k = 92 by omega, show ¬ 16 + k = 91 by omega, show ¬ 16 + k = 62 by omega, e]
          have e2 : mZero (am_up (mFill (am_up I 62 s (nI m)) (16 + s) 24 (nI 0)) 91 s (nI m)) s 24 92 (24 * k + h) = I 92 (24 * k + h) := by
            simp only [mZero]
            rw [if_neg (by omega), am_up_ne (by decide), mFill_ne (by omega), am_up_ne (by decide)]
          rw [e1, e2]
          exact (hS k hk).2 h hh
  · subst es
    refine c_sheet (fun s' m' hs' es' _ em' => by exfalso; subst em'; exact hy (nI_pos' (by omega))) (fun s' hs' es' _ => ⟨rfl, N, n, F, T, S, cp_meet hc (by decide)⟩) (fun e0 => by exfalso; exact e0 ⟨⟨s, hs, rfl⟩, Int32.le_trans (Int32.le_of_lt (Int32.not_le.mp hy)) (by decide)⟩)
  · refine c_sheet (fun s' m' hs' es' hm em' => by exfalso; subst em'; exact e0 ⟨⟨s', hs', es'⟩, (nI_leI (by omega) (by decide)).mpr hm⟩) (fun s' hs' es' hy => by exfalso; exact e0 ⟨⟨s', hs', es'⟩, Int32.le_trans (Int32.le_of_lt (Int32.not_le.mp hy)) (by decide)⟩) (fun _ => ⟨rfl, ok⟩)

set_option maxHeartbeats 4000000 in
set_option maxRecDepth 100000 in
theorem w_lay {G : am_G} {d : Nat} {I : am_I} {J : am_J} {x y z : Int32} (hc : cpE I J)  : CMi G (d + 45) yX11_lay [.ref 0, .int x, .int y, .int z] I J (fun r0 I1 J1 => CMi G (d + 45) yX12_lay [.ref 63, .int x, .int y, .int z] I1 J1 (fun r1 I2 J2 => r1 = r0 ∧ cpE I2 J2)) := by
  obtain ⟨N, n, F, T, S, hc⟩ := hc
  have ok : cpE I J := ⟨N, n, F, T, S, hc⟩
  obtain ⟨⟨hN2, hN6, hn12, k1, k2, k3, k4⟩, hL, hM, hF, hT, hS, hR, ht, hJ⟩ := id hc
  refine l_lay (sz_of hS) (fun s m i hs es hm hm24 hi ei => ?_) (fun s m hs es hm hm24 hno => ?_) (fun s hs es hm => ?_) (fun e0 => ?_)
  · subst es ei
    have e91 : am_up I (16 + s) i z.toInt8.toInt32 91 = I 91 := am_up_ne (by omega)
    have e92 : am_up I (16 + s) i z.toInt8.toInt32 92 = I 92 := am_up_ne (by omega)
    have h91 := sz_n hS hs hm hm24
    refine c_lay (by rw [e91]; exact sz_of2 hS) (fun s' m' i' hs' es' hm' hm24' hi' ei' => ?_) (fun s' m' hs' es' hm' hm24' q => ?_) (fun s' hs' es' q => ?_) (fun e0 => by exfalso; exact e0 ⟨s, hs, rfl⟩)
    · obtain rfl : s = s' := nI_inj (by omega) (by omega) es'
      obtain rfl : i = i' := nI_inj (by omega) (by omega) ei'
      rw [e92]
      refine ⟨by rw [((hS s hs).2 i (by omega)).1], N, n, F, T, S, cp_sh hc (fun a b1 b2 b3 b4 b5 => by rw [am_up_ne b4, am_up_ne (by omega)]) (fun k hk => ?_)⟩
      rw [am_up_ne (show 62 ≠ 92 by decide), am_up_ne (show 62 ≠ 16 + s by omega), am_up_ne (show 91 ≠ 92 by decide), e91]
      refine ⟨(hS k hk).1, fun h hh => ?_⟩
      by_cases e : 24 * k + h = 24 * s + i
      · obtain ⟨rfl, rfl⟩ : k = s ∧ h = i := by omega
        rw [am_up_same, am_up_ne (by omega), am_up_same]
        exact ⟨rfl, tb_tb⟩
      · rw [am_up_slot e, am_up_ne (show 16 + k ≠ 92 by omega), e92]
        by_cases e2 : k = s
        · subst e2
          rw [am_up_slot (by omega)]
          exact (hS k hk).2 h hh
        · rw [am_up_ne (by omega)]
          exact (hS k hk).2 h hh
    · exfalso
      obtain rfl : s = s' := nI_inj (by omega) (by omega) es'
      rw [e91, h91] at hm'
      obtain rfl : m = m' := nI_inj (by omega) (by omega) hm'
      exact q ⟨i, hi, rfl⟩
    · exfalso
      obtain rfl : s = s' := nI_inj (by omega) (by omega) es'
      rw [e91, h91] at q
      exact absurd q (nI_ne_neg (by omega) (by decide))
  · subst es
    have h91 := sz_n hS hs hm hm24
    refine c_lay (I := mFou I 2) (by have z := sz_of2 hS; exact z) (fun s' m' i' hs' es' hm' hm24' hi' ei' => ?_) (fun s' m' hs' es' hm' hm24' q => ⟨rfl, N, n, F, T, S, cp_meet hc (by decide)⟩) (fun s' hs' es' q => ?_) (fun e0 => by exfalso; exact e0 ⟨s, hs, rfl⟩)
    · exfalso
      obtain rfl : s = s' := nI_inj (by omega) (by omega) es'
      have hm2 : nI m = nI m' := h91.symm.trans hm'
      obtain rfl : m = m' := nI_inj (by omega) (by omega) hm2
      exact hno ⟨i', hi', ei'⟩
    · exfalso
      obtain rfl : s = s' := nI_inj (by omega) (by omega) es'
      exact absurd (h91.symm.trans q) (nI_ne_neg (by omega) (by decide))
  · subst es
    have h91 := sz_m hS hs hm
    refine c_lay (I := mFou I 1) (by have z := sz_of2 hS; exact z) (fun s' m' i' hs' es' hm' hm24' hi' ei' => ?_) (fun s' m' hs' es' hm' hm24' q => ?_) (fun s' hs' es' q => ⟨rfl, N, n, F, T, S, cp_meet hc (by decide)⟩) (fun e0 => by exfalso; exact e0 ⟨s, hs, rfl⟩)
    · exfalso
      obtain rfl : s = s' := nI_inj (by omega) (by omega) es'
      exact absurd (hm'.symm.trans h91) (nI_ne_neg (by omega) (by decide))
    · exfalso
      obtain rfl : s = s' := nI_inj (by omega) (by omega) es'
      exact absurd (hm'.symm.trans h91) (nI_ne_neg (by omega) (by decide))
  · refine c_lay (sz_of2 hS) (fun s' m' i' hs' es' _ _ _ _ => by exfalso; exact e0 ⟨s', hs', es'⟩) (fun s' m' hs' es' _ _ _ => by exfalso; exact e0 ⟨s', hs', es'⟩) (fun s' hs' es' q => by exfalso; exact e0 ⟨s', hs', es'⟩) (fun _ => ⟨rfl, ok⟩)

set_option maxHeartbeats 4000000 in
set_option maxRecDepth 100000 in
theorem w_tear {G : am_G} {d : Nat} {I : am_I} {J : am_J} {x : Int32} (hc : cpE I J)  : CMi G (d + 45) yX11_tear [.ref 0, .int x] I J (fun r0 I1 J1 => CMi G (d + 45) yX12_tear [.ref 63, .int x] I1 J1 (fun r1 I2 J2 => r1 = r0 ∧ cpE I2 J2)) := by
  obtain ⟨N, n, F, T, S, hc⟩ := hc
  have ok : cpE I J := ⟨N, n, F, T, S, hc⟩
  obtain ⟨⟨hN2, hN6, hn12, k1, k2, k3, k4⟩, hL, hM, hF, hT, hS, hR, ht, hJ⟩ := id hc
  refine l_tear (sz_of hS) (fun s m hs es hm hm24 => ?_) (fun s hs es hm => ?_) (fun e0 => ?_)
  · subst es
    have e91 : am_up I 62 s (-1) 91 = I 91 := am_up_ne (by omega)
    have h91 := sz_n hS hs hm hm24
    refine c_tear (by rw [e91]; exact sz_of2 hS) (fun s' m' hs' es' hm' hm24' => ?_) (fun s' hs' es' q => ?_) (fun e0 => by exfalso; exact e0 ⟨s, hs, rfl⟩)
    · obtain rfl : s = s' := nI_inj (by omega) (by omega) es'
      refine ⟨rfl, N, n, F, T, S, cp_sh hc (fun a b1 b2 b3 b4 b5 => by rw [am_up_ne b3, am_up_ne b2]) (fun k hk => ?_)⟩
      rw [am_up_ne (show 62 ≠ 91 by decide), am_up_ne (show 16 + k ≠ 91 by omega), am_up_ne (show 16 + k ≠ 62 by omega), am_up_ne (show 92 ≠ 91 by decide), am_up_ne (show 92 ≠ 62 by decide)]
      refine ⟨?_, (hS k hk).2⟩
      by_cases e : k = s
      · subst e
        rw [am_up_same, am_up_same]
        exact Or.inl ⟨rfl, rfl⟩
      · rw [am_up_slot e, am_up_slot e, e91]
        exact (hS k hk).1
    · exfalso
      obtain rfl : s = s' := nI_inj (by omega) (by omega) es'
      rw [e91, h91] at q
      exact absurd q (nI_ne_neg (by omega) (by decide))
  · subst es
    have h91 := sz_m hS hs hm
    refine c_tear (I := mFou I 1) (by have z := sz_of2 hS; exact z) (fun s' m' hs' es' hm' hm24' => ?_) (fun s' hs' es' q => ⟨rfl, N, n, F, T, S, cp_meet hc (by decide)⟩) (fun e0 => by exfalso; exact e0 ⟨s, hs, rfl⟩)
    exfalso
    obtain rfl : s = s' := nI_inj (by omega) (by omega) es'
    exact absurd (hm'.symm.trans h91) (nI_ne_neg (by omega) (by decide))
  · refine c_tear (sz_of2 hS) (fun s' m' hs' es' _ _ => by exfalso; exact e0 ⟨s', hs', es'⟩) (fun s' hs' es' q => by exfalso; exact e0 ⟨s', hs', es'⟩) (fun _ => ⟨rfl, ok⟩)

set_option maxHeartbeats 4000000 in
set_option maxRecDepth 100000 in
theorem w_play {G : am_G} {d : Nat} {I : am_I} {J : am_J} {x y : Int32} (hc : cpE I J)  : CMi G (d + 45) yX11_play [.ref 0, .int x, .int y] I J (fun r0 I1 J1 => CMi G (d + 45) yX12_play [.ref 63, .int x, .int y] I1 J1 (fun r1 I2 J2 => r1 = r0 ∧ cpE I2 J2)) := by
  obtain ⟨N, n, F, T, S, hc⟩ := hc
  have ok : cpE I J := ⟨N, n, F, T, S, hc⟩
  obtain ⟨⟨hN2, hN6, hn12, k1, k2, k3, k4⟩, hL, hM, hF, hT, hS, hR, ht, hJ⟩ := id hc
  refine l_play k2 hn12 (sz_of hS) (fun s m l hs es hl el hk hm hm24 => ?_) (fun s l hs es hl el hk => ?_) (fun s l hs es hl el hk hm => ?_) (fun e0 => ?_)
  · subst es el
    have hk2 : kdC I l := (kd_iff (hL l hl)).mp hk
    have h91 := sz_n hS hs hm hm24
    have e65 : mPl I s l m 65 = I 65 := mPl_ne (by omega)
    have e91 : mPl I s l m 91 = I 91 := mPl_ne (by omega)
    have e92 : mPl I s l m 92 = I 92 := mPl_ne (by omega)
    have ekd : kdC (mPl I s l m) l ↔ kdC I l := by unfold kdC; rw [e65]
    refine c_play (n := n) (by rw [mPl_ne (by omega)]; exact k4) hn12 (by rw [e91]; exact sz_of2 hS) (fun s' m' l' hs' es' hl' el' _ hm' hm24' => ?_) (fun s' l' hs' es' hl' el' q => ?_) (fun s' l' hs' es' hl' el' _ q => ?_) (fun e0 => by exfalso; exact e0 ⟨⟨s, hs, rfl⟩, ⟨l, hl, rfl⟩⟩)
    · obtain rfl : s = s' := nI_inj (by omega) (by omega) es'
      obtain rfl : l = l' := nI_inj (by omega) (by omega) el'
      rw [e91, h91] at hm'
      obtain rfl : m = m' := nI_inj (by omega) (by omega) hm'
      obtain ⟨a1, a2, a3, a4, a5, a6, a7, a8, a9, a10, a11, a12, a13, a14, a15, a16⟩ := hL l hl
      refine ⟨rfl, N, n, F, T, S, cp_line (l := l) hc (fun _ _ => rfl) (fun a j b1 b2 b3 b4 b5 b6 b7 b8 => ?_) hl ?_ (rvC_fr hR ?_ ?_ ?_)⟩
      · simp only [mPlay]
        rw [if_neg (by omega), mPl_ne b2]
      · have R : ∀ a, a ≠ 71 → a ≠ 32 + l → mPlay (mPl I s l m) s l m a = I a := fun a b1 b2 => by
          funext j
          simp only [mPlay]
          rw [if_neg (by omega), mPl_ne b2]
        unfold cpK
        rw [R (20 + l) (by omega) (by omega), R 65 (by omega) (by omega), R 66 (by omega) (by omega), R 67 (by omega) (by omega), R 68 (by omega) (by omega), R 69 (by omega) (by omega), R 70 (by omega) (by omega)]
        refine ⟨a1, a2, a3, a4, a5, a6, a7, a8, a9, a10, a11, a12, a13, a14, a15, fun k hk => ?_⟩
        by_cases e : k < m
        · have v1 : mPlay (mPl I s l m) s l m (32 + l) k = kpC I l (I (16 + s) k &&& nI 255) := by
            simp only [mPlay]
            rw [if_neg (by omega)]
            simp [mPl, e]
          have v2 : mPlay (mPl I s l m) s l m 71 (24 * l + k) = I 92 (24 * s + k) &&& nI 255 := by
            simp only [mPlay]
            rw [if_pos ⟨trivial, by omega, by omega⟩, e92, show 24 * l + k - 24 * l = k by omega]
          obtain ⟨p1, w0, p2, p3⟩ := kp_255 a1 hk2 (I (16 + s) k)
          rw [v1, v2, p1, ← ((hS s hs).2 k hk).1]
          exact ⟨rfl, Or.inr ⟨w0, p2, p3⟩⟩
        · have v1 : mPlay (mPl I s l m) s l m (32 + l) k = I (32 + l) k := by
            simp only [mPlay]
            rw [if_neg (by omega)]
            simp [mPl, e]
          have v2 : mPlay (mPl I s l m) s l m 71 (24 * l + k) = I 71 (24 * l + k) := by
            simp only [mPlay]
            rw [if_neg (by omega), mPl_ne (by omega)]
          rw [v1, v2]
          exact a16 k hk
      · funext j; simp only [mPlay]; rw [if_neg (by omega), mPl_ne (by omega)]
      · funext j; simp only [mPlay]; rw [if_neg (by omega), mPl_ne (by omega)]
      · funext j; simp only [mPlay]; rw [if_neg (by omega), mPl_ne (by omega)]
    · exfalso
      obtain rfl : l = l' := nI_inj (by omega) (by omega) el'
      exact q (ekd.mpr hk2)
    · exfalso
      obtain rfl : s = s' := nI_inj (by omega) (by omega) es'
      rw [e91, h91] at q
      exact absurd q (nI_ne_neg (by omega) (by decide))
  · subst es el
    have hk2 : ¬ kdC I l := fun z => hk ((kd_iff (hL l hl)).mpr z)
    refine c_play (I := mFou I 3) (n := n) k4 hn12 (by have z := sz_of2 hS; exact z) (fun s' m' l' hs' es' hl' el' q hm' hm24' => ?_) (fun s' l' hs' es' hl' el' q => ⟨rfl, N, n, F, T, S, cp_meet hc (by decide)⟩) (fun s' l' hs' es' hl' el' q _ => ?_) (fun e0 => by exfalso; exact e0 ⟨⟨s, hs, rfl⟩, ⟨l, hl, rfl⟩⟩)
    · exfalso; obtain rfl : l = l' := nI_inj (by omega) (by omega) el'; exact hk2 q
    · exfalso; obtain rfl : l = l' := nI_inj (by omega) (by omega) el'; exact hk2 q
  · subst es el
    have hk2 : kdC I l := (kd_iff (hL l hl)).mp hk
    have h91 := sz_m hS hs hm
    refine c_play (I := mFou I 1) (n := n) k4 hn12 (by have z := sz_of2 hS; exact z) (fun s' m' l' hs' es' hl' el' q hm' hm24' => ?_) (fun s' l' hs' es' hl' el' q => ?_) (fun s' l' hs' es' hl' el' q _ => ⟨rfl, N, n, F, T, S, cp_meet hc (by decide)⟩) (fun e0 => by exfalso; exact e0 ⟨⟨s, hs, rfl⟩, ⟨l, hl, rfl⟩⟩)
    · exfalso; obtain rfl : s = s' := nI_inj (by omega) (by omega) es'; exact absurd (hm'.symm.trans h91) (nI_ne_neg (by omega) (by decide))
    · exfalso; obtain rfl : l = l' := nI_inj (by omega) (by omega) el'; exact q hk2
  · refine c_play k4 hn12 (sz_of2 hS) (fun s' m' l' hs' es' hl' el' q hm' hm24' => ?_) (fun s' l' hs' es' hl' el' q => ?_) (fun s' l' hs' es' hl' el' q _ => ?_) (fun _ => ⟨rfl, ok⟩)
    · exfalso; exact e0 ⟨⟨s', hs', es'⟩, ⟨l', hl', el'⟩⟩
    · exfalso; exact e0 ⟨⟨s', hs', es'⟩, ⟨l', hl', el'⟩⟩
    · exfalso; exact e0 ⟨⟨s', hs', es'⟩, ⟨l', hl', el'⟩⟩

set_option maxHeartbeats 4000000 in
set_option maxRecDepth 100000 in
theorem w_copy {G : am_G} {d : Nat} {I : am_I} {J : am_J} {x y z u v : Int32} (hc : cpE I J)  : CMi G (d + 45) yX11_copy [.ref 0, .int x, .int y, .int z, .int u, .int v] I J (fun r0 I1 J1 => CMi G (d + 45) yX12_copy [.ref 63, .int x, .int y, .int z, .int u, .int v] I1 J1 (fun r1 I2 J2 => r1 = r0 ∧ cpE I2 J2)) := by
  obtain ⟨N, n, F, T, S, hc⟩ := hc
  have ok : cpE I J := ⟨N, n, F, T, S, hc⟩
  obtain ⟨⟨hN2, hN6, hn12, k1, k2, k3, k4⟩, hL, hM, hF, hT, hS, hR, ht, hJ⟩ := id hc
  refine l_copy (sz_of hS) (fun s hs h hh => by rw [((hS s hs).2 h hh).1]; exact ((hS s hs).2 h hh).2) (fun s t i j m a b hs ht4 es et em ei ej ha ha24 hb hb24 hi hj => ?_) (fun s t m a b hs ht4 es et hm31 em ha ha24 hb hb24 hno => ?_) (fun s t hs ht4 es et hv hm => ?_) (fun s t hs ht4 es et hv => ?_) (fun e0 => ?_)
  · subst es et em ei ej
    have h91a := sz_n hS hs ha ha24
    have h91b := sz_n hS ht4 hb hb24
    have R : ∀ a, a ≠ 16 + t → am_cp I (16 + t) (I (16 + s)) i j m a = I a := fun a h => am_cp_ne h
    have e91 : am_cp I (16 + t) (I (16 + s)) i j m 91 = I 91 := R 91 (by omega)
    have e92 : am_cp I (16 + t) (I (16 + s)) i j m 92 = I 92 := R 92 (by omega)
    refine c_copy (by rw [e91]; exact sz_of2 hS) (fun s' t' i' j' m' a' b' hs' ht' es' et' em' ei' ej' ha' ha24' hb' hb24' hi' hj' => ?_) (fun s' t' m' a' b' hs' ht' es' et' hm31' em' ha' ha24' hb' hb24' q => ?_) (fun s' t' hs' ht' es' et' _ q => ?_) (fun s' t' hs' ht' es' et' q => absurd (nI_pos' (by omega)) q) (fun e0 => by exfalso; exact e0 ⟨⟨s, hs, rfl⟩, ⟨t, ht4, rfl⟩⟩)
    · obtain rfl : s = s' := nI_inj (by omega) (by omega) es'
      obtain rfl : t = t' := nI_inj (by omega) (by omega) et'
      rw [e91, h91a] at ha'
      rw [e91, h91b] at hb'
      obtain rfl : a = a' := nI_inj (by omega) (by omega) ha'
      obtain rfl : b = b' := nI_inj (by omega) (by omega) hb'
      obtain rfl : m = m' := nI_inj (by omega) (by omega) em'
      obtain rfl : i = i' := nI_inj (by omega) (by omega) ei'
      obtain rfl : j = j' := nI_inj (by omega) (by omega) ej'
      have M1 : ∀ a, a ≠ 92 → a ≠ 93 → mCo (mMv (am_cp I (16 + t) (I (16 + s)) i j m) s i m) t j m a = am_cp I (16 + t) (I (16 + s)) i j m a := fun a b1 b2 => by
        funext k
        simp [mCo, mMv, b1, b2]
      refine ⟨rfl, N, n, F, T, S, cp_sh hc (fun a b1 b2 b3 b4 b5 => by rw [M1 a b4 b5, R a (by omega)]) (fun k hk => ?_)⟩
      rw [M1 62 (by decide) (by decide), R 62 (by omega), M1 91 (by decide) (by decide), e91, M1 (16 + k) (by omega) (by omega)]
      refine ⟨(hS k hk).1, fun h hh => ?_⟩
      have e3 : mCo (mMv (am_cp I (16 + t) (I (16 + s)) i j m) s i m) t j m 92 (24 * k + h) = if 24 * t + j ≤ 24 * k + h ∧ 24 * k + h < 24 * t + j + m then I 92 (24 * s + i + (24 * k + h - (24 * t + j))) else I 92 (24 * k + h) := by
        simp only [mCo, true_and]
        by_cases q : 24 * t + j ≤ 24 * k + h ∧ 24 * k + h < 24 * t + j + m
        · rw [if_pos q, if_pos q]
          simp only [mMv, true_and]
          rw [if_pos (by omega), e92]
        · rw [if_neg q, if_neg q]
          simp only [mMv]
          rw [if_neg (by omega), e92]
      rw [e3]
      by_cases e : k = t
      · subst e
        rw [am_cp_row]
        simp only [va_cpy]
        by_cases q : j ≤ h ∧ h < j + m
        · rw [if_pos q, if_pos (by omega), show 24 * s + i + (24 * k + h - (24 * k + j)) = 24 * s + (i + (h - j)) by omega]
          exact (hS s hs).2 (i + (h - j)) (by omega)
        · rw [if_neg q, if_neg (by omega)]
          exact (hS k hk).2 h hh
      · rw [R (16 + k) (by omega), if_neg (by omega)]
        exact (hS k hk).2 h hh
    · exfalso
      obtain rfl : s = s' := nI_inj (by omega) (by omega) es'
      obtain rfl : t = t' := nI_inj (by omega) (by omega) et'
      rw [e91, h91a] at ha'
      rw [e91, h91b] at hb'
      obtain rfl : a = a' := nI_inj (by omega) (by omega) ha'
      obtain rfl : b = b' := nI_inj (by omega) (by omega) hb'
      obtain rfl : m = m' := nI_inj (by omega) (by omega) em'
      exact q ⟨i, j, rfl, rfl, hi, hj⟩
    · exfalso
      obtain rfl : s = s' := nI_inj (by omega) (by omega) es'
      obtain rfl : t = t' := nI_inj (by omega) (by omega) et'
      rw [e91, h91a, h91b] at q
      exact q.elim (nI_ne_neg (by omega) (by decide)) (nI_ne_neg (by omega) (by decide))
  · subst es et em
    have h91a := sz_n hS hs ha ha24
    have h91b := sz_n hS ht4 hb hb24
    refine c_copy (I := mFou I 2) (by have z := sz_of2 hS; exact z) (fun s' t' i' j' m' a' b' hs' ht' es' et' em' ei' ej' ha' ha24' hb' hb24' hi' hj' => ?_) (fun s' t' m' a' b' hs' ht' es' et' hm31' em' ha' ha24' hb' hb24' q => ⟨rfl, N, n, F, T, S, cp_meet hc (by decide)⟩) (fun s' t' hs' ht' es' et' _ q => ?_) (fun s' t' hs' ht' es' et' q => absurd (nI_pos' (by omega)) q) (fun e0 => by exfalso; exact e0 ⟨⟨s, hs, rfl⟩, ⟨t, ht4, rfl⟩⟩)
    · exfalso
      obtain rfl : s = s' := nI_inj (by omega) (by omega) es'
      obtain rfl : t = t' := nI_inj (by omega) (by omega) et'
      obtain rfl : a = a' := nI_inj (by omega) (by omega) (h91a.symm.trans ha')
      obtain rfl : b = b' := nI_inj (by omega) (by omega) (h91b.symm.trans hb')
      obtain rfl : m = m' := nI_inj (by omega) (by omega) em'
      exact hno ⟨i', j', ei', ej', hi', hj'⟩
    · exfalso
      obtain rfl : s = s' := nI_inj (by omega) (by omega) es'
      obtain rfl : t = t' := nI_inj (by omega) (by omega) et'
      exact q.elim (fun z => nI_ne_neg (by omega) (by decide) (h91a.symm.trans z)) (fun z => nI_ne_neg (by omega) (by decide) (h91b.symm.trans z))
  · subst es et
    have h91 : I 91 s = -9 ∨ I 91 t = -9 := hm.elim (fun z => Or.inl (sz_m hS hs z)) (fun z => Or.inr (sz_m hS ht4 z))
    refine c_copy (I := mFou I 1) (by have z := sz_of2 hS; exact z) (fun s' t' i' j' m' a' b' hs' ht' es' et' em' ei' ej' ha' ha24' hb' hb24' hi' hj' => ?_) (fun s' t' m' a' b' hs' ht' es' et' hm31' em' ha' ha24' hb' hb24' q => ?_) (fun s' t' hs' ht' es' et' _ q => ⟨rfl, N, n, F, T, S, cp_meet hc (by decide)⟩) (fun s' t' hs' ht' es' et' q => absurd hv q) (fun e0 => by exfalso; exact e0 ⟨⟨s, hs, rfl⟩, ⟨t, ht4, rfl⟩⟩)
    · exfalso
      obtain rfl : s = s' := nI_inj (by omega) (by omega) es'
      obtain rfl : t = t' := nI_inj (by omega) (by omega) et'
      exact h91.elim (fun z => nI_ne_neg (by omega) (by decide) (ha'.symm.trans z)) (fun z => nI_ne_neg (by omega) (by decide) (hb'.symm.trans z))
    · exfalso
      obtain rfl : s = s' := nI_inj (by omega) (by omega) es'
      obtain rfl : t = t' := nI_inj (by omega) (by omega) et'
      exact h91.elim (fun z => nI_ne_neg (by omega) (by decide) (ha'.symm.trans z)) (fun z => nI_ne_neg (by omega) (by decide) (hb'.symm.trans z))
  · subst es et
    refine c_copy (I := mFou I 5) (by have z := sz_of2 hS; exact z) (fun s' t' i' j' m' a' b' hs' ht' es' et' em' ei' ej' ha' ha24' hb' hb24' hi' hj' => by exfalso; subst em'; exact hv (nI_pos' (by omega))) (fun s' t' m' a' b' hs' ht' es' et' hm31' em' ha' ha24' hb' hb24' q => by exfalso; subst em'; exact hv (nI_pos' (by omega))) (fun s' t' hs' ht' es' et' z q => absurd z hv) (fun s' t' hs' ht' es' et' q => ⟨rfl, N, n, F, T, S, cp_meet hc (by decide)⟩) (fun e0 => by exfalso; exact e0 ⟨⟨s, hs, rfl⟩, ⟨t, ht4, rfl⟩⟩)
  · refine c_copy (sz_of2 hS) (fun s' t' i' j' m' a' b' hs' ht' es' et' em' ei' ej' ha' ha24' hb' hb24' hi' hj' => ?_) (fun s' t' m' a' b' hs' ht' es' et' hm31' em' ha' ha24' hb' hb24' q => ?_) (fun s' t' hs' ht' es' et' _ q => ?_) (fun s' t' hs' ht' es' et' q => ?_) (fun _ => ⟨rfl, ok⟩)
    · exfalso; exact e0 ⟨⟨s', hs', es'⟩, ⟨t', ht', et'⟩⟩
    · exfalso; exact e0 ⟨⟨s', hs', es'⟩, ⟨t', ht', et'⟩⟩
    · exfalso; exact e0 ⟨⟨s', hs', es'⟩, ⟨t', ht', et'⟩⟩
    · exfalso; exact e0 ⟨⟨s', hs', es'⟩, ⟨t', ht', et'⟩⟩

