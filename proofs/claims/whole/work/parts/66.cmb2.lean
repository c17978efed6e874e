/-! ===== both sides, call by call: readings, what is told ===== -/
theorem kd_iff {I : am_I} {N l f t : Nat} {s : Bool} (h : cpK I N l f t s) : kdK I l ↔ kdC I l := by
  unfold kdK kdC
  rw [h.1]
theorem rwR_fou {I : am_I} {N n f : Nat} {F T : Nat → Nat} {S : Nat → Bool} (h : rwR I (-9) N n F T S) : rwR (mFou I f) (-9) N n F T S := h
set_option maxHeartbeats 4000000 in
set_option maxRecDepth 100000 in
theorem w_mark {G : am_G} {d : Nat} {I : am_I} {J : am_J} {x y : Int32} (hc : cpE I J)  : CMi G (d + 45) yX11_mark [.ref 0, .int x, .int y] I J (fun r0 I1 J1 => CMi G (d + 45) yX12_mark [.ref 63, .int x, .int y] I1 J1 (fun r1 I2 J2 => r1 = r0 ∧ cpE I2 J2)) := by
  obtain ⟨N, n, F, T, S, hc⟩ := hc
  have ok : cpE I J := ⟨N, n, F, T, S, hc⟩
  obtain ⟨⟨hN2, hN6, hn12, k1, k2, k3, k4⟩, hL, hM, hF, hT, hS, hR, ht, hJ⟩ := id hc
  refine l_mark k2 hn12 hN6 (cp_rl2 hc) hR.1 (fun l hl el ey hk => ?_) (fun l hl el ey hk => ?_) (fun l hl el ey hk => ?_) (fun l q hl el hq1 hq3 ey hno => ?_) (fun e0 => ?_)
  · subst el ey
    have h0 := (hL l hl).1
    rw [h0] at hk
    refine c_mark (cp_rwR hc) (fun l hl => by obtain ⟨_, c2, _⟩ := hL l hl; exact c2) (fun l' hl' el' _ _ => ?_) (fun l' hl' el' z _ => absurd z (by decide)) (fun l' hl' el' z _ => absurd z (by decide)) (fun l' q' hl' el' z1 z2 z3 z4 => ?_) (fun e0 => by exfalso; exact e0 ⟨⟨l, hl, rfl⟩, by decide, by decide⟩)
    · obtain rfl : l = l' := nI_inj (by omega) (by omega) el'
      obtain ⟨e, he, c1, c2, c3⟩ := ct_cases h0 hk
      exact ⟨by rw [c1, c2], ok⟩
    · exfalso
      obtain rfl : l = l' := nI_inj (by omega) (by omega) el'
      obtain rfl : 1 = q' := nI_inj (by omega) (by omega) z3
      exact z4 (hk.elim Or.inl (fun z => Or.inr ⟨rfl, z⟩))
  · subst el ey
    have h0 := (hL l hl).1
    rw [h0] at hk
    refine c_mark (cp_rwR hc) (fun l hl => by obtain ⟨_, c2, _⟩ := hL l hl; exact c2) (fun l' hl' el' z _ => absurd z (by decide)) (fun l' hl' el' _ _ => ?_) (fun l' hl' el' z _ => absurd z (by decide)) (fun l' q' hl' el' z1 z2 z3 z4 => ?_) (fun e0 => by exfalso; exact e0 ⟨⟨l, hl, rfl⟩, by decide, by decide⟩)
    · obtain rfl : l = l' := nI_inj (by omega) (by omega) el'
      obtain ⟨_, _, _, _, _, _, _, _, _, _, _, _, _, _, _, a16⟩ := hL l hl
      refine ⟨?_, ok⟩
      rw [cN_congr (p := rdL I l) (q := rkC I l) 24 (fun h hh => by unfold rdL rkC; rw [(a16 h hh).1])]
    · exfalso
      obtain rfl : l = l' := nI_inj (by omega) (by omega) el'
      obtain rfl : 2 = q' := nI_inj (by omega) (by omega) z3
      exact z4 (Or.inl hk)
  · subst el ey
    have h0 := (hL l hl).1
    rw [h0] at hk
    refine c_mark (cp_rwR hc) (fun l hl => by obtain ⟨_, c2, _⟩ := hL l hl; exact c2) (fun l' hl' el' z _ => absurd z (by decide)) (fun l' hl' el' z _ => absurd z (by decide)) (fun l' hl' el' _ _ I' hf => ?_) (fun l' q' hl' el' z1 z2 z3 z4 => ?_) (fun e0 => by exfalso; exact e0 ⟨⟨l, hl, rfl⟩, by decide, by decide⟩)
    · obtain rfl : l = l' := nI_inj (by omega) (by omega) el'
      refine ⟨?_, N, n, F, T, S, cp_frR hc hf⟩
      rw [cN_congr (p := onQ (rbO F T S n N) l) (q := gbQ (RoC F T S n N) l) (N * N) (fun p hp => by
        unfold onQ
        rw [gb_rb, rbR_RoC hN6 (fun l hl => by obtain ⟨_, _, _, _, _, _, _, c8, _⟩ := hL l hl; exact c8) hp])]
    · exfalso
      obtain rfl : l = l' := nI_inj (by omega) (by omega) el'
      obtain rfl : 3 = q' := nI_inj (by omega) (by omega) z3
      exact z4 (Or.inl hk)
  · subst el ey
    have h0 := (hL l hl).1
    rw [h0] at hno
    refine c_mark (rwR_fou (cp_rwR hc)) (fun l hl => by obtain ⟨_, c2, _⟩ := hL l hl; exact c2) (fun l' hl' el' z hk => ?_) (fun l' hl' el' z hk => ?_) (fun l' hl' el' z hk => ?_) (fun l' q' hl' el' z1 z2 z3 z4 => ⟨rfl, N, n, F, T, S, cp_meet hc (by decide)⟩) (fun e0 => by exfalso; exact e0 ⟨⟨l, hl, rfl⟩, (nI_leI (by decide) (by omega)).mpr hq1, (nI_leI (by omega) (by decide)).mpr hq3⟩)
    · exfalso
      obtain rfl : l = l' := nI_inj (by omega) (by omega) el'
      obtain rfl : q = 1 := nI_inj (by omega) (by omega) z
      have hk' : I 65 l = nI 1 ∨ I 65 l = nI 2 := hk
      exact hno (hk'.elim Or.inl (fun z => Or.inr ⟨rfl, z⟩))
    · exfalso
      obtain rfl : l = l' := nI_inj (by omega) (by omega) el'
      obtain rfl : q = 2 := nI_inj (by omega) (by omega) z
      exact hno (Or.inl hk)
    · exfalso
      obtain rfl : l = l' := nI_inj (by omega) (by omega) el'
      obtain rfl : q = 3 := nI_inj (by omega) (by omega) z
      exact hno (Or.inl hk)
  · refine c_mark (cp_rwR hc) (fun l hl => by obtain ⟨_, c2, _⟩ := hL l hl; exact c2) (fun l' hl' el' z _ => ?_) (fun l' hl' el' z _ => ?_) (fun l' hl' el' z _ => ?_) (fun l' q' hl' el' z1 z2 z3 z4 => ?_) (fun _ => ⟨rfl, ok⟩)
    · exfalso; subst z; exact e0 ⟨⟨l', hl', el'⟩, by decide, by decide⟩
    · exfalso; subst z; exact e0 ⟨⟨l', hl', el'⟩, by decide, by decide⟩
    · exfalso; subst z; exact e0 ⟨⟨l', hl', el'⟩, by decide, by decide⟩
    · exfalso; subst z3; exact e0 ⟨⟨l', hl', el'⟩, (nI_leI (by decide) (by omega)).mpr z1, (nI_leI (by omega) (by decide)).mpr z2⟩

set_option maxHeartbeats 4000000 in
set_option maxRecDepth 100000 in
theorem w_reading {G : am_G} {d : Nat} {I : am_I} {J : am_J} {x y z : Int32} (hc : cpE I J)  : CMi G (d + 45) yX11_reading [.ref 0, .int x, .int y, .int z] I J (fun r0 I1 J1 => CMi G (d + 45) yX12_reading [.ref 63, .int x, .int y, .int z] I1 J1 (fun r1 I2 J2 => r1 = r0 ∧ cpE I2 J2)) := by
  obtain ⟨N, n, F, T, S, hc⟩ := hc
  have ok : cpE I J := ⟨N, n, F, T, S, hc⟩
  obtain ⟨⟨hN2, hN6, hn12, k1, k2, k3, k4⟩, hL, hM, hF, hT, hS, hR, ht, hJ⟩ := id hc
  refine l_reading k2 hn12 (fun l h hl el hz hk hh eh => ?_) (fun l hl el hz hk => ?_) (fun l hl el hz hk hy => ?_) (fun e0 => ?_)
  · subst el eh
    have hk2 : kdC I l := (kd_iff (hL l hl)).mp hk
    have e65 : am_up I (32 + l) h (kpC I l z) 65 = I 65 := am_up_ne (by omega)
    have e71 : am_up I (32 + l) h (kpC I l z) 71 = I 71 := am_up_ne (by omega)
    have ekd : ∀ k, kdC (am_up I (32 + l) h (kpC I l z)) k ↔ kdC I k := fun k => by unfold kdC; rw [e65]
    refine c_reading (n := n) (by rw [am_up_ne (by omega)]; exact k4) hn12 (fun l' h' hl' el' _ _ hh' eh' => ?_) (fun l' hl' el' _ q => ?_) (fun l' hl' el' _ _ q => by exfalso; exact q ⟨nI_pos' (by omega), (nI_leI (by omega) (by decide)).mpr (by omega)⟩) (fun e0 => by exfalso; exact e0 ⟨⟨l, hl, rfl⟩, hz⟩)
    · obtain rfl : l = l' := nI_inj (by omega) (by omega) el'
      obtain rfl : h = h' := nI_inj (by omega) (by omega) eh'
      obtain ⟨a1, a2, a3, a4, a5, a6, a7, a8, a9, a10, a11, a12, a13, a14, a15, a16⟩ := hL l hl
      obtain ⟨p1, p2⟩ := kp_eq a1 hk2 hz
      have ect : ctR (am_up I (32 + l) h (kpC I l z)) l = ctR I l := by unfold ctR; rw [e65]
      rw [e71, ect, ← p1]
      refine ⟨(a16 h hh).1.symm, N, n, F, T, S, cp_line (l := l) hc (fun _ _ => rfl) (fun a j b1 b2 b3 b4 b5 b6 b7 b8 => ?_) hl ?_ (rvC_fr hR (by rw [am_up_ne (by omega), am_up_ne (by omega)]) (by rw [am_up_ne (by omega), am_up_ne (by omega)]) (by rw [am_up_ne (by omega), am_up_ne (by omega)]))⟩
      · by_cases e : a = 71
        · subst e
          rw [am_up_slot (by have := b4 rfl; omega), am_up_ne b2]
        · rw [am_up_ne e, am_up_ne b2]
      · have R : ∀ a, a ≠ 71 → a ≠ 32 + l → am_up (am_up I (32 + l) h (kpC I l z)) 71 (24 * l + h) (kpC I l z) a = I a := fun a b1 b2 => by rw [am_up_ne b1, am_up_ne b2]
        unfold cpK
        rw [R (20 + l) (by omega) (by omega), R 65 (by omega) (by omega), R 66 (by omega) (by omega), R 67 (by omega) (by omega), R 68 (by omega) (by omega), R 69 (by omega) (by omega), R 70 (by omega) (by omega)]
        refine ⟨a1, a2, a3, a4, a5, a6, a7, a8, a9, a10, a11, a12, a13, a14, a15, fun k hk => ?_⟩
        by_cases e : k = h
        · subst e
          rw [am_up_same, am_up_ne (by omega), am_up_same]
          exact ⟨rfl, p2⟩
        · rw [am_up_ne (by omega), am_up_slot e, am_up_slot (by omega), e71]
          exact a16 k hk
    · exfalso
      obtain rfl : l = l' := nI_inj (by omega) (by omega) el'
      exact q ((ekd l).mpr hk2)
  · subst el
    have hk2 : ¬ kdC I l := fun z => hk ((kd_iff (hL l hl)).mpr z)
    refine c_reading (n := n) k4 hn12 (fun l' h' hl' el' _ q hh' eh' => ?_) (fun l' hl' el' _ q => ⟨rfl, N, n, F, T, S, cp_meet hc (by decide)⟩) (fun l' hl' el' _ q _ => ?_) (fun e0 => by exfalso; exact e0 ⟨⟨l, hl, rfl⟩, hz⟩)
    · exfalso; obtain rfl : l = l' := nI_inj (by omega) (by omega) el'; exact hk2 q
    · exfalso; obtain rfl : l = l' := nI_inj (by omega) (by omega) el'; exact hk2 q
  · subst el
    have hk2 : kdC I l := (kd_iff (hL l hl)).mp hk
    refine c_reading (n := n) k4 hn12 (fun l' h' hl' el' _ q hh' eh' => ?_) (fun l' hl' el' _ q => ?_) (fun l' hl' el' _ q _ => ⟨rfl, N, n, F, T, S, cp_meet hc (by decide)⟩) (fun e0 => by exfalso; exact e0 ⟨⟨l, hl, rfl⟩, hz⟩)
    · exfalso; subst eh'; exact hy ⟨nI_pos' (by omega), (nI_leI (by omega) (by decide)).mpr (by omega)⟩
    · exfalso; obtain rfl : l = l' := nI_inj (by omega) (by omega) el'; exact q hk2
  · refine c_reading k4 hn12 (fun l' h' hl' el' hz q hh' eh' => ?_) (fun l' hl' el' hz q => ?_) (fun l' hl' el' hz q _ => ?_) (fun _ => ⟨rfl, ok⟩)
    · exfalso; exact e0 ⟨⟨l', hl', el'⟩, hz⟩
    · exfalso; exact e0 ⟨⟨l', hl', el'⟩, hz⟩
    · exfalso; exact e0 ⟨⟨l', hl', el'⟩, hz⟩

set_option maxHeartbeats 4000000 in
set_option maxRecDepth 100000 in
theorem w_load {G : am_G} {d : Nat} {I : am_I} {J : am_J} {x y z : Int32} (hc : cpE I J)  : CMi G (d + 45) yX11_load [.ref 0, .int x, .int y, .int z] I J (fun r0 I1 J1 => CMi G (d + 45) yX12_load [.ref 63, .int x, .int y, .int z] I1 J1 (fun r1 I2 J2 => r1 = r0 ∧ cpE I2 J2)) := by
  obtain ⟨N, n, F, T, S, hc⟩ := hc
  have ok : cpE I J := ⟨N, n, F, T, S, hc⟩
  obtain ⟨⟨hN2, hN6, hn12, k1, k2, k3, k4⟩, hL, hM, hF, hT, hS, hR, ht, hJ⟩ := id hc
  refine l_load k2 hn12 (fun l i j hl el hk hij hj ei ej hr1 hr2 => ?_) (fun l i j hl el hk hij hj ei ej hr => ?_) (fun l hl el hk => ?_) (fun l hl el hk hy => ?_) (fun e0 => ?_)
  · subst el ei ej
    have hk2 : kdC I l := (kd_iff (hL l hl)).mp hk
    obtain ⟨a1, a2, a3, a4, a5, a6, a7, a8, a9, a10, a11, a12, a13, a14, a15, a16⟩ := hL l hl
    refine c_load (n := n) k4 hn12 (fun l' i' j' hl' el' _ _ hj' ei' ej' _ _ => ?_) (fun l' i' j' hl' el' _ _ hj' ei' ej' q => ?_) (fun l' hl' el' q => ?_) (fun l' hl' el' _ q => by exfalso; exact q ⟨⟨nI_pos' (by omega), (nI_leI (by omega) (by decide)).mpr (by omega)⟩, ⟨nI_pos' (by omega), (nI_leI (by omega) (by decide)).mpr (by omega)⟩, (nI_ltI (by omega) (by omega)).mpr hij⟩) (fun e0 => by exfalso; exact e0 ⟨l, hl, rfl⟩)
    · obtain rfl : l = l' := nI_inj (by omega) (by omega) el'
      obtain rfl : i = i' := nI_inj (by omega) (by omega) ei'
      obtain rfl : j = j' := nI_inj (by omega) (by omega) ej'
      obtain ⟨e, he, c1, c2, c3⟩ := ct_cases a1 hk2
      rw [(a16 i (by omega)).1] at hr1
      rw [(a16 j hj).1] at hr2
      obtain ⟨u, hu, eu⟩ := (a16 i (by omega)).2.resolve_left hr1
      obtain ⟨w, hw, ew⟩ := (a16 j hj).2.resolve_left hr2
      refine ⟨by rw [c1, c2, a12], N, n, F, T, S, cp_rl hc (fun _ _ _ => rfl) hF ht ?_⟩
      rw [ld_eq a1 hk2 (a16 i (by omega)).1 (a16 j hj).1 eu ew hu hw]
      rfl
    · exfalso
      obtain rfl : l = l' := nI_inj (by omega) (by omega) el'
      obtain rfl : i = i' := nI_inj (by omega) (by omega) ei'
      obtain rfl : j = j' := nI_inj (by omega) (by omega) ej'
      rw [← (a16 i (by omega)).1, ← (a16 j hj).1] at q
      exact q.elim hr1 hr2
    · exfalso; obtain rfl : l = l' := nI_inj (by omega) (by omega) el'; exact q hk2
  · subst el ei ej
    have hk2 : kdC I l := (kd_iff (hL l hl)).mp hk
    obtain ⟨a1, a2, a3, a4, a5, a6, a7, a8, a9, a10, a11, a12, a13, a14, a15, a16⟩ := hL l hl
    refine c_load (n := n) k4 hn12 (fun l' i' j' hl' el' _ _ hj' ei' ej' q1 q2 => ?_) (fun l' i' j' hl' el' _ _ hj' ei' ej' q => ⟨rfl, N, n, F, T, S, cp_meet hc (by decide)⟩) (fun l' hl' el' q => ?_) (fun l' hl' el' _ q => by exfalso; exact q ⟨⟨nI_pos' (by omega), (nI_leI (by omega) (by decide)).mpr (by omega)⟩, ⟨nI_pos' (by omega), (nI_leI (by omega) (by decide)).mpr (by omega)⟩, (nI_ltI (by omega) (by omega)).mpr hij⟩) (fun e0 => by exfalso; exact e0 ⟨l, hl, rfl⟩)
    · exfalso
      obtain rfl : l = l' := nI_inj (by omega) (by omega) el'
      obtain rfl : i = i' := nI_inj (by omega) (by omega) ei'
      obtain rfl : j = j' := nI_inj (by omega) (by omega) ej'
      rw [(a16 i (by omega)).1, (a16 j hj).1] at hr
      exact hr.elim q1 q2
    · exfalso; obtain rfl : l = l' := nI_inj (by omega) (by omega) el'; exact q hk2
  · subst el
    have hk2 : ¬ kdC I l := fun z => hk ((kd_iff (hL l hl)).mpr z)
    refine c_load (n := n) k4 hn12 (fun l' i' j' hl' el' q _ hj' ei' ej' q1 q2 => ?_) (fun l' i' j' hl' el' q _ hj' ei' ej' _ => ?_) (fun l' hl' el' q => ⟨rfl, N, n, F, T, S, cp_meet hc (by decide)⟩) (fun l' hl' el' q _ => ?_) (fun e0 => by exfalso; exact e0 ⟨l, hl, rfl⟩)
    · exfalso; obtain rfl : l = l' := nI_inj (by omega) (by omega) el'; exact hk2 q
    · exfalso; obtain rfl : l = l' := nI_inj (by omega) (by omega) el'; exact hk2 q
    · exfalso; obtain rfl : l = l' := nI_inj (by omega) (by omega) el'; exact hk2 q
  · subst el
    have hk2 : kdC I l := (kd_iff (hL l hl)).mp hk
    refine c_load (n := n) k4 hn12 (fun l' i' j' hl' el' q hij hj' ei' ej' q1 q2 => ?_) (fun l' i' j' hl' el' q hij hj' ei' ej' _ => ?_) (fun l' hl' el' q => ?_) (fun l' hl' el' q _ => ⟨rfl, N, n, F, T, S, cp_meet hc (by decide)⟩) (fun e0 => by exfalso; exact e0 ⟨l, hl, rfl⟩)
    · exfalso; subst ei' ej'; exact hy ⟨⟨nI_pos' (by omega), (nI_leI (by omega) (by decide)).mpr (by omega)⟩, ⟨nI_pos' (by omega), (nI_leI (by omega) (by decide)).mpr (by omega)⟩, (nI_ltI (by omega) (by omega)).mpr hij⟩
    · exfalso; subst ei' ej'; exact hy ⟨⟨nI_pos' (by omega), (nI_leI (by omega) (by decide)).mpr (by omega)⟩, ⟨nI_pos' (by omega), (nI_leI (by omega) (by decide)).mpr (by omega)⟩, (nI_ltI (by omega) (by omega)).mpr hij⟩
    · exfalso; obtain rfl : l = l' := nI_inj (by omega) (by omega) el'; exact q hk2
  · refine c_load k4 hn12 (fun l' i' j' hl' el' q hij hj' ei' ej' q1 q2 => ?_) (fun l' i' j' hl' el' q hij hj' ei' ej' _ => ?_) (fun l' hl' el' q => ?_) (fun l' hl' el' q _ => ?_) (fun _ => ⟨rfl, ok⟩)
    · exfalso; exact e0 ⟨l', hl', el'⟩
    · exfalso; exact e0 ⟨l', hl', el'⟩
    · exfalso; exact e0 ⟨l', hl', el'⟩
    · exfalso; exact e0 ⟨l', hl', el'⟩

theorem mnS_fou {I : am_I} {f l : Nat} : ∀ h, mnS (mFou I f) l h = mnS I l h
  | 0 => rfl
  | h + 1 => by
    rw [mnS, mnS, mnS_fou h]
    rfl
set_option maxHeartbeats 4000000 in
set_option maxRecDepth 100000 in
theorem w_mean {G : am_G} {d : Nat} {I : am_I} {J : am_J} {x : Int32} (hc : cpE I J)  : CMi G (d + 45) yX11_mean [.ref 0, .int x] I J (fun r0 I1 J1 => CMi G (d + 45) yX12_mean [.ref 63, .int x] I1 J1 (fun r1 I2 J2 => r1 = r0 ∧ cpE I2 J2)) := by
  obtain ⟨N, n, F, T, S, hc⟩ := hc
  have ok : cpE I J := ⟨N, n, F, T, S, hc⟩
  obtain ⟨⟨hN2, hN6, hn12, k1, k2, k3, k4⟩, hL, hM, hF, hT, hS, hR, ht, hJ⟩ := id hc
  refine l_mean k2 hn12 (fun l hl el hk h2 => ?_) (fun l hl el hk h2 => ?_) (fun l hl el hk => ?_) (fun e0 => ?_)
  · subst el
    have hk2 : kdC I l := (kd_iff (hL l hl)).mp hk
    obtain ⟨e1, e2⟩ := mean_eq (hL l hl) hk2 24 (Nat.le_refl _)
    have hne : (mnS I l 24).1 ≠ (mnS I l 24).2.1 ∧ mcR (mcS I l 24) = (mnS I l 24).2.2 / ((mnS I l 24).2.1 - (mnS I l 24).1) := by
      rw [← e1]
      rcases e2 with ⟨q1, _⟩ | ⟨i, j, q1, q2, q3, q4, q5, q6, q7⟩
      · omega
      · have hij : i < j := by
          rcases Nat.lt_or_ge i j with z | z
          · exact z
          · have := q6.mpr (by omega); omega
        refine ⟨fun z => by rw [q3, q4] at z; have := nI_inj (by omega) (by omega) z; omega, ?_⟩
        unfold mcR
        rw [if_neg]
        rw [q3, q4, pk_sub q1]
        exact nI_nle (by omega) (by omega)
    refine c_mean (n := n) k4 hn12 (fun l' hl' el' _ _ => ?_) (fun l' hl' el' _ q => ?_) (fun l' hl' el' q => ?_) (fun e0 => by exfalso; exact e0 ⟨l, hl, rfl⟩)
    · obtain rfl : l = l' := nI_inj (by omega) (by omega) el'
      exact ⟨hne.2.symm, ok⟩
    · exfalso; obtain rfl : l = l' := nI_inj (by omega) (by omega) el'; exact hne.1 q
    · exfalso; obtain rfl : l = l' := nI_inj (by omega) (by omega) el'; exact q hk2
  · subst el
    have hk2 : kdC I l := (kd_iff (hL l hl)).mp hk
    obtain ⟨e1, e2⟩ := mean_eq (hL l hl) hk2 24 (Nat.le_refl _)
    have hq : (mnS I l 24).1 = (mnS I l 24).2.1 := by
      rw [← e1]
      rcases e2 with ⟨q1, q2, q3⟩ | ⟨i, j, q1, q2, q3, q4, q5, q6, q7⟩
      · rw [q2, q3]
      · rw [q3, q4, q6.mp h2]
    refine c_mean (n := n) k4 hn12 (fun l' hl' el' _ q => ?_) (fun l' hl' el' _ q => ⟨rfl, N, n, F, T, S, cp_meet hc (by decide)⟩) (fun l' hl' el' q => ?_) (fun e0 => by exfalso; exact e0 ⟨l, hl, rfl⟩)
    · exfalso; obtain rfl : l = l' := nI_inj (by omega) (by omega) el'; exact q (show (mnS (mFou I 4) l 24).1 = (mnS (mFou I 4) l 24).2.1 by rw [mnS_fou]; exact hq)
    · exfalso; obtain rfl : l = l' := nI_inj (by omega) (by omega) el'; exact q hk2
  · subst el
    have hk2 : ¬ kdC I l := fun z => hk ((kd_iff (hL l hl)).mpr z)
    refine c_mean (n := n) k4 hn12 (fun l' hl' el' q _ => ?_) (fun l' hl' el' q _ => ?_) (fun l' hl' el' q => ⟨rfl, N, n, F, T, S, cp_meet hc (by decide)⟩) (fun e0 => by exfalso; exact e0 ⟨l, hl, rfl⟩)
    · exfalso; obtain rfl : l = l' := nI_inj (by omega) (by omega) el'; exact hk2 q
    · exfalso; obtain rfl : l = l' := nI_inj (by omega) (by omega) el'; exact hk2 q
  · refine c_mean k4 hn12 (fun l' hl' el' q _ => ?_) (fun l' hl' el' q _ => ?_) (fun l' hl' el' q => ?_) (fun _ => ⟨rfl, ok⟩)
    · exfalso; exact e0 ⟨l', hl', el'⟩
    · exfalso; exact e0 ⟨l', hl', el'⟩
    · exfalso; exact e0 ⟨l', hl', el'⟩

set_option maxHeartbeats 4000000 in
set_option maxRecDepth 100000 in
theorem w_route {G : am_G} {d : Nat} {I : am_I} {J : am_J} {x y z : Int32} (hc : cpE I J)  : CMi G (d + 45) yX11_route [.ref 0, .int x, .int y, .int z] I J (fun r0 I1 J1 => CMi G (d + 45) yX12_route [.ref 63, .int x, .int y, .int z] I1 J1 (fun r1 I2 J2 => r1 = r0 ∧ cpE I2 J2)) := by
  obtain ⟨N, n, F, T, S, hc⟩ := hc
  have ok : cpE I J := ⟨N, n, F, T, S, hc⟩
  obtain ⟨⟨hN2, hN6, hn12, k1, k2, k3, k4⟩, hL, hM, hF, hT, hS, hR, ht, hJ⟩ := id hc
  refine l_route k1 hN6 (fun l hl => by obtain ⟨_, _, _, _, _, _, _, c8, _⟩ := hL l hl; exact c8) hR (cp_rl2 hc) (fun p q hp hq hpq ep eq hw => ?_) (fun p q hp hq hpq ep eq hw => ?_) (fun e0 => ?_)
  · subst ep eq
    refine c_route (cp_rwR hc) (fun p' q' hp' hq' _ ep' eq' _ I' hf => ?_) (fun p' q' hp' hq' _ ep' eq' z I' hf => ?_) (fun e0 => by exfalso; exact e0 ⟨p, q, hp, hq, hpq, rfl, rfl⟩)
    · obtain rfl : p = p' := nI_inj (by omega) (by omega) ep'
      obtain rfl : q = q' := nI_inj (by omega) (by omega) eq'
      exact ⟨rfl, N, n, F, T, S, cp_frR hc hf⟩
    · exfalso
      obtain rfl : p = p' := nI_inj (by omega) (by omega) ep'
      obtain rfl : q = q' := nI_inj (by omega) (by omega) eq'
      omega
  · subst ep eq
    refine c_route (cp_rwR hc) (fun p' q' hp' hq' _ ep' eq' z I' hf => ?_) (fun p' q' hp' hq' _ ep' eq' z I' hf => ⟨rfl, N, n, F, T, S, cp_frR hc hf⟩) (fun e0 => by exfalso; exact e0 ⟨p, q, hp, hq, hpq, rfl, rfl⟩)
    exfalso
    obtain rfl : p = p' := nI_inj (by omega) (by omega) ep'
    obtain rfl : q = q' := nI_inj (by omega) (by omega) eq'
    omega
  · refine c_route (cp_rwR hc) (fun p' q' hp' hq' hpq ep' eq' z I' hf => ?_) (fun p' q' hp' hq' hpq ep' eq' z I' hf => ?_) (fun _ => ⟨rfl, ok⟩)
    · exfalso; exact e0 ⟨p', q', hp', hq', hpq, ep', eq'⟩
    · exfalso; exact e0 ⟨p', q', hp', hq', hpq, ep', eq'⟩

