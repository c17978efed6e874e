/-! ===== the system: meters ===== -/
theorem lpE_one (h : Nat → EvS) (a c : Nat) (hc : c ≤ 1) (H : (fE (h a)).length ≤ 1) : (fE (lpE h a c)).length ≤ 1 := by
  rcases Nat.eq_zero_or_pos c with e | e
  · subst e; simp [lpE, fE]
  · obtain rfl : c = 0 + 1 := by omega
    rw [fE_lp]
    simp only [lpE, List.length_append]
    show (fE (h a)).length + (fE []).length ≤ 1
    simp [fE] at H ⊢
    exact H
/-- all fixed: at most one FIT -/
theorem fE_all {g la : Nat → Nat} {fx : Nat → Option Nat} {tl : Nat → Bool} {n : Nat} : ∀ (f k : Nat) (lf A : Nat → Nat), (∀ j, k ≤ j → j < k + f → (fx j).isSome = true) → (fE (evS g la fx tl n f k lf A)).length ≤ 1
  | 0, k, lf, A, _ => by
    rw [evS]
    split
    · simp [fE]
    · simp [fE]
  | f + 1, k, lf, A, h => by
    rw [evS]
    obtain ⟨a, ha⟩ := Option.isSome_iff_exists.mp (h k (Nat.le_refl _) (by omega))
    have hr : rgE g la fx n k lf = (a, if (begN (g k) (la k) lf n).1 ≤ a ∧ a ≤ (begN (g k) (la k) lf n).2 then a + 1 else a) := by unfold rgE rgN; rw [ha]
    rw [hr]
    refine lpE_one _ _ _ ?_ (fE_all f (k + 1) _ _ (fun j p q => h j (by omega) (by omega)))
    show (if (begN (g k) (la k) lf n).1 ≤ a ∧ a ≤ (begN (g k) (la k) lf n).2 then a + 1 else a) - a ≤ 1
    by_cases q : (begN (g k) (la k) lf n).1 ≤ a ∧ a ≤ (begN (g k) (la k) lf n).2
    · rw [if_pos q]; omega
    · rw [if_neg q]; omega
theorem cn_run {lim : Nat} : ∀ (E : EvS) (t c : Nat), (fE E).length + c ≤ 1 → (runS cn2 lim t E c).2.1 = 1 ∨ (runS cn2 lim t E c).2.2 = c + (fE E).length
  | [], t, c, _ => Or.inr rfl
  | none :: E, t, c, h => by
    rw [runS]
    by_cases e : t = lim
    · rw [if_pos e]; exact Or.inl rfl
    · rw [if_neg e]; exact cn_run E (t + 1) c h
  | some A :: E, t, c, h => by
    rw [fE_some, List.length_cons] at h
    obtain rfl : c = 0 := by omega
    rw [runS, if_neg (by simp [cn2])]
    rw [fE_some, List.length_cons]
    rcases cn_run E t 1 (by omega) with q | q
    · exact Or.inl q
    · exact Or.inr (by show (runS cn2 lim t E 1).2.2 = _; rw [q]; omega)
theorem fxS_full {fx : Nat → Option Nat} {sq A : Nat → Nat} {m k : Nat} (hk : k < m) : fxS fx A (2 ^ (frL fx sq m).length - 1) k = some ((fx k).getD (A k)) := by
  unfold fxS
  rcases e : fx k with _ | f
  · simp only
    rw [Nat.testBit_two_pow_sub_one, frL_len]
    have : cN (isN fx) k < cN (isN fx) m := cN_inc hk (by unfold isN; rw [e]; rfl)
    simp [this]
  · simp
/-- all that is free is METERED: alone, or spent -/
theorem al_full {g la : Nat → Nat} {fx : Nat → Option Nat} {tl : Nat → Bool} {n m : Nat} {sq lf A : Nat → Nat} {E' : EvS} {lim lim' t0 u t : Nat} (h0 : nxE lim' t0 (evS g la fx tl n m 0 lf (fun _ => 0)) = (u, some (some (A, E')))) : (alS g la fx tl n m lf A lim t (2 ^ (frL fx sq m).length - 1)).2.1 = 1 ∨ (alS g la fx tl n m lf A lim t (2 ^ (frL fx sq m).length - 1)).2.2 = 1 := by
  have e3 := nx_fE _ _ _ h0
  have hfit := ev_fit (g := g) (la := la) (fx := fx) (tl := tl) (n := n) (B := A) m 0 lf (fun _ => 0) (fE_mem.mp (by rw [e3]; exact List.mem_cons_self))
  have h1 : (fE (evS g la (fxS fx A (2 ^ (frL fx sq m).length - 1)) tl n m 0 lf (fun _ => 0))).length ≤ 1 := fE_all m 0 lf _ (fun j _ hj => by rw [fxS_full (by omega)]; rfl)
  have h2 : A ∈ fE (evS g la (fxS fx A (2 ^ (frL fx sq m).length - 1)) tl n m 0 lf (fun _ => 0)) := by
    rw [fE_fix (fx := fx) (fun k a h => by unfold fxS; rw [h]), e3, List.mem_filter]
    refine ⟨List.mem_cons_self, ?_⟩
    rw [fxQ_iff]
    intro j q1 q2 a ha
    rw [fxS_full (by omega)] at ha
    cases ha
    rcases e : fx j with _ | f
    · rfl
    · exact (hfit.2 j q1 q2).2 _ e
  have h3 : (fE (evS g la (fxS fx A (2 ^ (frL fx sq m).length - 1)) tl n m 0 lf (fun _ => 0))).length = 1 := by
    have := List.length_pos_of_mem h2
    omega
  unfold alS
  rcases cn_run (lim := lim) (evS g la (fxS fx A (2 ^ (frL fx sq m).length - 1)) tl n m 0 lf (fun _ => 0)) t 0 (by omega) with q | q
  · exact Or.inl q
  · exact Or.inr (by rw [q, h3])
theorem mt_no {al : Nat → Nat → Nat × Nat × Nat} {fr : Nat} (hal : ∀ t, (al t (2 ^ fr - 1)).2.1 = 1 ∨ (al t (2 ^ fr - 1)).2.2 = 1) : ∀ (f z s t : Nat), z ≤ fr → (z = fr → s = 2 ^ fr - 1) → mtM fr z s < f → (mtS al fr f z s t).2 ≠ some none
  | 0, z, s, t, _, _, h => by omega
  | f + 1, z, s, t, hz, hzs, hM => by
    have hp := Nat.two_pow_pos fr
    rw [mtS, if_neg (by omega)]
    by_cases e : z = fr
    · rw [hzs e, if_pos (by omega)]
      rcases hal t with q | q
      · rw [if_pos q]; exact fun z => by cases z
      · by_cases q1 : (al t (2 ^ fr - 1)).2.1 = 1
        · rw [if_pos q1]; exact fun z => by cases z
        · rw [if_neg q1, if_pos q]; exact fun z => by cases z
    · by_cases hs : s < 2 ^ fr
      · rw [if_pos hs]
        split
        · exact fun z => by cases z
        · split
          · exact fun z => by cases z
          · refine mt_no hal f z _ _ hz (fun q => absurd q e) ?_
            have hlt : s < (if z = 0 then 2 ^ fr else nxL s) := by
              split
              · exact hs
              · exact nxS_gt _ _
            unfold mtM at hM ⊢
            omega
      · rw [if_neg hs]
        refine mt_no hal f (z + 1) _ t (by omega) (fun q => by rw [q]) ?_
        unfold mtM at hM ⊢
        obtain ⟨c, hc⟩ : ∃ c, fr + 1 - z = c + 1 := ⟨fr - z, by omega⟩
        rw [show fr + 1 - (z + 1) = c by omega]
        rw [hc, Nat.succ_mul] at hM
        omega
theorem mtI_no {I : am_I} {N n : Nat} {F T : Nat → Nat} {S : Nat → Bool} {A : Nat → Nat} {E' : EvS} {lim t u : Nat} (h0 : nxE lim 0 (evI I N n F T S) = (u, some (some (A, E')))) : (mtI I N n F T S A lim t).2 ≠ some none := by
  unfold mtI
  exact mt_no (fun t => al_full h0) _ 0 0 t (Nat.zero_le _) (fun e => by rw [← e]) (Nat.lt_succ_self _)
theorem sa_fw {I I' : am_I} {N n lim t : Nat} {F T : Nat → Nat} {S : Nat → Bool} {v : Nat → Int32} {A : Nat → Nat} (hq : cqP I N n F T S) (h : saQ (taR 1 (skQ I N n F T S) (skL I N n F T S).length v) (fun c => c.1) gpT N n F T S lim I (t, 2, ((1, A) : TaC)) I') : scP I' n (skL I N n F T S).length (N * N) (RoC F T S n N) (skG I N n F T S) (skA I N n F T S) (skX I N n F T S) (skQ I N n F T S) (tlI I) ∧ fwP n (skL I N n F T S).length (skX I N n F T S) (skQ I N n F T S) (tlI I) (skF I) A t I' I' ∧ I' 4 9 = nI lim ∧ t ≤ lim := by
  obtain ⟨I0, I1, hB, hQ, e⟩ := h
  obtain ⟨b1, b2, b3⟩ := bg_sc hq hB
  obtain ⟨q1, q2, q3, q4, q5, q6, q7, q8⟩ := hQ
  have R : ∀ a, a ≠ 0 → I' a = I1 a := fun a ha => by rw [e, am_up_ne ha]
  have hsc : scP I' n (skL I N n F T S).length (N * N) (RoC F T S n N) (skG I N n F T S) (skA I N n F T S) (skX I N n F T S) (skQ I N n F T S) (tlI I) := scP_fr (scP_frK b1 q1 rfl rfl rfl rfl rfl rfl rfl) (by rw [R 1 (by decide)]) (R 44 (by decide)) (R 45 (by decide)) (by rw [R 4 (by decide)]) (R 50 (by decide)) (R 54 (by decide)) (R 52 (by decide))
  refine ⟨hsc, ⟨fun _ _ _ _ _ _ _ _ => rfl, lcP_row q2 (R 53 (by decide)), nuP_row q5 (R 55 (by decide)), by rw [R 4 (by decide)]; exact q3, ?_, fun p hp => ?_, fun k f hk hf => ?_⟩, ?_, q4⟩
  · rw [R 4 (by decide), q8, if_neg (show ¬ (2 : Nat) = 1 by decide)]
    exact hB.2.2.2.2.1
  · rw [R 56 (by decide), q6.2.2 p hp, if_neg (show ¬ (1 : Nat) = 0 by decide)]
  · rw [(hsc.2.2.2.2.2.2.2 k hk).2.2.1, hf]; rfl
  · rw [R 4 (by decide), q1 4 9 rfl (by decide) (by decide) (by decide)]
    exact hB.2.2.1
theorem fxO_no {x : Int32} (h : vlP x) : x = -9 ↔ (fxO x).isNone = true := by
  unfold fxO
  by_cases e : x = -9
  · simp [e]
  · simp [e]
theorem s_fewM {G : am_G} {d : Nat} {I I0 : am_I} {J : am_J} {K : Int64 → am_I → am_J → Prop} {N n lim t : Nat} {F T : Nat → Nat} {S : Nat → Bool} {A : Nat → Nat} {E' : EvS} {t' : Nat} (hN : N ≤ 6) (hS : scP I0 n (skL I N n F T S).length (N * N) (RoC F T S n N) (skG I N n F T S) (skA I N n F T S) (skX I N n F T S) (skQ I N n F T S) (tlI I)) (h9 : I0 4 9 = nI lim) (hlim : lim ≤ 20000) (h0 : nxE lim 0 (evI I N n F T S) = (t', some (some (A, E')))) (hI : fwP n (skL I N n F T S).length (skX I N n F T S) (skQ I N n F T S) (tlI I) (skF I) A t I0 I0) (htl : t ≤ lim) (h13 : ∀ k, k < (skL I N n F T S).length → (I0 13 ((skQ I N n F T S) k) = -9 ↔ ((skX I N n F T S) k).isNone = true)) (k1 : (mtI I N n F T S A lim t).2 = none → ∀ I', frX I' I0 → I' 4 10 = nI (mtI I N n F T S A lim t).1 → I' 4 11 = nI 1 → K (lN 0) I' J) (k2 : ∀ z s, (mtI I N n F T S A lim t).2 = some (some (z, s)) → bcN (btI I N n F T S s) = z → btI I N n F T S s < 2 ^ 36 → ∀ I', frX I' I0 → I' 4 10 = nI (mtI I N n F T S A lim t).1 → I' 4 11 = nI 0 → K (lN (btI I N n F T S s)) I' J) : CMl G (d + 40) yX8_fewestMeters [.ref 4, .ref 5] I0 J K := by
  have hlen : (skL I N n F T S).length ≤ 36 := Nat.le_trans (sqL_len _ _ _ _) (sq_le hN)
  have hsk : ∀ j, j < (skL I N n F T S).length → (skQ I N n F T S) j < 36 := fun j hj => Nat.lt_of_lt_of_le (skL_at hj).2.1 (sq_le hN)
  have hfr : ∀ i, i < (frL (skX I N n F T S) (skQ I N n F T S) (skL I N n F T S).length).length → frN (skX I N n F T S) (skQ I N n F T S) (skL I N n F T S).length i < 36 := fun i hi => by
    obtain ⟨k, a1, a2, a3, a4⟩ := frN_ex hi
    rw [a4]; exact hsk k a1
  have hin : ∀ i j, i < (frL (skX I N n F T S) (skQ I N n F T S) (skL I N n F T S).length).length → j < (frL (skX I N n F T S) (skQ I N n F T S) (skL I N n F T S).length).length → frN (skX I N n F T S) (skQ I N n F T S) (skL I N n F T S).length i = frN (skX I N n F T S) (skQ I N n F T S) (skL I N n F T S).length j → i = j := fun i j hi hj e => by
    obtain ⟨k, a1, a2, a3, a4⟩ := frN_ex hi
    obtain ⟨k', b1, b2, b3, b4⟩ := frN_ex hj
    rw [a4, b4] at e
    have := sk_inj k k' a1 b1 e
    subst this
    rw [a3, b3]
  have := s_fewestMeters (G := G) (d := d + 36 - (skL I N n F T S).length) (K := K) (J := J) (lf := skF I) hS (fun j k a b => skQ_lt a b) (fun l => Nat.min_le_left _ _) (fun k hk => ev_200 (fE_mem.mp (by rw [nx_fE _ _ _ h0]; exact List.mem_cons_self)) k hk) h9 hlim h0 hI htl h13 (res := (mtI I N n F T S A lim t)) rfl (fun e => absurd e (mtI_no h0)) k1 (fun z s e hp I' f1 f2 f3 => by
    have hb36 : btI I N n F T S s < 2 ^ 36 := btN_lt _ hfr
    refine k2 z s e ?_ hb36 I' f1 f2 f3
    rw [bc_pop hb36]
    unfold btI
    rw [(pop_bt (s := s) hin hfr _ (Nat.le_refl _)).1, hp])
  rw [show d + 36 - (skL I N n F T S).length + (skL I N n F T S).length + 4 = d + 40 by omega] at this
  exact this
set_option maxHeartbeats 4000000 in
set_option maxRecDepth 100000 in
theorem l_meters {G : am_G} {d : Nat} {I : am_I} {J : am_J} {K : Int32 → am_I → am_J → Prop} {N n : Nat} {F T : Nat → Nat} {S : Nat → Bool} {x : Int32} (hq : cqP I N n F T S) (h1 : ∀ lim, 1 ≤ lim → lim ≤ 20000 → x = nI lim → ∀ I' t, nxE lim 0 (evI I N n F T S) = (t, some none) → siQ I' I → I' 0 10 = I 0 10 → I' 10 = I 10 → I' 0 11 = nI t → K (-9) I' J) (h2 : ∀ lim, 1 ≤ lim → lim ≤ 20000 → x = nI lim → ∀ I' t, nxE lim 0 (evI I N n F T S) = (t, none) → siQ I' I → I' 0 10 = I 0 10 → I' 10 = I 10 → I' 0 11 = nI t → K (-6) I' J) (h4 : ∀ lim, 1 ≤ lim → lim ≤ 20000 → x = nI lim → ∀ I' t A E, nxE lim 0 (evI I N n F T S) = (t, some (some (A, E))) → (mtI I N n F T S A lim t).2 = none → siQ I' I → I' 0 10 = I 0 10 → I' 10 = I 10 → I' 0 11 = nI (mtI I N n F T S A lim t).1 → K (-6) I' J) (h5 : ∀ lim, 1 ≤ lim → lim ≤ 20000 → x = nI lim → ∀ I' t A E, nxE lim 0 (evI I N n F T S) = (t, some (some (A, E))) → ∀ z s, (mtI I N n F T S A lim t).2 = some (some (z, s)) → siQ I' I → I' 0 10 = I 0 10 → I' 10 = I 10 → I' 0 11 = nI (mtI I N n F T S A lim t).1 → K (nI z) I' (am_upJ J 0 12 (lN (btI I N n F T S s)))) (h0 : ¬ (nI 1 ≤ x ∧ x ≤ nI 20000) → K (-1) I J) : CMi G (d + 41) yX11_meters [.ref 0, .int x] I J K := by
  refine CM.of (L0 := [_, _, _, _]) cX11_meters 4 (some .int) (by decide) (by decide) kcX11_meters (Nat.le_of_ble_eq_true rfl) rfl ?_
  refine a_iload_n dX11_meters_0 rfl ?_
  refine a_callSi (As := [_]) dX11_meters_1 km_X11_197 rfl rfl (Nat.le_of_ble_eq_true rfl) ?_
  refine l_isTries (fun lim hl1 hl2 el => ?_) (fun e0 => ?_)
  · subst el
    refine a_if_ne (tgt := 9) dX11_meters_4 (by decide) (fun g4 => ?_) (fun g4 => ?_)
    · refine a_aload_n dX11_meters_9 rfl ?_
      refine a_getr dX11_meters_10 kf_X11_38 ⟨by decide, _, rfl, rfl⟩ ?_
      refine a_iconst (v := nI 1) dX11_meters_13 (by decide) ?_
      refine a_callVv (As := [_]) dX11_meters_14 km_X11_200 ⟨by decide, _, _, _, rfl, rfl⟩ rfl rfl (Nat.le_of_ble_eq_true rfl) ?_
      refine t_begin ?_
      refine a_aload_n dX11_meters_17 rfl ?_
      refine a_aload_n dX11_meters_18 rfl ?_
      refine a_getr dX11_meters_19 kf_X11_38 ⟨by decide, _, rfl, rfl⟩ ?_
      refine a_iload_n dX11_meters_22 rfl ?_
      refine a_callVi (As := [_, _]) dX11_meters_23 km_X11_201 ⟨by decide, _, _, _, rfl, rfl⟩ rfl rfl (Nat.le_of_ble_eq_true rfl) ?_
      have hq1 : cqP (mT0 I (nI 1)) N n F T S := cq_t hq
      obtain ⟨z1, z2, z3⟩ := sk_fr (I := I) (I' := (mT0 I (nI 1))) rfl rfl N n F T S
      have hG := go_t (G := G) (d := d + 36 - (skL (mT0 I (nI 1)) N n F T S).length) (e := 1) (v := I 56) (by decide) (sk_inj (I := (mT0 I (nI 1))) (N := N) (n := n) (F := F) (T := T) (S := S))
      refine l_seekAllt (I := (mT0 I (nI 1))) (d := d) (c := ((0, (fun _ => 0)) : TaC)) hq1 hG hl2 taR_0 rfl (fun I' r hr hQ => ?_)
      rw [z1] at hr
      have hRel := sa_rel hQ (fun c I x h => taR_fr h (am_up_ne (by decide)) (am_up_ne (by decide)))
      have htr := sa_tr hQ
      obtain ⟨si1, si2, si3⟩ := sa_si hQ gpT_no
      obtain ⟨cb1, cb2⟩ := sa_cb hQ
      have hsi : siQ I' I := siQ_tr si1 (fun a j p q => by rw [mT0_ne (by omega)])
      have h10 : I' 0 10 = I 0 10 := by rw [si2, mT0_ne (by decide)]
      have h10r : I' 10 = I 10 := by rw [si3, mT0_ne (by decide)]
      rcases nx_cases lim 0 (evI I N n F T S) with ⟨t, ht⟩ | ⟨t, ht⟩ | ⟨t, A, E, ht⟩
      · have hr2 : r = (t, 0, ((0, (fun _ => 0)) : TaC)) := by rw [hr, runS_nx, ht]; rfl
        subst hr2
        refine a_topi (v := 1) rfl ?_
        refine a_if_ne (tgt := 32) dX11_meters_26 (by decide) (fun h26 => ?_) (fun h26 => ?_)
        · refine a_aload_n dX11_meters_32 rfl ?_
          refine a_getr dX11_meters_33 kf_X11_38 ⟨by decide, _, rfl, rfl⟩ ?_
          refine a_geti dX11_meters_36 kf_X11_205 ⟨by decide, _, rfl, rfl⟩ hRel.1 ?_
          refine a_if_ne (tgt := 45) dX11_meters_39 (by decide) (fun g => ?_) (fun g => ?_)
          · exact absurd rfl g
          · refine a_bipush (v := (-9)) dX11_meters_42 (by decide) ?_
            exact a_ireturn dX11_meters_44 ⟨_, rfl, (h1 lim hl1 hl2 rfl I' t ht hsi h10 h10r htr)⟩
        · exact absurd h26 (by decide)
      · have hr2 : r = (t, 1, ((0, (fun _ => 0)) : TaC)) := by rw [hr, runS_nx, ht]; rfl
        subst hr2
        refine a_topi (v := 0) rfl ?_
        refine a_if_ne (tgt := 32) dX11_meters_26 (by decide) (fun h26 => ?_) (fun h26 => ?_)
        · exact absurd h26 (by decide)
        · refine a_bipush (v := (-6)) dX11_meters_29 (by decide) ?_
          exact a_ireturn dX11_meters_31 ⟨_, rfl, (h2 lim hl1 hl2 rfl I' t ht hsi h10 h10r htr)⟩
      · have hr2 : r = (t, 2, ((1, A) : TaC)) := by rw [hr, runS_nx, ht]; rfl
        subst hr2
        refine a_topi (v := 1) rfl ?_
        obtain ⟨w1, w2, w3, w4⟩ := sa_fw (A := A) hq1 hQ
        have h70 : tlI (mT0 I (nI 1)) = tlI I := rfl
        have hF : skF (mT0 I (nI 1)) = skF I := rfl
        have h13 : ∀ k, k < (skL I N n F T S).length → (I' 13 ((skQ I N n F T S) k) = -9 ↔ ((skX I N n F T S) k).isNone = true) := fun k hk => by
          obtain ⟨a1, a2, a3, a4, a5, a6, a7, a8, a9⟩ := id hq
          have h36 : (skQ I N n F T S) k < 36 := Nat.lt_of_lt_of_le (skL_at hk).2.1 (sq_le a2)
          rw [siQ_row hsi (by decide) (by omega), (a9 _ h36).1]
          exact fxO_no (a9 _ h36).2
        refine a_if_ne (tgt := 32) dX11_meters_26 (by decide) (fun h26 => ?_) (fun h26 => ?_)
        · refine a_aload_n dX11_meters_32 rfl ?_
          refine a_getr dX11_meters_33 kf_X11_38 ⟨by decide, _, rfl, rfl⟩ ?_
          refine a_geti dX11_meters_36 kf_X11_205 ⟨by decide, _, rfl, rfl⟩ hRel.1 ?_
          refine a_if_ne (tgt := 45) dX11_meters_39 (by decide) (fun g => ?_) (fun g => ?_)
          · refine a_aload_n dX11_meters_45 rfl ?_
            refine a_getr dX11_meters_46 kf_X11_31 ⟨by decide, _, rfl, rfl⟩ ?_
            refine a_aload_n dX11_meters_49 rfl ?_
            refine a_getr dX11_meters_50 kf_X11_38 ⟨by decide, _, rfl, rfl⟩ ?_
            refine a_callVl (As := [_]) dX11_meters_53 km_X11_254 ⟨by decide, _, _, _, rfl, rfl⟩ rfl rfl (Nat.le_of_ble_eq_true rfl) ?_
            refine s_fewM (I := I) (d := d) (t := t) hq.2.1 w1 w3 hl2 ht w2 w4 h13 (fun em I2 hx e10 e11 => ?_) (fun z s em ebc eb36 I2 hx e10 e11 => ?_)
            · refine a_lstore_n (L' := [_, _, _, _]) dX11_meters_56 (Nat.le_of_ble_eq_true rfl) rfl ?_
              refine a_aload_n dX11_meters_57 rfl ?_
              refine a_aload_n dX11_meters_58 rfl ?_
              refine a_getr dX11_meters_59 kf_X11_31 ⟨by decide, _, rfl, rfl⟩ ?_
              refine a_geti dX11_meters_62 kf_X11_258 ⟨by decide, _, rfl, rfl⟩ e10 ?_
              refine a_puti dX11_meters_65 kp_X11_83 ⟨by decide, _, rfl, rfl⟩ ?_
              refine a_aload_n dX11_meters_68 rfl ?_
              refine a_getr dX11_meters_69 kf_X11_31 ⟨by decide, _, rfl, rfl⟩ ?_
              refine a_geti dX11_meters_72 kf_X11_261 ⟨by decide, _, rfl, rfl⟩ ((congrFun (am_up_ne (by decide)) _).trans e11) ?_
              refine a_if_eq (tgt := 81) dX11_meters_75 (by decide) (fun gs => ?_) (fun gs => ?_)
              · exact absurd gs (by decide)
              · refine a_bipush (v := (-6)) dX11_meters_78 (by decide) ?_
                exact a_ireturn dX11_meters_80 ⟨_, rfl, (h4 lim hl1 hl2 rfl _ t A E ht em (fun a j p q => by by_cases e : a = 0; (subst e; rw [am_up_slot (p rfl).2, hx 0 j (by decide) (by decide) (by decide) (by decide) (by decide) (by decide) (by omega)]; exact hsi 0 j p q); rw [am_up_ne e, hx a j (by omega) (by omega) (by omega) (by omega) (by omega) (by omega) (by omega)]; exact hsi a j p q) (by rw [am_up_slot (by decide), hx 0 10 (by decide) (by decide) (by decide) (by decide) (by decide) (by decide) (by decide)]; exact h10) (by rw [am_up_ne (by decide)]; exact (funext fun j => hx 10 j (by decide) (by decide) (by decide) (by decide) (by decide) (by decide) (by omega)).trans h10r) (by rw [am_up_same]))⟩
            · refine a_lstore_n (L' := [_, _, _, _]) dX11_meters_56 (Nat.le_of_ble_eq_true rfl) rfl ?_
              refine a_aload_n dX11_meters_57 rfl ?_
              refine a_aload_n dX11_meters_58 rfl ?_
              refine a_getr dX11_meters_59 kf_X11_31 ⟨by decide, _, rfl, rfl⟩ ?_
              refine a_geti dX11_meters_62 kf_X11_258 ⟨by decide, _, rfl, rfl⟩ e10 ?_
              refine a_puti dX11_meters_65 kp_X11_83 ⟨by decide, _, rfl, rfl⟩ ?_
              refine a_aload_n dX11_meters_68 rfl ?_
              refine a_getr dX11_meters_69 kf_X11_31 ⟨by decide, _, rfl, rfl⟩ ?_
              refine a_geti dX11_meters_72 kf_X11_261 ⟨by decide, _, rfl, rfl⟩ ((congrFun (am_up_ne (by decide)) _).trans e11) ?_
              refine a_if_eq (tgt := 81) dX11_meters_75 (by decide) (fun gs => ?_) (fun gs => ?_)
              · refine a_aload_n dX11_meters_81 rfl ?_
                refine a_lload_n dX11_meters_82 rfl ?_
                refine a_putl dX11_meters_83 kp_X11_87 ⟨by decide, _, rfl, rfl⟩ ?_
                refine a_lload_n dX11_meters_86 rfl ?_
                refine a_callSi (As := [_]) dX11_meters_87 km_X11_264 rfl rfl (Nat.le_of_ble_eq_true rfl) ?_
                refine j_bitCount eb36 ?_
                rw [ebc]
                exact a_ireturn dX11_meters_90 ⟨_, rfl, (h5 lim hl1 hl2 rfl _ t A E ht z s em (fun a j p q => by by_cases e : a = 0; (subst e; rw [am_up_slot (p rfl).2, hx 0 j (by decide) (by decide) (by decide) (by decide) (by decide) (by decide) (by omega)]; exact hsi 0 j p q); rw [am_up_ne e, hx a j (by omega) (by omega) (by omega) (by omega) (by omega) (by omega) (by omega)]; exact hsi a j p q) (by rw [am_up_slot (by decide), hx 0 10 (by decide) (by decide) (by decide) (by decide) (by decide) (by decide) (by decide)]; exact h10) (by rw [am_up_ne (by decide)]; exact (funext fun j => hx 10 j (by decide) (by decide) (by decide) (by decide) (by decide) (by decide) (by omega)).trans h10r) (by rw [am_up_same]))⟩
              · exact absurd rfl gs
          · exact absurd (show nI 1 = 0 from g) (by decide)
        · exact absurd h26 (by decide)
    · exact absurd g4 (by decide)
  · refine a_if_ne (tgt := 9) dX11_meters_4 (by decide) (fun g4 => ?_) (fun g4 => ?_)
    · exact absurd g4 (by decide)
    · refine a_iconst (v := (-1)) dX11_meters_7 (by decide) ?_
      exact a_ireturn dX11_meters_8 ⟨_, rfl, (h0 e0)⟩

