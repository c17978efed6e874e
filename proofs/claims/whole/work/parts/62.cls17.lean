/-! ===== the system: changed, worst, meters ===== -/
def mBz (I : am_I) (g : Nat) : am_I := am_up (am_up I g 1 (nI 0)) g 2 (nI 0)
theorem mBz_ne {I : am_I} {g a : Nat} (h : a ≠ g) : mBz I g a = I a := by
  unfold mBz; rw [am_up_ne h, am_up_ne h]
theorem bsR_0 {I : am_I} {g k : Nat} {X : am_I → Prop} {sq : Nat → Nat} {m : Nat} (hg : g = 7 ∨ g = 8) {Ib : am_I} (h1 : Ib g 1 = nI 0) (h2 : Ib g 2 = nI 0) (hX : ∀ I', frZ I' (am_up Ib 0 10 (nI 0)) → X I') : ∀ I', frZ I' (am_up Ib 0 10 (nI 0)) → bsR g k X sq m bs0 I' := fun I' hf => by
  have e : I' g = Ib g := by rw [frZ_row hf (by omega) (by omega), am_up_ne (by omega)]
  refine ⟨?_, ?_, hX I' hf, fun z => absurd z (by decide)⟩
  · rw [e, h1]; rfl
  · rw [e, h2]; rfl
theorem bsR_11 {r1 r2 : Nat} {X : am_I → Prop} {sq : Nat → Nat} {m : Nat} (h1 : r1 ≠ 0) (h2 : r2 ≠ 0) (hX : ∀ I x, X I → X (am_up I 0 11 x)) : ∀ c I x, bsR r1 r2 X sq m c I → bsR r1 r2 X sq m c (am_up I 0 11 x) := fun c I x h => by
  unfold bsR
  rw [am_up_ne h1, am_up_ne h2]
  exact ⟨h.1, h.2.1, hX I x h.2.2.1, h.2.2.2⟩
theorem xxF_11 {x : Nat → Int32} : ∀ I y, xxF x I → xxF x (am_up I 0 11 y) := fun I y h p hp => by rw [am_up_ne (by decide)]; exact h p hp
theorem xxH_11 {x : Nat → Int32} : ∀ I y, xxH x I → xxH x (am_up I 0 11 y) := fun I y h p hp => by rw [am_up_ne (by decide)]; exact h p hp
theorem fw_run {I : am_I} {N n : Nat} {F T : Nat → Nat} {S : Nat → Bool} {lim : Nat} {ba : Nat → Int32} {r : Nat × Nat × BsC} (hN : N ≤ 6) (hb0 : ∀ p, N * N ≤ p → p < 36 → ba p = nI 0) (hr : r = runS (bsP (vaF ba (skQ I N n F T S) (skL I N n F T S).length)) lim 0 (evI I N n F T S) bs0) : r.1 = (runS (beP btC (fun A => chR ba (N * N) (skQ I N n F T S) A (skL I N n F T S).length)) lim 0 (evI I N n F T S) (-9, none)).1 ∧ r.2.1 = (runS (beP btC (fun A => chR ba (N * N) (skQ I N n F T S) A (skL I N n F T S).length)) lim 0 (evI I N n F T S) (-9, none)).2.1 ∧ fwL r.2.2 (runS (beP btC (fun A => chR ba (N * N) (skQ I N n F T S) A (skL I N n F T S).length)) lim 0 (evI I N n F T S) (-9, none)).2.2 := by
  rw [hr]
  refine runS_sim fwL (fun _ => True) (fun c e A _ h => fw_step c e A ⟨?_, _, cN_le _ 36, rfl⟩ h) _ (fun _ _ => trivial) 0 bs0 (-9, none) ⟨fun _ => rfl, fun z => absurd z (by decide)⟩
  exact (ch_va sk_inj (fun j hj => Nat.lt_of_lt_of_le (skL_at hj).2.1 (sq_le hN)) (sq_le hN) hb0 _ (Nat.le_refl _)).symm
theorem hv_run {I : am_I} {N n : Nat} {F T : Nat → Nat} {S : Nat → Bool} {lim : Nat} {go : Nat → Int32} {th : Nat → Nat} {r : Nat × Nat × BsC} (hN : N ≤ 6) (hg : ∀ p, p < 36 → go p = nI (th p) ∧ th p ≤ 1) (hr : r = runS (bsP (vaH go (skQ I N n F T S) (skL I N n F T S).length)) lim 0 (evI I N n F T S) bs0) : r.1 = (runS (beP btW (fun A => nI (wsN th (skQ I N n F T S) A (skL I N n F T S).length))) lim 0 (evI I N n F T S) (-9, none)).1 ∧ r.2.1 = (runS (beP btW (fun A => nI (wsN th (skQ I N n F T S) A (skL I N n F T S).length))) lim 0 (evI I N n F T S) (-9, none)).2.1 ∧ hvL r.2.2 (runS (beP btW (fun A => nI (wsN th (skQ I N n F T S) A (skL I N n F T S).length))) lim 0 (evI I N n F T S) (-9, none)).2.2 := by
  have hsk : ∀ j, j < (skL I N n F T S).length → skQ I N n F T S j < 36 := fun j hj => Nat.lt_of_lt_of_le (skL_at hj).2.1 (sq_le hN)
  have hm : (skL I N n F T S).length ≤ 36 := Nat.le_trans (sqL_len _ _ _ _) (sq_le hN)
  rw [hr]
  refine runS_sim hvL (fun A => ∀ j, j < (skL I N n F T S).length → A j ≤ 200) (fun c e A hA h => hv_step c e A ⟨wsN th (skQ I N n F T S) A (skL I N n F T S).length, ?_, ?_, rfl⟩ h) _ (fun A hA => ev_200 hA) 0 bs0 (-9, none) ⟨fun _ => rfl, fun z => absurd z (by decide)⟩
  · have := wsN_le (th := th) (sq := skQ I N n F T S) hA (fun j hj => (hg _ (hsk j hj)).2) _ (Nat.le_refl _)
    omega
  · unfold vaH
    rw [show sI (fun p => if go p = 0 then nI 0 else kp0 (skQ I N n F T S) (skL I N n F T S).length A p) 36 = nI (wsN th (skQ I N n F T S) A (skL I N n F T S).length) from ws_va sk_inj hsk hg _ (Nat.le_refl _)]
theorem gb_rb {R : Nat → Option (List Nat)} {x p : Nat} : gbQ R x p = ((rbR R p).getD 0).testBit x := by
  unfold gbQ rbR
  rcases R p with _ | l
  · simp
  · rcases l with _ | ⟨y, ys⟩
    · simp
    · simp only [reduceCtorEq, if_false, Option.getD_some]
      rw [bN_test]
      simp
set_option maxHeartbeats 4000000 in
set_option maxRecDepth 100000 in
theorem l_changed {G : am_G} {d : Nat} {I : am_I} {J : am_J} {K : Int32 → am_I → am_J → Prop} {N n : Nat} {F T : Nat → Nat} {S : Nat → Bool} {x : Int32} {ba : Nat → Int32} (hq : cqP I N n F T S) (hba : ∀ p, p < 36 → I 14 p = ba p) (hb0 : ∀ p, N * N ≤ p → p < 36 → ba p = nI 0) (h1 : ∀ lim, 1 ≤ lim → lim ≤ 20000 → x = nI lim → ∀ I' t c, runS (beP btC (fun A => chR ba (N * N) (skQ I N n F T S) A (skL I N n F T S).length)) lim 0 (evI I N n F T S) (-9, none) = (t, 0, c) → siQ I' I → I' 0 11 = nI t → kcP I' (skQ I N n F T S) (skL I N n F T S).length c.2 → K c.1 I' J) (h2 : ∀ lim, 1 ≤ lim → lim ≤ 20000 → x = nI lim → ∀ I' t c, runS (beP btC (fun A => chR ba (N * N) (skQ I N n F T S) A (skL I N n F T S).length)) lim 0 (evI I N n F T S) (-9, none) = (t, 1, c) → siQ I' I → I' 0 11 = nI t → I' 0 10 = nI 0 → K (-6) I' J) (h0 : ¬ (nI 1 ≤ x ∧ x ≤ nI 20000) → K (-1) I J) : CMi G (d + 42) yX11_changed [.ref 0, .int x] I J K := by
  refine CM.of (L0 := [_, _]) cX11_changed 2 (some .int) (by decide) (by decide) kcX11_changed (Nat.le_of_ble_eq_true rfl) rfl ?_
  refine a_iload_n dX11_changed_0 rfl ?_
  refine a_callSi (As := [_]) dX11_changed_1 km_X11_197 rfl rfl (Nat.le_of_ble_eq_true rfl) ?_
  refine l_isTries (fun lim hl1 hl2 el => ?_) (fun e0 => ?_)
  · subst el
    refine a_if_ne (tgt := 9) dX11_changed_4 (by decide) (fun h4 => ?_) (fun h4 => ?_)
    · refine a_aload_n dX11_changed_9 rfl ?_
      refine a_getr dX11_changed_10 kf_X11_58 ⟨by decide, _, rfl, rfl⟩ ?_
      refine a_callUv (As := []) dX11_changed_13 ku_X11_239_X1 ⟨by decide, _, _, _, rfl, rfl⟩ rfl rfl (Nat.le_of_ble_eq_true rfl) ?_
      refine f_begin ?_
      refine a_aload_n dX11_changed_16 rfl ?_
      refine a_aload_n dX11_changed_17 rfl ?_
      refine a_getr dX11_changed_18 kf_X11_58 ⟨by decide, _, rfl, rfl⟩ ?_
      refine a_iload_n dX11_changed_21 rfl ?_
      refine a_callVi (As := [_, _]) dX11_changed_22 km_X11_240 ⟨by decide, _, _, _, rfl, rfl⟩ rfl rfl (Nat.le_of_ble_eq_true rfl) ?_
      have h70 : (mBz I 7) 70 = I 70 := mBz_ne (by decide)
      have h72 : (mBz I 7) 72 = I 72 := mBz_ne (by decide)
      have hsib : siQ (am_up (mBz I 7) 0 10 (nI 0)) I := fun a j p q => by by_cases e : a = 0; (subst e; rw [am_up_slot (p rfl).1, mBz_ne (by decide)]); rw [am_up_ne e, mBz_ne (by omega)]
      have hq1 : cqP (mBz I 7) N n F T S := cq_fr hq (mBz_ne (by decide)) (mBz_ne (by decide)) (mBz_ne (by decide)) (mBz_ne (by decide)) (mBz_ne (by decide)) (mBz_ne (by decide)) (mBz_ne (by decide)) (fun l _ => by rw [mBz_ne (by omega)])
      obtain ⟨z1, z2, z3⟩ := sk_fr (I := I) (I' := (mBz I 7)) h70 h72 N n F T S
      have hG := go_f (G := G) (d := d + 36 - (skL (mBz I 7) N n F T S).length) (x := ba) (sk_inj (I := (mBz I 7)) (N := N) (n := n) (F := F) (T := T) (S := S))
      refine l_seekBestf (I := (mBz I 7)) (d := d) (c := bs0) (an := fun c => c.1) hq1 hG hl2 (bsR_0 (I := I) (Or.inl rfl) (by unfold mBz; rw [am_up_slot (by decide), am_up_same]) (by unfold mBz; rw [am_up_same]) (fun I' hf p hp => by rw [frZ_row hf (by omega) (by omega), am_up_ne (by decide), mBz_ne (by decide)]; exact hba p hp)) rfl (fun c I h => h.1) (bsR_11 (by decide) (by decide) xxF_11) (fun I' r hr hQ g1 => ?_) (fun I' r hr hQ g1 g2 => ?_) (fun I' r hr hQ g1 g2 => ?_)
      · rw [z1, z2, z3] at hr
        have htr := sa_tr hQ
        have hRel := sa_rel hQ (bsR_11 (by decide) (by decide) xxF_11)
        obtain ⟨si1, si2, si3⟩ := sa_si hQ gpF_no
        have hsi : siQ I' I := siQ_tr si1 hsib
        have h10 : I' 0 10 = nI 0 := by rw [si2, am_up_same]
        obtain ⟨c1, c2, c3⟩ := fw_run (I := I) hq.2.1 hb0 hr
        rcases er : runS (beP btC (fun A => chR ba (N * N) (skQ I N n F T S) A (skL I N n F T S).length)) lim 0 (evI I N n F T S) (-9, none) with ⟨t, st, c⟩
        rw [er] at c1 c2 c3
        replace c1 : r.1 = t := c1
        replace c2 : r.2.1 = st := c2
        replace c3 : fwL r.2.2 c := c3
        rw [c1] at htr
        have hst := st_01 (step := (beP btC (fun A => chR ba (N * N) (skQ I N n F T S) A (skL I N n F T S).length))) (lim := lim) (fun _ _ => rfl) (evI I N n F T S) 0 (-9, none)
        rw [er] at hst
        replace hst : st = 0 ∨ st = 1 := hst
        obtain rfl : st = 1 := by rw [← c2]; exact g1
        refine a_if_ne (tgt := 31) dX11_changed_25 (by decide) (fun h25 => ?_) (fun h25 => ?_)
        · exact absurd h25 (by decide)
        · refine a_bipush (v := (-6)) dX11_changed_28 (by decide) ?_
          exact a_ireturn dX11_changed_30 ⟨_, rfl, (h2 lim hl1 hl2 rfl I' t c er hsi htr h10)⟩
      · rw [z1, z2, z3] at hr
        have htr := sa_tr hQ
        have hRel := sa_rel hQ (bsR_11 (by decide) (by decide) xxF_11)
        obtain ⟨si1, si2, si3⟩ := sa_si hQ gpF_no
        have hsi : siQ I' I := siQ_tr si1 hsib
        have h10 : I' 0 10 = nI 0 := by rw [si2, am_up_same]
        obtain ⟨c1, c2, c3⟩ := fw_run (I := I) hq.2.1 hb0 hr
        rcases er : runS (beP btC (fun A => chR ba (N * N) (skQ I N n F T S) A (skL I N n F T S).length)) lim 0 (evI I N n F T S) (-9, none) with ⟨t, st, c⟩
        rw [er] at c1 c2 c3
        replace c1 : r.1 = t := c1
        replace c2 : r.2.1 = st := c2
        replace c3 : fwL r.2.2 c := c3
        rw [c1] at htr
        have hst := st_01 (step := (beP btC (fun A => chR ba (N * N) (skQ I N n F T S) A (skL I N n F T S).length))) (lim := lim) (fun _ _ => rfl) (evI I N n F T S) 0 (-9, none)
        rw [er] at hst
        replace hst : st = 0 ∨ st = 1 := hst
        obtain rfl : st = 0 := hst.resolve_right (fun z => g1 (c2.trans z))
        have ec := c3.1 g2
        have hk := h1 lim hl1 hl2 rfl I' t c er hsi htr (by rw [ec]; exact h10)
        rw [ec] at hk
        refine a_if_ne (tgt := 31) dX11_changed_25 (by decide) (fun h25 => ?_) (fun h25 => ?_)
        · refine a_aload_n dX11_changed_31 rfl ?_
          refine a_getr dX11_changed_32 kf_X11_58 ⟨by decide, _, rfl, rfl⟩ ?_
          refine a_geti dX11_changed_35 kf_X11_244 ⟨by decide, _, rfl, rfl⟩ hRel.1 ?_
          refine a_if_eq (tgt := 51) dX11_changed_38 (by decide) (fun g => ?_) (fun g => ?_)
          · refine a_bipush (v := (-9)) dX11_changed_51 (by decide) ?_
            exact a_ireturn dX11_changed_53 ⟨_, rfl, hk⟩
          · exact absurd (by show bI r.2.2.1 = 0; rw [show r.2.2.1 = false from g2]; rfl) g
        · exact absurd h25 (by decide)
      · rw [z1, z2, z3] at hr
        have htr := sa_tr hQ
        have hRel := sa_rel hQ (bsR_11 (by decide) (by decide) xxF_11)
        obtain ⟨si1, si2, si3⟩ := sa_si hQ gpF_no
        have hsi : siQ I' I := siQ_tr si1 hsib
        have h10 : I' 0 10 = nI 0 := by rw [si2, am_up_same]
        obtain ⟨c1, c2, c3⟩ := fw_run (I := I) hq.2.1 hb0 hr
        rcases er : runS (beP btC (fun A => chR ba (N * N) (skQ I N n F T S) A (skL I N n F T S).length)) lim 0 (evI I N n F T S) (-9, none) with ⟨t, st, c⟩
        rw [er] at c1 c2 c3
        replace c1 : r.1 = t := c1
        replace c2 : r.2.1 = st := c2
        replace c3 : fwL r.2.2 c := c3
        rw [c1] at htr
        have hst := st_01 (step := (beP btC (fun A => chR ba (N * N) (skQ I N n F T S) A (skL I N n F T S).length))) (lim := lim) (fun _ _ => rfl) (evI I N n F T S) 0 (-9, none)
        rw [er] at hst
        replace hst : st = 0 ∨ st = 1 := hst
        obtain rfl : st = 0 := hst.resolve_right (fun z => g1 (c2.trans z))
        obtain ⟨ec, _⟩ := c3.2 g2
        have hk := h1 lim hl1 hl2 rfl (am_up (am_cp I' 10 (I' 59) 0 0 36) 0 10 (nI 1)) t c er (fun a j p q => by by_cases e : a = 0; (subst e; rw [am_up_slot (p rfl).1, am_cp_ne (by decide)]; exact hsi 0 j p q); rw [am_up_ne e, am_cp_ne (by omega)]; exact hsi a j p q) (by rw [am_up_slot (by decide), am_cp_ne (by decide)]; exact htr) (by rw [ec]; exact ⟨by rw [am_up_same], fun p hp => by rw [am_up_ne (by decide), cp_at hp]; have hk4 := hRel.2.2.2 g2 p hp; rw [z2, z3] at hk4; exact hk4⟩)
        rw [ec] at hk
        refine a_if_ne (tgt := 31) dX11_changed_25 (by decide) (fun h25 => ?_) (fun h25 => ?_)
        · refine a_aload_n dX11_changed_31 rfl ?_
          refine a_getr dX11_changed_32 kf_X11_58 ⟨by decide, _, rfl, rfl⟩ ?_
          refine a_geti dX11_changed_35 kf_X11_244 ⟨by decide, _, rfl, rfl⟩ ((congrFun ((am_up_ne (by decide)).trans (am_cp_ne (by decide))) 1).trans hRel.1) ?_
          refine a_if_eq (tgt := 51) dX11_changed_38 (by decide) (fun g => ?_) (fun g => ?_)
          · exact absurd g (by show ¬ bI r.2.2.1 = 0; rw [show r.2.2.1 = true from g2]; decide)
          · refine a_aload_n dX11_changed_41 rfl ?_
            refine a_getr dX11_changed_42 kf_X11_58 ⟨by decide, _, rfl, rfl⟩ ?_
            refine a_geti dX11_changed_45 kf_X11_245 ⟨by decide, _, rfl, rfl⟩ ((congrFun ((am_up_ne (by decide)).trans (am_cp_ne (by decide))) 2).trans hRel.2.1) ?_
            refine a_goto (tgt := 53) dX11_changed_48 (by decide) ?_
            exact a_ireturn dX11_changed_53 ⟨_, rfl, hk⟩
        · exact absurd h25 (by decide)
    · exact absurd h4 (by decide)
  · refine a_if_ne (tgt := 9) dX11_changed_4 (by decide) (fun h4 => ?_) (fun h4 => ?_)
    · exact absurd h4 (by decide)
    · refine a_iconst (v := (-1)) dX11_changed_7 (by decide) ?_
      exact a_ireturn dX11_changed_8 ⟨_, rfl, (h0 e0)⟩

def mG0 (Ia : am_I) (R : Nat → Option (List Nat)) (m x : Nat) : am_I := mGo (am_up (am_up Ia 8 1 (nI 0)) 8 2 (nI 0)) R m x 36
theorem mG0_ne {Ia : am_I} {R : Nat → Option (List Nat)} {m x a : Nat} (h1 : a ≠ 8) (h2 : a ≠ 61) : mG0 Ia R m x a = Ia a := by
  funext b
  simp [mG0, mGo, h2, am_up_ne h1]
set_option maxHeartbeats 4000000 in
set_option maxRecDepth 100000 in
theorem l_worst {G : am_G} {d : Nat} {I : am_I} {J : am_J} {K : Int32 → am_I → am_J → Prop} {N n : Nat} {F T : Nat → Nat} {S : Nat → Bool} {x y z : Int32} (hq : cqP I N n F T S) (hS2 : ∀ q, q < n → rwC I (nI q) N n F T (shB I (nI q))) (h1 : ∀ l q lim, l < n → q < n → l ≠ q → x = nI l → y = nI q → 1 ≤ lim → lim ≤ 20000 → z = nI lim → I (20 + l) 3 = 0 → I (20 + q) 3 = 0 → ∀ I' t c, runS (beP btW (fun A => nI (wsN (thN (rbO F T (shB I (nI q)) n N) l (N * N)) (skQ I N n F T S) A (skL I N n F T S).length))) lim 0 (evI I N n F T S) (-9, none) = (t, 0, c) → siQ I' I → I' 0 11 = nI t → kcP I' (skQ I N n F T S) (skL I N n F T S).length c.2 → K c.1 I' J) (h2 : ∀ l q lim, l < n → q < n → l ≠ q → x = nI l → y = nI q → 1 ≤ lim → lim ≤ 20000 → z = nI lim → I (20 + l) 3 = 0 → I (20 + q) 3 = 0 → ∀ I' t c, runS (beP btW (fun A => nI (wsN (thN (rbO F T (shB I (nI q)) n N) l (N * N)) (skQ I N n F T S) A (skL I N n F T S).length))) lim 0 (evI I N n F T S) (-9, none) = (t, 1, c) → siQ I' I → I' 0 11 = nI t → I' 0 10 = nI 0 → K (-6) I' J) (h4 : ∀ l q, l < n → q < n → l ≠ q → x = nI l → y = nI q → (nI 1 ≤ z ∧ z ≤ nI 20000) → (I (20 + l) 3 ≠ 0 ∨ I (20 + q) 3 ≠ 0) → K (-4) I J) (h0 : ¬ (isLn n x ∧ isLn n y ∧ x ≠ y ∧ nI 1 ≤ z ∧ z ≤ nI 20000) → K (-1) I J) : CMi G (d + 42) yX11_worst [.ref 0, .int x, .int y, .int z] I J K := by
  refine CM.of (L0 := [_, _, _, _]) cX11_worst 4 (some .int) (by decide) (by decide) kcX11_worst (Nat.le_of_ble_eq_true rfl) rfl ?_
  have hn := hq.2.2.2.1
  have hn12 := hq.2.2.2.2.1
  refine a_aload_n dX11_worst_0 rfl ?_
  refine a_getr dX11_worst_1 kf_X11_10 ⟨by decide, _, rfl, rfl⟩ ?_
  refine a_iload_n dX11_worst_4 rfl ?_
  refine a_callVi (As := [_]) dX11_worst_5 km_X11_116 ⟨by decide, _, _, _, rfl, rfl⟩ rfl rfl (Nat.le_of_ble_eq_true rfl) ?_
  refine n_isLine hn (by omega) (fun l hl el => ?_) (fun e0 => ?_)
  · subst el
    have hl12 : l < 12 := by omega
    refine a_if_eq (tgt := 34) dX11_worst_8 (by decide) (fun h8 => ?_) (fun h8 => ?_)
    · exact absurd h8 (by decide)
    · refine a_aload_n dX11_worst_11 rfl ?_
      refine a_getr dX11_worst_12 kf_X11_10 ⟨by decide, _, rfl, rfl⟩ ?_
      refine a_iload_n dX11_worst_15 rfl ?_
      refine a_callVi (As := [_]) dX11_worst_16 km_X11_116 ⟨by decide, _, _, _, rfl, rfl⟩ rfl rfl (Nat.le_of_ble_eq_true rfl) ?_
      refine n_isLine hn (by omega) (fun q hq0 eq => ?_) (fun e0 => ?_)
      · subst eq
        have hq12 : q < 12 := by omega
        refine a_if_eq (tgt := 34) dX11_worst_19 (by decide) (fun h19 => ?_) (fun h19 => ?_)
        · exact absurd h19 (by decide)
        · refine a_iload_n dX11_worst_22 rfl ?_
          refine a_iload_n dX11_worst_23 rfl ?_
          refine a_icmp_eqN (tgt := 34) dX11_worst_24 (by decide) (by omega) (by omega) (fun gq => ?_) (fun gq => ?_)
          · refine a_iconst (v := (-1)) dX11_worst_34 (by decide) ?_
            exact a_ireturn dX11_worst_35 ⟨_, rfl, (h0 (fun z => z.2.2.1 (by rw [gq])))⟩
          · refine a_iload_n dX11_worst_27 rfl ?_
            refine a_callSi (As := [_]) dX11_worst_28 km_X11_197 rfl rfl (Nat.le_of_ble_eq_true rfl) ?_
            refine l_isTries (fun lim hl1 hl2 el => ?_) (fun e0 => ?_)
            · subst el
              refine a_if_ne (tgt := 36) dX11_worst_31 (by decide) (fun h31 => ?_) (fun h31 => ?_)
              · refine a_aload_n dX11_worst_36 rfl ?_
                refine a_getr dX11_worst_37 kf_X11_10 ⟨by decide, _, rfl, rfl⟩ ?_
                refine a_getr dX11_worst_40 kf_X11_120 ⟨by decide, _, rfl, rfl⟩ ?_
                refine a_iload_n dX11_worst_43 rfl ?_
                refine a_aald dX11_worst_44 ⟨by decide, rfl⟩ (by decide) (by omega) rfl ?_
                refine a_geti dX11_worst_45 kf_X11_135 (sh_at (by omega) rfl) rfl ?_
                refine a_if_ne (tgt := 66) dX11_worst_48 (by decide) (fun gd => ?_) (fun gd => ?_)
                · refine a_bipush (v := (-4)) dX11_worst_66 (by decide) ?_
                  exact a_ireturn dX11_worst_68 ⟨_, rfl, (h4 l q hl hq0 gq rfl rfl ⟨(nI_leI (by decide) (by omega)).mpr hl1, (nI_leI (by omega) (by decide)).mpr hl2⟩ (Or.inl gd))⟩
                · refine a_aload_n dX11_worst_51 rfl ?_
                  refine a_getr dX11_worst_52 kf_X11_10 ⟨by decide, _, rfl, rfl⟩ ?_
                  refine a_getr dX11_worst_55 kf_X11_120 ⟨by decide, _, rfl, rfl⟩ ?_
                  refine a_iload_n dX11_worst_58 rfl ?_
                  refine a_aald dX11_worst_59 ⟨by decide, rfl⟩ (by decide) (by omega) rfl ?_
                  refine a_geti dX11_worst_60 kf_X11_135 (sh_at (by omega) rfl) rfl ?_
                  refine a_if_eq (tgt := 69) dX11_worst_63 (by decide) (fun ge => ?_) (fun ge => ?_)
                  · refine a_aload_n dX11_worst_69 rfl ?_
                    refine a_getr dX11_worst_70 kf_X11_23 ⟨by decide, _, rfl, rfl⟩ ?_
                    refine a_aload_n dX11_worst_73 rfl ?_
                    refine a_getr dX11_worst_74 kf_X11_10 ⟨by decide, _, rfl, rfl⟩ ?_
                    refine a_iload_n dX11_worst_77 rfl ?_
                    refine a_callVv (As := [_, _]) dX11_worst_78 km_X11_97 ⟨by decide, _, _, _, rfl, rfl⟩ rfl rfl (Nat.le_of_ble_eq_true rfl) ?_
                    obtain ⟨a1, a2, a3, a4, a5, a6, a7, a8, a9⟩ := id hq
                    refine r_findb (hS2 q hq0) (fun Ia hfa hva => ?_)
                    have hgo : ∀ p, p < 36 → (fun p => nI (if p < N * N ∧ gbQ (RoC F T (shB I (nI q)) n N) l p = true then 1 else 0)) p = nI (thN (rbO F T (shB I (nI q)) n N) l (N * N) p) ∧ thN (rbO F T (shB I (nI q)) n N) l (N * N) p ≤ 1 := fun p hp => by
                      have hg2 : (p < N * N ∧ gbQ (RoC F T (shB I (nI q)) n N) l p = true) ↔ (p < N * N ∧ ((rbO F T (shB I (nI q)) n N p).getD 0).testBit l = true) := by
                        constructor
                        · rintro ⟨u1, u2⟩; rw [gb_rb, rbR_RoC a2 (fun l hl => (a6 l hl).2) u1] at u2; exact ⟨u1, u2⟩
                        · rintro ⟨u1, u2⟩; refine ⟨u1, ?_⟩; rw [gb_rb, rbR_RoC a2 (fun l hl => (a6 l hl).2) u1]; exact u2
                      refine ⟨?_, ?_⟩
                      · show nI (if _ then 1 else 0) = nI (if _ then 1 else 0)
                        simp only [hg2]
                      · unfold thN; split <;> omega
                    refine a_aload_n dX11_worst_81 rfl ?_
                    refine a_getr dX11_worst_82 kf_X11_65 ⟨by decide, _, rfl, rfl⟩ ?_
                    refine a_iload_n dX11_worst_85 rfl ?_
                    refine a_aload_n dX11_worst_86 rfl ?_
                    refine a_getr dX11_worst_87 kf_X11_23 ⟨by decide, _, rfl, rfl⟩ ?_
                    refine a_callVv (As := [_, _]) dX11_worst_90 km_X11_248 ⟨by decide, _, _, _, rfl, rfl⟩ rfl rfl (Nat.le_of_ble_eq_true rfl) ?_
                    refine h_beginOn (n := n) (rv_rl hva a1 a2 (fun l hl => (a6 l hl).2)) (sq_le a2) hva.1 hn12 hl12 ?_
                    refine a_aload_n dX11_worst_93 rfl ?_
                    refine a_aload_n dX11_worst_94 rfl ?_
                    refine a_getr dX11_worst_95 kf_X11_65 ⟨by decide, _, rfl, rfl⟩ ?_
                    refine a_iload_n dX11_worst_98 rfl ?_
                    refine a_callVi (As := [_, _]) dX11_worst_99 km_X11_240 ⟨by decide, _, _, _, rfl, rfl⟩ rfl rfl (Nat.le_of_ble_eq_true rfl) ?_
                    have hrow : ∀ a, a ≠ 3 → a ≠ 47 → a ≠ 48 → a ≠ 49 → a ≠ 8 → a ≠ 61 → (mG0 Ia (RoC F T (shB I (nI q)) n N) (N * N) l) a = I a := fun a b1 b2 b3 b4 b5 b6 => by rw [mG0_ne b5 b6]; exact hfa a b1 b2 b3 b4
                    have h70 : (mG0 Ia (RoC F T (shB I (nI q)) n N) (N * N) l) 70 = I 70 := hrow 70 (by decide) (by decide) (by decide) (by decide) (by decide) (by decide)
                    have h72 : (mG0 Ia (RoC F T (shB I (nI q)) n N) (N * N) l) 72 = I 72 := hrow 72 (by decide) (by decide) (by decide) (by decide) (by decide) (by decide)
                    have hsib : siQ (am_up (mG0 Ia (RoC F T (shB I (nI q)) n N) (N * N) l) 0 10 (nI 0)) I := fun a j p q => by by_cases e : a = 0; (subst e; rw [am_up_slot (p rfl).1, hrow 0 (by decide) (by decide) (by decide) (by decide) (by decide) (by decide)]); rw [am_up_ne e, hrow a (by omega) (by omega) (by omega) (by omega) (by omega) (by omega)]
                    have hq1 : cqP (mG0 Ia (RoC F T (shB I (nI q)) n N) (N * N) l) N n F T S := cq_fr hq (hrow 1 (by decide) (by decide) (by decide) (by decide) (by decide) (by decide)) (hrow 2 (by decide) (by decide) (by decide) (by decide) (by decide) (by decide)) (hrow 44 (by decide) (by decide) (by decide) (by decide) (by decide) (by decide)) (hrow 45 (by decide) (by decide) (by decide) (by decide) (by decide) (by decide)) (hrow 13 (by decide) (by decide) (by decide) (by decide) (by decide) (by decide)) (hrow 70 (by decide) (by decide) (by decide) (by decide) (by decide) (by decide)) (hrow 72 (by decide) (by decide) (by decide) (by decide) (by decide) (by decide)) (fun l _ => by rw [hrow _ (by omega) (by omega) (by omega) (by omega) (by omega) (by omega)])
                    obtain ⟨z1, z2, z3⟩ := sk_fr (I := I) (I' := (mG0 Ia (RoC F T (shB I (nI q)) n N) (N * N) l)) h70 h72 N n F T S
                    have hG := go_h (G := G) (d := d + 36 - (skL (mG0 Ia (RoC F T (shB I (nI q)) n N) (N * N) l) N n F T S).length) (x := (fun p => nI (if p < N * N ∧ gbQ (RoC F T (shB I (nI q)) n N) l p = true then 1 else 0))) (sk_inj (I := (mG0 Ia (RoC F T (shB I (nI q)) n N) (N * N) l)) (N := N) (n := n) (F := F) (T := T) (S := S))
                    refine l_seekBesth (I := (mG0 Ia (RoC F T (shB I (nI q)) n N) (N * N) l)) (d := d) (c := bs0) (an := fun c => c.1) hq1 hG hl2 (bsR_0 (I := I) (Or.inr rfl) (by simp [mG0, mGo, am_up]) (by simp [mG0, mGo, am_up]) (fun I' hf p hp => by rw [frZ_row hf (by omega) (by omega), am_up_ne (by decide)]; simp [mG0, mGo, hp])) rfl (fun c I h => h.1) (bsR_11 (by decide) (by decide) xxH_11) (fun I' r hr hQ g1 => ?_) (fun I' r hr hQ g1 g2 => ?_) (fun I' r hr hQ g1 g2 => ?_)
                    · rw [z1, z2, z3] at hr
                      have htr := sa_tr hQ
                      have hRel := sa_rel hQ (bsR_11 (by decide) (by decide) xxH_11)
                      obtain ⟨si1, si2, si3⟩ := sa_si hQ gpH_no
                      have hsi : siQ I' I := siQ_tr si1 hsib
                      have h10 : I' 0 10 = nI 0 := by rw [si2, am_up_same]
                      obtain ⟨c1, c2, c3⟩ := hv_run (I := I) hq.2.1 hgo hr
                      rcases er : runS (beP btW (fun A => nI (wsN (thN (rbO F T (shB I (nI q)) n N) l (N * N)) (skQ I N n F T S) A (skL I N n F T S).length))) lim 0 (evI I N n F T S) (-9, none) with ⟨t, st, c⟩
                      rw [er] at c1 c2 c3
                      replace c1 : r.1 = t := c1
                      replace c2 : r.2.1 = st := c2
                      replace c3 : hvL r.2.2 c := c3
                      rw [c1] at htr
                      have hst := st_01 (step := (beP btW (fun A => nI (wsN (thN (rbO F T (shB I (nI q)) n N) l (N * N)) (skQ I N n F T S) A (skL I N n F T S).length)))) (lim := lim) (fun _ _ => rfl) (evI I N n F T S) 0 (-9, none)
                      rw [er] at hst
                      replace hst : st = 0 ∨ st = 1 := hst
                      obtain rfl : st = 1 := by rw [← c2]; exact g1
                      refine a_if_ne (tgt := 108) dX11_worst_102 (by decide) (fun h102 => ?_) (fun h102 => ?_)
                      · exact absurd h102 (by decide)
                      · refine a_bipush (v := (-6)) dX11_worst_105 (by decide) ?_
                        exact a_ireturn dX11_worst_107 ⟨_, rfl, (h2 l q lim hl hq0 gq rfl rfl hl1 hl2 rfl gd ge I' t c er hsi htr h10)⟩
                    · rw [z1, z2, z3] at hr
                      have htr := sa_tr hQ
                      have hRel := sa_rel hQ (bsR_11 (by decide) (by decide) xxH_11)
                      obtain ⟨si1, si2, si3⟩ := sa_si hQ gpH_no
                      have hsi : siQ I' I := siQ_tr si1 hsib
                      have h10 : I' 0 10 = nI 0 := by rw [si2, am_up_same]
                      obtain ⟨c1, c2, c3⟩ := hv_run (I := I) hq.2.1 hgo hr
                      rcases er : runS (beP btW (fun A => nI (wsN (thN (rbO F T (shB I (nI q)) n N) l (N * N)) (skQ I N n F T S) A (skL I N n F T S).length))) lim 0 (evI I N n F T S) (-9, none) with ⟨t, st, c⟩
                      rw [er] at c1 c2 c3
                      replace c1 : r.1 = t := c1
                      replace c2 : r.2.1 = st := c2
                      replace c3 : hvL r.2.2 c := c3
                      rw [c1] at htr
                      have hst := st_01 (step := (beP btW (fun A => nI (wsN (thN (rbO F T (shB I (nI q)) n N) l (N * N)) (skQ I N n F T S) A (skL I N n F T S).length)))) (lim := lim) (fun _ _ => rfl) (evI I N n F T S) 0 (-9, none)
                      rw [er] at hst
                      replace hst : st = 0 ∨ st = 1 := hst
                      obtain rfl : st = 0 := hst.resolve_right (fun z => g1 (c2.trans z))
                      have ec := c3.1 g2
                      have hk := h1 l q lim hl hq0 gq rfl rfl hl1 hl2 rfl gd ge I' t c er hsi htr (by rw [ec]; exact h10)
                      rw [ec] at hk
                      refine a_if_ne (tgt := 108) dX11_worst_102 (by decide) (fun h102 => ?_) (fun h102 => ?_)
                      · refine a_aload_n dX11_worst_108 rfl ?_
                        refine a_getr dX11_worst_109 kf_X11_65 ⟨by decide, _, rfl, rfl⟩ ?_
                        refine a_geti dX11_worst_112 kf_X11_252 ⟨by decide, _, rfl, rfl⟩ hRel.1 ?_
                        refine a_if_eq (tgt := 129) dX11_worst_115 (by decide) (fun g => ?_) (fun g => ?_)
                        · refine a_bipush (v := (-9)) dX11_worst_129 (by decide) ?_
                          exact a_ireturn dX11_worst_131 ⟨_, rfl, hk⟩
                        · exact absurd (by show bI r.2.2.1 = 0; rw [show r.2.2.1 = false from g2]; rfl) g
                      · exact absurd h102 (by decide)
                    · rw [z1, z2, z3] at hr
                      have htr := sa_tr hQ
                      have hRel := sa_rel hQ (bsR_11 (by decide) (by decide) xxH_11)
                      obtain ⟨si1, si2, si3⟩ := sa_si hQ gpH_no
                      have hsi : siQ I' I := siQ_tr si1 hsib
                      have h10 : I' 0 10 = nI 0 := by rw [si2, am_up_same]
                      obtain ⟨c1, c2, c3⟩ := hv_run (I := I) hq.2.1 hgo hr
                      rcases er : runS (beP btW (fun A => nI (wsN (thN (rbO F T (shB I (nI q)) n N) l (N * N)) (skQ I N n F T S) A (skL I N n F T S).length))) lim 0 (evI I N n F T S) (-9, none) with ⟨t, st, c⟩
                      rw [er] at c1 c2 c3
                      replace c1 : r.1 = t := c1
                      replace c2 : r.2.1 = st := c2
                      replace c3 : hvL r.2.2 c := c3
                      rw [c1] at htr
                      have hst := st_01 (step := (beP btW (fun A => nI (wsN (thN (rbO F T (shB I (nI q)) n N) l (N * N)) (skQ I N n F T S) A (skL I N n F T S).length)))) (lim := lim) (fun _ _ => rfl) (evI I N n F T S) 0 (-9, none)
                      rw [er] at hst
                      replace hst : st = 0 ∨ st = 1 := hst
                      obtain rfl : st = 0 := hst.resolve_right (fun z => g1 (c2.trans z))
                      obtain ⟨v, _, ev, ec⟩ := c3.2 g2
                      have hk := h1 l q lim hl hq0 gq rfl rfl hl1 hl2 rfl gd ge (am_up (am_cp I' 10 (I' 60) 0 0 36) 0 10 (nI 1)) t c er (fun a j p q => by by_cases e : a = 0; (subst e; rw [am_up_slot (p rfl).1, am_cp_ne (by decide)]; exact hsi 0 j p q); rw [am_up_ne e, am_cp_ne (by omega)]; exact hsi a j p q) (by rw [am_up_slot (by decide), am_cp_ne (by decide)]; exact htr) (by rw [ec]; exact ⟨by rw [am_up_same], fun p hp => by rw [am_up_ne (by decide), cp_at hp]; have hk4 := hRel.2.2.2 g2 p hp; rw [z2, z3] at hk4; exact hk4⟩)
                      rw [ec] at hk
                      refine a_if_ne (tgt := 108) dX11_worst_102 (by decide) (fun h102 => ?_) (fun h102 => ?_)
                      · refine a_aload_n dX11_worst_108 rfl ?_
                        refine a_getr dX11_worst_109 kf_X11_65 ⟨by decide, _, rfl, rfl⟩ ?_
                        refine a_geti dX11_worst_112 kf_X11_252 ⟨by decide, _, rfl, rfl⟩ ((congrFun ((am_up_ne (by decide)).trans (am_cp_ne (by decide))) 1).trans hRel.1) ?_
                        refine a_if_eq (tgt := 129) dX11_worst_115 (by decide) (fun g => ?_) (fun g => ?_)
                        · exact absurd g (by show ¬ bI r.2.2.1 = 0; rw [show r.2.2.1 = true from g2]; decide)
                        · refine a_aload_n dX11_worst_118 rfl ?_
                          refine a_getr dX11_worst_119 kf_X11_65 ⟨by decide, _, rfl, rfl⟩ ?_
                          refine a_geti dX11_worst_122 kf_X11_253 ⟨by decide, _, rfl, rfl⟩ ((congrFun ((am_up_ne (by decide)).trans (am_cp_ne (by decide))) 2).trans (hRel.2.1.trans ev)) ?_
                          refine a_ineg dX11_worst_125 (Int32.neg_neg) ?_
                          refine a_goto (tgt := 131) dX11_worst_126 (by decide) ?_
                          exact a_ireturn dX11_worst_131 ⟨_, rfl, hk⟩
                      · exact absurd h102 (by decide)
                  · refine a_bipush (v := (-4)) dX11_worst_66 (by decide) ?_
                    exact a_ireturn dX11_worst_68 ⟨_, rfl, (h4 l q hl hq0 gq rfl rfl ⟨(nI_leI (by decide) (by omega)).mpr hl1, (nI_leI (by omega) (by decide)).mpr hl2⟩ (Or.inr ge))⟩
              · exact absurd h31 (by decide)
            · refine a_if_ne (tgt := 36) dX11_worst_31 (by decide) (fun h31 => ?_) (fun h31 => ?_)
              · exact absurd h31 (by decide)
              · refine a_iconst (v := (-1)) dX11_worst_34 (by decide) ?_
                exact a_ireturn dX11_worst_35 ⟨_, rfl, (h0 (fun z => e0 z.2.2.2))⟩
      · refine a_if_eq (tgt := 34) dX11_worst_19 (by decide) (fun h19 => ?_) (fun h19 => ?_)
        · refine a_iconst (v := (-1)) dX11_worst_34 (by decide) ?_
          exact a_ireturn dX11_worst_35 ⟨_, rfl, (h0 (fun z => e0 z.2.1))⟩
        · exact absurd h19 (by decide)
  · refine a_if_eq (tgt := 34) dX11_worst_8 (by decide) (fun h8 => ?_) (fun h8 => ?_)
    · refine a_iconst (v := (-1)) dX11_worst_34 (by decide) ?_
      exact a_ireturn dX11_worst_35 ⟨_, rfl, (h0 (fun z => e0 z.1))⟩
    · exact absurd h8 (by decide)

