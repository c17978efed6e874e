/-! ===== the reference: from FIT to FIT; many, keep, fits ===== -/
/-- the events, one behind the other, with a state that a FIT changes; it may say enough: 0 all seen, 1 spent, 2 enough -/
def runS {C : Type} (step : C → (Nat → Nat) → C × Bool) (lim : Nat) : Nat → EvS → C → Nat × Nat × C
  | t, [], c => (t, 0, c)
  | t, none :: E, c => if t = lim then (t, 1, c) else runS step lim (t + 1) E c
  | t, some A :: E, c => if (step c A).2 = true then (t, 2, (step c A).1) else runS step lim t E (step c A).1
def runM {C : Type} (step : C → (Nat → Nat) → C × Bool) (lim : Nat) (c : C) (r : Nat × Option (Option ((Nat → Nat) × EvS))) : Nat × Nat × C := match r.2 with
  | some none => (r.1, 0, c)
  | none => (r.1, 1, c)
  | some (some q) => if (step c q.1).2 = true then (r.1, 2, (step c q.1).1) else runS step lim r.1 q.2 (step c q.1).1
theorem runS_nx {C : Type} (step : C → (Nat → Nat) → C × Bool) (lim : Nat) : ∀ (E : EvS) (t : Nat) (c : C), runS step lim t E c = runM step lim c (nxE lim t E)
  | [], t, c => rfl
  | none :: E, t, c => by
    rw [runS, nxE]
    by_cases e : t = lim
    · rw [if_pos e, if_pos e]; rfl
    · rw [if_neg e, if_neg e]; exact runS_nx step lim E (t + 1) c
  | some A :: E, t, c => rfl
theorem nxE_len {lim : Nat} : ∀ (E : EvS) (t t' : Nat) (A : Nat → Nat) (E' : EvS), nxE lim t E = (t', some (some (A, E'))) → E'.length < E.length
  | [], t, t', A, E', h => by simp [nxE] at h
  | none :: E, t, t', A, E', h => by
    rw [nxE] at h
    by_cases e : t = lim
    · rw [if_pos e] at h; simp at h
    · rw [if_neg e] at h
      have := nxE_len E (t + 1) t' A E' h
      rw [List.length_cons]; omega
  | some B :: E, t, t', A, E', h => by
    simp [nxE] at h
    obtain ⟨-, -, rfl⟩ := h
    simp
/-- at a FIT -/
def fsP (g la : Nat → Nat) (fx : Nat → Option Nat) (sq : Nat → Nat) (tl : Nat → Bool) (lf0 : Nat → Nat) (n m lim t : Nat) (A : Nat → Nat) (I : am_I) : Prop := skP I n m g la fx sq tl lf0 ∧ I 63 30 = nI lim ∧ lim ≤ 20000 ∧ I 63 29 = nI t ∧ t ≤ lim ∧ I 63 31 = nI m ∧ cfP g la fx n lf0 A m I ∧ lfP I n tl (lfA g lf0 A m)
theorem c_nextF {G : am_G} {d : Nat} {I : am_I} {J : am_J} {K : Int32 → am_I → am_J → Prop} {n m lim t : Nat} {g la : Nat → Nat} {fx : Nat → Option Nat} {sq : Nat → Nat} {tl : Nat → Bool} {lf0 A : Nat → Nat} (h : fsP g la fx sq tl lf0 n m lim t A I)
    (k0 : ∀ I' t', frS I' I → I' 63 29 = nI t' → nxE lim t (bkE g la fx tl n m lf0 A m) = (t', some none) → K (nI 0) I' J) (kS : ∀ I' t', frS I' I → I' 63 29 = nI t' → nxE lim t (bkE g la fx tl n m lf0 A m) = (t', none) → K (-6) I' J)
    (k1 : ∀ I' t' A', frS I' I → nxE lim t (bkE g la fx tl n m lf0 A m) = (t', some (some (A', bkE g la fx tl n m lf0 A' m))) → fsP g la fx sq tl lf0 n m lim t' A' I' → K (nI 1) I' J) : CMi G (d + 2) yX12_next [.ref 63, .int (nI 0)] I J K := by
  obtain ⟨h1, h2, h3, h4, h5, h6, h7, h8⟩ := h
  refine c_next0 h1 (fun _ _ _ _ _ _ _ => rfl) h2 h3 h4 h5 h6 h7 h8 ⟨fun e I' hf ht => k0 I' _ hf ht (by rw [← e]), fun e I' hf ht => kS I' _ hf ht (by rw [← e]), fun A' E' e I' hf ht h31 hcf hlf hE => ?_⟩
  subst hE
  refine k1 I' _ A' hf (by rw [← e]) ⟨skP_fr h1 hf, ?_, h3, ht, nxE_le _ _ h5, h31, hcf, hlf⟩
  rw [hf 63 30 (by decide) (by decide) (by decide) (by decide) (by decide)]
  exact h2
/-- the first FIT -/
theorem c_nextS {G : am_G} {d : Nat} {I : am_I} {J : am_J} {K : Int32 → am_I → am_J → Prop} {n m lim t : Nat} {g la : Nat → Nat} {fx : Nat → Option Nat} {sq : Nat → Nat} {tl : Nat → Bool} {lf0 : Nat → Nat} (hS : skP I n m g la fx sq tl lf0) (h2 : I 63 30 = nI lim) (h3 : lim ≤ 20000) (h4 : I 63 29 = nI t) (h5 : t ≤ lim) (h85 : 0 < m → I 85 0 = nI 0) (A : Nat → Nat)
    (k0 : ∀ I' t', frS I' I → I' 63 29 = nI t' → nxE lim t (evS g la fx tl n m 0 lf0 A) = (t', some none) → K (nI 0) I' J) (kS : ∀ I' t', frS I' I → I' 63 29 = nI t' → nxE lim t (evS g la fx tl n m 0 lf0 A) = (t', none) → K (-6) I' J)
    (k1 : ∀ I' t' A', frS I' I → nxE lim t (evS g la fx tl n m 0 lf0 A) = (t', some (some (A', bkE g la fx tl n m lf0 A' m))) → fsP g la fx sq tl lf0 n m lim t' A' I' → K (nI 1) I' J) : CMi G (d + 2) yX12_next [.ref 63, .int (nI 1)] I J K := by
  refine c_next1 hS h2 h3 h4 h5 h85 A ⟨fun e I' hf ht => k0 I' _ hf ht (by rw [← e]), fun e I' hf ht => kS I' _ hf ht (by rw [← e]), fun A' E' e I' hf ht h31 hcf hlf hE => ?_⟩
  subst hE
  refine k1 I' _ A' hf (by rw [← e]) ⟨skP_fr hS hf, ?_, h3, ht, nxE_le _ _ h5, h31, hcf, hlf⟩
  rw [hf 63 30 (by decide) (by decide) (by decide) (by decide) (by decide)]
  exact h2
theorem frS_tr {I1 I2 I3 : am_I} (h : frS I1 I2) (h' : frS I2 I3) : frS I1 I3 := fun k j a b c d e => (h k j a b c d e).trans (h' k j a b c d e)
/-- the events at the memory I -/
def evI (I : am_I) (N n : Nat) (F T : Nat → Nat) (S : Nat → Bool) : EvS := evS (skG I N n F T S) (skA I N n F T S) (skX I N n F T S) (tlI I) n (skL I N n F T S).length 0 (skF I) (fun _ => 0)
def cntS (c : Nat) (_ : Nat → Nat) : Nat × Bool := (c + 1, false)
set_option maxHeartbeats 4000000 in
set_option maxRecDepth 100000 in
theorem lp_many {G : am_G} {d : Nat} {I1 : am_I} {J : am_J} {K : Int32 → am_I → am_J → Prop} {x : Int32} {n m lim : Nat} {g la : Nat → Nat} {fx : Nat → Option Nat} {sq : Nat → Nat} {tl : Nat → Bool} {lf0 : Nat → Nat} {t1 st c1 : Nat} (h0 : st = 0 → ∀ I', frS I' I1 → I' 63 29 = nI t1 → K (nI 1) I' (am_upJ J 63 2 (lN c1))) (hS : st = 1 → ∀ I', frS I' I1 → I' 63 29 = nI t1 → K (-6) I' J) : ∀ M, ∀ (I : am_I) (A : Nat → Nat) (t c : Nat), frS I I1 → fsP g la fx sq tl lf0 n m lim t A I → (bkE g la fx tl n m lf0 A m).length < M → runS cntS lim t (bkE g la fx tl n m lf0 A m) (c + 1) = (t1, st, c1) → AW G cX12_many 5 RX12 (d + 3) (am_ex G (some .int) (fun r I J => ∃ x, r = some (.int x) ∧ K x I J)) 23 [some (.ref 63), some (.int x), some (.long (lN c)), none, some (.int (nI 1))] [] I J := by
  intro M
  induction M with
  | zero => intro I A t c _ _ h; omega
  | succ M ih =>
    intro I A t c hf hfs hM hrun
    refine a_iload dX12_many_23 rfl ?_
    refine a_iconst (v := nI 1) dX12_many_25 (by decide) ?_
    refine a_icmp_ne (tgt := 43) dX12_many_26 (by decide) (fun h26 => ?_) (fun h26 => ?_)
    · exact absurd rfl h26
    · refine a_lload_n dX12_many_29 rfl ?_
      refine a_lconst (v := 1) dX12_many_30 (by decide) ?_
      refine a_ladd dX12_many_31 (lN_1 c) ?_
      refine a_lstore_n (L' := [_, _, _, _, _]) dX12_many_32 (Nat.le_of_ble_eq_true rfl) rfl ?_
      refine a_aload_n dX12_many_33 rfl ?_
      refine a_iconst (v := nI 0) dX12_many_34 (by decide) ?_
      refine a_callVi (As := [_]) dX12_many_35 km_X12_212 ⟨by decide, _, _, _, rfl, rfl⟩ rfl rfl (Nat.le_of_ble_eq_true rfl) ?_
      refine c_nextF hfs (fun I' t' hf' ht' e => ?_) (fun I' t' hf' ht' e => ?_) (fun I' t' A' hf' e hfs' => ?_)
      · rw [runS_nx, e] at hrun
        obtain ⟨rfl, rfl, rfl⟩ : t' = t1 ∧ 0 = st ∧ c + 1 = c1 := by simpa [runM] using hrun
        refine a_istore (L' := [_, _, _, _, _]) dX12_many_38 (Nat.le_of_ble_eq_true rfl) rfl ?_
        refine a_goto (tgt := 23) dX12_many_40 (by decide) ?_
        refine a_iload dX12_many_23 rfl ?_
        refine a_iconst (v := nI 1) dX12_many_25 (by decide) ?_
        refine a_icmp_ne (tgt := 43) dX12_many_26 (by decide) (fun h26 => ?_) (fun h26 => ?_)
        · refine a_iload dX12_many_43 rfl ?_
          refine a_if_ge (tgt := 53) dX12_many_45 (by decide) (fun h45 => ?_) (fun h45 => ?_)
          · refine a_aload_n dX12_many_53 rfl ?_
            refine a_lload_n dX12_many_54 rfl ?_
            refine a_iconst (v := nI 1) dX12_many_55 (by decide) ?_
            refine a_callVi (As := [_, _]) dX12_many_56 km_X12_160 ⟨by decide, _, _, _, rfl, rfl⟩ rfl rfl (Nat.le_of_ble_eq_true rfl) ?_
            refine c_tell ?_
            exact a_ireturn dX12_many_59 ⟨_, rfl, (h0 rfl I' (frS_tr hf' hf) ht')⟩
          · exact absurd (show (0 : Int32) ≤ nI 0 by decide) h45
        · exact absurd h26 (by decide)
      · rw [runS_nx, e] at hrun
        obtain ⟨rfl, rfl, rfl⟩ : t' = t1 ∧ 1 = st ∧ c + 1 = c1 := by simpa [runM] using hrun
        refine a_istore (L' := [_, _, _, _, _]) dX12_many_38 (Nat.le_of_ble_eq_true rfl) rfl ?_
        refine a_goto (tgt := 23) dX12_many_40 (by decide) ?_
        refine a_iload dX12_many_23 rfl ?_
        refine a_iconst (v := nI 1) dX12_many_25 (by decide) ?_
        refine a_icmp_ne (tgt := 43) dX12_many_26 (by decide) (fun h26 => ?_) (fun h26 => ?_)
        · refine a_iload dX12_many_43 rfl ?_
          refine a_if_ge (tgt := 53) dX12_many_45 (by decide) (fun h45 => ?_) (fun h45 => ?_)
          · exact absurd h45 (by decide)
          · refine a_iload dX12_many_48 rfl ?_
            refine a_goto (tgt := 59) dX12_many_50 (by decide) ?_
            exact a_ireturn dX12_many_59 ⟨_, rfl, (hS rfl I' (frS_tr hf' hf) ht')⟩
        · exact absurd h26 (by decide)
      · rw [runS_nx, e] at hrun
        have hlen := nxE_len _ _ _ _ _ e
        refine a_istore (L' := [_, _, _, _, _]) dX12_many_38 (Nat.le_of_ble_eq_true rfl) rfl ?_
        refine a_goto (tgt := 23) dX12_many_40 (by decide) ?_
        exact ih I' A' t' (c + 1) (frS_tr hf' hf) hfs' (by omega) (by simpa [cntS, runM] using hrun)

set_option maxHeartbeats 4000000 in
set_option maxRecDepth 100000 in
theorem c_many {G : am_G} {d : Nat} {I : am_I} {J : am_J} {K : Int32 → am_I → am_J → Prop} {N n : Nat} {F T : Nat → Nat} {S : Nat → Bool} {x : Int32} (hR : rwR I (-9) N n F T S) (hme : ∀ p, p < 36 → vlP (I 72 p)) (hca : ∀ l, l < n → vlP (I 70 l)) (h1 : ∀ lim, 1 ≤ lim → lim ≤ 20000 → x = nI lim → ∀ I1, opP I1 I N n F T S x → ∀ I' t c, frS I' I1 → I' 63 29 = nI t → runS cntS lim 0 (evI I N n F T S) 0 = (t, 0, c) → K (nI 1) I' (am_upJ J 63 2 (lN c))) (h2 : ∀ lim, 1 ≤ lim → lim ≤ 20000 → x = nI lim → ∀ I1, opP I1 I N n F T S x → ∀ I' t c, frS I' I1 → I' 63 29 = nI t → runS cntS lim 0 (evI I N n F T S) 0 = (t, 1, c) → K (-6) I' J) (h0 : ¬ (nI 1 ≤ x ∧ x ≤ nI 20000) → K (-1) I J) : CMi G (d + 4) yX12_many [.ref 63, .int x] I J K := by
  refine CM.of (L0 := [_, _, _, _, _]) cX12_many 5 (some .int) (by decide) (by decide) kcX12_many (Nat.le_of_ble_eq_true rfl) rfl ?_
  refine a_iload_n dX12_many_0 rfl ?_
  refine a_callSi (As := [_]) dX12_many_1 km_X12_206 rfl rfl (Nat.le_of_ble_eq_true rfl) ?_
  refine c_areTries (fun lim hl1 hl2 e1 => ?_) (fun e1 => ?_)
  · subst e1
    refine a_if_ne (tgt := 9) dX12_many_4 (by decide) (fun h4 => ?_) (fun h4 => ?_)
    · refine a_aload_n dX12_many_9 rfl ?_
      refine a_iload_n dX12_many_10 rfl ?_
      refine a_callVv (As := [_]) dX12_many_11 km_X12_209 ⟨by decide, _, _, _, rfl, rfl⟩ rfl rfl (Nat.le_of_ble_eq_true rfl) ?_
      refine c_open (N := N) (n := n) (F := F) (T := T) (S := S) hR hme hca (fun I1 hop => ?_)
      have hop' := hop
      obtain ⟨o1, o2, o3, o4, o5, o6⟩ := hop'
      refine a_lconst (v := 0) dX12_many_14 (by decide) ?_
      refine a_lstore_n (L' := [_, _, _, _, _]) dX12_many_15 (Nat.le_of_ble_eq_true rfl) rfl ?_
      refine a_aload_n dX12_many_16 rfl ?_
      refine a_iconst (v := nI 1) dX12_many_17 (by decide) ?_
      refine a_callVi (As := [_]) dX12_many_18 km_X12_212 ⟨by decide, _, _, _, rfl, rfl⟩ rfl rfl (Nat.le_of_ble_eq_true rfl) ?_
      refine c_nextS o2 o5 hl2 o4 (by omega) (fun _ => o6 0 (by decide)) (fun _ => 0) (fun I' t' hf' ht' e => ?_) (fun I' t' hf' ht' e => ?_) (fun I' t' A' hf' e hfs' => ?_)
      · refine a_istore (L' := [_, _, _, _, _]) dX12_many_21 (Nat.le_of_ble_eq_true rfl) rfl ?_
        refine a_iload dX12_many_23 rfl ?_
        refine a_iconst (v := nI 1) dX12_many_25 (by decide) ?_
        refine a_icmp_ne (tgt := 43) dX12_many_26 (by decide) (fun h26 => ?_) (fun h26 => ?_)
        · refine a_iload dX12_many_43 rfl ?_
          refine a_if_ge (tgt := 53) dX12_many_45 (by decide) (fun h45 => ?_) (fun h45 => ?_)
          · refine a_aload_n dX12_many_53 rfl ?_
            refine a_lload_n dX12_many_54 rfl ?_
            refine a_iconst (v := nI 1) dX12_many_55 (by decide) ?_
            refine a_callVi (As := [_, _]) dX12_many_56 km_X12_160 ⟨by decide, _, _, _, rfl, rfl⟩ rfl rfl (Nat.le_of_ble_eq_true rfl) ?_
            refine c_tell ?_
            exact a_ireturn dX12_many_59 ⟨_, rfl, (h1 lim hl1 hl2 rfl I1 hop I' t' 0 hf' ht' (by rw [runS_nx, evI, e]; rfl))⟩
          · exact absurd (show (0 : Int32) ≤ nI 0 by decide) h45
        · exact absurd h26 (by decide)
      · refine a_istore (L' := [_, _, _, _, _]) dX12_many_21 (Nat.le_of_ble_eq_true rfl) rfl ?_
        refine a_iload dX12_many_23 rfl ?_
        refine a_iconst (v := nI 1) dX12_many_25 (by decide) ?_
        refine a_icmp_ne (tgt := 43) dX12_many_26 (by decide) (fun h26 => ?_) (fun h26 => ?_)
        · refine a_iload dX12_many_43 rfl ?_
          refine a_if_ge (tgt := 53) dX12_many_45 (by decide) (fun h45 => ?_) (fun h45 => ?_)
          · exact absurd h45 (by decide)
          · refine a_iload dX12_many_48 rfl ?_
            refine a_goto (tgt := 59) dX12_many_50 (by decide) ?_
            exact a_ireturn dX12_many_59 ⟨_, rfl, (h2 lim hl1 hl2 rfl I1 hop I' t' 0 hf' ht' (by rw [runS_nx, evI, e]; rfl))⟩
        · exact absurd h26 (by decide)
      · refine a_istore (L' := [_, _, _, _, _]) dX12_many_21 (Nat.le_of_ble_eq_true rfl) rfl ?_
        have hrun : runS cntS lim 0 (evI I N n F T S) 0 = runS cntS lim t' (bkE (skG I N n F T S) (skA I N n F T S) (skX I N n F T S) (tlI I) n (skL I N n F T S).length (skF I) A' (skL I N n F T S).length) (0 + 1) := by
          rw [runS_nx, evI, e]; rfl
        obtain ⟨t1, st, c1, hr⟩ : ∃ t1 st c1, runS cntS lim t' (bkE (skG I N n F T S) (skA I N n F T S) (skX I N n F T S) (tlI I) n (skL I N n F T S).length (skF I) A' (skL I N n F T S).length) (0 + 1) = (t1, st, c1) := ⟨_, _, _, rfl⟩
        exact lp_many (d := d + 1) (fun e0 I' hf ht => h1 lim hl1 hl2 rfl I1 hop I' _ _ hf ht (by rw [hrun, hr, e0])) (fun e0 I' hf ht => h2 lim hl1 hl2 rfl I1 hop I' _ _ hf ht (by rw [hrun, hr, e0])) _ I' A' t' 0 hf' hfs' (Nat.lt_succ_self _) hr
    · exact absurd h4 (by decide)
  · refine a_if_ne (tgt := 9) dX12_many_4 (by decide) (fun h4 => ?_) (fun h4 => ?_)
    · exact absurd h4 (by decide)
    · refine a_iconst (v := (-1)) dX12_many_7 (by decide) ?_
      exact a_ireturn dX12_many_8 ⟨_, rfl, (h0 e1)⟩

