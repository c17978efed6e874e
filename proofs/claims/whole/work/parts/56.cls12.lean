/-! ===== the system: Seeker.fewestMeters ===== -/
theorem cmp_ge {a b : Nat} (ha : a < 2 ^ 63) (hb : b < 2 ^ 63) : 0 ≤ lg_cmp (lN a) (lN b) ↔ b ≤ a := by
  unfold lg_cmp
  have e1 : lN a > lN b ↔ b < a := pk_lLT hb ha
  have e2 : lN a = lN b ↔ a = b := pk_lEQ ha hb
  by_cases h : b < a
  · rw [if_pos (e1.mpr h)]
    exact ⟨fun _ => by omega, fun _ => by decide⟩
  · rw [if_neg (mt e1.mp h)]
    by_cases h2 : a = b
    · rw [if_pos (e2.mpr h2)]
      exact ⟨fun _ => by omega, fun _ => by decide⟩
    · rw [if_neg (mt e2.mp h2)]
      exact ⟨fun q => absurd q (by decide), fun q => by omega⟩
theorem sc_fix {I I1 : am_I} {n m M : Nat} {R : Nat → Option (List Nat)} {g la : Nat → Nat} {fx fx' : Nat → Option Nat} {sq : Nat → Nat} {tl : Nat → Bool} (h : scP I1 n m M R g la fx sq tl) (h1 : I 1 1 = I1 1 1) (h44 : I 44 = I1 44) (h45 : I 45 = I1 45) (h4 : I 4 8 = I1 4 8) (h50 : I 50 = I1 50) (h52 : I 52 = I1 52) (hx : ∀ k, k < m → I 54 (sq k) = fxI (fx' k) ∧ ∀ f, fx' k = some f → f ≤ 200) : scP I n m M R g la fx' sq tl := by
  obtain ⟨a1, a2, a3, a4, a5, a6, a7, a8⟩ := h
  refine ⟨by rw [h1]; exact a1, a2, rl_fr a3 h44 h45, a4, by rw [h4]; exact a5, a6, a7, fun k hk => ?_⟩
  obtain ⟨b1, b2, b3, b4, b5⟩ := a8 k hk
  rw [h50, h52]
  exact ⟨b1, b2, (hx k hk).1, (hx k hk).2, b5⟩
/-- what stays, while sets are tried -/
def frW (I I1 : am_I) : Prop := ∀ a j, a ≠ 5 → a ≠ 53 → a ≠ 54 → a ≠ 55 → a ≠ 56 → (a = 4 → j ≠ 10 ∧ j ≠ 11) → I a j = I1 a j
theorem frW_row {I I1 : am_I} (h : frW I I1) {a : Nat} (h1 : a < 53 ∨ 56 < a) (h2 : a ≠ 5) (h3 : a ≠ 4) : I a = I1 a := by
  funext j; exact h a j h2 (by omega) (by omega) (by omega) (by omega) (fun z => absurd z h3)
def fwP (n m : Nat) (fx : Nat → Option Nat) (sq : Nat → Nat) (tl : Nat → Bool) (lf A : Nat → Nat) (t : Nat) (I I1 : am_I) : Prop := frW I I1 ∧ lcP I n tl lf ∧ nuP sq m 0 (fun _ => 0) I ∧ I 4 10 = nI t ∧ I 4 11 = nI 0 ∧ (∀ p, p < 36 → I 56 p = kp0 sq m A p) ∧ ∀ k f, k < m → fx k = some f → I 54 (sq k) = nI f
theorem al_sim {g la : Nat → Nat} {fx : Nat → Option Nat} {tl : Nat → Bool} {n m : Nat} {lf A : Nat → Nat} {lim t s : Nat} {B : Nat → Nat} {r : Nat × Nat × TaC} (hr : r = runS (taP 2) lim t (evS g la (fxS fx A s) tl n m 0 lf (fun _ => 0)) (0, B)) : r.1 = (alS g la fx tl n m lf A lim t s).1 ∧ r.2.1 = (alS g la fx tl n m lf A lim t s).2.1 ∧ r.2.2.1 = (alS g la fx tl n m lf A lim t s).2.2 := by
  rw [hr]
  exact runS_sim (s1 := taP 2) (s2 := cn2) (fun c e => c.1 = e) (fun _ => True) (fun c e A _ h => by subst h; exact ⟨rfl, rfl⟩) _ (fun _ _ => trivial) t (0, B) 0 rfl
theorem fxS_le {fx : Nat → Option Nat} {A : Nat → Nat} {s k m : Nat} (hk : k < m) (hx : ∀ f, fx k = some f → f ≤ 200) (hA : ∀ k, k < m → A k ≤ 200) : ∀ f, fxS fx A s k = some f → f ≤ 200 := by
  intro f h
  unfold fxS at h
  split at h
  · rename_i f' e
    cases h
    exact hx _ e
  · split at h
    · cases h; exact hA k hk
    · cases h
theorem al_first {g la : Nat → Nat} {fx : Nat → Option Nat} {tl : Nat → Bool} {n m : Nat} {lf A : Nat → Nat} {E' : EvS} {lim lim' t t0 u s : Nat} {B : Nat → Nat} {r : Nat × Nat × TaC} (h0 : nxE lim' t0 (evS g la fx tl n m 0 lf (fun _ => 0)) = (u, some (some (A, E')))) (hr : r = runS (taP 2) lim t (evS g la (fxS fx A s) tl n m 0 lf (fun _ => 0)) (0, B)) (hc : r.2.2.1 ≠ 0) : r.2.2.2 = A := by
  rw [hr] at hc ⊢
  obtain ⟨C, L, e1, e2⟩ := ta_first _ _ _ rfl hc
  rw [e2]
  have e3 := nx_fE _ _ _ h0
  have hfit := ev_fit (g := g) (la := la) (fx := fx) (tl := tl) (n := n) (B := A) m 0 lf (fun _ => 0) (fE_mem.mp (by rw [e3]; exact List.mem_cons_self))
  rw [fE_fix (fx := fx) (fun k a h => by unfold fxS; rw [h])] at e1
  rw [e3, List.filter_cons_of_pos] at e1
  · cases e1; rfl
  · rw [fxQ_iff]
    intro j q1 q2 a ha
    unfold fxS at ha
    split at ha
    · rename_i f' e
      cases ha
      exact (hfit.2 j q1 q2).2 _ e
    · split at ha
      · cases ha; rfl
      · cases ha
theorem runS_up {C : Type} {st : C → (Nat → Nat) → C × Bool} {lim : Nat} : ∀ (E : EvS) (t : Nat) (c : C), t ≤ (runS st lim t E c).1
  | [], t, c => Nat.le_refl _
  | none :: E, t, c => by
    rw [runS]
    split
    · exact Nat.le_refl _
    · exact Nat.le_trans (Nat.le_succ t) (runS_up E (t + 1) c)
  | some A :: E, t, c => by
    rw [runS]
    split
    · exact Nat.le_refl _
    · exact runS_up E t _
/-- the first FIT is still met, whatever set is METERED as in it -/
theorem al_ne {g la : Nat → Nat} {fx : Nat → Option Nat} {tl : Nat → Bool} {n m : Nat} {lf A : Nat → Nat} {E' : EvS} {lim' t0 u s : Nat} (h0 : nxE lim' t0 (evS g la fx tl n m 0 lf (fun _ => 0)) = (u, some (some (A, E')))) : fE (evS g la (fxS fx A s) tl n m 0 lf (fun _ => 0)) ≠ [] := by
  have e3 := nx_fE _ _ _ h0
  have hfit := ev_fit (g := g) (la := la) (fx := fx) (tl := tl) (n := n) (B := A) m 0 lf (fun _ => 0) (fE_mem.mp (by rw [e3]; exact List.mem_cons_self))
  rw [fE_fix (fx := fx) (fun k a h => by unfold fxS; rw [h]), e3, List.filter_cons_of_pos]
  · exact List.cons_ne_nil _ _
  · rw [fxQ_iff]
    intro j q1 q2 a ha
    unfold fxS at ha
    split at ha
    · rename_i f' e
      cases ha
      exact (hfit.2 j q1 q2).2 _ e
    · split at ha
      · cases ha; rfl
      · cases ha
/-- so where there is a PAIR to be sought, a set takes a TRY at least, or SEEKING is spent -/
theorem al_up {g la : Nat → Nat} {fx : Nat → Option Nat} {tl : Nat → Bool} {n m : Nat} {lf A : Nat → Nat} {E' : EvS} {lim lim' t t0 u s : Nat} {B : Nat → Nat} {r : Nat × Nat × TaC} (hm : 0 < m) (h0 : nxE lim' t0 (evS g la fx tl n m 0 lf (fun _ => 0)) = (u, some (some (A, E')))) (hr : r = runS (taP 2) lim t (evS g la (fxS fx A s) tl n m 0 lf (fun _ => 0)) (0, B)) (hc : ¬ r.2.1 = 1) : t + 1 ≤ r.1 := by
  have hn := al_ne (s := s) h0
  obtain ⟨m', rfl⟩ : ∃ m', m = m' + 1 := ⟨m - 1, by omega⟩
  rw [evS] at hn hr
  generalize (rgE g la (fxS fx A s) n 0 lf).2 - (rgE g la (fxS fx A s) n 0 lf).1 = c at hn hr
  cases c with
  | zero => exact absurd rfl hn
  | succ c =>
    rw [lpE, runS] at hr
    by_cases q : t = lim
    · rw [if_pos q] at hr
      exact absurd (by rw [hr]) hc
    · rw [if_neg q] at hr
      rw [hr]
      exact runS_up _ _ _
set_option maxHeartbeats 4000000 in
set_option maxRecDepth 100000 in
theorem lp_fm {G : am_G} {d : Nat} {I1 : am_I} {J : am_J} {K : Int64 → am_I → am_J → Prop} {n m M lim : Nat} {R : Nat → Option (List Nat)} {g la : Nat → Nat} {fx : Nat → Option Nat} {sq : Nat → Nat} {tl : Nat → Bool} {lf A : Nat → Nat} {E' : EvS} {lim' t0 u0 : Nat} {res : Nat × Option (Option (Nat × Nat))} (hS : scP I1 n m M R g la fx sq tl) (hsq : ∀ j k, j < k → k < m → sq j < sq k) (hlf : ∀ l, lf l ≤ 200) (hA : ∀ k, k < m → A k ≤ 200) (h9 : I1 4 9 = nI lim) (hlim : lim ≤ 20000) (h0 : nxE lim' t0 (evS g la fx tl n m 0 lf (fun _ => 0)) = (u0, some (some (A, E')))) (hfr : ∀ i, i < (frL fx sq m).length → I1 51 i = nI (frN fx sq m i) ∧ frN fx sq m i < 36) (k0 : res.2 = some none → ∀ I', frW I' I1 → I' 4 10 = nI res.1 → I' 4 11 = nI 0 → K (lN 0) I' J) (k1 : res.2 = none → ∀ I', frW I' I1 → I' 4 10 = nI res.1 → I' 4 11 = nI 1 → K (lN 0) I' J) (k2 : ∀ z s, res.2 = some (some (z, s)) → popN s (frL fx sq m).length = z → ∀ I', frW I' I1 → I' 4 10 = nI res.1 → I' 4 11 = nI 0 → K (lN (btN (frN fx sq m) s (frL fx sq m).length)) I' J) :  ∀ (f z s s' t c : Nat) (I : am_I), z ≤ (frL fx sq m).length → s < 2 ^ 40 → s' < 2 ^ 63 → (s' = s ∨ 2 ^ (frL fx sq m).length ≤ s ∧ 2 ^ (frL fx sq m).length ≤ s') → (z ≠ 0 → 0 < s) → (z = 0 → s < 2 ^ (frL fx sq m).length → s = 0) → (s < 2 ^ (frL fx sq m).length → popN s (frL fx sq m).length = z) → fwP n m fx sq tl lf A t I I1 → t ≤ lim → (z = 0 → c ≤ 1 ∧ (s < 2 ^ (frL fx sq m).length → c = 0)) → (z ≠ 0 → c ≤ t) → mtM (frL fx sq m).length z s < f → mtS (alS g la fx tl n m lf A lim) (frL fx sq m).length f z s t = res → AW G cX8_fewestMeters 9 RX8 (d + m + 4) (am_ex G (some .long) (fun r I J => ∃ x, r = some (.long x) ∧ K x I J)) 29 [some (.ref 4), some (.ref 5), some (.int (nI (frL fx sq m).length)), some (.long (lN (2 ^ (frL fx sq m).length))), none, some (.int (nI z)), some (.long (lN s')), none, some (.int (nI c))] [] I J := by
  have hfl : (frL fx sq m).length ≤ 36 := by
    rw [frL_len]
    exact Nat.le_trans (cN_le _ _) hS.2.2.2.2.2.1
  have hp36 : 2 ^ (frL fx sq m).length ≤ 2 ^ 36 := Nat.pow_le_pow_right (by decide) hfl
  have hinj := hS.2.2.2.2.2.2.1
  intro f
  induction f with
  | zero => intro z s s' t c I _ _ _ _ _ _ _ _ _ _ _ h; omega
  | succ f ih =>
    intro z s s' t c I hz hs40 hs63 hss hzs hz00 hpop hI htl hcz hct hM hres
    have hc20 : c ≤ 20000 := by
      rcases Nat.eq_zero_or_pos z with q | q
      · have := (hcz q).1
        omega
      · have := hct (by omega)
        omega
    have hfm : (frL fx sq m).length ≤ m := by
      rw [frL_len]
      exact cN_le _ _
    rw [mtS, if_neg (by omega)] at hres
    obtain ⟨i1, i2, i3, i4, i5, i6, i7⟩ := id hI
    have e51 : I 51 = I1 51 := frW_row i1 (by omega) (by decide) (by decide)
    refine a_iload dX8_fewestMeters_29 rfl ?_
    refine a_sipush (v := nI 20000) dX8_fewestMeters_31 (by decide) ?_
    refine a_icmp_gtN (tgt := 103) dX8_fewestMeters_34 (by decide) (by omega) (by omega) (fun hct20 => ?_) (fun hct20 => ?_)
    · exact absurd hct20 (by omega)
    · refine a_lload dX8_fewestMeters_37 rfl ?_
      refine a_lload_n dX8_fewestMeters_39 rfl ?_
      refine a_lcmp dX8_fewestMeters_40 rfl ?_
      refine a_if_ge (tgt := 103) dX8_fewestMeters_41 (by decide) (fun h => ?_) (fun h => ?_)
      · have hge : 2 ^ (frL fx sq m).length ≤ s' := (cmp_ge hs63 (by omega)).mp h
        have hsl : ¬ s < 2 ^ (frL fx sq m).length := by omega
        rw [if_neg hsl] at hres
        refine a_iinc (L' := [_, _, _, _, _, _, _, _, _]) dX8_fewestMeters_103 rfl (nI_inc _) rfl ?_
        refine a_goto (tgt := 12) dX8_fewestMeters_106 (by decide) ?_
        refine a_iload dX8_fewestMeters_12 rfl ?_
        refine a_iload_n dX8_fewestMeters_14 rfl ?_
        refine a_icmp_gtN (tgt := 109) dX8_fewestMeters_15 (by decide) (by omega) (by omega) (fun hg => ?_) (fun hg => ?_)
        · have hmt : mtS (alS g la fx tl n m lf A lim) (frL fx sq m).length f (z + 1) (2 ^ (z + 1) - 1) t = (t, some none) := by
            cases f with
            | zero => rfl
            | succ f => rw [mtS, if_pos hg]
          rw [hmt] at hres
          refine a_lconst (v := 0) dX8_fewestMeters_109 (by decide) ?_
          exact a_lreturn dX8_fewestMeters_110 ⟨_, rfl, (k0 (by rw [← hres]) I i1 (by rw [← hres]; exact i4) i5)⟩
        · have hz2 : 2 ^ (z + 1) ≤ 2 ^ 36 := Nat.pow_le_pow_right (by decide) (by omega)
          have hz3 : 2 ≤ 2 ^ (z + 1) := by
            have := Nat.pow_le_pow_right (show 0 < 2 by decide) (show 1 ≤ z + 1 by omega)
            omega
          refine a_lconst (v := 1) dX8_fewestMeters_18 (by decide) ?_
          refine a_iload dX8_fewestMeters_19 rfl ?_
          refine a_lshl dX8_fewestMeters_21 (show (1 : Int64) <<< _ = lN (2 ^ (z + 1)) by have e := lx_shl (n := 1) (k := z + 1) (by omega) (by rw [Nat.one_mul]; exact Nat.pow_lt_pow_right (by decide) (by omega)); rw [Nat.one_mul] at e; exact e) ?_
          refine a_lconst (v := 1) dX8_fewestMeters_22 (by decide) ?_
          refine a_lsub dX8_fewestMeters_23 (show lN (2 ^ (z + 1)) - 1 = lN (2 ^ (z + 1) - 1) from lN_sub (Nat.two_pow_pos _)) ?_
          refine a_lstore (L' := [_, _, _, _, _, _, _, _, _]) dX8_fewestMeters_24 (Nat.le_of_ble_eq_true rfl) rfl ?_
          refine a_iconst (v := nI 0) dX8_fewestMeters_26 (by decide) ?_
          refine a_istore (L' := [_, _, _, _, _, _, _, _, _]) dX8_fewestMeters_27 (Nat.le_of_ble_eq_true rfl) rfl ?_
          refine ih (z + 1) (2 ^ (z + 1) - 1) _ t 0 I (by omega) (by omega) (by omega) (Or.inl rfl) (fun _ => by omega) (fun q => by omega) (fun _ => by rw [pop_ext (k := z + 1) (by omega) (by omega), pop_ones]) hI htl (fun q => by omega) (fun _ => Nat.zero_le _) ?_ hres
          unfold mtM at hM ⊢
          obtain ⟨c, hc⟩ : ∃ c, (frL fx sq m).length + 1 - z = c + 1 := ⟨(frL fx sq m).length - z, by omega⟩
          rw [show (frL fx sq m).length + 1 - (z + 1) = c by omega]
          rw [hc, Nat.succ_mul] at hM
          have hp0 := Nat.two_pow_pos (frL fx sq m).length
          omega
      · have hlt : s' < 2 ^ (frL fx sq m).length := Nat.lt_of_not_le (fun z => h ((cmp_ge hs63 (by omega)).mpr z))
        obtain rfl : s' = s := by omega
        rw [if_pos hlt] at hres
        refine a_aload_n dX8_fewestMeters_44 rfl ?_
        refine a_lload dX8_fewestMeters_45 rfl ?_
        refine a_iload_n dX8_fewestMeters_47 rfl ?_
        refine a_aload_n dX8_fewestMeters_48 rfl ?_
        refine a_getr dX8_fewestMeters_49 kf_X8_102 ⟨by decide, _, rfl, rfl⟩ ?_
        refine a_callVv (As := [_, _, _]) dX8_fewestMeters_52 km_X8_107 ⟨by decide, _, _, _, rfl, rfl⟩ rfl rfl (Nat.le_of_ble_eq_true rfl) ?_
        refine s_fix (fr := frN fx sq m) (by omega) hfl (by rw [e51]; exact hfr) ?_
        refine a_aload_n dX8_fewestMeters_55 rfl ?_
        refine a_iconst (v := nI 2) dX8_fewestMeters_56 (by decide) ?_
        refine a_callVv (As := [_]) dX8_fewestMeters_57 km_X8_111 ⟨by decide, _, _, _, rfl, rfl⟩ rfl rfl (Nat.le_of_ble_eq_true rfl) ?_
        refine t_begin ?_
        refine a_aload_n dX8_fewestMeters_60 rfl ?_
        refine a_aload_n dX8_fewestMeters_61 rfl ?_
        refine a_callVv (As := [_]) dX8_fewestMeters_62 km_X8_114 ⟨by decide, _, _, _, rfl, rfl⟩ rfl rfl (Nat.le_of_ble_eq_true rfl) ?_
        have hrow : ∀ a, a ≠ 5 → a ≠ 54 → (am_up (am_up (mFc I (frN fx sq m) s' (frL fx sq m).length) 5 1 (nI 0)) 5 2 (nI 2)) a = I a := fun a h5 h54 => by rw [am_up_ne h5, am_up_ne h5, mFc_ne h54]
        refine s_seekt (d := d) (lim := lim) (t := t) (lf := lf) (A := fun _ => 0) (c := ((0, A) : TaC)) (fx := fxS fx A s') (g := g) (la := la) (tl := tl) (go_t (e := 2) (v := kp0 sq m A) (by decide) hinj) hlim (sc_fix hS ?_ ?_ ?_ ?_ ?_ ?_ (fun k hk => ⟨?_, ?_⟩)) ?_ hlf ?_ ?_ ?_ htl ⟨?_, ?_, fun p hp => ?_⟩ (Nat.zero_le _) (fun I2 r hr hQ => ?_)
        · rw [hrow 1 (by decide) (by decide), frW_row i1 (by omega) (by decide) (by decide)]
        · rw [hrow 44 (by decide) (by decide), frW_row i1 (by omega) (by decide) (by decide)]
        · rw [hrow 45 (by decide) (by decide), frW_row i1 (by omega) (by decide) (by decide)]
        · rw [hrow 4 (by decide) (by decide)]; exact i1 4 8 (by decide) (by decide) (by decide) (by decide) (by decide) (by decide)
        · rw [hrow 50 (by decide) (by decide), frW_row i1 (by omega) (by decide) (by decide)]
        · rw [hrow 52 (by decide) (by decide), frW_row i1 (by omega) (by decide) (by decide)]
        · rw [am_up_ne (by decide), am_up_ne (by decide)]
          show fxR _ _ _ _ _ _ = _
          exact fxR_S hsq i7 (fun k hk => by rw [i6 _ (by have := (hS.2.2.2.2.2.2.2 k hk).2.1; have := hS.2.2.2.1; omega)]; exact kpR_at m hk (fun j a b z => b (hinj j k a hk z))) hk
        · exact fxS_le hk (hS.2.2.2.2.2.2.2 k hk).2.2.2.1 hA
        · exact lcP_row i2 (hrow 53 (by decide) (by decide))
        · exact nuP_row i3 (hrow 55 (by decide) (by decide))
        · rw [hrow 4 (by decide) (by decide)]; exact (i1 4 9 (by decide) (by decide) (by decide) (by decide) (by decide) (by decide)).trans h9
        · rw [hrow 4 (by decide) (by decide)]; exact i4
        · rw [am_up_slot (by decide), am_up_same]
        · rw [am_up_same]
        · rw [hrow 56 (by decide) (by decide), if_pos rfl]; exact i6 p hp
        obtain ⟨q1, q2, q3, q4, q5, q6, q7, q8⟩ := hQ
        obtain ⟨r1, r2, r3⟩ := al_sim hr
        have hW : frW I2 I1 := fun a j h1 h2 h3 h4 h5 h6 => by
          rw [q1 a j (by unfold gpT; simp [h1, h5]) h2 h4 h6, hrow a h1 h3]
          exact i1 a j h1 h2 h3 h4 h5 h6
        have h411 : I2 4 11 = (if r.2.1 = 1 then nI 1 else nI 0) := by rw [q8, hrow 4 (by decide) (by decide), i5]
        have hI2 : fwP n m fx sq tl lf A r.1 I2 I1 ∨ r.2.1 = 1 := by
          by_cases g1 : r.2.1 = 1
          · exact Or.inr g1
          · refine Or.inl ⟨hW, q2, q5, q3, by rw [h411, if_neg g1], fun p hp => ?_, fun k f' hk hfk => ?_⟩
            · rw [q6.2.2 p hp]
              by_cases e : r.2.2.1 = 0
              · rw [if_pos e]
              · rw [if_neg e, al_first h0 hr e]
            · rw [q1 54 _ rfl (by decide) (by decide) (fun z => absurd z (by decide)), am_up_ne (by decide), am_up_ne (by decide)]
              show fxR _ _ _ _ _ _ = _
              have e := fxR_S (A := A) (s := s') (base := I 54) (ff := I 56) hsq i7 (fun k hk => by rw [i6 _ (by have := (hS.2.2.2.2.2.2.2 k hk).2.1; have := hS.2.2.2.1; omega)]; exact kpR_at m hk (fun j a b z => b (hinj j k a hk z))) hk
              rw [e]
              simp [fxS, hfk, fxI]
        have hfr2 : ∀ i, i < (frL fx sq m).length → I2 51 i = nI (frN fx sq m i) ∧ frN fx sq m i < 36 := by rw [frW_row hW (by omega) (by decide) (by decide)]; exact hfr
        refine a_aload_n dX8_fewestMeters_65 rfl ?_
        refine a_geti dX8_fewestMeters_66 kf_X8_40 ⟨by decide, _, rfl, rfl⟩ h411 ?_
        refine a_if_eq (tgt := 74) dX8_fewestMeters_69 (by decide) (fun h2 => ?_) (fun h2 => ?_)
        · have g1 : ¬ r.2.1 = 1 := fun z => by rw [if_pos z] at h2; exact absurd h2 (by decide)
          rw [if_neg (fun z => g1 (r2.trans z))] at hres
          refine a_aload_n dX8_fewestMeters_74 rfl ?_
          refine a_geti dX8_fewestMeters_75 kf_X8_118 ⟨by decide, _, rfl, rfl⟩ q6.1 ?_
          refine a_iconst (v := nI 1) dX8_fewestMeters_78 (by decide) ?_
          refine a_icmp_ne (tgt := 90) dX8_fewestMeters_79 (by decide) (fun h3 => ?_) (fun h3 => ?_)
          · have g2 : ¬ r.2.2.1 = 1 := fun z => h3 (by rw [z])
            rw [if_neg (fun z => g2 (r3.trans z))] at hres
            have hE : fwP n m fx sq tl lf A (alS g la fx tl n m lf A lim t s').1 I2 I1 := by rw [← r1]; exact hI2.resolve_right g1
            have htl' : (alS g la fx tl n m lf A lim t s').1 ≤ lim := by rw [← r1]; exact q4
            refine a_lload dX8_fewestMeters_90 rfl ?_
            refine a_callSl (As := [_]) dX8_fewestMeters_92 km_X8_125 rfl rfl (Nat.le_of_ble_eq_true rfl) ?_
            by_cases hz0 : z = 0
            · obtain rfl : s' = 0 := hz00 hz0 hlt
              rw [if_pos hz0] at hres
              refine s_next0 ?_
              refine a_lstore (L' := [_, _, _, _, _, _, _, _, _]) dX8_fewestMeters_95 (Nat.le_of_ble_eq_true rfl) rfl ?_
              refine a_iinc (L' := [_, _, _, _, _, _, _, _, _]) dX8_fewestMeters_97 rfl (nI_inc _) rfl ?_
              refine a_goto (tgt := 29) dX8_fewestMeters_100 (by decide) ?_
              refine ih z (2 ^ (frL fx sq m).length) _ _ (c + 1) I2 hz (by omega) (by omega) (Or.inr ⟨Nat.le_refl _, by omega⟩) (fun q => absurd hz0 q) (fun _ q => by omega) (fun q => by omega) hE htl' (fun q => ⟨by have := (hcz q).2 hlt; omega, fun z => by omega⟩) (fun q => absurd hz0 q) ?_ hres
              unfold mtM at hM ⊢
              omega
            · obtain ⟨j, a, hja⟩ := low_ex s' (hzs hz0)
              have hj36 : j < 36 := by
                rcases Nat.lt_or_ge j 36 with q | q
                · exact q
                · have q1 : 2 ^ 36 ≤ 2 ^ j := Nat.pow_le_pow_right (by decide) q
                  have q2 : 2 ^ j * 1 ≤ 2 ^ j * (2 * a + 1) := Nat.mul_le_mul_left _ (by omega)
                  omega
              obtain ⟨n1, n2⟩ := nxL_lt hja (by omega) hj36
              have n3 : s' < nxL s' := by rw [n2]; exact nxS_gt j s'
              rw [if_neg hz0] at hres
              rw [show (.long (lN s') : Value) = .long (lN (2 ^ j * (2 * a + 1))) by rw [← hja]]
              refine s_next (by rw [← hja]; omega) (by omega) ?_
              rw [← hja, ← n2]
              refine a_lstore (L' := [_, _, _, _, _, _, _, _, _]) dX8_fewestMeters_95 (Nat.le_of_ble_eq_true rfl) rfl ?_
              refine a_iinc (L' := [_, _, _, _, _, _, _, _, _]) dX8_fewestMeters_97 rfl (nI_inc _) rfl ?_
              refine a_goto (tgt := 29) dX8_fewestMeters_100 (by decide) ?_
              have hup := al_up (by omega) h0 hr g1
              rw [r1] at hup
              refine ih z (nxL s') _ _ (c + 1) I2 hz (by omega) (by omega) (Or.inl rfl) (fun _ => by omega) (fun q => absurd q hz0) (fun q => ?_) hE htl' (fun q => absurd q hz0) (fun q => by have := hct q; omega) ?_ hres
              · have e := pop_nx hja hlt (by rw [← n2]; exact Nat.lt_trans q (Nat.pow_lt_pow_right (by decide) (by omega)))
                rw [← n2, pop_ext q (by omega)] at e
                rw [e]; exact hpop hlt
              · unfold mtM at hM ⊢
                omega
          · have g2 : r.2.2.1 = 1 := nI_inj (by have hq7 : r.2.2.1 + e01 0 ≤ r.1 + 1 := q7; omega) (by decide) h3
            rw [if_pos (r3.symm.trans g2)] at hres
            refine a_aload_n dX8_fewestMeters_82 rfl ?_
            refine a_lload dX8_fewestMeters_83 rfl ?_
            refine a_iload_n dX8_fewestMeters_85 rfl ?_
            refine a_callVl (As := [_, _]) dX8_fewestMeters_86 km_X8_121 ⟨by decide, _, _, _, rfl, rfl⟩ rfl rfl (Nat.le_of_ble_eq_true rfl) ?_
            refine s_bitsOf (fr := frN fx sq m) (by omega) hfl hfr2 ?_
            exact a_lreturn dX8_fewestMeters_89 ⟨_, rfl, (k2 z s' (by rw [← hres]) (hpop hlt) I2 hW (by rw [← hres, ← r1]; exact q3) (by rw [h411, if_neg g1]))⟩
        · have g1 : r.2.1 = 1 := Classical.byContradiction (fun z => h2 (by rw [if_neg z]; rfl))
          rw [if_pos (r2.symm.trans g1)] at hres
          refine a_lconst (v := 0) dX8_fewestMeters_72 (by decide) ?_
          exact a_lreturn dX8_fewestMeters_73 ⟨_, rfl, (k1 (by rw [← hres]) I2 hW (by rw [← hres, ← r1]; exact q3) (by rw [h411, if_pos g1]))⟩

def frX (I I1 : am_I) : Prop := ∀ a j, a ≠ 5 → a ≠ 51 → a ≠ 53 → a ≠ 54 → a ≠ 55 → a ≠ 56 → (a = 4 → j ≠ 10 ∧ j ≠ 11) → I a j = I1 a j
set_option maxHeartbeats 4000000 in
set_option maxRecDepth 100000 in
theorem s_fewestMeters {G : am_G} {d : Nat} {I : am_I} {J : am_J} {K : Int64 → am_I → am_J → Prop} {n m M lim : Nat} {R : Nat → Option (List Nat)} {g la : Nat → Nat} {fx : Nat → Option Nat} {sq : Nat → Nat} {tl : Nat → Bool} {lf A : Nat → Nat} {E' : EvS} {lim' t0 u0 t : Nat} {res : Nat × Option (Option (Nat × Nat))} (hS : scP I n m M R g la fx sq tl) (hsq : ∀ j k, j < k → k < m → sq j < sq k) (hlf : ∀ l, lf l ≤ 200) (hA : ∀ k, k < m → A k ≤ 200) (h9 : I 4 9 = nI lim) (hlim : lim ≤ 20000) (h0 : nxE lim' t0 (evS g la fx tl n m 0 lf (fun _ => 0)) = (u0, some (some (A, E')))) (hI : fwP n m fx sq tl lf A t I I) (htl : t ≤ lim) (h13 : ∀ k, k < m → (I 13 (sq k) = -9 ↔ (fx k).isNone = true)) (hres : mtS (alS g la fx tl n m lf A lim) (frL fx sq m).length (mtM (frL fx sq m).length 0 0 + 1) 0 0 t = res) (k0 : res.2 = some none → ∀ I', frX I' I → I' 4 10 = nI res.1 → I' 4 11 = nI 0 → K (lN 0) I' J) (k1 : res.2 = none → ∀ I', frX I' I → I' 4 10 = nI res.1 → I' 4 11 = nI 1 → K (lN 0) I' J) (k2 : ∀ z s, res.2 = some (some (z, s)) → popN s (frL fx sq m).length = z → ∀ I', frX I' I → I' 4 10 = nI res.1 → I' 4 11 = nI 0 → K (lN (btN (frN fx sq m) s (frL fx sq m).length)) I' J) : CMl G (d + m + 4) yX8_fewestMeters [.ref 4, .ref 5] I J K := by
  refine CM.of (L0 := [_, _, _, _, _, _, _, _, _]) cX8_fewestMeters 9 (some .long) (by decide) (by decide) kcX8_fewestMeters (Nat.le_of_ble_eq_true rfl) rfl ?_
  have hfl : (frL fx sq m).length ≤ 36 := by
    rw [frL_len]
    exact Nat.le_trans (cN_le _ _) hS.2.2.2.2.2.1
  have hp36 : 2 ^ (frL fx sq m).length ≤ 2 ^ 36 := Nat.pow_le_pow_right (by decide) hfl
  refine a_aload_n dX8_fewestMeters_0 rfl ?_
  refine a_callVi (As := []) dX8_fewestMeters_1 km_X8_98 ⟨by decide, _, _, _, rfl, rfl⟩ rfl rfl (Nat.le_of_ble_eq_true rfl) ?_
  refine s_findFree (fx := fx) (sq := sq) (m := m) hS.2.2.2.2.1 hS.2.2.2.2.2.1 (fun k hk => ⟨(hS.2.2.2.2.2.2.2 k hk).1, by have := (hS.2.2.2.2.2.2.2 k hk).2.1; have := hS.2.2.2.1; omega, h13 k hk⟩) (fun I0 hF => ?_)
  have hfr : ∀ i, i < (frL fx sq m).length → I0 51 i = nI (frN fx sq m i) ∧ frN fx sq m i < 36 := fun i hi => by
    have e : (frL fx sq m)[i]? = some (frN fx sq m i) := by unfold frN; rw [List.getD_eq_getElem?_getD, List.getElem?_eq_getElem hi, Option.getD_some]
    refine ⟨hF.2 i _ e, ?_⟩
    obtain ⟨k, k1, _, k2⟩ := frL_mem m (List.mem_of_getElem? e)
    rw [k2]
    have := (hS.2.2.2.2.2.2.2 k k1).2.1
    have := hS.2.2.2.1
    omega
  obtain ⟨i1, i2, i3, i4, i5, i6, i7⟩ := hI
  have hx : ∀ I', frW I' I0 → frX I' I := fun I' h a j p1 p2 p3 p4 p5 p6 p7 => by rw [h a j p1 p3 p4 p5 p6 p7, hF.1 a p2]
  refine a_istore_n (L' := [_, _, _, _, _, _, _, _, _]) dX8_fewestMeters_4 (Nat.le_of_ble_eq_true rfl) rfl ?_
  refine a_lconst (v := 1) dX8_fewestMeters_5 (by decide) ?_
  refine a_iload_n dX8_fewestMeters_6 rfl ?_
  refine a_lshl dX8_fewestMeters_7 (show (1 : Int64) <<< _ = lN (2 ^ (frL fx sq m).length) by have e := lx_shl (n := 1) (k := (frL fx sq m).length) (by omega) (by omega); rw [Nat.one_mul] at e; exact e) ?_
  refine a_lstore_n (L' := [_, _, _, _, _, _, _, _, _]) dX8_fewestMeters_8 (Nat.le_of_ble_eq_true rfl) rfl ?_
  refine a_iconst (v := nI 0) dX8_fewestMeters_9 (by decide) ?_
  refine a_istore (L' := [_, _, _, _, _, _, _, _, _]) dX8_fewestMeters_10 (Nat.le_of_ble_eq_true rfl) rfl ?_
  refine a_iload dX8_fewestMeters_12 rfl ?_
  refine a_iload_n dX8_fewestMeters_14 rfl ?_
  refine a_icmp_gtN (tgt := 109) dX8_fewestMeters_15 (by decide) (by omega) (by omega) (fun g => ?_) (fun g => ?_)
  · exact absurd g (by omega)
  · refine a_lconst (v := 1) dX8_fewestMeters_18 (by decide) ?_
    refine a_iload dX8_fewestMeters_19 rfl ?_
    refine a_lshl dX8_fewestMeters_21 (show (1 : Int64) <<< _ = lN 1 by decide) ?_
    refine a_lconst (v := 1) dX8_fewestMeters_22 (by decide) ?_
    refine a_lsub dX8_fewestMeters_23 (show lN 1 - 1 = lN 0 by decide) ?_
    refine a_lstore (L' := [_, _, _, _, _, _, _, _, _]) dX8_fewestMeters_24 (Nat.le_of_ble_eq_true rfl) rfl ?_
    refine a_iconst (v := nI 0) dX8_fewestMeters_26 (by decide) ?_
    refine a_istore (L' := [_, _, _, _, _, _, _, _, _]) dX8_fewestMeters_27 (Nat.le_of_ble_eq_true rfl) rfl ?_
    refine lp_fm (I1 := I0) (fx := fx) (scP_fr hS (by rw [hF.1 1 (by decide)]) (hF.1 44 (by decide)) (hF.1 45 (by decide)) (by rw [hF.1 4 (by decide)]) (hF.1 50 (by decide)) (hF.1 54 (by decide)) (hF.1 52 (by decide))) hsq hlf hA (by rw [hF.1 4 (by decide)]; exact h9) hlim h0 hfr (fun e I' h1 => k0 e I' (hx I' h1)) (fun e I' h1 => k1 e I' (hx I' h1)) (fun z s e hp I' h1 => k2 z s e hp I' (hx I' h1)) _ 0 0 0 t 0 I0 (by omega) (by decide) (by decide) (Or.inl rfl) (fun q => absurd rfl q) (fun _ _ => rfl) (fun _ => pop_0 _) ⟨fun _ _ _ _ _ _ _ _ => rfl, lcP_row i2 (hF.1 53 (by decide)), nuP_row i3 (hF.1 55 (by decide)), by rw [hF.1 4 (by decide)]; exact i4, by rw [hF.1 4 (by decide)]; exact i5, by rw [hF.1 56 (by decide)]; exact i6, by rw [hF.1 54 (by decide)]; exact i7⟩ htl (fun _ => ⟨Nat.zero_le _, fun _ => rfl⟩) (fun q => absurd rfl q) (Nat.lt_succ_self _) hres

