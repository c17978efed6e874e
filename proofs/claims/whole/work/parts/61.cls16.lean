/-! ===== the system: the public calls, SEEKING ===== -/
theorem sk_inj {I : am_I} {N n : Nat} {F T : Nat → Nat} {S : Nat → Bool} : ∀ i j, i < (skL I N n F T S).length → j < (skL I N n F T S).length → skQ I N n F T S i = skQ I N n F T S j → i = j := by
  intro i j hi hj e
  rcases Nat.lt_trichotomy i j with q | q | q
  · exact absurd e (Nat.ne_of_lt (skQ_lt q hj))
  · exact q
  · exact absurd e.symm (Nat.ne_of_lt (skQ_lt q hi))
/-- what a call of SEEKING leaves as it was -/
def siQ (I' I : am_I) : Prop := ∀ a j, (a = 0 → j ≠ 10 ∧ j ≠ 11) → (a < 3 ∨ (11 ≤ a ∧ a < 46) ∨ 62 ≤ a) → I' a j = I a j
theorem siQ_tr {I1 I2 I3 : am_I} (h : siQ I1 I2) (h' : siQ I2 I3) : siQ I1 I3 := fun a j p q => (h a j p q).trans (h' a j p q)
theorem siQ_row {I1 I2 : am_I} (h : siQ I1 I2) {a : Nat} (h0 : a ≠ 0) (h1 : a < 3 ∨ (11 ≤ a ∧ a < 46) ∨ 62 ≤ a) : I1 a = I2 a := by
  funext j; exact h a j (fun z => absurd z h0) h1
theorem sa_si {C : Type} {Rel : C → am_I → Prop} {cb : C → Nat} {GP : Nat → Bool} {N n : Nat} {F T : Nat → Nat} {S : Nat → Bool} {lim : Nat} {I I' : am_I} {r : Nat × Nat × C} (h : saQ Rel cb GP N n F T S lim I r I') (hG : ∀ a, (a < 5 ∨ (10 ≤ a ∧ a < 50) ∨ 62 ≤ a) → GP a = false) : siQ I' I ∧ I' 0 10 = I 0 10 ∧ I' 10 = I 10 := by
  refine ⟨fun a j p q => sa_fr h a j (hG a (by omega)) (by omega) (by omega) (by omega), sa_fr h 0 10 (hG 0 (by omega)) (by omega) (by omega) (by omega), sa_row h (hG 10 (by omega)) (by omega) (by omega) (by omega)⟩
theorem sa_cb {C : Type} {Rel : C → am_I → Prop} {cb : C → Nat} {GP : Nat → Bool} {N n : Nat} {F T : Nat → Nat} {S : Nat → Bool} {lim : Nat} {I I' : am_I} {r : Nat × Nat × C} (h : saQ Rel cb GP N n F T S lim I r I') : cb r.2.2 ≤ r.1 + 1 ∧ r.1 ≤ lim := by
  obtain ⟨I0, I1, hB, hQ, e⟩ := h
  exact ⟨by have h7 : cb r.2.2 + e01 0 ≤ r.1 + 1 := hQ.2.2.2.2.2.2.1; omega, hQ.2.2.2.1⟩
theorem gpT_no : ∀ a, (a < 5 ∨ (10 ≤ a ∧ a < 50) ∨ 62 ≤ a) → gpT a = false := fun a h => by unfold gpT; simp; omega
theorem gpG_no : ∀ a, (a < 5 ∨ (10 ≤ a ∧ a < 50) ∨ 62 ≤ a) → gpG a = false := fun a h => by unfold gpG; simp; omega
theorem gpF_no : ∀ a, (a < 5 ∨ (10 ≤ a ∧ a < 50) ∨ 62 ≤ a) → gpF a = false := fun a h => by unfold gpF; simp; omega
theorem gpH_no : ∀ a, (a < 5 ∨ (10 ≤ a ∧ a < 50) ∨ 62 ≤ a) → gpH a = false := fun a h => by unfold gpH; simp; omega
theorem nx_cases (lim t : Nat) (E : EvS) : (∃ u, nxE lim t E = (u, some none)) ∨ (∃ u, nxE lim t E = (u, none)) ∨ ∃ u A E', nxE lim t E = (u, some (some (A, E'))) := by
  rcases e : nxE lim t E with ⟨u, o⟩
  rcases o with _ | o
  · exact Or.inr (Or.inl ⟨u, rfl⟩)
  · rcases o with _ | ⟨A, E'⟩
    · exact Or.inl ⟨u, rfl⟩
    · exact Or.inr (Or.inr ⟨u, A, E', rfl⟩)
theorem st_01 {C : Type} {step : C → (Nat → Nat) → C × Bool} {lim : Nat} (hs : ∀ c A, (step c A).2 = false) : ∀ (E : EvS) (t : Nat) (c : C), (runS step lim t E c).2.1 = 0 ∨ (runS step lim t E c).2.1 = 1
  | [], t, c => Or.inl rfl
  | none :: E, t, c => by
    rw [runS]
    by_cases e : t = lim
    · rw [if_pos e]; exact Or.inr rfl
    · rw [if_neg e]; exact st_01 hs E _ _
  | some A :: E, t, c => by
    rw [runS, if_neg (by rw [hs]; decide)]
    exact st_01 hs E _ _
theorem ev_200 {I : am_I} {N n : Nat} {F T : Nat → Nat} {S : Nat → Bool} {A : Nat → Nat} (h : some A ∈ evI I N n F T S) : ∀ j, j < (skL I N n F T S).length → A j ≤ 200 := fun j hj => ((ev_fit _ _ _ _ h).2 j (Nat.zero_le _) (by omega)).1
/-- the FIT that the system keeps -/
def kcP (I : am_I) (sq : Nat → Nat) (m : Nat) (o : Option (Nat → Nat)) : Prop := match o with
  | none => I 0 10 = nI 0
  | some B => I 0 10 = nI 1 ∧ ∀ p, p < 36 → I 10 p = kp0 sq m B p
def mT0 (I : am_I) (x : Int32) : am_I := am_up (am_up I 5 1 (nI 0)) 5 2 x
theorem mT0_ne {I : am_I} {x : Int32} {a : Nat} (h : a ≠ 5) : mT0 I x a = I a := by
  unfold mT0; rw [am_up_ne h, am_up_ne h]
theorem taR_0 {I : am_I} {e : Nat} {sq : Nat → Nat} {m : Nat} {B : Nat → Nat} : ∀ I', frZ I' (mT0 I (nI e)) → taR e sq m (I 56) (0, B) I' := fun I' hf => by
  refine ⟨?_, ?_, fun p hp => ?_⟩
  · rw [frZ_row hf (by omega) (by omega)]; unfold mT0; rw [am_up_slot (by decide), am_up_same]
  · rw [frZ_row hf (by omega) (by omega)]; unfold mT0; rw [am_up_same]
  · rw [frZ_row hf (by omega) (by omega), mT0_ne (by decide)]; rfl
theorem cq_t {I : am_I} {N n : Nat} {F T : Nat → Nat} {S : Nat → Bool} {x : Int32} (h : cqP I N n F T S) : cqP (mT0 I x) N n F T S :=
  cq_fr h (mT0_ne (by decide)) (mT0_ne (by decide)) (mT0_ne (by decide)) (mT0_ne (by decide)) (mT0_ne (by decide)) (mT0_ne (by decide)) (mT0_ne (by decide)) (fun l _ => by rw [mT0_ne (by omega)])
theorem cq_up0 {I : am_I} {N n : Nat} {F T : Nat → Nat} {S : Nat → Bool} {j : Nat} {x : Int32} (h : cqP I N n F T S) : cqP (am_up I 0 j x) N n F T S :=
  cq_fr h (am_up_ne (by decide)) (am_up_ne (by decide)) (am_up_ne (by decide)) (am_up_ne (by decide)) (am_up_ne (by decide)) (am_up_ne (by decide)) (am_up_ne (by decide)) (fun l _ => by rw [am_up_ne (by omega)])
set_option maxHeartbeats 4000000 in
set_option maxRecDepth 100000 in
theorem l_fits {G : am_G} {d : Nat} {I : am_I} {J : am_J} {K : Int32 → am_I → am_J → Prop} {N n : Nat} {F T : Nat → Nat} {S : Nat → Bool} {x : Int32} (hq : cqP I N n F T S) (h1 : ∀ lim, 1 ≤ lim → lim ≤ 20000 → x = nI lim → ∀ I' t A E, nxE lim 0 (evI I N n F T S) = (t, some (some (A, E))) → siQ I' I → I' 0 11 = nI t → I' 0 10 = nI 1 → (∀ p, p < 36 → I' 10 p = kp0 (skQ I N n F T S) (skL I N n F T S).length A p) → K (nI 1) I' J) (h2 : ∀ lim, 1 ≤ lim → lim ≤ 20000 → x = nI lim → ∀ I' t, nxE lim 0 (evI I N n F T S) = (t, some none) → siQ I' I → I' 0 11 = nI t → I' 0 10 = nI 0 → K (nI 0) I' J) (h3 : ∀ lim, 1 ≤ lim → lim ≤ 20000 → x = nI lim → ∀ I' t, nxE lim 0 (evI I N n F T S) = (t, none) → siQ I' I → I' 0 11 = nI t → I' 0 10 = nI 0 → K (-6) I' J) (h0 : ¬ (nI 1 ≤ x ∧ x ≤ nI 20000) → K (-1) I J) : CMi G (d + 41) yX11_fits [.ref 0, .int x] I J K := by
  refine CM.of (L0 := [_, _]) cX11_fits 2 (some .int) (by decide) (by decide) kcX11_fits (Nat.le_of_ble_eq_true rfl) rfl ?_
  refine a_iload_n dX11_fits_0 rfl ?_
  refine a_callSi (As := [_]) dX11_fits_1 km_X11_197 rfl rfl (Nat.le_of_ble_eq_true rfl) ?_
  refine l_isTries (fun lim hl1 hl2 el => ?_) (fun e0 => ?_)
  · subst el
    refine a_if_ne (tgt := 9) dX11_fits_4 (by decide) (fun g4 => ?_) (fun g4 => ?_)
    · refine a_aload_n dX11_fits_9 rfl ?_
      refine a_iconst (v := nI 0) dX11_fits_10 (by decide) ?_
      refine a_putz dX11_fits_11 kp_X11_79 ⟨by decide, _, rfl, rfl⟩ (by first | exact Or.inl rfl | exact Or.inr rfl) ?_
      refine a_aload_n dX11_fits_14 rfl ?_
      refine a_getr dX11_fits_15 kf_X11_38 ⟨by decide, _, rfl, rfl⟩ ?_
      refine a_iconst (v := nI 1) dX11_fits_18 (by decide) ?_
      refine a_callVv (As := [_]) dX11_fits_19 km_X11_200 ⟨by decide, _, _, _, rfl, rfl⟩ rfl rfl (Nat.le_of_ble_eq_true rfl) ?_
      refine t_begin ?_
      refine a_aload_n dX11_fits_22 rfl ?_
      refine a_aload_n dX11_fits_23 rfl ?_
      refine a_getr dX11_fits_24 kf_X11_38 ⟨by decide, _, rfl, rfl⟩ ?_
      refine a_iload_n dX11_fits_27 rfl ?_
      refine a_callVi (As := [_, _]) dX11_fits_28 km_X11_201 ⟨by decide, _, _, _, rfl, rfl⟩ rfl rfl (Nat.le_of_ble_eq_true rfl) ?_
      have hq1 : cqP (mT0 (am_up I 0 10 (nI 0)) (nI 1)) N n F T S := cq_t (cq_up0 hq)
      obtain ⟨z1, z2, z3⟩ := sk_fr (I := I) (I' := (mT0 (am_up I 0 10 (nI 0)) (nI 1))) rfl rfl N n F T S
      have hG := go_t (G := G) (d := d + 36 - (skL (mT0 (am_up I 0 10 (nI 0)) (nI 1)) N n F T S).length) (e := 1) (v := I 56) (by decide) (sk_inj (I := (mT0 (am_up I 0 10 (nI 0)) (nI 1))) (N := N) (n := n) (F := F) (T := T) (S := S))
      refine l_seekAllt (I := (mT0 (am_up I 0 10 (nI 0)) (nI 1))) (d := d) (c := ((0, (fun _ => 0)) : TaC)) hq1 hG hl2 taR_0 rfl (fun I' r hr hQ => ?_)
      rw [z1] at hr
      have hRel := sa_rel hQ (fun c I x h => taR_fr h (am_up_ne (by decide)) (am_up_ne (by decide)))
      have htr := sa_tr hQ
      obtain ⟨si1, si2, si3⟩ := sa_si hQ gpT_no
      obtain ⟨cb1, cb2⟩ := sa_cb hQ
      have hsi : siQ I' I := siQ_tr si1 (fun a j p q => by rw [mT0_ne (by omega)]; by_cases e : a = 0; (subst e; rw [am_up_slot (p rfl).1]); rw [am_up_ne e])
      have h10 : I' 0 10 = nI 0 := by rw [si2, mT0_ne (by decide), am_up_same]
      rcases nx_cases lim 0 (evI I N n F T S) with ⟨t, ht⟩ | ⟨t, ht⟩ | ⟨t, A, E, ht⟩
      · have hr2 : r = (t, 0, ((0, (fun _ => 0)) : TaC)) := by rw [hr, runS_nx, ht]; rfl
        subst hr2
        refine a_topi (v := 1) rfl ?_
        refine a_if_ne (tgt := 37) dX11_fits_31 (by decide) (fun h31 => ?_) (fun h31 => ?_)
        · refine a_aload_n dX11_fits_37 rfl ?_
          refine a_getr dX11_fits_38 kf_X11_38 ⟨by decide, _, rfl, rfl⟩ ?_
          refine a_geti dX11_fits_41 kf_X11_205 ⟨by decide, _, rfl, rfl⟩ hRel.1 ?_
          refine a_if_ne (tgt := 49) dX11_fits_44 (by decide) (fun h44 => ?_) (fun h44 => ?_)
          · exact absurd rfl h44
          · refine a_iconst (v := nI 0) dX11_fits_47 (by decide) ?_
            exact a_ireturn dX11_fits_48 ⟨_, rfl, (h2 lim hl1 hl2 rfl I' t ht hsi htr h10)⟩
        · exact absurd h31 (by decide)
      · have hr2 : r = (t, 1, ((0, (fun _ => 0)) : TaC)) := by rw [hr, runS_nx, ht]; rfl
        subst hr2
        refine a_topi (v := 0) rfl ?_
        refine a_if_ne (tgt := 37) dX11_fits_31 (by decide) (fun h31 => ?_) (fun h31 => ?_)
        · exact absurd h31 (by decide)
        · refine a_bipush (v := (-6)) dX11_fits_34 (by decide) ?_
          exact a_ireturn dX11_fits_36 ⟨_, rfl, (h3 lim hl1 hl2 rfl I' t ht hsi htr h10)⟩
      · have hr2 : r = (t, 2, ((1, A) : TaC)) := by rw [hr, runS_nx, ht]; rfl
        subst hr2
        refine a_topi (v := 1) rfl ?_
        refine a_if_ne (tgt := 37) dX11_fits_31 (by decide) (fun h31 => ?_) (fun h31 => ?_)
        · refine a_aload_n dX11_fits_37 rfl ?_
          refine a_getr dX11_fits_38 kf_X11_38 ⟨by decide, _, rfl, rfl⟩ ?_
          refine a_geti dX11_fits_41 kf_X11_205 ⟨by decide, _, rfl, rfl⟩ hRel.1 ?_
          refine a_if_ne (tgt := 49) dX11_fits_44 (by decide) (fun h44 => ?_) (fun h44 => ?_)
          · refine a_aload_n dX11_fits_49 rfl ?_
            refine a_aload_n dX11_fits_50 rfl ?_
            refine a_getr dX11_fits_51 kf_X11_38 ⟨by decide, _, rfl, rfl⟩ ?_
            refine a_getr dX11_fits_54 kf_X11_208 ⟨by decide, _, rfl, rfl⟩ ?_
            refine a_callVv (As := [_]) dX11_fits_57 km_X11_211 ⟨by decide, _, _, _, rfl, rfl⟩ rfl rfl (Nat.le_of_ble_eq_true rfl) ?_
            refine l_keepFit56 ?_
            refine a_iconst (v := nI 1) dX11_fits_60 (by decide) ?_
            exact a_ireturn dX11_fits_61 ⟨_, rfl, (h1 lim hl1 hl2 rfl _ t A E ht (fun a j p q => by by_cases e : a = 0; (subst e; rw [am_up_slot (p rfl).1, am_cp_ne (by decide)]; exact hsi 0 j p q); rw [am_up_ne e, am_cp_ne (by omega)]; exact hsi a j p q) (by rw [am_up_slot (by decide), am_cp_ne (by decide)]; exact htr) (by rw [am_up_same]) (fun p hp => by rw [am_up_ne (by decide), cp_at hp, hRel.2.2 p hp, if_neg (show ¬ (1 : Nat) = 0 by decide)]; rfl))⟩
          · exact absurd (show nI 1 = 0 from h44) (by decide)
        · exact absurd h31 (by decide)
    · exact absurd g4 (by decide)
  · refine a_if_ne (tgt := 9) dX11_fits_4 (by decide) (fun g4 => ?_) (fun g4 => ?_)
    · exact absurd g4 (by decide)
    · refine a_iconst (v := (-1)) dX11_fits_7 (by decide) ?_
      exact a_ireturn dX11_fits_8 ⟨_, rfl, (h0 e0)⟩

set_option maxHeartbeats 4000000 in
set_option maxRecDepth 100000 in
theorem l_many {G : am_G} {d : Nat} {I : am_I} {J : am_J} {K : Int32 → am_I → am_J → Prop} {N n : Nat} {F T : Nat → Nat} {S : Nat → Bool} {x : Int32} (hq : cqP I N n F T S) (h1 : ∀ lim, 1 ≤ lim → lim ≤ 20000 → x = nI lim → ∀ I' t c, runS cntS lim 0 (evI I N n F T S) 0 = (t, 0, c) → siQ I' I → I' 0 11 = nI t → I' 0 10 = I 0 10 → I' 10 = I 10 → K (nI 1) I' (am_upJ J 0 12 (lN c))) (h2 : ∀ lim, 1 ≤ lim → lim ≤ 20000 → x = nI lim → ∀ I' t c, runS cntS lim 0 (evI I N n F T S) 0 = (t, 1, c) → siQ I' I → I' 0 11 = nI t → I' 0 10 = I 0 10 → I' 10 = I 10 → K (-6) I' J) (h0 : ¬ (nI 1 ≤ x ∧ x ≤ nI 20000) → K (-1) I J) : CMi G (d + 41) yX11_many [.ref 0, .int x] I J K := by
  refine CM.of (L0 := [_, _]) cX11_many 2 (some .int) (by decide) (by decide) kcX11_many (Nat.le_of_ble_eq_true rfl) rfl ?_
  refine a_iload_n dX11_many_0 rfl ?_
  refine a_callSi (As := [_]) dX11_many_1 km_X11_197 rfl rfl (Nat.le_of_ble_eq_true rfl) ?_
  refine l_isTries (fun lim hl1 hl2 el => ?_) (fun e0 => ?_)
  · subst el
    refine a_if_ne (tgt := 9) dX11_many_4 (by decide) (fun h4 => ?_) (fun h4 => ?_)
    · refine a_aload_n dX11_many_9 rfl ?_
      refine a_getr dX11_many_10 kf_X11_38 ⟨by decide, _, rfl, rfl⟩ ?_
      refine a_ldc dX11_many_13 kk_X11_216 (show (2147483647 : Int32) = nI (2 ^ 31 - 1) by decide) ?_
      refine a_callVv (As := [_]) dX11_many_15 km_X11_200 ⟨by decide, _, _, _, rfl, rfl⟩ rfl rfl (Nat.le_of_ble_eq_true rfl) ?_
      refine t_begin ?_
      refine a_aload_n dX11_many_18 rfl ?_
      refine a_aload_n dX11_many_19 rfl ?_
      refine a_getr dX11_many_20 kf_X11_38 ⟨by decide, _, rfl, rfl⟩ ?_
      refine a_iload_n dX11_many_23 rfl ?_
      refine a_callVi (As := [_, _]) dX11_many_24 km_X11_201 ⟨by decide, _, _, _, rfl, rfl⟩ rfl rfl (Nat.le_of_ble_eq_true rfl) ?_
      have hq1 : cqP (mT0 I (nI (2 ^ 31 - 1))) N n F T S := cq_t hq
      obtain ⟨z1, z2, z3⟩ := sk_fr (I := I) (I' := (mT0 I (nI (2 ^ 31 - 1)))) rfl rfl N n F T S
      have hG := go_t (G := G) (d := d + 36 - (skL (mT0 I (nI (2 ^ 31 - 1))) N n F T S).length) (e := 2 ^ 31 - 1) (v := I 56) (by decide) (sk_inj (I := (mT0 I (nI (2 ^ 31 - 1)))) (N := N) (n := n) (F := F) (T := T) (S := S))
      refine l_seekAllt (I := (mT0 I (nI (2 ^ 31 - 1)))) (d := d) (c := ((0, (fun _ => 0)) : TaC)) hq1 hG hl2 taR_0 rfl (fun I' r hr hQ => ?_)
      rw [z1] at hr
      have hRel := sa_rel hQ (fun c I x h => taR_fr h (am_up_ne (by decide)) (am_up_ne (by decide)))
      have htr := sa_tr hQ
      obtain ⟨si1, si2, si3⟩ := sa_si hQ gpT_no
      obtain ⟨cb1, cb2⟩ := sa_cb hQ
      have hsi : siQ I' I := siQ_tr si1 (fun a j p q => by rw [mT0_ne (by omega)])
      have h10 : I' 0 10 = I 0 10 := by rw [si2, mT0_ne (by decide)]
      have h10r : I' 10 = I 10 := by rw [si3, mT0_ne (by decide)]
      obtain ⟨c1, c2, c3⟩ := ta_cnt hl2 (evI I N n F T S) 0 1 ((0, (fun _ => 0)) : TaC) (crE_ev _ _ _ _) (Nat.le_refl _) (by omega)
      rw [← hr] at c1 c2 c3
      have hrun : runS cntS lim 0 (evI I N n F T S) 0 = (r.1, r.2.1, r.2.2.1) := by rw [c1, c2, c3]
      have hcb : r.2.2.1 ≤ r.1 + 1 := cb1
      rcases st_01 (step := cntS) (lim := lim) (fun _ _ => rfl) (evI I N n F T S) 0 0 with hst | hst
      · rw [← c2] at hst
        rw [hst] at hrun
        refine a_topi (v := 1) (by rw [hst]; rfl) ?_
        refine a_if_ne (tgt := 33) dX11_many_27 (by decide) (fun h27 => ?_) (fun h27 => ?_)
        · refine a_aload_n dX11_many_33 rfl ?_
          refine a_aload_n dX11_many_34 rfl ?_
          refine a_getr dX11_many_35 kf_X11_38 ⟨by decide, _, rfl, rfl⟩ ?_
          refine a_geti dX11_many_38 kf_X11_205 ⟨by decide, _, rfl, rfl⟩ hRel.1 ?_
          refine a_i2l dX11_many_41 (nI_l (by omega)) ?_
          refine a_putl dX11_many_42 kp_X11_87 ⟨by decide, _, rfl, rfl⟩ ?_
          refine a_iconst (v := nI 1) dX11_many_45 (by decide) ?_
          exact a_ireturn dX11_many_46 ⟨_, rfl, (h1 lim hl1 hl2 rfl I' _ _ hrun hsi htr h10 h10r)⟩
        · exact absurd h27 (by decide)
      · rw [← c2] at hst
        rw [hst] at hrun
        refine a_topi (v := 0) (by rw [hst]; rfl) ?_
        refine a_if_ne (tgt := 33) dX11_many_27 (by decide) (fun h27 => ?_) (fun h27 => ?_)
        · exact absurd h27 (by decide)
        · refine a_bipush (v := (-6)) dX11_many_30 (by decide) ?_
          exact a_ireturn dX11_many_32 ⟨_, rfl, (h2 lim hl1 hl2 rfl I' _ _ hrun hsi htr h10 h10r)⟩
    · exact absurd h4 (by decide)
  · refine a_if_ne (tgt := 9) dX11_many_4 (by decide) (fun h4 => ?_) (fun h4 => ?_)
    · exact absurd h4 (by decide)
    · refine a_iconst (v := (-1)) dX11_many_7 (by decide) ?_
      exact a_ireturn dX11_many_8 ⟨_, rfl, (h0 e0)⟩

def mR0 (I : am_I) : am_I := mFill (mFill (am_up I 6 2 (nI 0)) 57 36 (nI 200)) 58 36 (nI 0)
theorem mR0_ne {I : am_I} {a : Nat} (h1 : a ≠ 6) (h2 : a ≠ 57) (h3 : a ≠ 58) : mR0 I a = I a := by
  unfold mR0; rw [mFill_ne h3, mFill_ne h2, am_up_ne h1]
theorem raR_0 {I : am_I} : ∀ I', frZ I' (mR0 I) → raR ra0 I' := fun I' hf => by
  refine ⟨?_, fun p hp => ⟨?_, ?_⟩⟩
  · rw [frZ_row hf (by omega) (by omega)]; unfold mR0; rw [mFill_ne (by decide), mFill_ne (by decide), am_up_same]; rfl
  · rw [frZ_row hf (by omega) (by omega)]; unfold mR0; rw [mFill_ne (by decide)]; simp [mFill, hp, ra0]
  · rw [frZ_row hf (by omega) (by omega)]; unfold mR0; simp [mFill, hp, ra0]
theorem raR_fr {c : RgC} {I I' : am_I} (h : raR c I) (h1 : I' 6 = I 6) (h2 : I' 57 = I 57) (h3 : I' 58 = I 58) : raR c I' := by
  unfold raR
  rw [h1, h2, h3]
  exact h
theorem ra_run {I : am_I} {N n : Nat} {F T : Nat → Nat} {S : Nat → Bool} {lim : Nat} {r : Nat × Nat × RgC} (hr : r = runS (raP (skQ I N n F T S) (skL I N n F T S).length) lim 0 (evI I N n F T S) ra0) : r.1 = (runS (bdP (skQ I N n F T S) (skL I N n F T S).length) lim 0 (evI I N n F T S) bd0).1 ∧ r.2.1 = (runS (bdP (skQ I N n F T S) (skL I N n F T S).length) lim 0 (evI I N n F T S) bd0).2.1 ∧ rgL (skQ I N n F T S) (skL I N n F T S).length r.2.2 (runS (bdP (skQ I N n F T S) (skL I N n F T S).length) lim 0 (evI I N n F T S) bd0).2.2 := by
  rw [hr]
  exact runS_sim (rgL (skQ I N n F T S) (skL I N n F T S).length) (fun A => ∀ j, j < (skL I N n F T S).length → A j ≤ 200) (fun c e A hA h => rg_step sk_inj c e A hA h) _ (fun A hA => ev_200 hA) 0 ra0 bd0 ⟨rfl, fun _ => ⟨rfl, rfl⟩, fun z => absurd z (by decide)⟩
set_option maxHeartbeats 4000000 in
set_option maxRecDepth 100000 in
theorem l_bound {G : am_G} {d : Nat} {I : am_I} {J : am_J} {K : Int32 → am_I → am_J → Prop} {N n : Nat} {F T : Nat → Nat} {S : Nat → Bool} {x y z u : Int32} (hq : cqP I N n F T S) (h1 : ∀ p q lim, p < N → q < N → p ≠ q → x = nI p → y = nI q → 1 ≤ lim → lim ≤ 20000 → u = nI lim → ∀ I' t c, siQ I' I → I' 0 11 = nI t → I' 0 10 = I 0 10 → I' 10 = I 10 → runS (bdP (skQ I N n F T S) (skL I N n F T S).length) lim 0 (evI I N n F T S) bd0 = (t, 0, c) → K (if c.1 = true then (if z = 0 then c.2.1 (N * p + q) else c.2.2 (N * p + q)) else -9) I' J) (h2 : ∀ lim, isPr N x y → 1 ≤ lim → lim ≤ 20000 → u = nI lim → ∀ I' t c, siQ I' I → I' 0 11 = nI t → I' 0 10 = I 0 10 → I' 10 = I 10 → runS (bdP (skQ I N n F T S) (skL I N n F T S).length) lim 0 (evI I N n F T S) bd0 = (t, 1, c) → K (-6) I' J) (h0 : ¬ (isPr N x y ∧ nI 1 ≤ u ∧ u ≤ nI 20000) → K (-1) I J) : CMi G (d + 41) yX11_bound [.ref 0, .int x, .int y, .int z, .int u] I J K := by
  refine CM.of (L0 := [_, _, _, _, _, _]) cX11_bound 6 (some .int) (by decide) (by decide) kcX11_bound (Nat.le_of_ble_eq_true rfl) rfl ?_
  have hN := hq.2.2.1
  have hb := hq.2.1
  refine a_aload_n dX11_bound_0 rfl ?_
  refine a_getr dX11_bound_1 kf_X11_10 ⟨by decide, _, rfl, rfl⟩ ?_
  refine a_iload_n dX11_bound_4 rfl ?_
  refine a_iload_n dX11_bound_5 rfl ?_
  refine a_callVi (As := [_, _]) dX11_bound_6 km_X11_105 ⟨by decide, _, _, _, rfl, rfl⟩ rfl rfl (Nat.le_of_ble_eq_true rfl) ?_
  refine n_isPair hN (by omega) (fun p q hp hq0 hpq ep eq => ?_) (fun e0 => ?_)
  · subst ep eq
    refine a_if_eq (tgt := 20) dX11_bound_9 (by decide) (fun h9 => ?_) (fun h9 => ?_)
    · exact absurd h9 (by decide)
    · refine a_iload dX11_bound_12 rfl ?_
      refine a_callSi (As := [_]) dX11_bound_14 km_X11_197 rfl rfl (Nat.le_of_ble_eq_true rfl) ?_
      refine l_isTries (fun lim hl1 hl2 el => ?_) (fun e0 => ?_)
      · subst el
        refine a_if_ne (tgt := 22) dX11_bound_17 (by decide) (fun h17 => ?_) (fun h17 => ?_)
        · refine a_aload_n dX11_bound_22 rfl ?_
          refine a_getr dX11_bound_23 kf_X11_45 ⟨by decide, _, rfl, rfl⟩ ?_
          refine a_callVv (As := []) dX11_bound_26 km_X11_217 ⟨by decide, _, _, _, rfl, rfl⟩ rfl rfl (Nat.le_of_ble_eq_true rfl) ?_
          refine g_begin ?_
          refine a_aload_n dX11_bound_29 rfl ?_
          refine a_aload_n dX11_bound_30 rfl ?_
          refine a_getr dX11_bound_31 kf_X11_45 ⟨by decide, _, rfl, rfl⟩ ?_
          refine a_iload dX11_bound_34 rfl ?_
          refine a_callVi (As := [_, _]) dX11_bound_36 km_X11_201 ⟨by decide, _, _, _, rfl, rfl⟩ rfl rfl (Nat.le_of_ble_eq_true rfl) ?_
          have hq1 : cqP (mR0 I) N n F T S := cq_fr hq (mR0_ne (by decide) (by decide) (by decide)) (mR0_ne (by decide) (by decide) (by decide)) (mR0_ne (by decide) (by decide) (by decide)) (mR0_ne (by decide) (by decide) (by decide)) (mR0_ne (by decide) (by decide) (by decide)) (mR0_ne (by decide) (by decide) (by decide)) (mR0_ne (by decide) (by decide) (by decide)) (fun l _ => by rw [mR0_ne (by omega) (by omega) (by omega)])
          obtain ⟨z1, z2, z3⟩ := sk_fr (I := I) (I' := (mR0 I)) (mR0_ne (by decide) (by decide) (by decide)) (mR0_ne (by decide) (by decide) (by decide)) N n F T S
          have hG := go_g (G := G) (d := d + 36 - (skL (mR0 I) N n F T S).length) (sk_inj (I := (mR0 I)) (N := N) (n := n) (F := F) (T := T) (S := S))
          refine l_seekAllg (I := (mR0 I)) (d := d) (c := ra0) hq1 hG hl2 raR_0 rfl (fun I' r hr hQ => ?_)
          rw [z1, z2, z3] at hr
          have hRel := sa_rel hQ (fun c I x h => raR_fr h (am_up_ne (by decide)) (am_up_ne (by decide)) (am_up_ne (by decide)))
          have htr := sa_tr hQ
          obtain ⟨si1, si2, si3⟩ := sa_si hQ gpG_no
          have hsi : siQ I' I := siQ_tr si1 (fun a j p q => by rw [mR0_ne (by omega) (by omega) (by omega)])
          have h10 : I' 0 10 = I 0 10 := by rw [si2, mR0_ne (by decide) (by decide) (by decide)]
          have h10r : I' 10 = I 10 := by rw [si3, mR0_ne (by decide) (by decide) (by decide)]
          obtain ⟨c1, c2, c3⟩ := ra_run hr
          rcases er : runS (bdP (skQ I N n F T S) (skL I N n F T S).length) lim 0 (evI I N n F T S) bd0 with ⟨t, st, c⟩
          rw [er] at c1 c2 c3
          rw [c1] at htr
          have hst := st_01 (step := bdP (skQ I N n F T S) (skL I N n F T S).length) (lim := lim) (fun _ _ => rfl) (evI I N n F T S) 0 bd0
          rw [er] at hst
          rcases hst with hst | hst
          · subst hst
            refine a_topi (v := 1) (by rw [c2]; rfl) ?_
            have hk := h1 p q lim hp hq0 hpq rfl rfl hl1 hl2 rfl I' t c hsi htr h10 h10r er
            have hN1 : I' 1 0 = nI N := by rw [siQ_row hsi (by decide) (by omega)]; exact hN
            refine a_if_ne (tgt := 45) dX11_bound_39 (by decide) (fun h39 => ?_) (fun h39 => ?_)
            · refine a_aload_n dX11_bound_45 rfl ?_
              refine a_getr dX11_bound_46 kf_X11_45 ⟨by decide, _, rfl, rfl⟩ ?_
              refine a_geti dX11_bound_49 kf_X11_219 ⟨by decide, _, rfl, rfl⟩ hRel.1 ?_
              refine a_if_ne (tgt := 58) dX11_bound_52 (by decide) (fun g => ?_) (fun g => ?_)
              · have hc1 : r.2.2.1 = true := by
                  rcases hb : r.2.2.1 with _ | _
                  · rw [hb] at g; exact absurd rfl g
                  · rfl
                have hcc : c.1 = true := by rw [← c3.1]; exact hc1
                have c4 := c3.2.2 hc1
                rw [if_pos hcc] at hk
                refine a_aload_n dX11_bound_58 rfl ?_
                refine a_getr dX11_bound_59 kf_X11_10 ⟨by decide, _, rfl, rfl⟩ ?_
                refine a_iload_n dX11_bound_62 rfl ?_
                refine a_iload_n dX11_bound_63 rfl ?_
                refine a_callVi (As := [_, _]) dX11_bound_64 km_X11_182 ⟨by decide, _, _, _, rfl, rfl⟩ rfl rfl (Nat.le_of_ble_eq_true rfl) ?_
                refine n_pairNumber hN1 ?_
                refine a_istore (L' := [_, _, _, _, _, _]) dX11_bound_67 (Nat.le_of_ble_eq_true rfl) rfl ?_
                refine a_iload_n dX11_bound_69 rfl ?_
                refine a_if_eq (tgt := 86) dX11_bound_70 (by decide) (fun gz => ?_) (fun gz => ?_)
                · rw [if_pos gz] at hk
                  refine a_aload_n dX11_bound_86 rfl ?_
                  refine a_getr dX11_bound_87 kf_X11_45 ⟨by decide, _, rfl, rfl⟩ ?_
                  refine a_getr dX11_bound_90 kf_X11_224 ⟨by decide, _, rfl, rfl⟩ ?_
                  refine a_iload dX11_bound_93 rfl ?_
                  refine a_iald dX11_bound_95 ⟨by decide, rfl⟩ (ix_lt hb hp hq0) ((hRel.2 _ (ix_lt hb hp hq0)).1.trans (c4 _ (ix_lt hb hp hq0)).1) ?_
                  exact a_ireturn dX11_bound_96 ⟨_, rfl, hk⟩
                · rw [if_neg gz] at hk
                  refine a_aload_n dX11_bound_73 rfl ?_
                  refine a_getr dX11_bound_74 kf_X11_45 ⟨by decide, _, rfl, rfl⟩ ?_
                  refine a_getr dX11_bound_77 kf_X11_222 ⟨by decide, _, rfl, rfl⟩ ?_
                  refine a_iload dX11_bound_80 rfl ?_
                  refine a_iald dX11_bound_82 ⟨by decide, rfl⟩ (ix_lt hb hp hq0) ((hRel.2 _ (ix_lt hb hp hq0)).2.trans (c4 _ (ix_lt hb hp hq0)).2.1) ?_
                  refine a_goto (tgt := 96) dX11_bound_83 (by decide) ?_
                  exact a_ireturn dX11_bound_96 ⟨_, rfl, hk⟩
              · have hc0 : c.1 = false := by
                  rw [← c3.1]
                  rcases hb : r.2.2.1 with _ | _
                  · rfl
                  · rw [hb] at g; exact absurd g (by decide)
                rw [if_neg (by rw [hc0]; decide)] at hk
                refine a_bipush (v := (-9)) dX11_bound_55 (by decide) ?_
                exact a_ireturn dX11_bound_57 ⟨_, rfl, hk⟩
            · exact absurd h39 (by decide)
          · subst hst
            refine a_topi (v := 0) (by rw [c2]; rfl) ?_
            refine a_if_ne (tgt := 45) dX11_bound_39 (by decide) (fun h39 => ?_) (fun h39 => ?_)
            · exact absurd h39 (by decide)
            · refine a_bipush (v := (-6)) dX11_bound_42 (by decide) ?_
              exact a_ireturn dX11_bound_44 ⟨_, rfl, (h2 lim ⟨p, q, hp, hq0, hpq, rfl, rfl⟩ hl1 hl2 rfl I' t c hsi htr h10 h10r er)⟩
        · exact absurd h17 (by decide)
      · refine a_if_ne (tgt := 22) dX11_bound_17 (by decide) (fun h17 => ?_) (fun h17 => ?_)
        · exact absurd h17 (by decide)
        · refine a_iconst (v := (-1)) dX11_bound_20 (by decide) ?_
          exact a_ireturn dX11_bound_21 ⟨_, rfl, (h0 (fun z => e0 z.2))⟩
  · refine a_if_eq (tgt := 20) dX11_bound_9 (by decide) (fun h9 => ?_) (fun h9 => ?_)
    · refine a_iconst (v := (-1)) dX11_bound_20 (by decide) ?_
      exact a_ireturn dX11_bound_21 ⟨_, rfl, (h0 (fun z => e0 z.1))⟩
    · exact absurd h9 (by decide)

def suK (R : Nat → Option (List Nat)) (I : am_I) : Nat → Bool := fun p => (rbR R p).isSome && decide (I 57 p = I 58 p)
set_option maxHeartbeats 4000000 in
set_option maxRecDepth 100000 in
theorem lp_su {G : am_G} {d : Nat} {I : am_I} {J : am_J} {K : Int32 → am_I → am_J → Prop} {n M : Nat} {R : Nat → Option (List Nat)} (hR : rlP 44 45 n M R I) (hM : M ≤ 36) (h2 : I 2 0 = nI M) (hK : K (nI (cN (suK R I) M)) I J) : ∀ i, i ≤ M → AW G cX11_surePairs 3 RX11 (d + 1) (am_ex G (some .int) (fun r I J => ∃ x, r = some (.int x) ∧ K x I J)) 4 [some (.ref 0), some (.int (nI (cN (suK R I) i))), some (.int (nI i))] [] I J := by
  refine am_dn M (fun i hi ih => ?_)
  refine a_iload_n dX11_surePairs_4 rfl ?_
  refine a_aload_n dX11_surePairs_5 rfl ?_
  refine a_getr dX11_surePairs_6 kf_X11_19 ⟨by decide, _, rfl, rfl⟩ ?_
  refine a_geti dX11_surePairs_9 kf_X11_330 ⟨by decide, _, rfl, rfl⟩ h2 ?_
  refine a_icmp_geN (tgt := 56) dX11_surePairs_12 (by decide) (by omega) (by omega) (fun g => ?_) (fun g => ?_)
  · obtain rfl : i = M := by omega
    refine a_iload_n dX11_surePairs_56 rfl ?_
    exact a_ireturn dX11_surePairs_57 ⟨_, rfl, hK⟩
  · refine a_aload_n dX11_surePairs_15 rfl ?_
    refine a_getr dX11_surePairs_16 kf_X11_19 ⟨by decide, _, rfl, rfl⟩ ?_
    refine a_iload_n dX11_surePairs_19 rfl ?_
    refine a_callVi (As := [_]) dX11_surePairs_20 km_X11_333 ⟨by decide, _, _, _, rfl, rfl⟩ rfl rfl (Nat.le_of_ble_eq_true rfl) ?_
    refine r_isRouteda hR g hM (fun l e q => ?_) (fun q => ?_)
    · refine a_if_eq (tgt := 50) dX11_surePairs_23 (by decide) (fun h23 => ?_) (fun h23 => ?_)
      · exact absurd h23 (by decide)
      · refine a_aload_n dX11_surePairs_26 rfl ?_
        refine a_getr dX11_surePairs_27 kf_X11_45 ⟨by decide, _, rfl, rfl⟩ ?_
        refine a_getr dX11_surePairs_30 kf_X11_224 ⟨by decide, _, rfl, rfl⟩ ?_
        refine a_iload_n dX11_surePairs_33 rfl ?_
        refine a_iald dX11_surePairs_34 ⟨by decide, rfl⟩ (by omega) rfl ?_
        refine a_aload_n dX11_surePairs_35 rfl ?_
        refine a_getr dX11_surePairs_36 kf_X11_45 ⟨by decide, _, rfl, rfl⟩ ?_
        refine a_getr dX11_surePairs_39 kf_X11_222 ⟨by decide, _, rfl, rfl⟩ ?_
        refine a_iload_n dX11_surePairs_42 rfl ?_
        refine a_iald dX11_surePairs_43 ⟨by decide, rfl⟩ (by omega) rfl ?_
        refine a_icmp_ne (tgt := 50) dX11_surePairs_44 (by decide) (fun c => ?_) (fun c => ?_)
        · refine a_iinc (L' := [_, _, _]) dX11_surePairs_50 rfl (nI_inc _) rfl ?_
          refine a_goto (tgt := 4) dX11_surePairs_53 (by decide) ?_
          have z := ih (i + 1) (by omega) (by omega)
          rw [cN_s, if_neg (by unfold suK; simp [c]), Nat.add_zero] at z
          exact z
        · refine a_iinc (L' := [_, _, _]) dX11_surePairs_47 rfl (nI_inc _) rfl ?_
          refine a_iinc (L' := [_, _, _]) dX11_surePairs_50 rfl (nI_inc _) rfl ?_
          refine a_goto (tgt := 4) dX11_surePairs_53 (by decide) ?_
          have z := ih (i + 1) (by omega) (by omega)
          rw [cN_s, if_pos (by unfold suK; rw [rbR_some e q]; simp [c])] at z
          exact z
    · refine a_if_eq (tgt := 50) dX11_surePairs_23 (by decide) (fun h23 => ?_) (fun h23 => ?_)
      · refine a_iinc (L' := [_, _, _]) dX11_surePairs_50 rfl (nI_inc _) rfl ?_
        refine a_goto (tgt := 4) dX11_surePairs_53 (by decide) ?_
        have z := ih (i + 1) (by omega) (by omega)
        rw [cN_s, if_neg (by unfold suK; rw [rbR_none q]; simp), Nat.add_zero] at z
        exact z
      · exact absurd h23 (by decide)

set_option maxHeartbeats 4000000 in
set_option maxRecDepth 100000 in
theorem l_surePairs {G : am_G} {d : Nat} {I : am_I} {J : am_J} {K : Int32 → am_I → am_J → Prop} {n M : Nat} {R : Nat → Option (List Nat)} (hR : rlP 44 45 n M R I) (hM : M ≤ 36) (h2 : I 2 0 = nI M) (hK : K (nI (cN (suK R I) M)) I J) : CMi G (d + 1) yX11_surePairs [.ref 0] I J K := by
  refine CM.of (L0 := [_, _, _]) cX11_surePairs 3 (some .int) (by decide) (by decide) kcX11_surePairs (Nat.le_of_ble_eq_true rfl) rfl ?_
  refine a_iconst (v := nI 0) dX11_surePairs_0 (by decide) ?_
  refine a_istore_n (L' := [_, _, _]) dX11_surePairs_1 (Nat.le_of_ble_eq_true rfl) rfl ?_
  refine a_iconst (v := nI 0) dX11_surePairs_2 (by decide) ?_
  refine a_istore_n (L' := [_, _, _]) dX11_surePairs_3 (Nat.le_of_ble_eq_true rfl) rfl ?_
  exact lp_su hR hM h2 hK 0 (by omega)

set_option maxHeartbeats 4000000 in
set_option maxRecDepth 100000 in
theorem l_sure {G : am_G} {d : Nat} {I : am_I} {J : am_J} {K : Int32 → am_I → am_J → Prop} {N n : Nat} {F T : Nat → Nat} {S : Nat → Bool} {x : Int32} (hq : cqP I N n F T S) (h1 : ∀ lim, 1 ≤ lim → lim ≤ 20000 → x = nI lim → ∀ I' t c, siQ I' I → I' 0 11 = nI t → I' 0 10 = I 0 10 → I' 10 = I 10 → runS (bdP (skQ I N n F T S) (skL I N n F T S).length) lim 0 (evI I N n F T S) bd0 = (t, 0, c) → K (if c.1 = true then nI (cN (suQ (rbO F T S n N) c.2) (N * N)) else -9) I' J) (h2 : ∀ lim, 1 ≤ lim → lim ≤ 20000 → x = nI lim → ∀ I' t c, siQ I' I → I' 0 11 = nI t → I' 0 10 = I 0 10 → I' 10 = I 10 → runS (bdP (skQ I N n F T S) (skL I N n F T S).length) lim 0 (evI I N n F T S) bd0 = (t, 1, c) → K (-6) I' J) (h0 : ¬ (nI 1 ≤ x ∧ x ≤ nI 20000) → K (-1) I J) : CMi G (d + 41) yX11_sure [.ref 0, .int x] I J K := by
  refine CM.of (L0 := [_, _]) cX11_sure 2 (some .int) (by decide) (by decide) kcX11_sure (Nat.le_of_ble_eq_true rfl) rfl ?_
  refine a_iload_n dX11_sure_0 rfl ?_
  refine a_callSi (As := [_]) dX11_sure_1 km_X11_197 rfl rfl (Nat.le_of_ble_eq_true rfl) ?_
  refine l_isTries (fun lim hl1 hl2 el => ?_) (fun e0 => ?_)
  · subst el
    refine a_if_ne (tgt := 9) dX11_sure_4 (by decide) (fun h4 => ?_) (fun h4 => ?_)
    · refine a_aload_n dX11_sure_9 rfl ?_
      refine a_getr dX11_sure_10 kf_X11_45 ⟨by decide, _, rfl, rfl⟩ ?_
      refine a_callVv (As := []) dX11_sure_13 km_X11_217 ⟨by decide, _, _, _, rfl, rfl⟩ rfl rfl (Nat.le_of_ble_eq_true rfl) ?_
      refine g_begin ?_
      refine a_aload_n dX11_sure_16 rfl ?_
      refine a_aload_n dX11_sure_17 rfl ?_
      refine a_getr dX11_sure_18 kf_X11_45 ⟨by decide, _, rfl, rfl⟩ ?_
      refine a_iload_n dX11_sure_21 rfl ?_
      refine a_callVi (As := [_, _]) dX11_sure_22 km_X11_201 ⟨by decide, _, _, _, rfl, rfl⟩ rfl rfl (Nat.le_of_ble_eq_true rfl) ?_
      have hq1 : cqP (mR0 I) N n F T S := cq_fr hq (mR0_ne (by decide) (by decide) (by decide)) (mR0_ne (by decide) (by decide) (by decide)) (mR0_ne (by decide) (by decide) (by decide)) (mR0_ne (by decide) (by decide) (by decide)) (mR0_ne (by decide) (by decide) (by decide)) (mR0_ne (by decide) (by decide) (by decide)) (mR0_ne (by decide) (by decide) (by decide)) (fun l _ => by rw [mR0_ne (by omega) (by omega) (by omega)])
      obtain ⟨z1, z2, z3⟩ := sk_fr (I := I) (I' := (mR0 I)) (mR0_ne (by decide) (by decide) (by decide)) (mR0_ne (by decide) (by decide) (by decide)) N n F T S
      have hG := go_g (G := G) (d := d + 36 - (skL (mR0 I) N n F T S).length) (sk_inj (I := (mR0 I)) (N := N) (n := n) (F := F) (T := T) (S := S))
      refine l_seekAllg (I := (mR0 I)) (d := d) (c := ra0) hq1 hG hl2 raR_0 rfl (fun I' r hr hQ => ?_)
      rw [z1, z2, z3] at hr
      have hRel := sa_rel hQ (fun c I x h => raR_fr h (am_up_ne (by decide)) (am_up_ne (by decide)) (am_up_ne (by decide)))
      have htr := sa_tr hQ
      obtain ⟨si1, si2, si3⟩ := sa_si hQ gpG_no
      have hsi : siQ I' I := siQ_tr si1 (fun a j p q => by rw [mR0_ne (by omega) (by omega) (by omega)])
      have h10 : I' 0 10 = I 0 10 := by rw [si2, mR0_ne (by decide) (by decide) (by decide)]
      have h10r : I' 10 = I 10 := by rw [si3, mR0_ne (by decide) (by decide) (by decide)]
      obtain ⟨c1, c2, c3⟩ := ra_run hr
      rcases er : runS (bdP (skQ I N n F T S) (skL I N n F T S).length) lim 0 (evI I N n F T S) bd0 with ⟨t, st, c⟩
      rw [er] at c1 c2 c3
      rw [c1] at htr
      have hst := st_01 (step := bdP (skQ I N n F T S) (skL I N n F T S).length) (lim := lim) (fun _ _ => rfl) (evI I N n F T S) 0 bd0
      rw [er] at hst
      rcases hst with hst | hst
      · subst hst
        refine a_topi (v := 1) (by rw [c2]; rfl) ?_
        have hk := h1 lim hl1 hl2 rfl I' t c hsi htr h10 h10r er
        refine a_if_ne (tgt := 31) dX11_sure_25 (by decide) (fun h25 => ?_) (fun h25 => ?_)
        · refine a_aload_n dX11_sure_31 rfl ?_
          refine a_getr dX11_sure_32 kf_X11_45 ⟨by decide, _, rfl, rfl⟩ ?_
          refine a_geti dX11_sure_35 kf_X11_219 ⟨by decide, _, rfl, rfl⟩ hRel.1 ?_
          refine a_if_eq (tgt := 48) dX11_sure_38 (by decide) (fun g => ?_) (fun g => ?_)
          · have hc0 : c.1 = false := by
              rw [← c3.1]
              rcases hb : r.2.2.1 with _ | _
              · rfl
              · rw [hb] at g; exact absurd g (by decide)
            rw [if_neg (by rw [hc0]; decide)] at hk
            refine a_bipush (v := (-9)) dX11_sure_48 (by decide) ?_
            exact a_ireturn dX11_sure_50 ⟨_, rfl, hk⟩
          · have hc1 : r.2.2.1 = true := by
              rcases hb : r.2.2.1 with _ | _
              · rw [hb] at g; exact absurd rfl g
              · rfl
            have hcc : c.1 = true := by rw [← c3.1]; exact hc1
            have c4 := c3.2.2 hc1
            rw [if_pos hcc] at hk
            obtain ⟨a1, a2, a3, a4, a5, a6, a7, a8, a9⟩ := id hq
            have hrl : rlP 44 45 n (N * N) (RoC F T S n N) I' := rl_fr (rv_rl a7 a1 a2 (fun l hl => (a6 l hl).2)) (siQ_row hsi (by decide) (by omega)) (siQ_row hsi (by decide) (by omega))
            have hsu : cN (suK (RoC F T S n N) I') (N * N) = cN (suQ (rbO F T S n N) c.2) (N * N) := cN_congr _ (fun p hp => by
              have hp36 : p < 36 := Nat.lt_of_lt_of_le hp (sq_le a2)
              unfold suK suQ
              rw [rbR_RoC a2 (fun l hl => (a6 l hl).2) hp, (hRel.2 p hp36).1, (hRel.2 p hp36).2, (c4 p hp36).1, (c4 p hp36).2.1])
            rw [← hsu] at hk
            refine a_aload_n dX11_sure_41 rfl ?_
            refine a_callVi (As := []) dX11_sure_42 km_X11_227 ⟨by decide, _, _, _, rfl, rfl⟩ rfl rfl (Nat.le_of_ble_eq_true rfl) ?_
            refine l_surePairs hrl (sq_le a2) (by rw [siQ_row hsi (by decide) (by omega)]; exact a7.1) ?_
            refine a_goto (tgt := 50) dX11_sure_45 (by decide) ?_
            exact a_ireturn dX11_sure_50 ⟨_, rfl, hk⟩
        · exact absurd h25 (by decide)
      · subst hst
        refine a_topi (v := 0) (by rw [c2]; rfl) ?_
        refine a_if_ne (tgt := 31) dX11_sure_25 (by decide) (fun h25 => ?_) (fun h25 => ?_)
        · exact absurd h25 (by decide)
        · refine a_bipush (v := (-6)) dX11_sure_28 (by decide) ?_
          exact a_ireturn dX11_sure_30 ⟨_, rfl, (h2 lim hl1 hl2 rfl I' t c hsi htr h10 h10r er)⟩
    · exact absurd h4 (by decide)
  · refine a_if_ne (tgt := 9) dX11_sure_4 (by decide) (fun h4 => ?_) (fun h4 => ?_)
    · exact absurd h4 (by decide)
    · refine a_iconst (v := (-1)) dX11_sure_7 (by decide) ?_
      exact a_ireturn dX11_sure_8 ⟨_, rfl, (h0 e0)⟩

