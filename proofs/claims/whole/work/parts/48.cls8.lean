/-! ===== the system: Seeker.goesOn ===== -/
/-- the numbers: those below k are A, the places that are not sought are 0 -/
def nuP (sq : Nat → Nat) (m k : Nat) (A : Nat → Nat) (I : am_I) : Prop := (∀ j, j < k → I 55 (sq j) = nI (A j) ∧ A j ≤ 200) ∧ ∀ p, p < 36 → (∀ j, j < m → sq j ≠ p) → I 55 p = nI 0
/-- what a goal does with a FIT -/
def goP (G : am_G) (d gp : Nat) (y : MethodName) {C : Type} (step : C → (Nat → Nat) → C × Bool) (Rel : C → am_I → Prop) (cb : C → Nat) (GP : Nat → Bool) (sq : Nat → Nat) (m : Nat) : Prop := (∀ c A, cb (step c A).1 ≤ cb c + 1) ∧ (∀ c I I', (∀ a j, a ≠ 53 → a ≠ 55 → (a = 4 → j ≠ 10 ∧ j ≠ 11) → I' a j = I a j) → Rel c I → Rel c I') ∧ GP 1 = false ∧ GP 4 = false ∧ GP 44 = false ∧ GP 45 = false ∧ GP 50 = false ∧ GP 52 = false ∧ GP 53 = false ∧ GP 54 = false ∧ GP 55 = false ∧ ∀ (e : Nat) (I : am_I) (J : am_J) (c : C) (A : Nat → Nat) (K : Int32 → am_I → am_J → Prop), Rel c I → nuP sq m m A I → cb c ≤ 20000 → (∀ I', (∀ k, GP k = false → I' k = I k) → Rel (step c A).1 I' → K (if (step c A).2 = true then 0 else 1) I' J) → CMi G (e + 1) y [.ref gp, .ref 55] I J (fun x I J => K (if x = 0 then 1 else 0) I J)
def frK (GP : Nat → Bool) (I' I : am_I) : Prop := ∀ a j, GP a = false → a ≠ 53 → a ≠ 55 → (a = 4 → j ≠ 10 ∧ j ≠ 11) → I' a j = I a j
theorem frK_row {GP : Nat → Bool} {I' I : am_I} (h : frK GP I' I) {a : Nat} (h0 : GP a = false) (h1 : a ≠ 53) (h2 : a ≠ 55) (h3 : a ≠ 4) : I' a = I a := by
  funext j; exact h a j h0 h1 h2 (fun e => absurd e h3)
theorem frK_tr {GP : Nat → Bool} {I1 I2 I3 : am_I} (h : frK GP I1 I2) (h' : frK GP I2 I3) : frK GP I1 I3 := fun a j p q r s => (h a j p q r s).trans (h' a j p q r s)
theorem scP_frK {GP : Nat → Bool} {I I0 : am_I} {n m M : Nat} {R : Nat → Option (List Nat)} {g la : Nat → Nat} {fx : Nat → Option Nat} {sq : Nat → Nat} {tl : Nat → Bool} (h : scP I0 n m M R g la fx sq tl) (hf : frK GP I I0) (g1 : GP 1 = false) (g4 : GP 4 = false) (g44 : GP 44 = false) (g45 : GP 45 = false) (g50 : GP 50 = false) (g52 : GP 52 = false) (g54 : GP 54 = false) : scP I n m M R g la fx sq tl :=
  scP_fr h (by rw [frK_row hf g1 (by decide) (by decide) (by decide)]) (frK_row hf g44 (by decide) (by decide) (by decide)) (frK_row hf g45 (by decide) (by decide) (by decide)) (hf 4 8 g4 (by decide) (by decide) (by decide)) (frK_row hf g50 (by decide) (by decide) (by decide)) (frK_row hf g54 (by decide) (by decide) (by decide)) (frK_row hf g52 (by decide) (by decide) (by decide))
/-- one below, but at the root -/
def e01 (k : Nat) : Nat := if k = 0 then 0 else 1
/-- what goesOn leaves behind -/
def goQ {C : Type} (Rel : C → am_I → Prop) (cb : C → Nat) (GP : Nat → Bool) (n m : Nat) (sq : Nat → Nat) (tl : Nat → Bool) (lf A : Nat → Nat) (lim k : Nat) (I : am_I) (t : Nat) (st : Nat) (c : C) (I' : am_I) : Prop := frK GP I' I ∧ lcP I' n tl lf ∧ I' 4 10 = nI t ∧ t ≤ lim ∧ nuP sq m k A I' ∧ Rel c I' ∧ cb c + e01 k ≤ t + 1 ∧ I' 4 11 = (if st = 1 then nI 1 else I 4 11)
theorem st_3 {C : Type} (step : C → (Nat → Nat) → C × Bool) (lim : Nat) : ∀ (E : EvS) (t : Nat) (c : C), (runS step lim t E c).2.1 = 0 ∨ (runS step lim t E c).2.1 = 1 ∨ (runS step lim t E c).2.1 = 2
  | [], t, c => Or.inl rfl
  | none :: E, t, c => by
    rw [runS]
    by_cases e : t = lim
    · rw [if_pos e]; exact Or.inr (Or.inl rfl)
    · rw [if_neg e]; exact st_3 step lim E _ _
  | some A :: E, t, c => by
    rw [runS]
    split
    · exact Or.inr (Or.inr rfl)
    · exact st_3 step lim E _ _
theorem nuP_up {sq : Nat → Nat} {m k v : Nat} {A : Nat → Nat} {I : am_I} (hk : k < m) (hj : ∀ i j, i < m → j < m → sq i = sq j → i = j) (hv : v ≤ 200) (h : nuP sq m k A I) : nuP sq m (k + 1) (upN A k v) (am_up I 55 (sq k) (nI v)) := by
  refine ⟨fun j hj1 => ?_, fun p hp hq => ?_⟩
  · by_cases e : j = k
    · subst e
      rw [am_up_same, upN_same]
      exact ⟨rfl, hv⟩
    · rw [am_up_slot (fun q => e (hj j k (by omega) hk q)), upN_ne e]
      exact h.1 j (by omega)
  · rw [am_up_slot (fun q => hq k hk q.symm)]
    exact h.2 p hp hq
theorem nuP_dn {sq : Nat → Nat} {m k v : Nat} {A : Nat → Nat} {I : am_I} (h : nuP sq m (k + 1) (upN A k v) I) : nuP sq m k A I := by
  refine ⟨fun j hj1 => ?_, h.2⟩
  have := h.1 j (by omega)
  rw [upN_ne (by omega)] at this
  exact this
theorem nuP_row {sq : Nat → Nat} {m k : Nat} {A : Nat → Nat} {I I' : am_I} (h : nuP sq m k A I) (e : I' 55 = I 55) : nuP sq m k A I' := by
  unfold nuP
  rw [e]
  exact h
theorem lcP_row {n : Nat} {tl : Nat → Bool} {lf : Nat → Nat} {I I' : am_I} (h : lcP I n tl lf) (e : I' 53 = I 53) : lcP I' n tl lf := fun l hl => by
  rw [e]; exact h l hl
set_option maxHeartbeats 4000000 in
set_option maxRecDepth 100000 in
theorem lp_got {G : am_G} {d : Nat} {n m M lim : Nat} {R : Nat → Option (List Nat)} {g la : Nat → Nat} {fx : Nat → Option Nat} {sq : Nat → Nat} {tl : Nat → Bool} {C : Type} {step : C → (Nat → Nat) → C × Bool} {Rel : C → am_I → Prop} {cb : C → Nat} {GP : Nat → Bool} (hG : goP G d 5 yX10_hasEnough step Rel cb GP sq m) (hlim : lim ≤ 20000) {f : Nat} (ihf : ∀ (k : Nat) (I : am_I) (J : am_J) (K : Int32 → am_I → am_J → Prop) (lf A : Nat → Nat) (t : Nat) (c : C), k + f = m → scP I n m M R g la fx sq tl → lcP I n tl lf → (∀ l, lf l ≤ 200) → nuP sq m k A I → I 4 9 = nI lim → I 4 10 = nI t → t ≤ lim → Rel c I → cb c + e01 k ≤ t → (∀ I' r, r = runS step lim t (evS g la fx tl n f k lf A) c → goQ Rel cb GP n m sq tl lf A lim k I r.1 r.2.1 r.2.2 I' → K (if r.2.1 = 0 then 1 else 0) I' J) → CMi G (d + f + 2) yX8_goesOn [.ref 4, .int (nI k), .ref 5] I J K) {k lo hi : Nat} {lf A : Nat → Nat} {l : List Nat} (hkf : k + f + 1 = m) (hl : R (sq k) = some l) (hlf : ∀ x, lf x ≤ 200) (hhi : hi ≤ 200) (hhi2 : ∀ x, x ∈ l → tl x = true → hi ≤ lf x) {J : am_J} {K : Int32 → am_I → am_J → Prop} : ∀ (cnt v : Nat) (I : am_I) (t : Nat) (c : C) (v7 : Option Value), hi + 1 - v = cnt → v ≤ 201 + lo → lo ≤ 200 → scP I n m M R g la fx sq tl → lcP I n tl lf → nuP sq m k A I → I 4 9 = nI lim → I 4 10 = nI t → t ≤ lim → Rel c I → cb c + 0 ≤ t → (∀ I' r, r = runS step lim t (lpE (fun v => evS g la fx tl n f (k + 1) (subN (g k) lf v) (upN A k v)) v cnt) c → goQ Rel cb GP n m sq tl lf A lim k I r.1 r.2.1 r.2.2 I' → K (if r.2.1 = 0 then 1 else 0) I' J) → AW G cX8_goesOn 8 RX8 (d + f + 3) (am_ex G (some .boolean) (fun r I J => ∃ x, r = some (.int x) ∧ K x I J)) 58 [some (.ref 4), some (.int (nI k)), some (.ref 5), some (.int (nI (sq k))), some (.int (nI lo)), some (.int (nI hi)), some (.int (nI v)), v7] [] I J := by
  obtain ⟨g0, gR, g1, g4, g44, g45, g50, g52, g53, g54, g55, gE⟩ := id hG
  have he : e01 k ≤ 1 := by unfold e01; split <;> omega
  intro cnt
  induction cnt with
  | zero =>
    intro v I t c v7 hv hv2 hlo hS hlc hnu h9 h10 htl hRel hcb hK
    refine a_iload dX8_goesOn_58 rfl ?_
    refine a_iload dX8_goesOn_60 rfl ?_
    refine a_icmp_gtN (tgt := 139) dX8_goesOn_62 (by decide) (by omega) (by omega) (fun h => ?_) (fun h => ?_)
    · refine a_iconst (v := nI 1) dX8_goesOn_139 (by decide) ?_
      exact a_zreturn dX8_goesOn_140 (by first | exact Or.inl rfl | exact Or.inr rfl) ⟨_, rfl, (hK I (t, 0, c) rfl ⟨fun _ _ _ _ _ _ => rfl, hlc, h10, htl, hnu, hRel, (by show cb c + e01 k ≤ t + 1; omega), rfl⟩)⟩
    · exact absurd h (by omega)
  | succ cnt ih =>
    intro v I t c v7 hv hv2 hlo hS hlc hnu h9 h10 htl hRel hcb hK
    obtain ⟨a1, a2, a3, a4, a5, a6, a7, a8⟩ := id hS
    obtain ⟨b1, b2, b3, b4, l0, b5, b6, b7, b8⟩ := a8 k (by omega)
    obtain rfl : l = l0 := by rw [hl] at b5; cases b5; rfl
    have hvl : ∀ x, x ∈ l → tl x = true → v ≤ lf x := fun x q1 q2 => by have := hhi2 x q1 q2; omega
    rw [lpE] at hK
    refine a_iload dX8_goesOn_58 rfl ?_
    refine a_iload dX8_goesOn_60 rfl ?_
    refine a_icmp_gtN (tgt := 139) dX8_goesOn_62 (by decide) (by omega) (by omega) (fun h => ?_) (fun h => ?_)
    · exact absurd h (by omega)
    · refine a_aload_n dX8_goesOn_65 rfl ?_
      refine a_geti dX8_goesOn_66 kf_X8_37 ⟨by decide, _, rfl, rfl⟩ h10 ?_
      refine a_aload_n dX8_goesOn_69 rfl ?_
      refine a_geti dX8_goesOn_70 kf_X8_34 ⟨by decide, _, rfl, rfl⟩ h9 ?_
      refine a_icmp_ltN (tgt := 83) dX8_goesOn_73 (by decide) (by omega) (by omega) (fun gg => ?_) (fun gg => ?_)
      · have ht : ¬ t = lim := by omega
        refine a_aload_n dX8_goesOn_83 rfl ?_
        refine a_dup dX8_goesOn_84 rfl ?_
        refine a_geti dX8_goesOn_85 kf_X8_37 ⟨by decide, _, rfl, rfl⟩ h10 ?_
        refine a_iconst (v := nI 1) dX8_goesOn_88 (by decide) ?_
        refine a_iadd dX8_goesOn_89 (by first | exact nI_add _ _ | rfl) ?_
        refine a_puti dX8_goesOn_90 kp_X8_37 ⟨by decide, _, rfl, rfl⟩ ?_
        refine a_aload_n dX8_goesOn_93 rfl ?_
        refine a_getr dX8_goesOn_94 kf_X8_27 ⟨by decide, _, rfl, rfl⟩ ?_
        refine a_iload_n dX8_goesOn_97 rfl ?_
        refine a_iload dX8_goesOn_98 rfl ?_
        refine a_iast dX8_goesOn_100 ⟨by decide, rfl⟩ (by omega) ?_
        refine a_aload_n dX8_goesOn_101 rfl ?_
        refine a_iload_n dX8_goesOn_102 rfl ?_
        refine a_iload dX8_goesOn_103 rfl ?_
        refine a_callVv (As := [_, _]) dX8_goesOn_105 km_X8_156 ⟨by decide, _, _, _, rfl, rfl⟩ rfl rfl (Nat.le_of_ble_eq_true rfl) ?_
        refine s_take (rl_fr a3 (by rw [am_up_ne (by decide), am_up_ne (by decide)]) (by rw [am_up_ne (by decide), am_up_ne (by decide)])) a4 a2 b2 hl b6 ?_
        refine a_aload_n dX8_goesOn_108 rfl ?_
        refine a_iload_n dX8_goesOn_109 rfl ?_
        refine a_iconst (v := nI 1) dX8_goesOn_110 (by decide) ?_
        refine a_iadd dX8_goesOn_111 (by first | exact nI_add _ _ | rfl) ?_
        refine a_aload_n dX8_goesOn_112 rfl ?_
        refine a_callVi (As := [_, _]) dX8_goesOn_113 km_X8_94 ⟨by decide, _, _, _, rfl, rfl⟩ rfl rfl (Nat.le_of_ble_eq_true rfl) ?_
        refine ihf (k + 1) _ J _ (subN (g k) lf v) (upN A k v) (t + 1) c (by omega) (scP_fr hS ?_ ?_ ?_ ?_ ?_ ?_ ?_) ?_ (fun x => Nat.le_trans (by unfold subN; split <;> omega) (hlf x)) ?_ ?_ ?_ (by omega) ?_ (by unfold e01; rw [if_neg (by omega)]; omega) (fun I' r hr hQ => ?_)
        · rw [mTe_ne (by decide), am_up_ne (by decide), am_up_ne (by decide)]
        · rw [mTe_ne (by decide), am_up_ne (by decide), am_up_ne (by decide)]
        · rw [mTe_ne (by decide), am_up_ne (by decide), am_up_ne (by decide)]
        · rw [mTe_ne (by decide), am_up_ne (by decide), am_up_slot (by decide)]
        · rw [mTe_ne (by decide), am_up_ne (by decide), am_up_ne (by decide)]
        · rw [mTe_ne (by decide), am_up_ne (by decide), am_up_ne (by decide)]
        · rw [mTe_ne (by decide), am_up_ne (by decide), am_up_ne (by decide)]
        · exact lc_take (lcP_row hlc (by rw [am_up_ne (by decide), am_up_ne (by decide)])) hlf b7 hvl
        · exact nuP_row (nuP_up (I := am_up I 4 10 (nI (t + 1))) (by omega) a7 (by omega) (nuP_row hnu (am_up_ne (by decide)))) (by rw [mTe_ne (by decide)])
        · rw [mTe_ne (by decide), am_up_ne (by decide), am_up_slot (by decide)]; exact h9
        · rw [mTe_ne (by decide), am_up_ne (by decide), am_up_same]
        · exact gR c I _ (fun a j q1 q2 q4 => by
            rw [mTe_ne q1, am_up_ne q2]
            by_cases e : a = 4
            · subst e; exact am_up_slot (q4 rfl).1
            · rw [am_up_ne e]) hRel
        obtain ⟨f1, f2, f3, f4, f5, f6, f7, f8⟩ := hQ
        have f1' : frK GP I' I := frK_tr f1 (fun a j q0 q1 q2 q4 => by
          rw [mTe_ne q1, am_up_ne q2]
          by_cases e : a = 4
          · subst e; exact am_up_slot (q4 rfl).1
          · rw [am_up_ne e])
        have hS' := scP_frK hS f1' g1 g4 g44 g45 g50 g52 g54
        have e11 : I' 4 11 = (if r.2.1 = 1 then nI 1 else I 4 11) := by
          rw [f8, mTe_ne (by decide), am_up_ne (by decide), am_up_slot (by decide)]
        have hcb' : cb r.2.2 ≤ r.1 := by
          unfold e01 at f7; rw [if_neg (by omega)] at f7; omega
        have happ := runS_app step lim (lpE (fun v => evS g la fx tl n f (k + 1) (subN (g k) lf v) (upN A k v)) (v + 1) cnt) (evS g la fx tl n f (k + 1) (subN (g k) lf v) (upN A k v)) (t + 1) c
        rw [← hr] at happ
        refine a_istore (L' := [_, _, _, _, _, _, _, _]) dX8_goesOn_116 (Nat.le_of_ble_eq_true rfl) rfl ?_
        by_cases hst : r.2.1 = 0
        · refine a_aload_n dX8_goesOn_118 rfl ?_
          refine a_iload_n dX8_goesOn_119 rfl ?_
          refine a_iload dX8_goesOn_120 rfl ?_
          refine a_ineg dX8_goesOn_122 rfl ?_
          refine a_callVv (As := [_, _]) dX8_goesOn_123 km_X8_156 ⟨by decide, _, _, _, rfl, rfl⟩ rfl rfl (Nat.le_of_ble_eq_true rfl) ?_
          refine s_take hS'.2.2.1 a4 a2 b2 hl b6 ?_
          refine a_iload dX8_goesOn_126 rfl ?_
          refine a_if_ne (tgt := 133) dX8_goesOn_128 (by decide) (fun q => ?_) (fun q => ?_)
          · refine a_iinc (L' := [_, _, _, _, _, _, _, _]) dX8_goesOn_133 rfl (nI_inc _) rfl ?_
            refine a_goto (tgt := 58) dX8_goesOn_136 (by decide) ?_
            exact ih (v + 1) _ r.1 r.2.2 _ (by omega) (by omega) hlo (scP_fr hS' (by rw [mTe_ne (by decide)]) (mTe_ne (by decide)) (mTe_ne (by decide)) (by rw [mTe_ne (by decide)]) (mTe_ne (by decide)) (mTe_ne (by decide)) (mTe_ne (by decide))) (lc_back f2 hlf b7 hvl) (nuP_row (nuP_dn f5) (mTe_ne (by decide))) (by rw [mTe_ne (by decide), f1' 4 9 g4 (by decide) (by decide) (by decide)]; exact h9) (by rw [mTe_ne (by decide)]; exact f3) f4 (gR _ _ _ (fun a j q1 _ _ => by rw [mTe_ne q1]) f6) hcb' (fun I2 r2 hr2 hQ2 => by
              obtain ⟨z1, z2, z3, z4, z5, z6, z7, z8⟩ := hQ2
              refine hK I2 r2 (by rw [hr2, runS, if_neg ht, happ, if_pos hst]) ⟨frK_tr z1 (fun a j q0 q1 q2 q4 => by rw [mTe_ne q1]; exact f1' a j q0 q1 q2 q4), z2, z3, z4, z5, z6, z7, ?_⟩
              rw [z8, mTe_ne (by decide), e11, hst]
              rfl)
          · exact absurd q (by rw [if_pos hst]; decide)
        · refine a_aload_n dX8_goesOn_118 rfl ?_
          refine a_iload_n dX8_goesOn_119 rfl ?_
          refine a_iload dX8_goesOn_120 rfl ?_
          refine a_ineg dX8_goesOn_122 rfl ?_
          refine a_callVv (As := [_, _]) dX8_goesOn_123 km_X8_156 ⟨by decide, _, _, _, rfl, rfl⟩ rfl rfl (Nat.le_of_ble_eq_true rfl) ?_
          refine s_take hS'.2.2.1 a4 a2 b2 hl b6 ?_
          refine a_iload dX8_goesOn_126 rfl ?_
          refine a_if_ne (tgt := 133) dX8_goesOn_128 (by decide) (fun q => ?_) (fun q => ?_)
          · exact absurd (by rw [if_neg hst]) q
          · refine a_iconst (v := nI 0) dX8_goesOn_131 (by decide) ?_
            exact a_zreturn dX8_goesOn_132 (by first | exact Or.inl rfl | exact Or.inr rfl) ⟨_, rfl, (by
                have q := hK (mTe I' l (-(nI v))) r (by rw [runS, if_neg ht, happ, if_neg hst]) ⟨fun a j q0 q1 q2 q4 => by rw [mTe_ne q1]; exact f1' a j q0 q1 q2 q4, lc_back f2 hlf b7 hvl, by rw [mTe_ne (by decide)]; exact f3, f4, nuP_row (nuP_dn f5) (mTe_ne (by decide)), gR _ _ _ (fun a j q1 _ _ => by rw [mTe_ne q1]) f6, by omega, by rw [mTe_ne (by decide)]; exact e11⟩
                rw [if_neg hst] at q
                exact q)⟩
      · have ht : t = lim := by omega
        refine a_aload_n dX8_goesOn_76 rfl ?_
        refine a_iconst (v := nI 1) dX8_goesOn_77 (by decide) ?_
        refine a_putz dX8_goesOn_78 kp_X8_40 ⟨by decide, _, rfl, rfl⟩ (by first | exact Or.inl rfl | exact Or.inr rfl) ?_
        refine a_iconst (v := nI 0) dX8_goesOn_81 (by decide) ?_
        exact a_zreturn dX8_goesOn_82 (by first | exact Or.inl rfl | exact Or.inr rfl) ⟨_, rfl, (hK _ (t, 1, c) (by rw [runS, if_pos ht]) ⟨fun a j _ _ _ q4 => by
      by_cases e : a = 4
      · subst e; exact am_up_slot (q4 rfl).2
      · rw [am_up_ne e], lcP_row hlc (am_up_ne (by decide)), (by rw [am_up_slot (by decide)]; exact h10), htl, nuP_row hnu (am_up_ne (by decide)), gR c I _ (fun a j _ _ q4 => by
      by_cases e : a = 4
      · subst e; exact am_up_slot (q4 rfl).2
      · rw [am_up_ne e]) hRel, (by show cb c + e01 k ≤ t + 1; omega), (by rw [am_up_same]; rfl)⟩)⟩

set_option maxHeartbeats 4000000 in
set_option maxRecDepth 100000 in
theorem s_goesOnt {G : am_G} {d : Nat} {n m M lim : Nat} {R : Nat → Option (List Nat)} {g la : Nat → Nat} {fx : Nat → Option Nat} {sq : Nat → Nat} {tl : Nat → Bool} {C : Type} {step : C → (Nat → Nat) → C × Bool} {Rel : C → am_I → Prop} {cb : C → Nat} {GP : Nat → Bool} (hG : goP G d 5 yX10_hasEnough step Rel cb GP sq m) (hlim : lim ≤ 20000) : ∀ f : Nat, ∀ (k : Nat) (I : am_I) (J : am_J) (K : Int32 → am_I → am_J → Prop) (lf A : Nat → Nat) (t : Nat) (c : C), k + f = m → scP I n m M R g la fx sq tl → lcP I n tl lf → (∀ l, lf l ≤ 200) → nuP sq m k A I → I 4 9 = nI lim → I 4 10 = nI t → t ≤ lim → Rel c I → cb c + e01 k ≤ t → (∀ I' r, r = runS step lim t (evS g la fx tl n f k lf A) c → goQ Rel cb GP n m sq tl lf A lim k I r.1 r.2.1 r.2.2 I' → K (if r.2.1 = 0 then 1 else 0) I' J) → CMi G (d + f + 2) yX8_goesOn [.ref 4, .int (nI k), .ref 5] I J K := by
  obtain ⟨g0, gR, g1, g4, g44, g45, g50, g52, g53, g54, g55, gE⟩ := id hG
  intro f
  induction f with
  | zero =>
    intro k I J K lf A t c hkf hS hlc hlf hnu h9 h10 htl hRel hcb hK
    obtain ⟨a1, a2, a3, a4, a5, a6, a7, a8⟩ := id hS
    obtain rfl : k = m := by omega
    rw [evS] at hK
    refine CM.of (L0 := [_, _, _, _, _, _, _, _]) cX8_goesOn 8 (some .boolean) (by decide) (by decide) kcX8_goesOn (Nat.le_of_ble_eq_true rfl) rfl ?_
    refine a_iload_n dX8_goesOn_0 rfl ?_
    refine a_aload_n dX8_goesOn_1 rfl ?_
    refine a_geti dX8_goesOn_2 kf_X8_30 ⟨by decide, _, rfl, rfl⟩ a5 ?_
    refine a_icmp_ltN (tgt := 32) dX8_goesOn_5 (by decide) (by omega) (by omega) (fun h => ?_) (fun h => ?_)
    · exact absurd h (by omega)
    · refine a_aload_n dX8_goesOn_8 rfl ?_
      refine a_callVi (As := []) dX8_goesOn_9 km_X8_139 ⟨by decide, _, _, _, rfl, rfl⟩ rfl rfl (Nat.le_of_ble_eq_true rfl) ?_
      refine s_nothing a1 a2 hlc hlf (fun hb => ?_) (fun hb => ?_)
      · rw [if_pos hb] at hK
        refine a_if_eq (tgt := 26) dX8_goesOn_12 (by decide) (fun h12 => ?_) (fun h12 => ?_)
        · exact absurd h12 (by decide)
        · refine a_aload_n dX8_goesOn_15 rfl ?_
          refine a_aload_n dX8_goesOn_16 rfl ?_
          refine a_getr dX8_goesOn_17 kf_X8_27 ⟨by decide, _, rfl, rfl⟩ ?_
          refine a_callUi (As := [_]) dX8_goesOn_20 ku_X8_143_X10 ⟨by decide, _, _, _, rfl, rfl⟩ rfl rfl (Nat.le_of_ble_eq_true rfl) ?_
          refine CMi.mono (gE (d + 0) I J c A (fun x I J => K x I J) hRel hnu (by unfold e01 at hcb; split at hcb <;> omega) (fun I' hf hr => ?_)) (fun x I J hx => ?_)
          · by_cases e : (step c A).2 = true
            · rw [if_pos e]
              exact hK I' (t, 2, (step c A).1) (by rw [runS, if_pos e]) ⟨fun a j q0 _ _ _ => by rw [hf a q0], lcP_row hlc (hf _ g53), by rw [hf _ g4]; exact h10, htl, nuP_row hnu (hf _ g55), hr, (by have := g0 c A; show cb (step c A).1 + e01 k ≤ t + 1; omega), by rw [hf _ g4]; rfl⟩
            · rw [if_neg e]
              exact hK I' (t, 0, (step c A).1) (by rw [runS, if_neg e]; rfl) ⟨fun a j q0 _ _ _ => by rw [hf a q0], lcP_row hlc (hf _ g53), by rw [hf _ g4]; exact h10, htl, nuP_row hnu (hf _ g55), hr, (by have := g0 c A; show cb (step c A).1 + e01 k ≤ t + 1; omega), by rw [hf _ g4]; rfl⟩
          refine a_if_ne (tgt := 30) dX8_goesOn_23 (by decide) (fun q => ?_) (fun q => ?_)
          · rw [if_neg q] at hx
            refine a_iconst (v := nI 0) dX8_goesOn_30 (by decide) ?_
            exact a_zreturn dX8_goesOn_31 (by first | exact Or.inl rfl | exact Or.inr rfl) ⟨_, rfl, hx⟩
          · rw [if_pos q] at hx
            refine a_iconst (v := nI 1) dX8_goesOn_26 (by decide) ?_
            refine a_goto (tgt := 31) dX8_goesOn_27 (by decide) ?_
            exact a_zreturn dX8_goesOn_31 (by first | exact Or.inl rfl | exact Or.inr rfl) ⟨_, rfl, hx⟩
      · rw [if_neg hb] at hK
        refine a_if_eq (tgt := 26) dX8_goesOn_12 (by decide) (fun h12 => ?_) (fun h12 => ?_)
        · refine a_iconst (v := nI 1) dX8_goesOn_26 (by decide) ?_
          refine a_goto (tgt := 31) dX8_goesOn_27 (by decide) ?_
          exact a_zreturn dX8_goesOn_31 (by first | exact Or.inl rfl | exact Or.inr rfl) ⟨_, rfl, (hK I (t, 0, c) rfl ⟨fun _ _ _ _ _ _ => rfl, hlc, h10, htl, hnu, hRel, (by show cb c + e01 k ≤ t + 1; omega), rfl⟩)⟩
        · exact absurd h12 (by decide)
  | succ f ih =>
    intro k I J K lf A t c hkf hS hlc hlf hnu h9 h10 htl hRel hcb hK
    obtain ⟨a1, a2, a3, a4, a5, a6, a7, a8⟩ := id hS
    obtain ⟨b1, b2, b3, b4, l, b5, b6, b7, b8⟩ := a8 k (by omega)
    have hln := ((a3 (sq k) b2).2 l b5).2.2.2
    have m1 := ls_begN (la := la k) (lf := lf) hln b7 ((fx k).getD 0)
    have hx2 : (fx k).getD 200 ≤ 200 := by
      rcases e : fx k with _ | f
      · exact Nat.le_refl _
      · exact b4 f e
    have hx0 : (fx k).getD 0 ≤ 200 := by
      rcases e : fx k with _ | f
      · exact Nat.zero_le _
      · exact b4 f e
    have m2 := ms_begN (la := la k) (lf := lf) hln b7 hx2
    have m3 := lp_rg (g := g) (la := la) (n := n) (lf := lf) (fun v => evS g la fx tl n f (k + 1) (subN (g k) lf v) (upN A k v)) b4
    rw [← m1, ← m2] at m3
    have m4 := (msN_iff tl lf (msN tl lf ((fx k).getD 200) l) l ((fx k).getD 200)).mp (Nat.le_refl _)
    have m5 := (lsN_iff tl (la k) lf 200 l ((fx k).getD 0)).mpr ⟨hx0, fun x _ _ _ => hlf x⟩
    have hcb0 : cb c + 0 ≤ t := by omega
    rw [evS, ← m3] at hK
    refine CM.of (L0 := [_, _, _, _, _, _, _, _]) cX8_goesOn 8 (some .boolean) (by decide) (by decide) kcX8_goesOn (Nat.le_of_ble_eq_true rfl) rfl ?_
    refine a_iload_n dX8_goesOn_0 rfl ?_
    refine a_aload_n dX8_goesOn_1 rfl ?_
    refine a_geti dX8_goesOn_2 kf_X8_30 ⟨by decide, _, rfl, rfl⟩ a5 ?_
    refine a_icmp_ltN (tgt := 32) dX8_goesOn_5 (by decide) (by omega) (by omega) (fun h => ?_) (fun h => ?_)
    · refine a_aload_n dX8_goesOn_32 rfl ?_
      refine a_getr dX8_goesOn_33 kf_X8_9 ⟨by decide, _, rfl, rfl⟩ ?_
      refine a_iload_n dX8_goesOn_36 rfl ?_
      refine a_iald dX8_goesOn_37 ⟨by decide, rfl⟩ (by omega) b1 ?_
      refine a_istore_n (L' := [_, _, _, _, _, _, _, _]) dX8_goesOn_38 (Nat.le_of_ble_eq_true rfl) rfl ?_
      refine a_aload_n dX8_goesOn_39 rfl ?_
      refine a_iload_n dX8_goesOn_40 rfl ?_
      refine a_iload_n dX8_goesOn_41 rfl ?_
      refine a_callVi (As := [_, _]) dX8_goesOn_42 km_X8_149 ⟨by decide, _, _, _, rfl, rfl⟩ rfl rfl (Nat.le_of_ble_eq_true rfl) ?_
      refine s_least hS hlc hlf (by omega) b5 ?_
      refine a_istore (L' := [_, _, _, _, _, _, _, _]) dX8_goesOn_45 (Nat.le_of_ble_eq_true rfl) rfl ?_
      refine a_aload_n dX8_goesOn_47 rfl ?_
      refine a_iload_n dX8_goesOn_48 rfl ?_
      refine a_callVi (As := [_]) dX8_goesOn_49 km_X8_152 ⟨by decide, _, _, _, rfl, rfl⟩ rfl rfl (Nat.le_of_ble_eq_true rfl) ?_
      refine s_most hS hlc hlf (by omega) b5 ?_
      refine a_istore (L' := [_, _, _, _, _, _, _, _]) dX8_goesOn_52 (Nat.le_of_ble_eq_true rfl) rfl ?_
      refine a_iload dX8_goesOn_54 rfl ?_
      refine a_istore (L' := [_, _, _, _, _, _, _, _]) dX8_goesOn_56 (Nat.le_of_ble_eq_true rfl) rfl ?_
      exact lp_got hG hlim ih (by omega) b5 hlf (by omega) m4.2 _ _ I t c _ rfl (by omega) m5 hS hlc hnu h9 h10 htl hRel hcb0 hK
    · exact absurd h (by omega)

set_option maxHeartbeats 4000000 in
set_option maxRecDepth 100000 in
theorem s_seekt {G : am_G} {d : Nat} {I : am_I} {J : am_J} {K : am_I → am_J → Prop} {n m M lim : Nat} {R : Nat → Option (List Nat)} {g la : Nat → Nat} {fx : Nat → Option Nat} {sq : Nat → Nat} {tl : Nat → Bool} {C : Type} {step : C → (Nat → Nat) → C × Bool} {Rel : C → am_I → Prop} {cb : C → Nat} {GP : Nat → Bool} {lf A : Nat → Nat} {t : Nat} {c : C} (hG : goP G d 5 yX10_hasEnough step Rel cb GP sq m) (hlim : lim ≤ 20000) (hS : scP I n m M R g la fx sq tl) (hlc : lcP I n tl lf) (hlf : ∀ l, lf l ≤ 200) (hnu : nuP sq m 0 A I) (h9 : I 4 9 = nI lim) (h10 : I 4 10 = nI t) (htl : t ≤ lim) (hRel : Rel c I) (hcb : cb c ≤ t) (hK : ∀ I' r, r = runS step lim t (evS g la fx tl n m 0 lf A) c → goQ Rel cb GP n m sq tl lf A lim 0 I r.1 r.2.1 r.2.2 I' → K I' J) : CMv G (d + m + 3) yX8_seek [.ref 4, .ref 5] I J K := by
  refine CM.of (L0 := [_, _]) cX8_seek 2 none (by decide) (by decide) kcX8_seek (Nat.le_of_ble_eq_true rfl) rfl ?_
  refine a_aload_n dX8_seek_0 rfl ?_
  refine a_iconst (v := nI 0) dX8_seek_1 (by decide) ?_
  refine a_aload_n dX8_seek_2 rfl ?_
  refine a_callVi (As := [_, _]) dX8_seek_3 km_X8_94 ⟨by decide, _, _, _, rfl, rfl⟩ rfl rfl (Nat.le_of_ble_eq_true rfl) ?_
  refine s_goesOnt (d := d) hG hlim m 0 I J _ lf A t c (by omega) hS hlc hlf hnu h9 h10 htl hRel hcb (fun I' r hr hQ => ?_)
  refine a_pop dX8_seek_6 rfl ?_
  exact a_vreturn dX8_seek_7 ⟨rfl, (hK I' r hr hQ)⟩

set_option maxHeartbeats 4000000 in
set_option maxRecDepth 100000 in
theorem lp_gog {G : am_G} {d : Nat} {n m M lim : Nat} {R : Nat → Option (List Nat)} {g la : Nat → Nat} {fx : Nat → Option Nat} {sq : Nat → Nat} {tl : Nat → Bool} {C : Type} {step : C → (Nat → Nat) → C × Bool} {Rel : C → am_I → Prop} {cb : C → Nat} {GP : Nat → Bool} (hG : goP G d 6 yX6_hasEnough step Rel cb GP sq m) (hlim : lim ≤ 20000) {f : Nat} (ihf : ∀ (k : Nat) (I : am_I) (J : am_J) (K : Int32 → am_I → am_J → Prop) (lf A : Nat → Nat) (t : Nat) (c : C), k + f = m → scP I n m M R g la fx sq tl → lcP I n tl lf → (∀ l, lf l ≤ 200) → nuP sq m k A I → I 4 9 = nI lim → I 4 10 = nI t → t ≤ lim → Rel c I → cb c + e01 k ≤ t → (∀ I' r, r = runS step lim t (evS g la fx tl n f k lf A) c → goQ Rel cb GP n m sq tl lf A lim k I r.1 r.2.1 r.2.2 I' → K (if r.2.1 = 0 then 1 else 0) I' J) → CMi G (d + f + 2) yX8_goesOn [.ref 4, .int (nI k), .ref 6] I J K) {k lo hi : Nat} {lf A : Nat → Nat} {l : List Nat} (hkf : k + f + 1 = m) (hl : R (sq k) = some l) (hlf : ∀ x, lf x ≤ 200) (hhi : hi ≤ 200) (hhi2 : ∀ x, x ∈ l → tl x = true → hi ≤ lf x) {J : am_J} {K : Int32 → am_I → am_J → Prop} : ∀ (cnt v : Nat) (I : am_I) (t : Nat) (c : C) (v7 : Option Value), hi + 1 - v = cnt → v ≤ 201 + lo → lo ≤ 200 → scP I n m M R g la fx sq tl → lcP I n tl lf → nuP sq m k A I → I 4 9 = nI lim → I 4 10 = nI t → t ≤ lim → Rel c I → cb c + 0 ≤ t → (∀ I' r, r = runS step lim t (lpE (fun v => evS g la fx tl n f (k + 1) (subN (g k) lf v) (upN A k v)) v cnt) c → goQ Rel cb GP n m sq tl lf A lim k I r.1 r.2.1 r.2.2 I' → K (if r.2.1 = 0 then 1 else 0) I' J) → AW G cX8_goesOn 8 RX8 (d + f + 3) (am_ex G (some .boolean) (fun r I J => ∃ x, r = some (.int x) ∧ K x I J)) 58 [some (.ref 4), some (.int (nI k)), some (.ref 6), some (.int (nI (sq k))), some (.int (nI lo)), some (.int (nI hi)), some (.int (nI v)), v7] [] I J := by
  obtain ⟨g0, gR, g1, g4, g44, g45, g50, g52, g53, g54, g55, gE⟩ := id hG
  have he : e01 k ≤ 1 := by unfold e01; split <;> omega
  intro cnt
  induction cnt with
  | zero =>
    intro v I t c v7 hv hv2 hlo hS hlc hnu h9 h10 htl hRel hcb hK
    refine a_iload dX8_goesOn_58 rfl ?_
    refine a_iload dX8_goesOn_60 rfl ?_
    refine a_icmp_gtN (tgt := 139) dX8_goesOn_62 (by decide) (by omega) (by omega) (fun h => ?_) (fun h => ?_)
    · refine a_iconst (v := nI 1) dX8_goesOn_139 (by decide) ?_
      exact a_zreturn dX8_goesOn_140 (by first | exact Or.inl rfl | exact Or.inr rfl) ⟨_, rfl, (hK I (t, 0, c) rfl ⟨fun _ _ _ _ _ _ => rfl, hlc, h10, htl, hnu, hRel, (by show cb c + e01 k ≤ t + 1; omega), rfl⟩)⟩
    · exact absurd h (by omega)
  | succ cnt ih =>
    intro v I t c v7 hv hv2 hlo hS hlc hnu h9 h10 htl hRel hcb hK
    obtain ⟨a1, a2, a3, a4, a5, a6, a7, a8⟩ := id hS
    obtain ⟨b1, b2, b3, b4, l0, b5, b6, b7, b8⟩ := a8 k (by omega)
    obtain rfl : l = l0 := by rw [hl] at b5; cases b5; rfl
    have hvl : ∀ x, x ∈ l → tl x = true → v ≤ lf x := fun x q1 q2 => by have := hhi2 x q1 q2; omega
    rw [lpE] at hK
    refine a_iload dX8_goesOn_58 rfl ?_
    refine a_iload dX8_goesOn_60 rfl ?_
    refine a_icmp_gtN (tgt := 139) dX8_goesOn_62 (by decide) (by omega) (by omega) (fun h => ?_) (fun h => ?_)
    · exact absurd h (by omega)
    · refine a_aload_n dX8_goesOn_65 rfl ?_
      refine a_geti dX8_goesOn_66 kf_X8_37 ⟨by decide, _, rfl, rfl⟩ h10 ?_
      refine a_aload_n dX8_goesOn_69 rfl ?_
      refine a_geti dX8_goesOn_70 kf_X8_34 ⟨by decide, _, rfl, rfl⟩ h9 ?_
      refine a_icmp_ltN (tgt := 83) dX8_goesOn_73 (by decide) (by omega) (by omega) (fun gg => ?_) (fun gg => ?_)
      · have ht : ¬ t = lim := by omega
        refine a_aload_n dX8_goesOn_83 rfl ?_
        refine a_dup dX8_goesOn_84 rfl ?_
        refine a_geti dX8_goesOn_85 kf_X8_37 ⟨by decide, _, rfl, rfl⟩ h10 ?_
        refine a_iconst (v := nI 1) dX8_goesOn_88 (by decide) ?_
        refine a_iadd dX8_goesOn_89 (by first | exact nI_add _ _ | rfl) ?_
        refine a_puti dX8_goesOn_90 kp_X8_37 ⟨by decide, _, rfl, rfl⟩ ?_
        refine a_aload_n dX8_goesOn_93 rfl ?_
        refine a_getr dX8_goesOn_94 kf_X8_27 ⟨by decide, _, rfl, rfl⟩ ?_
        refine a_iload_n dX8_goesOn_97 rfl ?_
        refine a_iload dX8_goesOn_98 rfl ?_
        refine a_iast dX8_goesOn_100 ⟨by decide, rfl⟩ (by omega) ?_
        refine a_aload_n dX8_goesOn_101 rfl ?_
        refine a_iload_n dX8_goesOn_102 rfl ?_
        refine a_iload dX8_goesOn_103 rfl ?_
        refine a_callVv (As := [_, _]) dX8_goesOn_105 km_X8_156 ⟨by decide, _, _, _, rfl, rfl⟩ rfl rfl (Nat.le_of_ble_eq_true rfl) ?_
        refine s_take (rl_fr a3 (by rw [am_up_ne (by decide), am_up_ne (by decide)]) (by rw [am_up_ne (by decide), am_up_ne (by decide)])) a4 a2 b2 hl b6 ?_
        refine a_aload_n dX8_goesOn_108 rfl ?_
        refine a_iload_n dX8_goesOn_109 rfl ?_
        refine a_iconst (v := nI 1) dX8_goesOn_110 (by decide) ?_
        refine a_iadd dX8_goesOn_111 (by first | exact nI_add _ _ | rfl) ?_
        refine a_aload_n dX8_goesOn_112 rfl ?_
        refine a_callVi (As := [_, _]) dX8_goesOn_113 km_X8_94 ⟨by decide, _, _, _, rfl, rfl⟩ rfl rfl (Nat.le_of_ble_eq_true rfl) ?_
        refine ihf (k + 1) _ J _ (subN (g k) lf v) (upN A k v) (t + 1) c (by omega) (scP_fr hS ?_ ?_ ?_ ?_ ?_ ?_ ?_) ?_ (fun x => Nat.le_trans (by unfold subN; split <;> omega) (hlf x)) ?_ ?_ ?_ (by omega) ?_ (by unfold e01; rw [if_neg (by omega)]; omega) (fun I' r hr hQ => ?_)
        · rw [mTe_ne (by decide), am_up_ne (by decide), am_up_ne (by decide)]
        · rw [mTe_ne (by decide), am_up_ne (by decide), am_up_ne (by decide)]
        · rw [mTe_ne (by decide), am_up_ne (by decide), am_up_ne (by decide)]
        · rw [mTe_ne (by decide), am_up_ne (by decide), am_up_slot (by decide)]
        · rw [mTe_ne (by decide), am_up_ne (by decide), am_up_ne (by decide)]
        · rw [mTe_ne (by decide), am_up_ne (by decide), am_up_ne (by decide)]
        · rw [mTe_ne (by decide), am_up_ne (by decide), am_up_ne (by decide)]
        · exact lc_take (lcP_row hlc (by rw [am_up_ne (by decide), am_up_ne (by decide)])) hlf b7 hvl
        · exact nuP_row (nuP_up (I := am_up I 4 10 (nI (t + 1))) (by omega) a7 (by omega) (nuP_row hnu (am_up_ne (by decide)))) (by rw [mTe_ne (by decide)])
        · rw [mTe_ne (by decide), am_up_ne (by decide), am_up_slot (by decide)]; exact h9
        · rw [mTe_ne (by decide), am_up_ne (by decide), am_up_same]
        · exact gR c I _ (fun a j q1 q2 q4 => by
            rw [mTe_ne q1, am_up_ne q2]
            by_cases e : a = 4
            · subst e; exact am_up_slot (q4 rfl).1
            · rw [am_up_ne e]) hRel
        obtain ⟨f1, f2, f3, f4, f5, f6, f7, f8⟩ := hQ
        have f1' : frK GP I' I := frK_tr f1 (fun a j q0 q1 q2 q4 => by
          rw [mTe_ne q1, am_up_ne q2]
          by_cases e : a = 4
          · subst e; exact am_up_slot (q4 rfl).1
          · rw [am_up_ne e])
        have hS' := scP_frK hS f1' g1 g4 g44 g45 g50 g52 g54
        have e11 : I' 4 11 = (if r.2.1 = 1 then nI 1 else I 4 11) := by
          rw [f8, mTe_ne (by decide), am_up_ne (by decide), am_up_slot (by decide)]
        have hcb' : cb r.2.2 ≤ r.1 := by
          unfold e01 at f7; rw [if_neg (by omega)] at f7; omega
        have happ := runS_app step lim (lpE (fun v => evS g la fx tl n f (k + 1) (subN (g k) lf v) (upN A k v)) (v + 1) cnt) (evS g la fx tl n f (k + 1) (subN (g k) lf v) (upN A k v)) (t + 1) c
        rw [← hr] at happ
        refine a_istore (L' := [_, _, _, _, _, _, _, _]) dX8_goesOn_116 (Nat.le_of_ble_eq_true rfl) rfl ?_
        by_cases hst : r.2.1 = 0
        · refine a_aload_n dX8_goesOn_118 rfl ?_
          refine a_iload_n dX8_goesOn_119 rfl ?_
          refine a_iload dX8_goesOn_120 rfl ?_
          refine a_ineg dX8_goesOn_122 rfl ?_
          refine a_callVv (As := [_, _]) dX8_goesOn_123 km_X8_156 ⟨by decide, _, _, _, rfl, rfl⟩ rfl rfl (Nat.le_of_ble_eq_true rfl) ?_
          refine s_take hS'.2.2.1 a4 a2 b2 hl b6 ?_
          refine a_iload dX8_goesOn_126 rfl ?_
          refine a_if_ne (tgt := 133) dX8_goesOn_128 (by decide) (fun q => ?_) (fun q => ?_)
          · refine a_iinc (L' := [_, _, _, _, _, _, _, _]) dX8_goesOn_133 rfl (nI_inc _) rfl ?_
            refine a_goto (tgt := 58) dX8_goesOn_136 (by decide) ?_
            exact ih (v + 1) _ r.1 r.2.2 _ (by omega) (by omega) hlo (scP_fr hS' (by rw [mTe_ne (by decide)]) (mTe_ne (by decide)) (mTe_ne (by decide)) (by rw [mTe_ne (by decide)]) (mTe_ne (by decide)) (mTe_ne (by decide)) (mTe_ne (by decide))) (lc_back f2 hlf b7 hvl) (nuP_row (nuP_dn f5) (mTe_ne (by decide))) (by rw [mTe_ne (by decide), f1' 4 9 g4 (by decide) (by decide) (by decide)]; exact h9) (by rw [mTe_ne (by decide)]; exact f3) f4 (gR _ _ _ (fun a j q1 _ _ => by rw [mTe_ne q1]) f6) hcb' (fun I2 r2 hr2 hQ2 => by
              obtain ⟨z1, z2, z3, z4, z5, z6, z7, z8⟩ := hQ2
              refine hK I2 r2 (by rw [hr2, runS, if_neg ht, happ, if_pos hst]) ⟨frK_tr z1 (fun a j q0 q1 q2 q4 => by rw [mTe_ne q1]; exact f1' a j q0 q1 q2 q4), z2, z3, z4, z5, z6, z7, ?_⟩
              rw [z8, mTe_ne (by decide), e11, hst]
              rfl)
          · exact absurd q (by rw [if_pos hst]; decide)
        · refine a_aload_n dX8_goesOn_118 rfl ?_
          refine a_iload_n dX8_goesOn_119 rfl ?_
          refine a_iload dX8_goesOn_120 rfl ?_
          refine a_ineg dX8_goesOn_122 rfl ?_
          refine a_callVv (As := [_, _]) dX8_goesOn_123 km_X8_156 ⟨by decide, _, _, _, rfl, rfl⟩ rfl rfl (Nat.le_of_ble_eq_true rfl) ?_
          refine s_take hS'.2.2.1 a4 a2 b2 hl b6 ?_
          refine a_iload dX8_goesOn_126 rfl ?_
          refine a_if_ne (tgt := 133) dX8_goesOn_128 (by decide) (fun q => ?_) (fun q => ?_)
          · exact absurd (by rw [if_neg hst]) q
          · refine a_iconst (v := nI 0) dX8_goesOn_131 (by decide) ?_
            exact a_zreturn dX8_goesOn_132 (by first | exact Or.inl rfl | exact Or.inr rfl) ⟨_, rfl, (by
                have q := hK (mTe I' l (-(nI v))) r (by rw [runS, if_neg ht, happ, if_neg hst]) ⟨fun a j q0 q1 q2 q4 => by rw [mTe_ne q1]; exact f1' a j q0 q1 q2 q4, lc_back f2 hlf b7 hvl, by rw [mTe_ne (by decide)]; exact f3, f4, nuP_row (nuP_dn f5) (mTe_ne (by decide)), gR _ _ _ (fun a j q1 _ _ => by rw [mTe_ne q1]) f6, by omega, by rw [mTe_ne (by decide)]; exact e11⟩
                rw [if_neg hst] at q
                exact q)⟩
      · have ht : t = lim := by omega
        refine a_aload_n dX8_goesOn_76 rfl ?_
        refine a_iconst (v := nI 1) dX8_goesOn_77 (by decide) ?_
        refine a_putz dX8_goesOn_78 kp_X8_40 ⟨by decide, _, rfl, rfl⟩ (by first | exact Or.inl rfl | exact Or.inr rfl) ?_
        refine a_iconst (v := nI 0) dX8_goesOn_81 (by decide) ?_
        exact a_zreturn dX8_goesOn_82 (by first | exact Or.inl rfl | exact Or.inr rfl) ⟨_, rfl, (hK _ (t, 1, c) (by rw [runS, if_pos ht]) ⟨fun a j _ _ _ q4 => by
      by_cases e : a = 4
      · subst e; exact am_up_slot (q4 rfl).2
      · rw [am_up_ne e], lcP_row hlc (am_up_ne (by decide)), (by rw [am_up_slot (by decide)]; exact h10), htl, nuP_row hnu (am_up_ne (by decide)), gR c I _ (fun a j _ _ q4 => by
      by_cases e : a = 4
      · subst e; exact am_up_slot (q4 rfl).2
      · rw [am_up_ne e]) hRel, (by show cb c + e01 k ≤ t + 1; omega), (by rw [am_up_same]; rfl)⟩)⟩

set_option maxHeartbeats 4000000 in
set_option maxRecDepth 100000 in
theorem s_goesOng {G : am_G} {d : Nat} {n m M lim : Nat} {R : Nat → Option (List Nat)} {g la : Nat → Nat} {fx : Nat → Option Nat} {sq : Nat → Nat} {tl : Nat → Bool} {C : Type} {step : C → (Nat → Nat) → C × Bool} {Rel : C → am_I → Prop} {cb : C → Nat} {GP : Nat → Bool} (hG : goP G d 6 yX6_hasEnough step Rel cb GP sq m) (hlim : lim ≤ 20000) : ∀ f : Nat, ∀ (k : Nat) (I : am_I) (J : am_J) (K : Int32 → am_I → am_J → Prop) (lf A : Nat → Nat) (t : Nat) (c : C), k + f = m → scP I n m M R g la fx sq tl → lcP I n tl lf → (∀ l, lf l ≤ 200) → nuP sq m k A I → I 4 9 = nI lim → I 4 10 = nI t → t ≤ lim → Rel c I → cb c + e01 k ≤ t → (∀ I' r, r = runS step lim t (evS g la fx tl n f k lf A) c → goQ Rel cb GP n m sq tl lf A lim k I r.1 r.2.1 r.2.2 I' → K (if r.2.1 = 0 then 1 else 0) I' J) → CMi G (d + f + 2) yX8_goesOn [.ref 4, .int (nI k), .ref 6] I J K := by
  obtain ⟨g0, gR, g1, g4, g44, g45, g50, g52, g53, g54, g55, gE⟩ := id hG
  intro f
  induction f with
  | zero =>
    intro k I J K lf A t c hkf hS hlc hlf hnu h9 h10 htl hRel hcb hK
    obtain ⟨a1, a2, a3, a4, a5, a6, a7, a8⟩ := id hS
    obtain rfl : k = m := by omega
    rw [evS] at hK
    refine CM.of (L0 := [_, _, _, _, _, _, _, _]) cX8_goesOn 8 (some .boolean) (by decide) (by decide) kcX8_goesOn (Nat.le_of_ble_eq_true rfl) rfl ?_
    refine a_iload_n dX8_goesOn_0 rfl ?_
    refine a_aload_n dX8_goesOn_1 rfl ?_
    refine a_geti dX8_goesOn_2 kf_X8_30 ⟨by decide, _, rfl, rfl⟩ a5 ?_
    refine a_icmp_ltN (tgt := 32) dX8_goesOn_5 (by decide) (by omega) (by omega) (fun h => ?_) (fun h => ?_)
    · exact absurd h (by omega)
    · refine a_aload_n dX8_goesOn_8 rfl ?_
      refine a_callVi (As := []) dX8_goesOn_9 km_X8_139 ⟨by decide, _, _, _, rfl, rfl⟩ rfl rfl (Nat.le_of_ble_eq_true rfl) ?_
      refine s_nothing a1 a2 hlc hlf (fun hb => ?_) (fun hb => ?_)
      · rw [if_pos hb] at hK
        refine a_if_eq (tgt := 26) dX8_goesOn_12 (by decide) (fun h12 => ?_) (fun h12 => ?_)
        · exact absurd h12 (by decide)
        · refine a_aload_n dX8_goesOn_15 rfl ?_
          refine a_aload_n dX8_goesOn_16 rfl ?_
          refine a_getr dX8_goesOn_17 kf_X8_27 ⟨by decide, _, rfl, rfl⟩ ?_
          refine a_callUi (As := [_]) dX8_goesOn_20 ku_X8_143_X6 ⟨by decide, _, _, _, rfl, rfl⟩ rfl rfl (Nat.le_of_ble_eq_true rfl) ?_
          refine CMi.mono (gE (d + 0) I J c A (fun x I J => K x I J) hRel hnu (by unfold e01 at hcb; split at hcb <;> omega) (fun I' hf hr => ?_)) (fun x I J hx => ?_)
          · by_cases e : (step c A).2 = true
            · rw [if_pos e]
              exact hK I' (t, 2, (step c A).1) (by rw [runS, if_pos e]) ⟨fun a j q0 _ _ _ => by rw [hf a q0], lcP_row hlc (hf _ g53), by rw [hf _ g4]; exact h10, htl, nuP_row hnu (hf _ g55), hr, (by have := g0 c A; show cb (step c A).1 + e01 k ≤ t + 1; omega), by rw [hf _ g4]; rfl⟩
            · rw [if_neg e]
              exact hK I' (t, 0, (step c A).1) (by rw [runS, if_neg e]; rfl) ⟨fun a j q0 _ _ _ => by rw [hf a q0], lcP_row hlc (hf _ g53), by rw [hf _ g4]; exact h10, htl, nuP_row hnu (hf _ g55), hr, (by have := g0 c A; show cb (step c A).1 + e01 k ≤ t + 1; omega), by rw [hf _ g4]; rfl⟩
          refine a_if_ne (tgt := 30) dX8_goesOn_23 (by decide) (fun q => ?_) (fun q => ?_)
          · rw [if_neg q] at hx
            refine a_iconst (v := nI 0) dX8_goesOn_30 (by decide) ?_
            exact a_zreturn dX8_goesOn_31 (by first | exact Or.inl rfl | exact Or.inr rfl) ⟨_, rfl, hx⟩
          · rw [if_pos q] at hx
            refine a_iconst (v := nI 1) dX8_goesOn_26 (by decide) ?_
            refine a_goto (tgt := 31) dX8_goesOn_27 (by decide) ?_
            exact a_zreturn dX8_goesOn_31 (by first | exact Or.inl rfl | exact Or.inr rfl) ⟨_, rfl, hx⟩
      · rw [if_neg hb] at hK
        refine a_if_eq (tgt := 26) dX8_goesOn_12 (by decide) (fun h12 => ?_) (fun h12 => ?_)
        · refine a_iconst (v := nI 1) dX8_goesOn_26 (by decide) ?_
          refine a_goto (tgt := 31) dX8_goesOn_27 (by decide) ?_
          exact a_zreturn dX8_goesOn_31 (by first | exact Or.inl rfl | exact Or.inr rfl) ⟨_, rfl, (hK I (t, 0, c) rfl ⟨fun _ _ _ _ _ _ => rfl, hlc, h10, htl, hnu, hRel, (by show cb c + e01 k ≤ t + 1; omega), rfl⟩)⟩
        · exact absurd h12 (by decide)
  | succ f ih =>
    intro k I J K lf A t c hkf hS hlc hlf hnu h9 h10 htl hRel hcb hK
    obtain ⟨a1, a2, a3, a4, a5, a6, a7, a8⟩ := id hS
    obtain ⟨b1, b2, b3, b4, l, b5, b6, b7, b8⟩ := a8 k (by omega)
    have hln := ((a3 (sq k) b2).2 l b5).2.2.2
    have m1 := ls_begN (la := la k) (lf := lf) hln b7 ((fx k).getD 0)
    have hx2 : (fx k).getD 200 ≤ 200 := by
      rcases e : fx k with _ | f
      · exact Nat.le_refl _
      · exact b4 f e
    have hx0 : (fx k).getD 0 ≤ 200 := by
      rcases e : fx k with _ | f
      · exact Nat.zero_le _
      · exact b4 f e
    have m2 := ms_begN (la := la k) (lf := lf) hln b7 hx2
    have m3 := lp_rg (g := g) (la := la) (n := n) (lf := lf) (fun v => evS g la fx tl n f (k + 1) (subN (g k) lf v) (upN A k v)) b4
    rw [← m1, ← m2] at m3
    have m4 := (msN_iff tl lf (msN tl lf ((fx k).getD 200) l) l ((fx k).getD 200)).mp (Nat.le_refl _)
    have m5 := (lsN_iff tl (la k) lf 200 l ((fx k).getD 0)).mpr ⟨hx0, fun x _ _ _ => hlf x⟩
    have hcb0 : cb c + 0 ≤ t := by omega
    rw [evS, ← m3] at hK
    refine CM.of (L0 := [_, _, _, _, _, _, _, _]) cX8_goesOn 8 (some .boolean) (by decide) (by decide) kcX8_goesOn (Nat.le_of_ble_eq_true rfl) rfl ?_
    refine a_iload_n dX8_goesOn_0 rfl ?_
    refine a_aload_n dX8_goesOn_1 rfl ?_
    refine a_geti dX8_goesOn_2 kf_X8_30 ⟨by decide, _, rfl, rfl⟩ a5 ?_
    refine a_icmp_ltN (tgt := 32) dX8_goesOn_5 (by decide) (by omega) (by omega) (fun h => ?_) (fun h => ?_)
    · refine a_aload_n dX8_goesOn_32 rfl ?_
      refine a_getr dX8_goesOn_33 kf_X8_9 ⟨by decide, _, rfl, rfl⟩ ?_
      refine a_iload_n dX8_goesOn_36 rfl ?_
      refine a_iald dX8_goesOn_37 ⟨by decide, rfl⟩ (by omega) b1 ?_
      refine a_istore_n (L' := [_, _, _, _, _, _, _, _]) dX8_goesOn_38 (Nat.le_of_ble_eq_true rfl) rfl ?_
      refine a_aload_n dX8_goesOn_39 rfl ?_
      refine a_iload_n dX8_goesOn_40 rfl ?_
      refine a_iload_n dX8_goesOn_41 rfl ?_
      refine a_callVi (As := [_, _]) dX8_goesOn_42 km_X8_149 ⟨by decide, _, _, _, rfl, rfl⟩ rfl rfl (Nat.le_of_ble_eq_true rfl) ?_
      refine s_least hS hlc hlf (by omega) b5 ?_
      refine a_istore (L' := [_, _, _, _, _, _, _, _]) dX8_goesOn_45 (Nat.le_of_ble_eq_true rfl) rfl ?_
      refine a_aload_n dX8_goesOn_47 rfl ?_
      refine a_iload_n dX8_goesOn_48 rfl ?_
      refine a_callVi (As := [_]) dX8_goesOn_49 km_X8_152 ⟨by decide, _, _, _, rfl, rfl⟩ rfl rfl (Nat.le_of_ble_eq_true rfl) ?_
      refine s_most hS hlc hlf (by omega) b5 ?_
      refine a_istore (L' := [_, _, _, _, _, _, _, _]) dX8_goesOn_52 (Nat.le_of_ble_eq_true rfl) rfl ?_
      refine a_iload dX8_goesOn_54 rfl ?_
      refine a_istore (L' := [_, _, _, _, _, _, _, _]) dX8_goesOn_56 (Nat.le_of_ble_eq_true rfl) rfl ?_
      exact lp_gog hG hlim ih (by omega) b5 hlf (by omega) m4.2 _ _ I t c _ rfl (by omega) m5 hS hlc hnu h9 h10 htl hRel hcb0 hK
    · exact absurd h (by omega)

set_option maxHeartbeats 4000000 in
set_option maxRecDepth 100000 in
theorem s_seekg {G : am_G} {d : Nat} {I : am_I} {J : am_J} {K : am_I → am_J → Prop} {n m M lim : Nat} {R : Nat → Option (List Nat)} {g la : Nat → Nat} {fx : Nat → Option Nat} {sq : Nat → Nat} {tl : Nat → Bool} {C : Type} {step : C → (Nat → Nat) → C × Bool} {Rel : C → am_I → Prop} {cb : C → Nat} {GP : Nat → Bool} {lf A : Nat → Nat} {t : Nat} {c : C} (hG : goP G d 6 yX6_hasEnough step Rel cb GP sq m) (hlim : lim ≤ 20000) (hS : scP I n m M R g la fx sq tl) (hlc : lcP I n tl lf) (hlf : ∀ l, lf l ≤ 200) (hnu : nuP sq m 0 A I) (h9 : I 4 9 = nI lim) (h10 : I 4 10 = nI t) (htl : t ≤ lim) (hRel : Rel c I) (hcb : cb c ≤ t) (hK : ∀ I' r, r = runS step lim t (evS g la fx tl n m 0 lf A) c → goQ Rel cb GP n m sq tl lf A lim 0 I r.1 r.2.1 r.2.2 I' → K I' J) : CMv G (d + m + 3) yX8_seek [.ref 4, .ref 6] I J K := by
  refine CM.of (L0 := [_, _]) cX8_seek 2 none (by decide) (by decide) kcX8_seek (Nat.le_of_ble_eq_true rfl) rfl ?_
  refine a_aload_n dX8_seek_0 rfl ?_
  refine a_iconst (v := nI 0) dX8_seek_1 (by decide) ?_
  refine a_aload_n dX8_seek_2 rfl ?_
  refine a_callVi (As := [_, _]) dX8_seek_3 km_X8_94 ⟨by decide, _, _, _, rfl, rfl⟩ rfl rfl (Nat.le_of_ble_eq_true rfl) ?_
  refine s_goesOng (d := d) hG hlim m 0 I J _ lf A t c (by omega) hS hlc hlf hnu h9 h10 htl hRel hcb (fun I' r hr hQ => ?_)
  refine a_pop dX8_seek_6 rfl ?_
  exact a_vreturn dX8_seek_7 ⟨rfl, (hK I' r hr hQ)⟩

set_option maxHeartbeats 4000000 in
set_option maxRecDepth 100000 in
theorem lp_gof {G : am_G} {d : Nat} {n m M lim : Nat} {R : Nat → Option (List Nat)} {g la : Nat → Nat} {fx : Nat → Option Nat} {sq : Nat → Nat} {tl : Nat → Bool} {C : Type} {step : C → (Nat → Nat) → C × Bool} {Rel : C → am_I → Prop} {cb : C → Nat} {GP : Nat → Bool} (hG : goP G d 7 yX0_hasEnough step Rel cb GP sq m) (hlim : lim ≤ 20000) {f : Nat} (ihf : ∀ (k : Nat) (I : am_I) (J : am_J) (K : Int32 → am_I → am_J → Prop) (lf A : Nat → Nat) (t : Nat) (c : C), k + f = m → scP I n m M R g la fx sq tl → lcP I n tl lf → (∀ l, lf l ≤ 200) → nuP sq m k A I → I 4 9 = nI lim → I 4 10 = nI t → t ≤ lim → Rel c I → cb c + e01 k ≤ t → (∀ I' r, r = runS step lim t (evS g la fx tl n f k lf A) c → goQ Rel cb GP n m sq tl lf A lim k I r.1 r.2.1 r.2.2 I' → K (if r.2.1 = 0 then 1 else 0) I' J) → CMi G (d + f + 2) yX8_goesOn [.ref 4, .int (nI k), .ref 7] I J K) {k lo hi : Nat} {lf A : Nat → Nat} {l : List Nat} (hkf : k + f + 1 = m) (hl : R (sq k) = some l) (hlf : ∀ x, lf x ≤ 200) (hhi : hi ≤ 200) (hhi2 : ∀ x, x ∈ l → tl x = true → hi ≤ lf x) {J : am_J} {K : Int32 → am_I → am_J → Prop} : ∀ (cnt v : Nat) (I : am_I) (t : Nat) (c : C) (v7 : Option Value), hi + 1 - v = cnt → v ≤ 201 + lo → lo ≤ 200 → scP I n m M R g la fx sq tl → lcP I n tl lf → nuP sq m k A I → I 4 9 = nI lim → I 4 10 = nI t → t ≤ lim → Rel c I → cb c + 0 ≤ t → (∀ I' r, r = runS step lim t (lpE (fun v => evS g la fx tl n f (k + 1) (subN (g k) lf v) (upN A k v)) v cnt) c → goQ Rel cb GP n m sq tl lf A lim k I r.1 r.2.1 r.2.2 I' → K (if r.2.1 = 0 then 1 else 0) I' J) → AW G cX8_goesOn 8 RX8 (d + f + 3) (am_ex G (some .boolean) (fun r I J => ∃ x, r = some (.int x) ∧ K x I J)) 58 [some (.ref 4), some (.int (nI k)), some (.ref 7), some (.int (nI (sq k))), some (.int (nI lo)), some (.int (nI hi)), some (.int (nI v)), v7] [] I J := by
  obtain ⟨g0, gR, g1, g4, g44, g45, g50, g52, g53, g54, g55, gE⟩ := id hG
  have he : e01 k ≤ 1 := by unfold e01; split <;> omega
  intro cnt
  induction cnt with
  | zero =>
    intro v I t c v7 hv hv2 hlo hS hlc hnu h9 h10 htl hRel hcb hK
    refine a_iload dX8_goesOn_58 rfl ?_
    refine a_iload dX8_goesOn_60 rfl ?_
    refine a_icmp_gtN (tgt := 139) dX8_goesOn_62 (by decide) (by omega) (by omega) (fun h => ?_) (fun h => ?_)
    · refine a_iconst (v := nI 1) dX8_goesOn_139 (by decide) ?_
      exact a_zreturn dX8_goesOn_140 (by first | exact Or.inl rfl | exact Or.inr rfl) ⟨_, rfl, (hK I (t, 0, c) rfl ⟨fun _ _ _ _ _ _ => rfl, hlc, h10, htl, hnu, hRel, (by show cb c + e01 k ≤ t + 1; omega), rfl⟩)⟩
    · exact absurd h (by omega)
  | succ cnt ih =>
    intro v I t c v7 hv hv2 hlo hS hlc hnu h9 h10 htl hRel hcb hK
    obtain ⟨a1, a2, a3, a4, a5, a6, a7, a8⟩ := id hS
    obtain ⟨b1, b2, b3, b4, l0, b5, b6, b7, b8⟩ := a8 k (by omega)
    obtain rfl : l = l0 := by rw [hl] at b5; cases b5; rfl
    have hvl : ∀ x, x ∈ l → tl x = true → v ≤ lf x := fun x q1 q2 => by have := hhi2 x q1 q2; omega
    rw [lpE] at hK
    refine a_iload dX8_goesOn_58 rfl ?_
    refine a_iload dX8_goesOn_60 rfl ?_
    refine a_icmp_gtN (tgt := 139) dX8_goesOn_62 (by decide) (by omega) (by omega) (fun h => ?_) (fun h => ?_)
    · exact absurd h (by omega)
    · refine a_aload_n dX8_goesOn_65 rfl ?_
      refine a_geti dX8_goesOn_66 kf_X8_37 ⟨by decide, _, rfl, rfl⟩ h10 ?_
      refine a_aload_n dX8_goesOn_69 rfl ?_
      refine a_geti dX8_goesOn_70 kf_X8_34 ⟨by decide, _, rfl, rfl⟩ h9 ?_
      refine a_icmp_ltN (tgt := 83) dX8_goesOn_73 (by decide) (by omega) (by omega) (fun gg => ?_) (fun gg => ?_)
      · have ht : ¬ t = lim := by omega
        refine a_aload_n dX8_goesOn_83 rfl ?_
        refine a_dup dX8_goesOn_84 rfl ?_
        refine a_geti dX8_goesOn_85 kf_X8_37 ⟨by decide, _, rfl, rfl⟩ h10 ?_
        refine a_iconst (v := nI 1) dX8_goesOn_88 (by decide) ?_
        refine a_iadd dX8_goesOn_89 (by first | exact nI_add _ _ | rfl) ?_
        refine a_puti dX8_goesOn_90 kp_X8_37 ⟨by decide, _, rfl, rfl⟩ ?_
        refine a_aload_n dX8_goesOn_93 rfl ?_
        refine a_getr dX8_goesOn_94 kf_X8_27 ⟨by decide, _, rfl, rfl⟩ ?_
        refine a_iload_n dX8_goesOn_97 rfl ?_
        refine a_iload dX8_goesOn_98 rfl ?_
        refine a_iast dX8_goesOn_100 ⟨by decide, rfl⟩ (by omega) ?_
        refine a_aload_n dX8_goesOn_101 rfl ?_
        refine a_iload_n dX8_goesOn_102 rfl ?_
        refine a_iload dX8_goesOn_103 rfl ?_
        refine a_callVv (As := [_, _]) dX8_goesOn_105 km_X8_156 ⟨by decide, _, _, _, rfl, rfl⟩ rfl rfl (Nat.le_of_ble_eq_true rfl) ?_
        refine s_take (rl_fr a3 (by rw [am_up_ne (by decide), am_up_ne (by decide)]) (by rw [am_up_ne (by decide), am_up_ne (by decide)])) a4 a2 b2 hl b6 ?_
        refine a_aload_n dX8_goesOn_108 rfl ?_
        refine a_iload_n dX8_goesOn_109 rfl ?_
        refine a_iconst (v := nI 1) dX8_goesOn_110 (by decide) ?_
        refine a_iadd dX8_goesOn_111 (by first | exact nI_add _ _ | rfl) ?_
        refine a_aload_n dX8_goesOn_112 rfl ?_
        refine a_callVi (As := [_, _]) dX8_goesOn_113 km_X8_94 ⟨by decide, _, _, _, rfl, rfl⟩ rfl rfl (Nat.le_of_ble_eq_true rfl) ?_
        refine ihf (k + 1) _ J _ (subN (g k) lf v) (upN A k v) (t + 1) c (by omega) (scP_fr hS ?_ ?_ ?_ ?_ ?_ ?_ ?_) ?_ (fun x => Nat.le_trans (by unfold subN; split <;> omega) (hlf x)) ?_ ?_ ?_ (by omega) ?_ (by unfold e01; rw [if_neg (by omega)]; omega) (fun I' r hr hQ => ?_)
        · rw [mTe_ne (by decide), am_up_ne (by decide), am_up_ne (by decide)]
        · rw [mTe_ne (by decide), am_up_ne (by decide), am_up_ne (by decide)]
        · rw [mTe_ne (by decide), am_up_ne (by decide), am_up_ne (by decide)]
        · rw [mTe_ne (by decide), am_up_ne (by decide), am_up_slot (by decide)]
        · rw [mTe_ne (by decide), am_up_ne (by decide), am_up_ne (by decide)]
        · rw [mTe_ne (by decide), am_up_ne (by decide), am_up_ne (by decide)]
        · rw [mTe_ne (by decide), am_up_ne (by decide), am_up_ne (by decide)]
        · exact lc_take (lcP_row hlc (by rw [am_up_ne (by decide), am_up_ne (by decide)])) hlf b7 hvl
        · exact nuP_row (nuP_up (I := am_up I 4 10 (nI (t + 1))) (by omega) a7 (by omega) (nuP_row hnu (am_up_ne (by decide)))) (by rw [mTe_ne (by decide)])
        · rw [mTe_ne (by decide), am_up_ne (by decide), am_up_slot (by decide)]; exact h9
        · rw [mTe_ne (by decide), am_up_ne (by decide), am_up_same]
        · exact gR c I _ (fun a j q1 q2 q4 => by
            rw [mTe_ne q1, am_up_ne q2]
            by_cases e : a = 4
            · subst e; exact am_up_slot (q4 rfl).1
            · rw [am_up_ne e]) hRel
        obtain ⟨f1, f2, f3, f4, f5, f6, f7, f8⟩ := hQ
        have f1' : frK GP I' I := frK_tr f1 (fun a j q0 q1 q2 q4 => by
          rw [mTe_ne q1, am_up_ne q2]
          by_cases e : a = 4
          · subst e; exact am_up_slot (q4 rfl).1
          · rw [am_up_ne e])
        have hS' := scP_frK hS f1' g1 g4 g44 g45 g50 g52 g54
        have e11 : I' 4 11 = (if r.2.1 = 1 then nI 1 else I 4 11) := by
          rw [f8, mTe_ne (by decide), am_up_ne (by decide), am_up_slot (by decide)]
        have hcb' : cb r.2.2 ≤ r.1 := by
          unfold e01 at f7; rw [if_neg (by omega)] at f7; omega
        have happ := runS_app step lim (lpE (fun v => evS g la fx tl n f (k + 1) (subN (g k) lf v) (upN A k v)) (v + 1) cnt) (evS g la fx tl n f (k + 1) (subN (g k) lf v) (upN A k v)) (t + 1) c
        rw [← hr] at happ
        refine a_istore (L' := [_, _, _, _, _, _, _, _]) dX8_goesOn_116 (Nat.le_of_ble_eq_true rfl) rfl ?_
        by_cases hst : r.2.1 = 0
        · refine a_aload_n dX8_goesOn_118 rfl ?_
          refine a_iload_n dX8_goesOn_119 rfl ?_
          refine a_iload dX8_goesOn_120 rfl ?_
          refine a_ineg dX8_goesOn_122 rfl ?_
          refine a_callVv (As := [_, _]) dX8_goesOn_123 km_X8_156 ⟨by decide, _, _, _, rfl, rfl⟩ rfl rfl (Nat.le_of_ble_eq_true rfl) ?_
          refine s_take hS'.2.2.1 a4 a2 b2 hl b6 ?_
          refine a_iload dX8_goesOn_126 rfl ?_
          refine a_if_ne (tgt := 133) dX8_goesOn_128 (by decide) (fun q => ?_) (fun q => ?_)
          · refine a_iinc (L' := [_, _, _, _, _, _, _, _]) dX8_goesOn_133 rfl (nI_inc _) rfl ?_
            refine a_goto (tgt := 58) dX8_goesOn_136 (by decide) ?_
            exact ih (v + 1) _ r.1 r.2.2 _ (by omega) (by omega) hlo (scP_fr hS' (by rw [mTe_ne (by decide)]) (mTe_ne (by decide)) (mTe_ne (by decide)) (by rw [mTe_ne (by decide)]) (mTe_ne (by decide)) (mTe_ne (by decide)) (mTe_ne (by decide))) (lc_back f2 hlf b7 hvl) (nuP_row (nuP_dn f5) (mTe_ne (by decide))) (by rw [mTe_ne (by decide), f1' 4 9 g4 (by decide) (by decide) (by decide)]; exact h9) (by rw [mTe_ne (by decide)]; exact f3) f4 (gR _ _ _ (fun a j q1 _ _ => by rw [mTe_ne q1]) f6) hcb' (fun I2 r2 hr2 hQ2 => by
              obtain ⟨z1, z2, z3, z4, z5, z6, z7, z8⟩ := hQ2
              refine hK I2 r2 (by rw [hr2, runS, if_neg ht, happ, if_pos hst]) ⟨frK_tr z1 (fun a j q0 q1 q2 q4 => by rw [mTe_ne q1]; exact f1' a j q0 q1 q2 q4), z2, z3, z4, z5, z6, z7, ?_⟩
              rw [z8, mTe_ne (by decide), e11, hst]
              rfl)
          · exact absurd q (by rw [if_pos hst]; decide)
        · refine a_aload_n dX8_goesOn_118 rfl ?_
          refine a_iload_n dX8_goesOn_119 rfl ?_
          refine a_iload dX8_goesOn_120 rfl ?_
          refine a_ineg dX8_goesOn_122 rfl ?_
          refine a_callVv (As := [_, _]) dX8_goesOn_123 km_X8_156 ⟨by decide, _, _, _, rfl, rfl⟩ rfl rfl (Nat.le_of_ble_eq_true rfl) ?_
          refine s_take hS'.2.2.1 a4 a2 b2 hl b6 ?_
          refine a_iload dX8_goesOn_126 rfl ?_
          refine a_if_ne (tgt := 133) dX8_goesOn_128 (by decide) (fun q => ?_) (fun q => ?_)
          · exact absurd (by rw [if_neg hst]) q
          · refine a_iconst (v := nI 0) dX8_goesOn_131 (by decide) ?_
            exact a_zreturn dX8_goesOn_132 (by first | exact Or.inl rfl | exact Or.inr rfl) ⟨_, rfl, (by
                have q := hK (mTe I' l (-(nI v))) r (by rw [runS, if_neg ht, happ, if_neg hst]) ⟨fun a j q0 q1 q2 q4 => by rw [mTe_ne q1]; exact f1' a j q0 q1 q2 q4, lc_back f2 hlf b7 hvl, by rw [mTe_ne (by decide)]; exact f3, f4, nuP_row (nuP_dn f5) (mTe_ne (by decide)), gR _ _ _ (fun a j q1 _ _ => by rw [mTe_ne q1]) f6, by omega, by rw [mTe_ne (by decide)]; exact e11⟩
                rw [if_neg hst] at q
                exact q)⟩
      · have ht : t = lim := by omega
        refine a_aload_n dX8_goesOn_76 rfl ?_
        refine a_iconst (v := nI 1) dX8_goesOn_77 (by decide) ?_
        refine a_putz dX8_goesOn_78 kp_X8_40 ⟨by decide, _, rfl, rfl⟩ (by first | exact Or.inl rfl | exact Or.inr rfl) ?_
        refine a_iconst (v := nI 0) dX8_goesOn_81 (by decide) ?_
        exact a_zreturn dX8_goesOn_82 (by first | exact Or.inl rfl | exact Or.inr rfl) ⟨_, rfl, (hK _ (t, 1, c) (by rw [runS, if_pos ht]) ⟨fun a j _ _ _ q4 => by
      by_cases e : a = 4
      · subst e; exact am_up_slot (q4 rfl).2
      · rw [am_up_ne e], lcP_row hlc (am_up_ne (by decide)), (by rw [am_up_slot (by decide)]; exact h10), htl, nuP_row hnu (am_up_ne (by decide)), gR c I _ (fun a j _ _ q4 => by
      by_cases e : a = 4
      · subst e; exact am_up_slot (q4 rfl).2
      · rw [am_up_ne e]) hRel, (by show cb c + e01 k ≤ t + 1; omega), (by rw [am_up_same]; rfl)⟩)⟩

set_option maxHeartbeats 4000000 in
set_option maxRecDepth 100000 in
theorem s_goesOnf {G : am_G} {d : Nat} {n m M lim : Nat} {R : Nat → Option (List Nat)} {g la : Nat → Nat} {fx : Nat → Option Nat} {sq : Nat → Nat} {tl : Nat → Bool} {C : Type} {step : C → (Nat → Nat) → C × Bool} {Rel : C → am_I → Prop} {cb : C → Nat} {GP : Nat → Bool} (hG : goP G d 7 yX0_hasEnough step Rel cb GP sq m) (hlim : lim ≤ 20000) : ∀ f : Nat, ∀ (k : Nat) (I : am_I) (J : am_J) (K : Int32 → am_I → am_J → Prop) (lf A : Nat → Nat) (t : Nat) (c : C), k + f = m → scP I n m M R g la fx sq tl → lcP I n tl lf → (∀ l, lf l ≤ 200) → nuP sq m k A I → I 4 9 = nI lim → I 4 10 = nI t → t ≤ lim → Rel c I → cb c + e01 k ≤ t → (∀ I' r, r = runS step lim t (evS g la fx tl n f k lf A) c → goQ Rel cb GP n m sq tl lf A lim k I r.1 r.2.1 r.2.2 I' → K (if r.2.1 = 0 then 1 else 0) I' J) → CMi G (d + f + 2) yX8_goesOn [.ref 4, .int (nI k), .ref 7] I J K := by
  obtain ⟨g0, gR, g1, g4, g44, g45, g50, g52, g53, g54, g55, gE⟩ := id hG
  intro f
  induction f with
  | zero =>
    intro k I J K lf A t c hkf hS hlc hlf hnu h9 h10 htl hRel hcb hK
    obtain ⟨a1, a2, a3, a4, a5, a6, a7, a8⟩ := id hS
    obtain rfl : k = m := by omega
    rw [evS] at hK
    refine CM.of (L0 := [_, _, _, _, _, _, _, _]) cX8_goesOn 8 (some .boolean) (by decide) (by decide) kcX8_goesOn (Nat.le_of_ble_eq_true rfl) rfl ?_
    refine a_iload_n dX8_goesOn_0 rfl ?_
    refine a_aload_n dX8_goesOn_1 rfl ?_
    refine a_geti dX8_goesOn_2 kf_X8_30 ⟨by decide, _, rfl, rfl⟩ a5 ?_
    refine a_icmp_ltN (tgt := 32) dX8_goesOn_5 (by decide) (by omega) (by omega) (fun h => ?_) (fun h => ?_)
    · exact absurd h (by omega)
    · refine a_aload_n dX8_goesOn_8 rfl ?_
      refine a_callVi (As := []) dX8_goesOn_9 km_X8_139 ⟨by decide, _, _, _, rfl, rfl⟩ rfl rfl (Nat.le_of_ble_eq_true rfl) ?_
      refine s_nothing a1 a2 hlc hlf (fun hb => ?_) (fun hb => ?_)
      · rw [if_pos hb] at hK
        refine a_if_eq (tgt := 26) dX8_goesOn_12 (by decide) (fun h12 => ?_) (fun h12 => ?_)
        · exact absurd h12 (by decide)
        · refine a_aload_n dX8_goesOn_15 rfl ?_
          refine a_aload_n dX8_goesOn_16 rfl ?_
          refine a_getr dX8_goesOn_17 kf_X8_27 ⟨by decide, _, rfl, rfl⟩ ?_
          refine a_callUi (As := [_]) dX8_goesOn_20 ku_X8_143_X1 ⟨by decide, _, _, _, rfl, rfl⟩ rfl rfl (Nat.le_of_ble_eq_true rfl) ?_
          refine CMi.mono (gE (d + 0) I J c A (fun x I J => K x I J) hRel hnu (by unfold e01 at hcb; split at hcb <;> omega) (fun I' hf hr => ?_)) (fun x I J hx => ?_)
          · by_cases e : (step c A).2 = true
            · rw [if_pos e]
              exact hK I' (t, 2, (step c A).1) (by rw [runS, if_pos e]) ⟨fun a j q0 _ _ _ => by rw [hf a q0], lcP_row hlc (hf _ g53), by rw [hf _ g4]; exact h10, htl, nuP_row hnu (hf _ g55), hr, (by have := g0 c A; show cb (step c A).1 + e01 k ≤ t + 1; omega), by rw [hf _ g4]; rfl⟩
            · rw [if_neg e]
              exact hK I' (t, 0, (step c A).1) (by rw [runS, if_neg e]; rfl) ⟨fun a j q0 _ _ _ => by rw [hf a q0], lcP_row hlc (hf _ g53), by rw [hf _ g4]; exact h10, htl, nuP_row hnu (hf _ g55), hr, (by have := g0 c A; show cb (step c A).1 + e01 k ≤ t + 1; omega), by rw [hf _ g4]; rfl⟩
          refine a_if_ne (tgt := 30) dX8_goesOn_23 (by decide) (fun q => ?_) (fun q => ?_)
          · rw [if_neg q] at hx
            refine a_iconst (v := nI 0) dX8_goesOn_30 (by decide) ?_
            exact a_zreturn dX8_goesOn_31 (by first | exact Or.inl rfl | exact Or.inr rfl) ⟨_, rfl, hx⟩
          · rw [if_pos q] at hx
            refine a_iconst (v := nI 1) dX8_goesOn_26 (by decide) ?_
            refine a_goto (tgt := 31) dX8_goesOn_27 (by decide) ?_
            exact a_zreturn dX8_goesOn_31 (by first | exact Or.inl rfl | exact Or.inr rfl) ⟨_, rfl, hx⟩
      · rw [if_neg hb] at hK
        refine a_if_eq (tgt := 26) dX8_goesOn_12 (by decide) (fun h12 => ?_) (fun h12 => ?_)
        · refine a_iconst (v := nI 1) dX8_goesOn_26 (by decide) ?_
          refine a_goto (tgt := 31) dX8_goesOn_27 (by decide) ?_
          exact a_zreturn dX8_goesOn_31 (by first | exact Or.inl rfl | exact Or.inr rfl) ⟨_, rfl, (hK I (t, 0, c) rfl ⟨fun _ _ _ _ _ _ => rfl, hlc, h10, htl, hnu, hRel, (by show cb c + e01 k ≤ t + 1; omega), rfl⟩)⟩
        · exact absurd h12 (by decide)
  | succ f ih =>
    intro k I J K lf A t c hkf hS hlc hlf hnu h9 h10 htl hRel hcb hK
    obtain ⟨a1, a2, a3, a4, a5, a6, a7, a8⟩ := id hS
    obtain ⟨b1, b2, b3, b4, l, b5, b6, b7, b8⟩ := a8 k (by omega)
    have hln := ((a3 (sq k) b2).2 l b5).2.2.2
    have m1 := ls_begN (la := la k) (lf := lf) hln b7 ((fx k).getD 0)
    have hx2 : (fx k).getD 200 ≤ 200 := by
      rcases e : fx k with _ | f
      · exact Nat.le_refl _
      · exact b4 f e
    have hx0 : (fx k).getD 0 ≤ 200 := by
      rcases e : fx k with _ | f
      · exact Nat.zero_le _
      · exact b4 f e
    have m2 := ms_begN (la := la k) (lf := lf) hln b7 hx2
    have m3 := lp_rg (g := g) (la := la) (n := n) (lf := lf) (fun v => evS g la fx tl n f (k + 1) (subN (g k) lf v) (upN A k v)) b4
    rw [← m1, ← m2] at m3
    have m4 := (msN_iff tl lf (msN tl lf ((fx k).getD 200) l) l ((fx k).getD 200)).mp (Nat.le_refl _)
    have m5 := (lsN_iff tl (la k) lf 200 l ((fx k).getD 0)).mpr ⟨hx0, fun x _ _ _ => hlf x⟩
    have hcb0 : cb c + 0 ≤ t := by omega
    rw [evS, ← m3] at hK
    refine CM.of (L0 := [_, _, _, _, _, _, _, _]) cX8_goesOn 8 (some .boolean) (by decide) (by decide) kcX8_goesOn (Nat.le_of_ble_eq_true rfl) rfl ?_
    refine a_iload_n dX8_goesOn_0 rfl ?_
    refine a_aload_n dX8_goesOn_1 rfl ?_
    refine a_geti dX8_goesOn_2 kf_X8_30 ⟨by decide, _, rfl, rfl⟩ a5 ?_
    refine a_icmp_ltN (tgt := 32) dX8_goesOn_5 (by decide) (by omega) (by omega) (fun h => ?_) (fun h => ?_)
    · refine a_aload_n dX8_goesOn_32 rfl ?_
      refine a_getr dX8_goesOn_33 kf_X8_9 ⟨by decide, _, rfl, rfl⟩ ?_
      refine a_iload_n dX8_goesOn_36 rfl ?_
      refine a_iald dX8_goesOn_37 ⟨by decide, rfl⟩ (by omega) b1 ?_
      refine a_istore_n (L' := [_, _, _, _, _, _, _, _]) dX8_goesOn_38 (Nat.le_of_ble_eq_true rfl) rfl ?_
      refine a_aload_n dX8_goesOn_39 rfl ?_
      refine a_iload_n dX8_goesOn_40 rfl ?_
      refine a_iload_n dX8_goesOn_41 rfl ?_
      refine a_callVi (As := [_, _]) dX8_goesOn_42 km_X8_149 ⟨by decide, _, _, _, rfl, rfl⟩ rfl rfl (Nat.le_of_ble_eq_true rfl) ?_
      refine s_least hS hlc hlf (by omega) b5 ?_
      refine a_istore (L' := [_, _, _, _, _, _, _, _]) dX8_goesOn_45 (Nat.le_of_ble_eq_true rfl) rfl ?_
      refine a_aload_n dX8_goesOn_47 rfl ?_
      refine a_iload_n dX8_goesOn_48 rfl ?_
      refine a_callVi (As := [_]) dX8_goesOn_49 km_X8_152 ⟨by decide, _, _, _, rfl, rfl⟩ rfl rfl (Nat.le_of_ble_eq_true rfl) ?_
      refine s_most hS hlc hlf (by omega) b5 ?_
      refine a_istore (L' := [_, _, _, _, _, _, _, _]) dX8_goesOn_52 (Nat.le_of_ble_eq_true rfl) rfl ?_
      refine a_iload dX8_goesOn_54 rfl ?_
      refine a_istore (L' := [_, _, _, _, _, _, _, _]) dX8_goesOn_56 (Nat.le_of_ble_eq_true rfl) rfl ?_
      exact lp_gof hG hlim ih (by omega) b5 hlf (by omega) m4.2 _ _ I t c _ rfl (by omega) m5 hS hlc hnu h9 h10 htl hRel hcb0 hK
    · exact absurd h (by omega)

set_option maxHeartbeats 4000000 in
set_option maxRecDepth 100000 in
theorem s_seekf {G : am_G} {d : Nat} {I : am_I} {J : am_J} {K : am_I → am_J → Prop} {n m M lim : Nat} {R : Nat → Option (List Nat)} {g la : Nat → Nat} {fx : Nat → Option Nat} {sq : Nat → Nat} {tl : Nat → Bool} {C : Type} {step : C → (Nat → Nat) → C × Bool} {Rel : C → am_I → Prop} {cb : C → Nat} {GP : Nat → Bool} {lf A : Nat → Nat} {t : Nat} {c : C} (hG : goP G d 7 yX0_hasEnough step Rel cb GP sq m) (hlim : lim ≤ 20000) (hS : scP I n m M R g la fx sq tl) (hlc : lcP I n tl lf) (hlf : ∀ l, lf l ≤ 200) (hnu : nuP sq m 0 A I) (h9 : I 4 9 = nI lim) (h10 : I 4 10 = nI t) (htl : t ≤ lim) (hRel : Rel c I) (hcb : cb c ≤ t) (hK : ∀ I' r, r = runS step lim t (evS g la fx tl n m 0 lf A) c → goQ Rel cb GP n m sq tl lf A lim 0 I r.1 r.2.1 r.2.2 I' → K I' J) : CMv G (d + m + 3) yX8_seek [.ref 4, .ref 7] I J K := by
  refine CM.of (L0 := [_, _]) cX8_seek 2 none (by decide) (by decide) kcX8_seek (Nat.le_of_ble_eq_true rfl) rfl ?_
  refine a_aload_n dX8_seek_0 rfl ?_
  refine a_iconst (v := nI 0) dX8_seek_1 (by decide) ?_
  refine a_aload_n dX8_seek_2 rfl ?_
  refine a_callVi (As := [_, _]) dX8_seek_3 km_X8_94 ⟨by decide, _, _, _, rfl, rfl⟩ rfl rfl (Nat.le_of_ble_eq_true rfl) ?_
  refine s_goesOnf (d := d) hG hlim m 0 I J _ lf A t c (by omega) hS hlc hlf hnu h9 h10 htl hRel hcb (fun I' r hr hQ => ?_)
  refine a_pop dX8_seek_6 rfl ?_
  exact a_vreturn dX8_seek_7 ⟨rfl, (hK I' r hr hQ)⟩

set_option maxHeartbeats 4000000 in
set_option maxRecDepth 100000 in
theorem lp_goh {G : am_G} {d : Nat} {n m M lim : Nat} {R : Nat → Option (List Nat)} {g la : Nat → Nat} {fx : Nat → Option Nat} {sq : Nat → Nat} {tl : Nat → Bool} {C : Type} {step : C → (Nat → Nat) → C × Bool} {Rel : C → am_I → Prop} {cb : C → Nat} {GP : Nat → Bool} (hG : goP G d 8 yX0_hasEnough step Rel cb GP sq m) (hlim : lim ≤ 20000) {f : Nat} (ihf : ∀ (k : Nat) (I : am_I) (J : am_J) (K : Int32 → am_I → am_J → Prop) (lf A : Nat → Nat) (t : Nat) (c : C), k + f = m → scP I n m M R g la fx sq tl → lcP I n tl lf → (∀ l, lf l ≤ 200) → nuP sq m k A I → I 4 9 = nI lim → I 4 10 = nI t → t ≤ lim → Rel c I → cb c + e01 k ≤ t → (∀ I' r, r = runS step lim t (evS g la fx tl n f k lf A) c → goQ Rel cb GP n m sq tl lf A lim k I r.1 r.2.1 r.2.2 I' → K (if r.2.1 = 0 then 1 else 0) I' J) → CMi G (d + f + 2) yX8_goesOn [.ref 4, .int (nI k), .ref 8] I J K) {k lo hi : Nat} {lf A : Nat → Nat} {l : List Nat} (hkf : k + f + 1 = m) (hl : R (sq k) = some l) (hlf : ∀ x, lf x ≤ 200) (hhi : hi ≤ 200) (hhi2 : ∀ x, x ∈ l → tl x = true → hi ≤ lf x) {J : am_J} {K : Int32 → am_I → am_J → Prop} : ∀ (cnt v : Nat) (I : am_I) (t : Nat) (c : C) (v7 : Option Value), hi + 1 - v = cnt → v ≤ 201 + lo → lo ≤ 200 → scP I n m M R g la fx sq tl → lcP I n tl lf → nuP sq m k A I → I 4 9 = nI lim → I 4 10 = nI t → t ≤ lim → Rel c I → cb c + 0 ≤ t → (∀ I' r, r = runS step lim t (lpE (fun v => evS g la fx tl n f (k + 1) (subN (g k) lf v) (upN A k v)) v cnt) c → goQ Rel cb GP n m sq tl lf A lim k I r.1 r.2.1 r.2.2 I' → K (if r.2.1 = 0 then 1 else 0) I' J) → AW G cX8_goesOn 8 RX8 (d + f + 3) (am_ex G (some .boolean) (fun r I J => ∃ x, r = some (.int x) ∧ K x I J)) 58 [some (.ref 4), some (.int (nI k)), some (.ref 8), some (.int (nI (sq k))), some (.int (nI lo)), some (.int (nI hi)), some (.int (nI v)), v7] [] I J := by
  obtain ⟨g0, gR, g1, g4, g44, g45, g50, g52, g53, g54, g55, gE⟩ := id hG
  have he : e01 k ≤ 1 := by unfold e01; split <;> omega
  intro cnt
  induction cnt with
  | zero =>
    intro v I t c v7 hv hv2 hlo hS hlc hnu h9 h10 htl hRel hcb hK
    refine a_iload dX8_goesOn_58 rfl ?_
    refine a_iload dX8_goesOn_60 rfl ?_
    refine a_icmp_gtN (tgt := 139) dX8_goesOn_62 (by decide) (by omega) (by omega) (fun h => ?_) (fun h => ?_)
    · refine a_iconst (v := nI 1) dX8_goesOn_139 (by decide) ?_
      exact a_zreturn dX8_goesOn_140 (by first | exact Or.inl rfl | exact Or.inr rfl) ⟨_, rfl, (hK I (t, 0, c) rfl ⟨fun _ _ _ _ _ _ => rfl, hlc, h10, htl, hnu, hRel, (by show cb c + e01 k ≤ t + 1; omega), rfl⟩)⟩
    · exact absurd h (by omega)
  | succ cnt ih =>
    intro v I t c v7 hv hv2 hlo hS hlc hnu h9 h10 htl hRel hcb hK
    obtain ⟨a1, a2, a3, a4, a5, a6, a7, a8⟩ := id hS
    obtain ⟨b1, b2, b3, b4, l0, b5, b6, b7, b8⟩ := a8 k (by omega)
    obtain rfl : l = l0 := by rw [hl] at b5; cases b5; rfl
    have hvl : ∀ x, x ∈ l → tl x = true → v ≤ lf x := fun x q1 q2 => by have := hhi2 x q1 q2; omega
    rw [lpE] at hK
    refine a_iload dX8_goesOn_58 rfl ?_
    refine a_iload dX8_goesOn_60 rfl ?_
    refine a_icmp_gtN (tgt := 139) dX8_goesOn_62 (by decide) (by omega) (by omega) (fun h => ?_) (fun h => ?_)
    · exact absurd h (by omega)
    · refine a_aload_n dX8_goesOn_65 rfl ?_
      refine a_geti dX8_goesOn_66 kf_X8_37 ⟨by decide, _, rfl, rfl⟩ h10 ?_
      refine a_aload_n dX8_goesOn_69 rfl ?_
      refine a_geti dX8_goesOn_70 kf_X8_34 ⟨by decide, _, rfl, rfl⟩ h9 ?_
      refine a_icmp_ltN (tgt := 83) dX8_goesOn_73 (by decide) (by omega) (by omega) (fun gg => ?_) (fun gg => ?_)
      · have ht : ¬ t = lim := by omega
        refine a_aload_n dX8_goesOn_83 rfl ?_
        refine a_dup dX8_goesOn_84 rfl ?_
        refine a_geti dX8_goesOn_85 kf_X8_37 ⟨by decide, _, rfl, rfl⟩ h10 ?_
        refine a_iconst (v := nI 1) dX8_goesOn_88 (by decide) ?_
        refine a_iadd dX8_goesOn_89 (by first | exact nI_add _ _ | rfl) ?_
        refine a_puti dX8_goesOn_90 kp_X8_37 ⟨by decide, _, rfl, rfl⟩ ?_
        refine a_aload_n dX8_goesOn_93 rfl ?_
        refine a_getr dX8_goesOn_94 kf_X8_27 ⟨by decide, _, rfl, rfl⟩ ?_
        refine a_iload_n dX8_goesOn_97 rfl ?_
        refine a_iload dX8_goesOn_98 rfl ?_
        refine a_iast dX8_goesOn_100 ⟨by decide, rfl⟩ (by omega) ?_
        refine a_aload_n dX8_goesOn_101 rfl ?_
        refine a_iload_n dX8_goesOn_102 rfl ?_
        refine a_iload dX8_goesOn_103 rfl ?_
        refine a_callVv (As := [_, _]) dX8_goesOn_105 km_X8_156 ⟨by decide, _, _, _, rfl, rfl⟩ rfl rfl (Nat.le_of_ble_eq_true rfl) ?_
        refine s_take (rl_fr a3 (by rw [am_up_ne (by decide), am_up_ne (by decide)]) (by rw [am_up_ne (by decide), am_up_ne (by decide)])) a4 a2 b2 hl b6 ?_
        refine a_aload_n dX8_goesOn_108 rfl ?_
        refine a_iload_n dX8_goesOn_109 rfl ?_
        refine a_iconst (v := nI 1) dX8_goesOn_110 (by decide) ?_
        refine a_iadd dX8_goesOn_111 (by first | exact nI_add _ _ | rfl) ?_
        refine a_aload_n dX8_goesOn_112 rfl ?_
        refine a_callVi (As := [_, _]) dX8_goesOn_113 km_X8_94 ⟨by decide, _, _, _, rfl, rfl⟩ rfl rfl (Nat.le_of_ble_eq_true rfl) ?_
        refine ihf (k + 1) _ J _ (subN (g k) lf v) (upN A k v) (t + 1) c (by omega) (scP_fr hS ?_ ?_ ?_ ?_ ?_ ?_ ?_) ?_ (fun x => Nat.le_trans (by unfold subN; split <;> omega) (hlf x)) ?_ ?_ ?_ (by omega) ?_ (by unfold e01; rw [if_neg (by omega)]; omega) (fun I' r hr hQ => ?_)
        · rw [mTe_ne (by decide), am_up_ne (by decide), am_up_ne (by decide)]
        · rw [mTe_ne (by decide), am_up_ne (by decide), am_up_ne (by decide)]
        · rw [mTe_ne (by decide), am_up_ne (by decide), am_up_ne (by decide)]
        · rw [mTe_ne (by decide), am_up_ne (by decide), am_up_slot (by decide)]
        · rw [mTe_ne (by decide), am_up_ne (by decide), am_up_ne (by decide)]
        · rw [mTe_ne (by decide), am_up_ne (by decide), am_up_ne (by decide)]
        · rw [mTe_ne (by decide), am_up_ne (by decide), am_up_ne (by decide)]
        · exact lc_take (lcP_row hlc (by rw [am_up_ne (by decide), am_up_ne (by decide)])) hlf b7 hvl
        · exact nuP_row (nuP_up (I := am_up I 4 10 (nI (t + 1))) (by omega) a7 (by omega) (nuP_row hnu (am_up_ne (by decide)))) (by rw [mTe_ne (by decide)])
        · rw [mTe_ne (by decide), am_up_ne (by decide), am_up_slot (by decide)]; exact h9
        · rw [mTe_ne (by decide), am_up_ne (by decide), am_up_same]
        · exact gR c I _ (fun a j q1 q2 q4 => by
            rw [mTe_ne q1, am_up_ne q2]
            by_cases e : a = 4
            · subst e; exact am_up_slot (q4 rfl).1
            · rw [am_up_ne e]) hRel
        obtain ⟨f1, f2, f3, f4, f5, f6, f7, f8⟩ := hQ
        have f1' : frK GP I' I := frK_tr f1 (fun a j q0 q1 q2 q4 => by
          rw [mTe_ne q1, am_up_ne q2]
          by_cases e : a = 4
          · subst e; exact am_up_slot (q4 rfl).1
          · rw [am_up_ne e])
        have hS' := scP_frK hS f1' g1 g4 g44 g45 g50 g52 g54
        have e11 : I' 4 11 = (if r.2.1 = 1 then nI 1 else I 4 11) := by
          rw [f8, mTe_ne (by decide), am_up_ne (by decide), am_up_slot (by decide)]
        have hcb' : cb r.2.2 ≤ r.1 := by
          unfold e01 at f7; rw [if_neg (by omega)] at f7; omega
        have happ := runS_app step lim (lpE (fun v => evS g la fx tl n f (k + 1) (subN (g k) lf v) (upN A k v)) (v + 1) cnt) (evS g la fx tl n f (k + 1) (subN (g k) lf v) (upN A k v)) (t + 1) c
        rw [← hr] at happ
        refine a_istore (L' := [_, _, _, _, _, _, _, _]) dX8_goesOn_116 (Nat.le_of_ble_eq_true rfl) rfl ?_
        by_cases hst : r.2.1 = 0
        · refine a_aload_n dX8_goesOn_118 rfl ?_
          refine a_iload_n dX8_goesOn_119 rfl ?_
          refine a_iload dX8_goesOn_120 rfl ?_
          refine a_ineg dX8_goesOn_122 rfl ?_
          refine a_callVv (As := [_, _]) dX8_goesOn_123 km_X8_156 ⟨by decide, _, _, _, rfl, rfl⟩ rfl rfl (Nat.le_of_ble_eq_true rfl) ?_
          refine s_take hS'.2.2.1 a4 a2 b2 hl b6 ?_
          refine a_iload dX8_goesOn_126 rfl ?_
          refine a_if_ne (tgt := 133) dX8_goesOn_128 (by decide) (fun q => ?_) (fun q => ?_)
          · refine a_iinc (L' := [_, _, _, _, _, _, _, _]) dX8_goesOn_133 rfl (nI_inc _) rfl ?_
            refine a_goto (tgt := 58) dX8_goesOn_136 (by decide) ?_
            exact ih (v + 1) _ r.1 r.2.2 _ (by omega) (by omega) hlo (scP_fr hS' (by rw [mTe_ne (by decide)]) (mTe_ne (by decide)) (mTe_ne (by decide)) (by rw [mTe_ne (by decide)]) (mTe_ne (by decide)) (mTe_ne (by decide)) (mTe_ne (by decide))) (lc_back f2 hlf b7 hvl) (nuP_row (nuP_dn f5) (mTe_ne (by decide))) (by rw [mTe_ne (by decide), f1' 4 9 g4 (by decide) (by decide) (by decide)]; exact h9) (by rw [mTe_ne (by decide)]; exact f3) f4 (gR _ _ _ (fun a j q1 _ _ => by rw [mTe_ne q1]) f6) hcb' (fun I2 r2 hr2 hQ2 => by
              obtain ⟨z1, z2, z3, z4, z5, z6, z7, z8⟩ := hQ2
              refine hK I2 r2 (by rw [hr2, runS, if_neg ht, happ, if_pos hst]) ⟨frK_tr z1 (fun a j q0 q1 q2 q4 => by rw [mTe_ne q1]; exact f1' a j q0 q1 q2 q4), z2, z3, z4, z5, z6, z7, ?_⟩
              rw [z8, mTe_ne (by decide), e11, hst]
              rfl)
          · exact absurd q (by rw [if_pos hst]; decide)
        · refine a_aload_n dX8_goesOn_118 rfl ?_
          refine a_iload_n dX8_goesOn_119 rfl ?_
          refine a_iload dX8_goesOn_120 rfl ?_
          refine a_ineg dX8_goesOn_122 rfl ?_
          refine a_callVv (As := [_, _]) dX8_goesOn_123 km_X8_156 ⟨by decide, _, _, _, rfl, rfl⟩ rfl rfl (Nat.le_of_ble_eq_true rfl) ?_
          refine s_take hS'.2.2.1 a4 a2 b2 hl b6 ?_
          refine a_iload dX8_goesOn_126 rfl ?_
          refine a_if_ne (tgt := 133) dX8_goesOn_128 (by decide) (fun q => ?_) (fun q => ?_)
          · exact absurd (by rw [if_neg hst]) q
          · refine a_iconst (v := nI 0) dX8_goesOn_131 (by decide) ?_
            exact a_zreturn dX8_goesOn_132 (by first | exact Or.inl rfl | exact Or.inr rfl) ⟨_, rfl, (by
                have q := hK (mTe I' l (-(nI v))) r (by rw [runS, if_neg ht, happ, if_neg hst]) ⟨fun a j q0 q1 q2 q4 => by rw [mTe_ne q1]; exact f1' a j q0 q1 q2 q4, lc_back f2 hlf b7 hvl, by rw [mTe_ne (by decide)]; exact f3, f4, nuP_row (nuP_dn f5) (mTe_ne (by decide)), gR _ _ _ (fun a j q1 _ _ => by rw [mTe_ne q1]) f6, by omega, by rw [mTe_ne (by decide)]; exact e11⟩
                rw [if_neg hst] at q
                exact q)⟩
      · have ht : t = lim := by omega
        refine a_aload_n dX8_goesOn_76 rfl ?_
        refine a_iconst (v := nI 1) dX8_goesOn_77 (by decide) ?_
        refine a_putz dX8_goesOn_78 kp_X8_40 ⟨by decide, _, rfl, rfl⟩ (by first | exact Or.inl rfl | exact Or.inr rfl) ?_
        refine a_iconst (v := nI 0) dX8_goesOn_81 (by decide) ?_
        exact a_zreturn dX8_goesOn_82 (by first | exact Or.inl rfl | exact Or.inr rfl) ⟨_, rfl, (hK _ (t, 1, c) (by rw [runS, if_pos ht]) ⟨fun a j _ _ _ q4 => by
      by_cases e : a = 4
      · subst e; exact am_up_slot (q4 rfl).2
      · rw [am_up_ne e], lcP_row hlc (am_up_ne (by decide)), (by rw [am_up_slot (by decide)]; exact h10), htl, nuP_row hnu (am_up_ne (by decide)), gR c I _ (fun a j _ _ q4 => by
      by_cases e : a = 4
      · subst e; exact am_up_slot (q4 rfl).2
      · rw [am_up_ne e]) hRel, (by show cb c + e01 k ≤ t + 1; omega), (by rw [am_up_same]; rfl)⟩)⟩

set_option maxHeartbeats 4000000 in
set_option maxRecDepth 100000 in
theorem s_goesOnh {G : am_G} {d : Nat} {n m M lim : Nat} {R : Nat → Option (List Nat)} {g la : Nat → Nat} {fx : Nat → Option Nat} {sq : Nat → Nat} {tl : Nat → Bool} {C : Type} {step : C → (Nat → Nat) → C × Bool} {Rel : C → am_I → Prop} {cb : C → Nat} {GP : Nat → Bool} (hG : goP G d 8 yX0_hasEnough step Rel cb GP sq m) (hlim : lim ≤ 20000) : ∀ f : Nat, ∀ (k : Nat) (I : am_I) (J : am_J) (K : Int32 → am_I → am_J → Prop) (lf A : Nat → Nat) (t : Nat) (c : C), k + f = m → scP I n m M R g la fx sq tl → lcP I n tl lf → (∀ l, lf l ≤ 200) → nuP sq m k A I → I 4 9 = nI lim → I 4 10 = nI t → t ≤ lim → Rel c I → cb c + e01 k ≤ t → (∀ I' r, r = runS step lim t (evS g la fx tl n f k lf A) c → goQ Rel cb GP n m sq tl lf A lim k I r.1 r.2.1 r.2.2 I' → K (if r.2.1 = 0 then 1 else 0) I' J) → CMi G (d + f + 2) yX8_goesOn [.ref 4, .int (nI k), .ref 8] I J K := by
  obtain ⟨g0, gR, g1, g4, g44, g45, g50, g52, g53, g54, g55, gE⟩ := id hG
  intro f
  induction f with
  | zero =>
    intro k I J K lf A t c hkf hS hlc hlf hnu h9 h10 htl hRel hcb hK
    obtain ⟨a1, a2, a3, a4, a5, a6, a7, a8⟩ := id hS
    obtain rfl : k = m := by omega
    rw [evS] at hK
    refine CM.of (L0 := [_, _, _, _, _, _, _, _]) cX8_goesOn 8 (some .boolean) (by decide) (by decide) kcX8_goesOn (Nat.le_of_ble_eq_true rfl) rfl ?_
    refine a_iload_n dX8_goesOn_0 rfl ?_
    refine a_aload_n dX8_goesOn_1 rfl ?_
    refine a_geti dX8_goesOn_2 kf_X8_30 ⟨by decide, _, rfl, rfl⟩ a5 ?_
    refine a_icmp_ltN (tgt := 32) dX8_goesOn_5 (by decide) (by omega) (by omega) (fun h => ?_) (fun h => ?_)
    · exact absurd h (by omega)
    · refine a_aload_n dX8_goesOn_8 rfl ?_
      refine a_callVi (As := []) dX8_goesOn_9 km_X8_139 ⟨by decide, _, _, _, rfl, rfl⟩ rfl rfl (Nat.le_of_ble_eq_true rfl) ?_
      refine s_nothing a1 a2 hlc hlf (fun hb => ?_) (fun hb => ?_)
      · rw [if_pos hb] at hK
        refine a_if_eq (tgt := 26) dX8_goesOn_12 (by decide) (fun h12 => ?_) (fun h12 => ?_)
        · exact absurd h12 (by decide)
        · refine a_aload_n dX8_goesOn_15 rfl ?_
          refine a_aload_n dX8_goesOn_16 rfl ?_
          refine a_getr dX8_goesOn_17 kf_X8_27 ⟨by decide, _, rfl, rfl⟩ ?_
          refine a_callUi (As := [_]) dX8_goesOn_20 ku_X8_143_X3 ⟨by decide, _, _, _, rfl, rfl⟩ rfl rfl (Nat.le_of_ble_eq_true rfl) ?_
          refine CMi.mono (gE (d + 0) I J c A (fun x I J => K x I J) hRel hnu (by unfold e01 at hcb; split at hcb <;> omega) (fun I' hf hr => ?_)) (fun x I J hx => ?_)
          · by_cases e : (step c A).2 = true
            · rw [if_pos e]
              exact hK I' (t, 2, (step c A).1) (by rw [runS, if_pos e]) ⟨fun a j q0 _ _ _ => by rw [hf a q0], lcP_row hlc (hf _ g53), by rw [hf _ g4]; exact h10, htl, nuP_row hnu (hf _ g55), hr, (by have := g0 c A; show cb (step c A).1 + e01 k ≤ t + 1; omega), by rw [hf _ g4]; rfl⟩
            · rw [if_neg e]
              exact hK I' (t, 0, (step c A).1) (by rw [runS, if_neg e]; rfl) ⟨fun a j q0 _ _ _ => by rw [hf a q0], lcP_row hlc (hf _ g53), by rw [hf _ g4]; exact h10, htl, nuP_row hnu (hf _ g55), hr, (by have := g0 c A; show cb (step c A).1 + e01 k ≤ t + 1; omega), by rw [hf _ g4]; rfl⟩
          refine a_if_ne (tgt := 30) dX8_goesOn_23 (by decide) (fun q => ?_) (fun q => ?_)
          · rw [if_neg q] at hx
            refine a_iconst (v := nI 0) dX8_goesOn_30 (by decide) ?_
            exact a_zreturn dX8_goesOn_31 (by first | exact Or.inl rfl | exact Or.inr rfl) ⟨_, rfl, hx⟩
          · rw [if_pos q] at hx
            refine a_iconst (v := nI 1) dX8_goesOn_26 (by decide) ?_
            refine a_goto (tgt := 31) dX8_goesOn_27 (by decide) ?_
            exact a_zreturn dX8_goesOn_31 (by first | exact Or.inl rfl | exact Or.inr rfl) ⟨_, rfl, hx⟩
      · rw [if_neg hb] at hK
        refine a_if_eq (tgt := 26) dX8_goesOn_12 (by decide) (fun h12 => ?_) (fun h12 => ?_)
        · refine a_iconst (v := nI 1) dX8_goesOn_26 (by decide) ?_
          refine a_goto (tgt := 31) dX8_goesOn_27 (by decide) ?_
          exact a_zreturn dX8_goesOn_31 (by first | exact Or.inl rfl | exact Or.inr rfl) ⟨_, rfl, (hK I (t, 0, c) rfl ⟨fun _ _ _ _ _ _ => rfl, hlc, h10, htl, hnu, hRel, (by show cb c + e01 k ≤ t + 1; omega), rfl⟩)⟩
        · exact absurd h12 (by decide)
  | succ f ih =>
    intro k I J K lf A t c hkf hS hlc hlf hnu h9 h10 htl hRel hcb hK
    obtain ⟨a1, a2, a3, a4, a5, a6, a7, a8⟩ := id hS
    obtain ⟨b1, b2, b3, b4, l, b5, b6, b7, b8⟩ := a8 k (by omega)
    have hln := ((a3 (sq k) b2).2 l b5).2.2.2
    have m1 := ls_begN (la := la k) (lf := lf) hln b7 ((fx k).getD 0)
    have hx2 : (fx k).getD 200 ≤ 200 := by
      rcases e : fx k with _ | f
      · exact Nat.le_refl _
      · exact b4 f e
    have hx0 : (fx k).getD 0 ≤ 200 := by
      rcases e : fx k with _ | f
      · exact Nat.zero_le _
      · exact b4 f e
    have m2 := ms_begN (la := la k) (lf := lf) hln b7 hx2
    have m3 := lp_rg (g := g) (la := la) (n := n) (lf := lf) (fun v => evS g la fx tl n f (k + 1) (subN (g k) lf v) (upN A k v)) b4
    rw [← m1, ← m2] at m3
    have m4 := (msN_iff tl lf (msN tl lf ((fx k).getD 200) l) l ((fx k).getD 200)).mp (Nat.le_refl _)
    have m5 := (lsN_iff tl (la k) lf 200 l ((fx k).getD 0)).mpr ⟨hx0, fun x _ _ _ => hlf x⟩
    have hcb0 : cb c + 0 ≤ t := by omega
    rw [evS, ← m3] at hK
    refine CM.of (L0 := [_, _, _, _, _, _, _, _]) cX8_goesOn 8 (some .boolean) (by decide) (by decide) kcX8_goesOn (Nat.le_of_ble_eq_true rfl) rfl ?_
    refine a_iload_n dX8_goesOn_0 rfl ?_
    refine a_aload_n dX8_goesOn_1 rfl ?_
    refine a_geti dX8_goesOn_2 kf_X8_30 ⟨by decide, _, rfl, rfl⟩ a5 ?_
    refine a_icmp_ltN (tgt := 32) dX8_goesOn_5 (by decide) (by omega) (by omega) (fun h => ?_) (fun h => ?_)
    · refine a_aload_n dX8_goesOn_32 rfl ?_
      refine a_getr dX8_goesOn_33 kf_X8_9 ⟨by decide, _, rfl, rfl⟩ ?_
      refine a_iload_n dX8_goesOn_36 rfl ?_
      refine a_iald dX8_goesOn_37 ⟨by decide, rfl⟩ (by omega) b1 ?_
      refine a_istore_n (L' := [_, _, _, _, _, _, _, _]) dX8_goesOn_38 (Nat.le_of_ble_eq_true rfl) rfl ?_
      refine a_aload_n dX8_goesOn_39 rfl ?_
      refine a_iload_n dX8_goesOn_40 rfl ?_
      refine a_iload_n dX8_goesOn_41 rfl ?_
      refine a_callVi (As := [_, _]) dX8_goesOn_42 km_X8_149 ⟨by decide, _, _, _, rfl, rfl⟩ rfl rfl (Nat.le_of_ble_eq_true rfl) ?_
      refine s_least hS hlc hlf (by omega) b5 ?_
      refine a_istore (L' := [_, _, _, _, _, _, _, _]) dX8_goesOn_45 (Nat.le_of_ble_eq_true rfl) rfl ?_
      refine a_aload_n dX8_goesOn_47 rfl ?_
      refine a_iload_n dX8_goesOn_48 rfl ?_
      refine a_callVi (As := [_]) dX8_goesOn_49 km_X8_152 ⟨by decide, _, _, _, rfl, rfl⟩ rfl rfl (Nat.le_of_ble_eq_true rfl) ?_
      refine s_most hS hlc hlf (by omega) b5 ?_
      refine a_istore (L' := [_, _, _, _, _, _, _, _]) dX8_goesOn_52 (Nat.le_of_ble_eq_true rfl) rfl ?_
      refine a_iload dX8_goesOn_54 rfl ?_
      refine a_istore (L' := [_, _, _, _, _, _, _, _]) dX8_goesOn_56 (Nat.le_of_ble_eq_true rfl) rfl ?_
      exact lp_goh hG hlim ih (by omega) b5 hlf (by omega) m4.2 _ _ I t c _ rfl (by omega) m5 hS hlc hnu h9 h10 htl hRel hcb0 hK
    · exact absurd h (by omega)

set_option maxHeartbeats 4000000 in
set_option maxRecDepth 100000 in
theorem s_seekh {G : am_G} {d : Nat} {I : am_I} {J : am_J} {K : am_I → am_J → Prop} {n m M lim : Nat} {R : Nat → Option (List Nat)} {g la : Nat → Nat} {fx : Nat → Option Nat} {sq : Nat → Nat} {tl : Nat → Bool} {C : Type} {step : C → (Nat → Nat) → C × Bool} {Rel : C → am_I → Prop} {cb : C → Nat} {GP : Nat → Bool} {lf A : Nat → Nat} {t : Nat} {c : C} (hG : goP G d 8 yX0_hasEnough step Rel cb GP sq m) (hlim : lim ≤ 20000) (hS : scP I n m M R g la fx sq tl) (hlc : lcP I n tl lf) (hlf : ∀ l, lf l ≤ 200) (hnu : nuP sq m 0 A I) (h9 : I 4 9 = nI lim) (h10 : I 4 10 = nI t) (htl : t ≤ lim) (hRel : Rel c I) (hcb : cb c ≤ t) (hK : ∀ I' r, r = runS step lim t (evS g la fx tl n m 0 lf A) c → goQ Rel cb GP n m sq tl lf A lim 0 I r.1 r.2.1 r.2.2 I' → K I' J) : CMv G (d + m + 3) yX8_seek [.ref 4, .ref 8] I J K := by
  refine CM.of (L0 := [_, _]) cX8_seek 2 none (by decide) (by decide) kcX8_seek (Nat.le_of_ble_eq_true rfl) rfl ?_
  refine a_aload_n dX8_seek_0 rfl ?_
  refine a_iconst (v := nI 0) dX8_seek_1 (by decide) ?_
  refine a_aload_n dX8_seek_2 rfl ?_
  refine a_callVi (As := [_, _]) dX8_seek_3 km_X8_94 ⟨by decide, _, _, _, rfl, rfl⟩ rfl rfl (Nat.le_of_ble_eq_true rfl) ?_
  refine s_goesOnh (d := d) hG hlim m 0 I J _ lf A t c (by omega) hS hlc hlf hnu h9 h10 htl hRel hcb (fun I' r hr hQ => ?_)
  refine a_pop dX8_seek_6 rfl ?_
  exact a_vreturn dX8_seek_7 ⟨rfl, (hK I' r hr hQ)⟩

