/-! ===== the reference: meters whole, digest ===== -/
/-- the first k places: their numbers kept, the free ones listed -/
def ffP (fx : Nat → Option Nat) (sq A : Nat → Nat) (k : Nat) (I I1 : am_I) : Prop := (∀ a, a ≠ 89 → a ≠ 90 → I a = I1 a) ∧ (∀ j, j < k → I 89 (sq j) = nI (A j)) ∧ ∀ (i x : Nat), (frL fx sq k)[i]? = some x → I 90 i = nI x
theorem ffP_take {fx : Nat → Option Nat} {sq A : Nat → Nat} {k m : Nat} {I I1 : am_I} (hk : k < m) (hsq : ∀ j k, j < k → k < m → sq j < sq k) (h : ffP fx sq A k I I1) (hn : (fx k).isNone = true) : ffP fx sq A (k + 1) (am_up (am_up I 89 (sq k) (nI (A k))) 90 (frL fx sq k).length (nI (sq k))) I1 := by
  obtain ⟨h1, h2, h3⟩ := h
  refine ⟨fun a a1 a2 => by rw [am_up_ne a2, am_up_ne a1]; exact h1 a a1 a2, fun j hj => ?_, fun i x hx => ?_⟩
  · rw [am_up_ne (by decide)]
    by_cases e : j = k
    · subst e; rw [am_up_same]
    · have := hsq j k (by omega) hk
      rw [am_up_slot (by omega)]
      exact h2 j (by omega)
  · rw [frL, if_pos hn, List.getElem?_append] at hx
    split at hx
    · rename_i hl
      rw [am_up_slot (by omega), am_up_ne (by decide)]
      exact h3 i x hx
    · rename_i hl
      have hi : i = (frL fx sq k).length := by
        have := (List.getElem?_eq_some_iff.mp hx).1
        simp at this
        omega
      subst hi
      simp at hx
      subst hx
      rw [am_up_same]
theorem ffP_skip {fx : Nat → Option Nat} {sq A : Nat → Nat} {k m : Nat} {I I1 : am_I} (hk : k < m) (hsq : ∀ j k, j < k → k < m → sq j < sq k) (h : ffP fx sq A k I I1) (hn : ¬ (fx k).isNone = true) : ffP fx sq A (k + 1) (am_up I 89 (sq k) (nI (A k))) I1 := by
  obtain ⟨h1, h2, h3⟩ := h
  refine ⟨fun a a1 a2 => by rw [am_up_ne a1]; exact h1 a a1 a2, fun j hj => ?_, fun i x hx => ?_⟩
  · by_cases e : j = k
    · subst e; rw [am_up_same]
    · have := hsq j k (by omega) hk
      rw [am_up_slot (by omega)]
      exact h2 j (by omega)
  · rw [frL, if_neg hn] at hx
    rw [am_up_ne (by decide)]
    exact h3 i x hx
set_option maxHeartbeats 4000000 in
set_option maxRecDepth 100000 in
theorem lp_mt1 {G : am_G} {d : Nat} {I1 : am_I} {J : am_J} {Ex : am_Ex} {x1 x2 : Int32} {m : Nat} {fx : Nat → Option Nat} {sq A : Nat → Nat} (hm : I1 63 20 = nI m) (hm36 : m ≤ 36) (hsq : ∀ k, k < m → I1 77 k = nI (sq k) ∧ sq k < 36 ∧ I1 83 k = nI (A k)) (hlt : ∀ j k, j < k → k < m → sq j < sq k) (hme : ∀ k, k < m → I1 72 (sq k) = fxI (fx k) ∧ ∀ f, fx k = some f → f ≤ 200) (kx : ∀ I, ffP fx sq A m I I1 → AW G cX12_meters 11 RX12 d Ex 108 [some (.ref 63), some (.int x1), some (.int x2), some (.int (nI (frL fx sq m).length)), some (.int (nI m)), none, none, none, none, none, none] [] I J) : ∀ k, k ≤ m → ∀ I, ffP fx sq A k I I1 → AW G cX12_meters 11 RX12 d Ex 41 [some (.ref 63), some (.int x1), some (.int x2), some (.int (nI (frL fx sq k).length)), some (.int (nI k)), none, none, none, none, none, none] [] I J := by
  refine am_dn m (fun k hk ih => ?_)
  intro I hI
  have e (a : Nat) (z1 : a ≠ 89 := by decide) (z2 : a ≠ 90 := by decide) : I a = I1 a := hI.1 a z1 z2
  have em : I 63 20 = nI m := by rw [e 63]; exact hm
  have hfl : (frL fx sq k).length ≤ k := by rw [frL_len]; exact cN_le _ _
  refine a_iload dX12_meters_41 rfl ?_
  refine a_aload_n dX12_meters_43 rfl ?_
  refine a_geti dX12_meters_44 kf_X12_178 ⟨by decide, _, rfl, rfl⟩ em ?_
  refine a_icmp_geN (tgt := 108) dX12_meters_47 (by decide) (by omega) (by omega) (fun h => ?_) (fun h => ?_)
  · obtain rfl : k = m := by omega
    exact kx I hI
  · obtain ⟨q1, q2, q3⟩ := hsq k h
    obtain ⟨p1, p2⟩ := hme k h
    have e77 : I 77 k = nI (sq k) := by rw [e 77]; exact q1
    have e83 : I 83 k = nI (A k) := by rw [e 83]; exact q3
    have e72 : I 72 (sq k) = fxI (fx k) := by rw [e 72]; exact p1
    refine a_aload_n dX12_meters_50 rfl ?_
    refine a_getr dX12_meters_51 kf_X12_90 ⟨by decide, _, rfl, rfl⟩ ?_
    refine a_aload_n dX12_meters_54 rfl ?_
    refine a_getr dX12_meters_55 kf_X12_54 ⟨by decide, _, rfl, rfl⟩ ?_
    refine a_iload dX12_meters_58 rfl ?_
    refine a_iald dX12_meters_60 ⟨by decide, rfl⟩ (by omega) e77 ?_
    refine a_aload_n dX12_meters_61 rfl ?_
    refine a_getr dX12_meters_62 kf_X12_72 ⟨by decide, _, rfl, rfl⟩ ?_
    refine a_iload dX12_meters_65 rfl ?_
    refine a_iald dX12_meters_67 ⟨by decide, rfl⟩ (by omega) e83 ?_
    refine a_iast dX12_meters_68 ⟨by decide, rfl⟩ (by omega) ?_
    refine a_aload_n dX12_meters_69 rfl ?_
    refine a_getr dX12_meters_70 kf_X12_39 ⟨by decide, _, rfl, rfl⟩ ?_
    refine a_aload_n dX12_meters_73 rfl ?_
    refine a_getr dX12_meters_74 kf_X12_54 ⟨by decide, _, rfl, rfl⟩ ?_
    refine a_iload dX12_meters_77 rfl ?_
    refine a_iald dX12_meters_79 ⟨by decide, rfl⟩ (by omega) e77 ?_
    refine a_iald dX12_meters_80 ⟨by decide, rfl⟩ (by omega) e72 ?_
    refine a_bipush (v := (-9)) dX12_meters_81 (by decide) ?_
    refine a_icmp_ne (tgt := 102) dX12_meters_83 (by decide) (fun h83 => ?_) (fun h83 => ?_)
    · have hn : ¬ (fx k).isNone = true := fun q => h83 (by cases hfx : fx k with
        | none => rfl
        | some f => rw [hfx] at q; cases q)
      refine a_iinc (L' := [_, _, _, _, _, _, _, _, _, _, _]) dX12_meters_102 rfl (nI_inc _) rfl ?_
      refine a_goto (tgt := 41) dX12_meters_105 (by decide) ?_
      have z := ih (k + 1) (by omega) (by omega) _ (ffP_skip h hlt hI hn)
      rw [show (frL fx sq (k + 1)).length = (frL fx sq k).length by rw [frL, if_neg hn]] at z
      exact z
    · have hn : (fx k).isNone = true := by cases hfx : fx k with
        | none => rfl
        | some f => rw [hfx] at h83; exact absurd h83 (nI_ne_neg (by have := p2 f hfx; omega) (by decide))
      refine a_aload_n dX12_meters_86 rfl ?_
      refine a_getr dX12_meters_87 kf_X12_93 ⟨by decide, _, rfl, rfl⟩ ?_
      refine a_iload_n dX12_meters_90 rfl ?_
      refine a_aload_n dX12_meters_91 rfl ?_
      refine a_getr dX12_meters_92 kf_X12_54 ⟨by decide, _, rfl, rfl⟩ ?_
      refine a_iload dX12_meters_95 rfl ?_
      refine a_iald dX12_meters_97 ⟨by decide, rfl⟩ (by omega) e77 ?_
      refine a_iast dX12_meters_98 ⟨by decide, rfl⟩ (by omega) ?_
      refine a_iinc (L' := [_, _, _, _, _, _, _, _, _, _, _]) dX12_meters_99 rfl (nI_inc _) rfl ?_
      refine a_iinc (L' := [_, _, _, _, _, _, _, _, _, _, _]) dX12_meters_102 rfl (nI_inc _) rfl ?_
      refine a_goto (tgt := 41) dX12_meters_105 (by decide) ?_
      have z := ih (k + 1) (by omega) (by omega) _ (ffP_take h hlt hI hn)
      rw [show (frL fx sq (k + 1)).length = (frL fx sq k).length + 1 by rw [frL, if_pos hn]; simp] at z
      exact z

/-- what lasts, with isFit and the FIT -/
def meP (I' I : am_I) : Prop := prP I' I ∧ I' 63 15 = I 63 15 ∧ I' 74 = I 74
theorem meP_of {I I1 I2 : am_I} {N n : Nat} {F T : Nat → Nat} {S : Nat → Bool} {x : Int32} (h : opQ I1 I I N n F T S x) (hf : ∀ k j, (k < 75 ∨ 90 < k) → (k = 63 → j ≠ 29 ∧ j ≠ 31) → I2 k j = I1 k j) : meP I2 I := by
  refine ⟨fun k j a b => ?_, ?_, ?_⟩
  · rw [hf k j (by omega) (fun e => by have := b e; omega)]
    exact opQ_pr h k j a b
  · rw [hf 63 15 (by omega) (by decide)]
    exact h.1 63 15 (by omega) (by decide) (by decide)
  · funext j
    rw [hf 74 j (by omega) (fun e => absurd e (by decide))]
    exact h.1 74 j (by omega) (by decide) (fun e => absurd e (by decide))
def mtI (I : am_I) (N n : Nat) (F T : Nat → Nat) (S : Nat → Bool) (A : Nat → Nat) (lim t : Nat) : Nat × Option (Option (Nat × Nat)) := mtS (alS (skG I N n F T S) (skA I N n F T S) (skX I N n F T S) (tlI I) n (skL I N n F T S).length (skF I) A lim) (frL (skX I N n F T S) (skQ I N n F T S) (skL I N n F T S).length).length (mtM (frL (skX I N n F T S) (skQ I N n F T S) (skL I N n F T S).length).length 0 0 + 1) 0 0 t
def btI (I : am_I) (N n : Nat) (F T : Nat → Nat) (S : Nat → Bool) (s : Nat) : Nat := btN (frN (skX I N n F T S) (skQ I N n F T S) (skL I N n F T S).length) s (frL (skX I N n F T S) (skQ I N n F T S) (skL I N n F T S).length).length
set_option maxHeartbeats 4000000 in
set_option maxRecDepth 100000 in
theorem c_meters {G : am_G} {d : Nat} {I : am_I} {J : am_J} {K : Int32 → am_I → am_J → Prop} {N n : Nat} {F T : Nat → Nat} {S : Nat → Bool} {x : Int32} (hR : rwR I (-9) N n F T S) (hme : ∀ p, p < 36 → vlP (I 72 p)) (hca : ∀ l, l < n → vlP (I 70 l)) (h1 : ∀ lim, 1 ≤ lim → lim ≤ 20000 → x = nI lim → ∀ I' t, meP I' I → I' 63 29 = nI t → nxE lim 0 (evI I N n F T S) = (t, some none) → K (-9) I' J) (h2 : ∀ lim, 1 ≤ lim → lim ≤ 20000 → x = nI lim → ∀ I' t, meP I' I → I' 63 29 = nI t → nxE lim 0 (evI I N n F T S) = (t, none) → K (-6) I' J) (h3 : ∀ lim, 1 ≤ lim → lim ≤ 20000 → x = nI lim → ∀ I' t A E, nxE lim 0 (evI I N n F T S) = (t, some (some (A, E))) → meP I' I → I' 63 29 = nI (mtI I N n F T S A lim t).1 → (mtI I N n F T S A lim t).2 = some none → K (-9) I' J) (h4' : ∀ lim, 1 ≤ lim → lim ≤ 20000 → x = nI lim → ∀ I' t A E, nxE lim 0 (evI I N n F T S) = (t, some (some (A, E))) → meP I' I → I' 63 29 = nI (mtI I N n F T S A lim t).1 → (mtI I N n F T S A lim t).2 = none → K (-6) I' J) (h5 : ∀ lim, 1 ≤ lim → lim ≤ 20000 → x = nI lim → ∀ I' t A E, nxE lim 0 (evI I N n F T S) = (t, some (some (A, E))) → meP I' I → ∀ z s, I' 63 29 = nI (mtI I N n F T S A lim t).1 → (mtI I N n F T S A lim t).2 = some (some (z, s)) → K (nI z) I' (am_upJ J 63 2 (lN (btI I N n F T S s)))) (h0 : ¬ (nI 1 ≤ x ∧ x ≤ nI 20000) → K (-1) I J) : CMi G (d + 5) yX12_meters [.ref 63, .int x] I J K := by
  refine CM.of (L0 := [_, _, _, _, _, _, _, _, _, _, _]) cX12_meters 11 (some .int) (by decide) (by decide) kcX12_meters (Nat.le_of_ble_eq_true rfl) rfl ?_
  refine a_iload_n dX12_meters_0 rfl ?_
  refine a_callSi (As := [_]) dX12_meters_1 km_X12_206 rfl rfl (Nat.le_of_ble_eq_true rfl) ?_
  refine c_areTries (fun lim hl1 hl2 e1 => ?_) (fun e1 => ?_)
  · subst e1
    refine a_if_ne (tgt := 9) dX12_meters_4 (by decide) (fun h4 => ?_) (fun h4 => ?_)
    · refine a_aload_n dX12_meters_9 rfl ?_
      refine a_iload_n dX12_meters_10 rfl ?_
      refine a_callVv (As := [_]) dX12_meters_11 km_X12_209 ⟨by decide, _, _, _, rfl, rfl⟩ rfl rfl (Nat.le_of_ble_eq_true rfl) ?_
      refine c_openQ (N := N) (n := n) (F := F) (T := T) (S := S) hR hme hca (fun _ _ _ _ => rfl) (fun I1 hop => ?_)
      obtain ⟨o1, o2, o3, o4, o5, o6⟩ := id hop
      refine a_aload_n dX12_meters_14 rfl ?_
      refine a_iconst (v := nI 1) dX12_meters_15 (by decide) ?_
      refine a_callVi (As := [_]) dX12_meters_16 km_X12_212 ⟨by decide, _, _, _, rfl, rfl⟩ rfl rfl (Nat.le_of_ble_eq_true rfl) ?_
      refine c_nextS o2 o5 hl2 o4 (by omega) (fun _ => o6 0 (by decide)) (fun _ => 0) (fun I' t' hf' ht' e => ?_) (fun I' t' hf' ht' e => ?_) (fun I' t' A' hf' e hfs' => ?_)
      · refine a_istore_n (L' := [_, _, _, _, _, _, _, _, _, _, _]) dX12_meters_19 (Nat.le_of_ble_eq_true rfl) rfl ?_
        refine a_iload_n dX12_meters_20 rfl ?_
        refine a_iconst (v := nI 1) dX12_meters_21 (by decide) ?_
        refine a_icmp_ge (tgt := 36) dX12_meters_22 (by decide) (fun h22 => ?_) (fun h22 => ?_)
        · exact absurd h22 (by decide)
        · refine a_iload_n dX12_meters_25 rfl ?_
          refine a_if_ge (tgt := 33) dX12_meters_26 (by decide) (fun h26 => ?_) (fun h26 => ?_)
          · refine a_bipush (v := (-9)) dX12_meters_33 (by decide) ?_
            exact a_ireturn dX12_meters_35 ⟨_, rfl, (h1 lim hl1 hl2 rfl I' t' (meP_of hop (fun k j a b => hf' k j (by omega) (by omega) (by omega) (by omega) b)) ht' e)⟩
          · exact absurd (show (0 : Int32) ≤ nI 0 by decide) h26
      · refine a_istore_n (L' := [_, _, _, _, _, _, _, _, _, _, _]) dX12_meters_19 (Nat.le_of_ble_eq_true rfl) rfl ?_
        refine a_iload_n dX12_meters_20 rfl ?_
        refine a_iconst (v := nI 1) dX12_meters_21 (by decide) ?_
        refine a_icmp_ge (tgt := 36) dX12_meters_22 (by decide) (fun h22 => ?_) (fun h22 => ?_)
        · exact absurd h22 (by decide)
        · refine a_iload_n dX12_meters_25 rfl ?_
          refine a_if_ge (tgt := 33) dX12_meters_26 (by decide) (fun h26 => ?_) (fun h26 => ?_)
          · exact absurd h26 (by decide)
          · refine a_iload_n dX12_meters_29 rfl ?_
            refine a_goto (tgt := 35) dX12_meters_30 (by decide) ?_
            exact a_ireturn dX12_meters_35 ⟨_, rfl, (h2 lim hl1 hl2 rfl I' t' (meP_of hop (fun k j a b => hf' k j (by omega) (by omega) (by omega) (by omega) b)) ht' e)⟩
      · refine a_istore_n (L' := [_, _, _, _, _, _, _, _, _, _, _]) dX12_meters_19 (Nat.le_of_ble_eq_true rfl) rfl ?_
        refine a_iload_n dX12_meters_20 rfl ?_
        refine a_iconst (v := nI 1) dX12_meters_21 (by decide) ?_
        refine a_icmp_ge (tgt := 36) dX12_meters_22 (by decide) (fun h22 => ?_) (fun h22 => ?_)
        · refine a_iconst (v := nI 0) dX12_meters_36 (by decide) ?_
          refine a_istore_n (L' := [_, _, _, _, _, _, _, _, _, _, _]) dX12_meters_37 (Nat.le_of_ble_eq_true rfl) rfl ?_
          refine a_iconst (v := nI 0) dX12_meters_38 (by decide) ?_
          refine a_istore (L' := [_, _, _, _, _, _, _, _, _, _, _]) dX12_meters_39 (Nat.le_of_ble_eq_true rfl) rfl ?_
          obtain ⟨s1, s2, s3⟩ := fsP_sq hfs'
          have hlt : ∀ j k, j < k → k < (skL I N n F T S).length → skQ I N n F T S j < skQ I N n F T S k := fun j k hj hk => skQ_lt hj hk
          have hpr : prP I' I := prP_tr (prP_frS hf') (opQ_pr hop)
          have hmeI : ∀ k, k < (skL I N n F T S).length → I' 72 (skQ I N n F T S k) = fxI (skX I N n F T S k) ∧ ∀ f, skX I N n F T S k = some f → f ≤ 200 := fun k hk => by
            rw [prP_row hpr (by omega) (by decide)]
            exact vlP_fx (hme _ (s3 k hk).2.1)
          refine lp_mt1 s1 s2 s3 hlt hmeI ?_ 0 (by omega) I' ⟨fun _ _ _ => rfl, fun j hj => by omega, fun i x hx => by simp [frL] at hx⟩
          intro I3 hI3
          have hfr0 : (frL (skX I N n F T S) (skQ I N n F T S) (skL I N n F T S).length).length ≤ 36 := by rw [frL_len]; exact Nat.le_trans (cN_le _ _) s2
          have hI3f : ∀ k j, (k < 75 ∨ 90 < k) → (k = 63 → j ≠ 29 ∧ j ≠ 31) → I3 k j = I1 k j := fun k j a b => by rw [hI3.1 k (by omega) (by omega)]; exact hf' k j (by omega) (by omega) (by omega) (by omega) b
          have hsk3 : skP I3 n (skL I N n F T S).length (skG I N n F T S) (skA I N n F T S) (skX I N n F T S) (skQ I N n F T S) (tlI I) (skF I) := by
            obtain ⟨a1, a2, a3, a4, a5, a6, a7⟩ := hfs'.1
            have e (a : Nat) (z1 : a ≠ 89 := by decide) (z2 : a ≠ 90 := by decide) : I3 a = I' a := hI3.1 a z1 z2
            exact ⟨by rw [e 63]; exact a1, a2, by rw [e 63]; exact a3, a4, fun k hk => by rw [e 79, e 80, e 77, e 81]; exact a5 k hk, fun l hl => by rw [e 70]; exact a6 l hl, a7⟩
          have hA : ∀ k, k < (skL I N n F T S).length → A' k ≤ 200 := fun k hk => (rgE_le (hfs'.2.2.2.2.2.2.1 k hk).2.2.2.2 (hfs'.2.2.2.2.2.2.1 k hk).2.2.2.1).1
          have hfrr : ∀ i, i < (frL (skX I N n F T S) (skQ I N n F T S) (skL I N n F T S).length).length → I3 90 i = nI (frN (skX I N n F T S) (skQ I N n F T S) (skL I N n F T S).length i) ∧ frN (skX I N n F T S) (skQ I N n F T S) (skL I N n F T S).length i < 36 := fun i hi => by
            obtain ⟨k, b1, b2, b3, b4⟩ := frN_ex hi
            refine ⟨hI3.2.2 i _ ?_, by rw [b4]; exact (s3 k b1).2.1⟩
            unfold frN
            rw [List.getD_eq_getElem?_getD, List.getElem?_eq_getElem hi]
            rfl
          have hb3 : ∀ k f, k < (skL I N n F T S).length → skX I N n F T S k = some f → I3 81 (skQ I N n F T S k) = nI f := fun k f hk hfk => by
            rw [(hsk3.2.2.2.2.1 k hk).2.2.2.2.2.2.1, hfk]; rfl
          refine a_iconst (v := nI 0) dX12_meters_108 (by decide) ?_
          refine a_istore (L' := [_, _, _, _, _, _, _, _, _, _, _]) dX12_meters_109 (Nat.le_of_ble_eq_true rfl) rfl ?_
          refine a_iload dX12_meters_111 rfl ?_
          refine a_iload_n dX12_meters_113 rfl ?_
          refine a_icmp_gtN (tgt := 231) dX12_meters_114 (by decide) (by omega) (by omega) (fun h114 => ?_) (fun h114 => ?_)
          · exact absurd h114 (by omega)
          · refine a_lconst (v := 1) dX12_meters_117 (by decide) ?_
            refine a_iload dX12_meters_118 rfl ?_
            refine a_lshl dX12_meters_120 (show (1 : Int64) <<< _ = lN 1 by have e := lx_shl (n := 1) (k := 0) (by decide) (by decide); exact e) ?_
            refine a_lconst (v := 1) dX12_meters_121 (by decide) ?_
            refine a_lsub dX12_meters_122 (show lN 1 - 1 = lN 0 by decide) ?_
            refine a_lstore (L' := [_, _, _, _, _, _, _, _, _, _, _]) dX12_meters_123 (Nat.le_of_ble_eq_true rfl) rfl ?_
            refine lp_mt3 (d := d + 1) (I1 := I3) (res := mtI I N n F T S A' lim t') hsk3 (by rw [hI3.1 63 (by decide) (by decide)]; exact hfs'.2.1) hl2 hlt hI3.2.1 hA hfrr (fun e0 I4 h4 ht4 => h3 lim hl1 hl2 rfl I4 t' A' _ e (meP_of hop (fun k j a b => by rw [h4 k j (by omega) b]; exact hI3f k j a b)) ht4 e0) (fun e0 I4 h4 ht4 => h4' lim hl1 hl2 rfl I4 t' A' _ e (meP_of hop (fun k j a b => by rw [h4 k j (by omega) b]; exact hI3f k j a b)) ht4 e0) (fun z s e0 I4 h4 ht4 => h5 lim hl1 hl2 rfl I4 t' A' _ e (meP_of hop (fun k j a b => by rw [h4 k j (by omega) b]; exact hI3f k j a b)) z s ht4 e0) _ 0 0 t' I3 none (by omega) (by decide) (fun q => absurd rfl q) (fun _ _ _ _ => rfl) (by rw [hI3.1 63 (by decide) (by decide)]; exact hfs'.2.2.2.1) hfs'.2.2.2.2.1 hb3 (Nat.lt_succ_self _) rfl
        · exact absurd (show nI 1 ≤ nI 1 by decide) h22
    · exact absurd h4 (by decide)
  · refine a_if_ne (tgt := 9) dX12_meters_4 (by decide) (fun h4 => ?_) (fun h4 => ?_)
    · exact absurd h4 (by decide)
    · refine a_iconst (v := (-1)) dX12_meters_7 (by decide) ?_
      exact a_ireturn dX12_meters_8 ⟨_, rfl, (h0 e1)⟩

