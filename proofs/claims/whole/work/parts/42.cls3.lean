/-! ===== the system: Routes ===== -/
/-- the LINES of the system show F, T, S -/
def rwC (I : am_I) (wo : Int32) (N n : Nat) (F T : Nat → Nat) (S : Nat → Bool) : Prop := I 1 0 = nI N ∧ 2 ≤ N ∧ N ≤ 6 ∧ I 1 1 = nI n ∧ n ≤ 12 ∧ (∀ l, l < n → I (20 + l) 1 = nI (F l) ∧ F l < N ∧ I (20 + l) 2 = nI (T l) ∧ T l < N) ∧ ∀ l, l < n → S l = decide (I (20 + l) 3 ≠ 0 ∨ nI l = wo)
set_option maxHeartbeats 4000000 in
set_option maxRecDepth 100000 in
theorem r_isShut {G : am_G} {d : Nat} {I : am_I} {J : am_J} {K : Int32 → am_I → am_J → Prop} {N n l : Nat} {wo : Int32} {F T : Nat → Nat} {S : Nat → Bool} (hR : rwC I wo N n F T S) (hl : l < n) (h1 : S l = true → K 1 I J) (h0 : S l = false → K 0 I J) : CMi G d yX7_isShut [.ref 1, .int wo, .int (nI l)] I J K := by
  refine CM.of (L0 := [_, _, _]) cX7_isShut 3 (some .boolean) (by decide) (by decide) kcX7_isShut (Nat.le_of_ble_eq_true rfl) rfl ?_
  obtain ⟨r1, r2, r3, r4, r5, r6, r7⟩ := hR
  have hS := r7 l hl
  refine a_iload_n dX7_isShut_0 rfl ?_
  refine a_iload_n dX7_isShut_1 rfl ?_
  refine a_icmp_eq (tgt := 17) dX7_isShut_2 (by decide) (fun h2 => ?_) (fun h2 => ?_)
  · refine a_iconst (v := nI 1) dX7_isShut_17 (by decide) ?_
    refine a_goto (tgt := 22) dX7_isShut_18 (by decide) ?_
    exact a_zreturn dX7_isShut_22 (by first | exact Or.inl rfl | exact Or.inr rfl) ⟨_, rfl, (h1 (by rw [hS]; simp; exact Or.inr h2))⟩
  · refine a_aload_n dX7_isShut_5 rfl ?_
    refine a_getr dX7_isShut_6 kf_X7_62 ⟨by decide, _, rfl, rfl⟩ ?_
    refine a_iload_n dX7_isShut_9 rfl ?_
    refine a_aald dX7_isShut_10 ⟨by decide, rfl⟩ (by decide) (by omega) rfl ?_
    refine a_geti dX7_isShut_11 kf_X7_79 (sh_at (by omega) rfl) rfl ?_
    refine a_if_eq (tgt := 21) dX7_isShut_14 (by decide) (fun h14 => ?_) (fun h14 => ?_)
    · refine a_iconst (v := nI 0) dX7_isShut_21 (by decide) ?_
      exact a_zreturn dX7_isShut_22 (by first | exact Or.inl rfl | exact Or.inr rfl) ⟨_, rfl, (h0 (by rw [hS]; simp; exact ⟨h14, h2⟩))⟩
    · refine a_iconst (v := nI 1) dX7_isShut_17 (by decide) ?_
      refine a_goto (tgt := 22) dX7_isShut_18 (by decide) ?_
      exact a_zreturn dX7_isShut_22 (by first | exact Or.inl rfl | exact Or.inr rfl) ⟨_, rfl, (h1 (by rw [hS]; simp; exact Or.inl h14))⟩

/-- the row a of the ways: never above 6 -/
def awP (a : Nat) (D : Nat → Nat) (I : am_I) : Prop := ∀ x, x < 6 → I a x = nI (min 6 (D x))
theorem aw_min {f t : Nat} : min 6 (if t + 1 < f then t + 1 else f) = if min 6 t + 1 < min 6 f then min 6 t + 1 else min 6 f := by
  rcases Nat.lt_or_ge (t + 1) f with h | h
  · rw [if_pos h]
    rcases Nat.lt_or_ge (min 6 t + 1) (min 6 f) with q | q
    · rw [if_pos q]; omega
    · rw [if_neg (by omega)]; omega
  · rw [if_neg (by omega), if_neg (by omega)]
def frA (a : Nat) (I I0 : am_I) : Prop := ∀ k, k ≠ a → I k = I0 k
theorem frA_up {a : Nat} {I I0 : am_I} (h : frA a I I0) (j : Nat) (x : Int32) : frA a (am_up I a j x) I0 := fun k hk => by rw [am_up_ne hk]; exact h k hk
theorem rwC_fr {I I0 : am_I} {wo : Int32} {N n : Nat} {F T : Nat → Nat} {S : Nat → Bool} (hR : rwC I0 wo N n F T S) (h1 : I 1 = I0 1) (h2 : ∀ l, l < 12 → I (20 + l) = I0 (20 + l)) : rwC I wo N n F T S := by
  obtain ⟨r1, r2, r3, r4, r5, r6, r7⟩ := hR
  exact ⟨by rw [h1]; exact r1, r2, r3, by rw [h1]; exact r4, r5, fun l hl => by rw [h2 l (by omega)]; exact r6 l hl, fun l hl => by rw [h2 l (by omega)]; exact r7 l hl⟩
theorem aw_step {a : Nat} {F T : Nat → Nat} {S : Nat → Bool} {D : Nat → Nat} {l : Nat} {I : am_I} (hs : S l = false) (hT : T l < 6) (hF : F l < 6) (h : awP a D I) : awP a (rlx F T S D l) (am_up I a (F l) (nI (min 6 (rlx F T S D l (F l))))) := fun x hx => by
  by_cases e : x = F l
  · subst e; rw [am_up_same]
  · rw [am_up_slot e, h x hx]
    congr 2
    unfold rlx
    simp [e]
theorem aw_shut {a : Nat} {F T : Nat → Nat} {S : Nat → Bool} {D : Nat → Nat} {l : Nat} {I : am_I} (hs : S l = true) (h : awP a D I) : awP a (rlx F T S D l) I := fun x hx => by
  rw [h x hx]
  congr 2
  unfold rlx
  simp [hs]
theorem rlx_at {F T : Nat → Nat} {S : Nat → Bool} {D : Nat → Nat} {l : Nat} (hs : S l = false) : rlx F T S D l (F l) = if D (T l) + 1 < D (F l) then D (T l) + 1 else D (F l) := by
  unfold rlx
  simp [hs]
/-- THE ROUTES at r: places, lengths at r1, steps at r2 -/
def rvC (r r1 r2 : Nat) (F T : Nat → Nat) (S : Nat → Bool) (n N : Nat) (I : am_I) : Prop := I r 0 = nI (N * N) ∧ ∀ a b, a < N → b < N → I r1 (N * a + b) = (if wyR F T S n b N a < 100 then nI (wyR F T S n b N a) else -1) ∧ (wyR F T S n b N a < 100 → ∀ (i x : Nat), (rtO F T S n N a b)[i]? = some x → I r2 (5 * (N * a + b) + i) = nI x)
set_option maxHeartbeats 4000000 in
set_option maxRecDepth 100000 in
theorem lp_me2a {G : am_G} {d : Nat} {I0 : am_I} {J : am_J} {wo : Int32} {N n b : Nat} {F T : Nat → Nat} {S : Nat → Bool} (hR : rwC I0 wo N n F T S) {Ex : am_Ex} {r : Nat} (kx : ∀ (I : am_I) (v6 : Option Value), frA 46 I I0 → awP 46 (rnd F T S (wyR F T S n b r) n) I → AW G cX7_measure 7 RX7 (d + 1) Ex 105 [some (.ref 2), some (.ref 1), some (.int wo), some (.int (nI b)), some (.int (nI r)), some (.int (nI n)), v6] [] I J) : ∀ l, l ≤ n → ∀ (I : am_I) (v6 : Option Value), frA 46 I I0 → awP 46 (rnd F T S (wyR F T S n b r) l) I → AW G cX7_measure 7 RX7 (d + 1) Ex 31 [some (.ref 2), some (.ref 1), some (.int wo), some (.int (nI b)), some (.int (nI r)), some (.int (nI l)), v6] [] I J := by
  refine am_dn n (fun l hl ih => ?_)
  intro I v6 hf hw
  have hR1 : rwC I wo N n F T S := rwC_fr hR (hf 1 (by decide)) (fun l hl => hf _ (by omega))
  obtain ⟨r1, r2, r3, r4, r5, r6, r7⟩ := id hR1
  refine a_iload dX7_measure_31 rfl ?_
  refine a_aload_n dX7_measure_33 rfl ?_
  refine a_geti dX7_measure_34 kf_X7_55 ⟨by decide, _, rfl, rfl⟩ r4 ?_
  refine a_icmp_geN (tgt := 105) dX7_measure_37 (by decide) (by omega) (by omega) (fun h => ?_) (fun h => ?_)
  · obtain rfl : l = n := by omega
    exact kx I _ hf hw
  · obtain ⟨f1, f2, f3, f4⟩ := r6 l h
    have b1 := rndw_le F T S n b r l (F l)
    have b2 := rndw_le F T S n b r l (T l)
    refine a_aload_n dX7_measure_40 rfl ?_
    refine a_iload_n dX7_measure_41 rfl ?_
    refine a_iload dX7_measure_42 rfl ?_
    refine a_callSi (As := [_, _, _]) dX7_measure_44 km_X7_58 rfl rfl (Nat.le_of_ble_eq_true rfl) ?_
    refine r_isShut hR1 h (fun hs => ?_) (fun hs => ?_)
    · refine a_if_eq (tgt := 53) dX7_measure_47 (by decide) (fun h47 => ?_) (fun h47 => ?_)
      · exact absurd h47 (by decide)
      · refine a_goto (tgt := 99) dX7_measure_50 (by decide) ?_
        refine a_iinc (L' := [_, _, _, _, _, _, _]) dX7_measure_99 rfl (nI_inc _) rfl ?_
        refine a_goto (tgt := 31) dX7_measure_102 (by decide) ?_
        exact ih (l + 1) (by omega) (by omega) I _ hf (aw_shut hs hw)
    · refine a_if_eq (tgt := 53) dX7_measure_47 (by decide) (fun h47 => ?_) (fun h47 => ?_)
      · refine a_aload_n dX7_measure_53 rfl ?_
        refine a_getr dX7_measure_54 kf_X7_62 ⟨by decide, _, rfl, rfl⟩ ?_
        refine a_iload dX7_measure_57 rfl ?_
        refine a_aald dX7_measure_59 ⟨by decide, rfl⟩ (by decide) (by omega) rfl ?_
        refine a_geti dX7_measure_60 kf_X7_66 (sh_at (by omega) rfl) f1 ?_
        refine a_istore (L' := [_, _, _, _, _, _, _]) dX7_measure_63 (Nat.le_of_ble_eq_true rfl) rfl ?_
        refine a_aload_n dX7_measure_65 rfl ?_
        refine a_getr dX7_measure_66 kf_X7_22 ⟨by decide, _, rfl, rfl⟩ ?_
        refine a_iload dX7_measure_69 rfl ?_
        refine a_aload_n dX7_measure_71 rfl ?_
        refine a_getr dX7_measure_72 kf_X7_22 ⟨by decide, _, rfl, rfl⟩ ?_
        refine a_iload dX7_measure_75 rfl ?_
        refine a_iald dX7_measure_77 ⟨by decide, rfl⟩ (by omega) (hw (F l) (by omega)) ?_
        refine a_aload_n dX7_measure_78 rfl ?_
        refine a_getr dX7_measure_79 kf_X7_22 ⟨by decide, _, rfl, rfl⟩ ?_
        refine a_aload_n dX7_measure_82 rfl ?_
        refine a_getr dX7_measure_83 kf_X7_62 ⟨by decide, _, rfl, rfl⟩ ?_
        refine a_iload dX7_measure_86 rfl ?_
        refine a_aald dX7_measure_88 ⟨by decide, rfl⟩ (by decide) (by omega) rfl ?_
        refine a_geti dX7_measure_89 kf_X7_71 (sh_at (by omega) rfl) f3 ?_
        refine a_iald dX7_measure_92 ⟨by decide, rfl⟩ (by omega) (hw (T l) (by omega)) ?_
        refine a_iconst (v := nI 1) dX7_measure_93 (by decide) ?_
        refine a_iadd dX7_measure_94 (by first | exact nI_add _ _ | rfl) ?_
        refine a_mmin dX7_measure_95 kl_X7_74 ks_min ki_Math kc_min (Nat.le_of_ble_eq_true rfl) (show _ = nI (min 6 (rlx F T S (rnd F T S (wyR F T S n b r) l) l (F l))) by rw [rlx_at hs, aw_min]; simp only [nI_ltI (show min 6 (rnd F T S (wyR F T S n b r) l (T l)) + 1 < 2 ^ 31 by omega) (show min 6 (rnd F T S (wyR F T S n b r) l (F l)) < 2 ^ 31 by omega)]; split <;> rfl) ?_
        refine a_iast dX7_measure_98 ⟨by decide, rfl⟩ (by omega) ?_
        refine a_iinc (L' := [_, _, _, _, _, _, _]) dX7_measure_99 rfl (nI_inc _) rfl ?_
        refine a_goto (tgt := 31) dX7_measure_102 (by decide) ?_
        exact ih (l + 1) (by omega) (by omega) _ _ (frA_up hf _ _) (aw_step hs (by omega) (by omega) hw)
      · exact absurd h47 (by decide)

set_option maxHeartbeats 4000000 in
set_option maxRecDepth 100000 in
theorem lp_me1a {G : am_G} {d : Nat} {I0 : am_I} {J : am_J} {wo : Int32} {N n b : Nat} {F T : Nat → Nat} {S : Nat → Bool} (hR : rwC I0 wo N n F T S) {K : am_I → am_J → Prop} (hK : ∀ I, frA 46 I I0 → awP 46 (wyR F T S n b N) I → K I J) : ∀ r, r ≤ N → ∀ (I : am_I) (v5 v6 : Option Value), frA 46 I I0 → awP 46 (wyR F T S n b r) I → AW G cX7_measure 7 RX7 (d + 1) (am_ex G none (fun r I J => r = none ∧ K I J)) 19 [some (.ref 2), some (.ref 1), some (.int wo), some (.int (nI b)), some (.int (nI r)), v5, v6] [] I J := by
  refine am_dn N (fun r hr ih => ?_)
  intro I v5 v6 hf hw
  have hR1 : rwC I wo N n F T S := rwC_fr hR (hf 1 (by decide)) (fun l hl => hf _ (by omega))
  obtain ⟨r1, r2, r3, r4, r5, r6, r7⟩ := id hR1
  refine a_iload dX7_measure_19 rfl ?_
  refine a_aload_n dX7_measure_21 rfl ?_
  refine a_geti dX7_measure_22 kf_X7_25 ⟨by decide, _, rfl, rfl⟩ r1 ?_
  refine a_icmp_geN (tgt := 111) dX7_measure_25 (by decide) (by omega) (by omega) (fun h => ?_) (fun h => ?_)
  · obtain rfl : r = N := by omega
    exact a_vreturn dX7_measure_111 ⟨rfl, (hK I hf hw)⟩
  · refine a_iconst (v := nI 0) dX7_measure_28 (by decide) ?_
    refine a_istore (L' := [_, _, _, _, _, _, _]) dX7_measure_29 (Nat.le_of_ble_eq_true rfl) rfl ?_
    refine lp_me2a hR (fun I v6 hf hw => ?_) 0 (by omega) I _ hf hw
    refine a_iinc (L' := [_, _, _, _, _, _, _]) dX7_measure_105 rfl (nI_inc _) rfl ?_
    refine a_goto (tgt := 19) dX7_measure_108 (by decide) ?_
    exact ih (r + 1) (by omega) (by omega) I _ _ hf hw

set_option maxHeartbeats 4000000 in
set_option maxRecDepth 100000 in
theorem r_measurea {G : am_G} {d : Nat} {I : am_I} {J : am_J} {K : am_I → am_J → Prop} {wo : Int32} {N n b : Nat} {F T : Nat → Nat} {S : Nat → Bool} (hR : rwC I wo N n F T S) (hb : b < N) (hK : ∀ I1, frA 46 I1 I → awP 46 (wyR F T S n b N) I1 → K I1 J) : CMv G (d + 1) yX7_measure [.ref 2, .ref 1, .int wo, .int (nI b)] I J K := by
  refine CM.of (L0 := [_, _, _, _, _, _, _]) cX7_measure 7 none (by decide) (by decide) kcX7_measure (Nat.le_of_ble_eq_true rfl) rfl ?_
  have hN6 := hR.2.2.1
  refine a_aload_n dX7_measure_0 rfl ?_
  refine a_getr dX7_measure_1 kf_X7_22 ⟨by decide, _, rfl, rfl⟩ ?_
  refine a_bipush (v := nI 6) dX7_measure_4 (by decide) ?_
  refine a_callSv (As := [_, _]) dX7_measure_6 km_X7_49 rfl rfl (Nat.le_of_ble_eq_true rfl) ?_
  refine c_fill ⟨by decide, rfl⟩ ?_
  refine a_aload_n dX7_measure_9 rfl ?_
  refine a_getr dX7_measure_10 kf_X7_22 ⟨by decide, _, rfl, rfl⟩ ?_
  refine a_iload_n dX7_measure_13 rfl ?_
  refine a_iconst (v := nI 0) dX7_measure_14 (by decide) ?_
  refine a_iast dX7_measure_15 ⟨by decide, rfl⟩ (by omega) ?_
  refine a_iconst (v := nI 0) dX7_measure_16 (by decide) ?_
  refine a_istore (L' := [_, _, _, _, _, _, _]) dX7_measure_17 (Nat.le_of_ble_eq_true rfl) rfl ?_
  exact lp_me1a hR hK 0 (by omega) _ _ _ (frA_up (fun k hk => mFill_ne hk) _ _) (fun x hx => by
    show _ = nI (min 6 (if x = b then 0 else 100))
    by_cases e : x = b
    · subst e; rw [am_up_same, if_pos rfl]; rfl
    · rw [am_up_slot e, mFill_in hx, if_neg e]; rfl)

set_option maxHeartbeats 4000000 in
set_option maxRecDepth 100000 in
theorem lp_me2b {G : am_G} {d : Nat} {I0 : am_I} {J : am_J} {wo : Int32} {N n b : Nat} {F T : Nat → Nat} {S : Nat → Bool} (hR : rwC I0 wo N n F T S) {Ex : am_Ex} {r : Nat} (kx : ∀ (I : am_I) (v6 : Option Value), frA 49 I I0 → awP 49 (rnd F T S (wyR F T S n b r) n) I → AW G cX7_measure 7 RX7 (d + 1) Ex 105 [some (.ref 3), some (.ref 1), some (.int wo), some (.int (nI b)), some (.int (nI r)), some (.int (nI n)), v6] [] I J) : ∀ l, l ≤ n → ∀ (I : am_I) (v6 : Option Value), frA 49 I I0 → awP 49 (rnd F T S (wyR F T S n b r) l) I → AW G cX7_measure 7 RX7 (d + 1) Ex 31 [some (.ref 3), some (.ref 1), some (.int wo), some (.int (nI b)), some (.int (nI r)), some (.int (nI l)), v6] [] I J := by
  refine am_dn n (fun l hl ih => ?_)
  intro I v6 hf hw
  have hR1 : rwC I wo N n F T S := rwC_fr hR (hf 1 (by decide)) (fun l hl => hf _ (by omega))
  obtain ⟨r1, r2, r3, r4, r5, r6, r7⟩ := id hR1
  refine a_iload dX7_measure_31 rfl ?_
  refine a_aload_n dX7_measure_33 rfl ?_
  refine a_geti dX7_measure_34 kf_X7_55 ⟨by decide, _, rfl, rfl⟩ r4 ?_
  refine a_icmp_geN (tgt := 105) dX7_measure_37 (by decide) (by omega) (by omega) (fun h => ?_) (fun h => ?_)
  · obtain rfl : l = n := by omega
    exact kx I _ hf hw
  · obtain ⟨f1, f2, f3, f4⟩ := r6 l h
    have b1 := rndw_le F T S n b r l (F l)
    have b2 := rndw_le F T S n b r l (T l)
    refine a_aload_n dX7_measure_40 rfl ?_
    refine a_iload_n dX7_measure_41 rfl ?_
    refine a_iload dX7_measure_42 rfl ?_
    refine a_callSi (As := [_, _, _]) dX7_measure_44 km_X7_58 rfl rfl (Nat.le_of_ble_eq_true rfl) ?_
    refine r_isShut hR1 h (fun hs => ?_) (fun hs => ?_)
    · refine a_if_eq (tgt := 53) dX7_measure_47 (by decide) (fun h47 => ?_) (fun h47 => ?_)
      · exact absurd h47 (by decide)
      · refine a_goto (tgt := 99) dX7_measure_50 (by decide) ?_
        refine a_iinc (L' := [_, _, _, _, _, _, _]) dX7_measure_99 rfl (nI_inc _) rfl ?_
        refine a_goto (tgt := 31) dX7_measure_102 (by decide) ?_
        exact ih (l + 1) (by omega) (by omega) I _ hf (aw_shut hs hw)
    · refine a_if_eq (tgt := 53) dX7_measure_47 (by decide) (fun h47 => ?_) (fun h47 => ?_)
      · refine a_aload_n dX7_measure_53 rfl ?_
        refine a_getr dX7_measure_54 kf_X7_62 ⟨by decide, _, rfl, rfl⟩ ?_
        refine a_iload dX7_measure_57 rfl ?_
        refine a_aald dX7_measure_59 ⟨by decide, rfl⟩ (by decide) (by omega) rfl ?_
        refine a_geti dX7_measure_60 kf_X7_66 (sh_at (by omega) rfl) f1 ?_
        refine a_istore (L' := [_, _, _, _, _, _, _]) dX7_measure_63 (Nat.le_of_ble_eq_true rfl) rfl ?_
        refine a_aload_n dX7_measure_65 rfl ?_
        refine a_getr dX7_measure_66 kf_X7_22 ⟨by decide, _, rfl, rfl⟩ ?_
        refine a_iload dX7_measure_69 rfl ?_
        refine a_aload_n dX7_measure_71 rfl ?_
        refine a_getr dX7_measure_72 kf_X7_22 ⟨by decide, _, rfl, rfl⟩ ?_
        refine a_iload dX7_measure_75 rfl ?_
        refine a_iald dX7_measure_77 ⟨by decide, rfl⟩ (by omega) (hw (F l) (by omega)) ?_
        refine a_aload_n dX7_measure_78 rfl ?_
        refine a_getr dX7_measure_79 kf_X7_22 ⟨by decide, _, rfl, rfl⟩ ?_
        refine a_aload_n dX7_measure_82 rfl ?_
        refine a_getr dX7_measure_83 kf_X7_62 ⟨by decide, _, rfl, rfl⟩ ?_
        refine a_iload dX7_measure_86 rfl ?_
        refine a_aald dX7_measure_88 ⟨by decide, rfl⟩ (by decide) (by omega) rfl ?_
        refine a_geti dX7_measure_89 kf_X7_71 (sh_at (by omega) rfl) f3 ?_
        refine a_iald dX7_measure_92 ⟨by decide, rfl⟩ (by omega) (hw (T l) (by omega)) ?_
        refine a_iconst (v := nI 1) dX7_measure_93 (by decide) ?_
        refine a_iadd dX7_measure_94 (by first | exact nI_add _ _ | rfl) ?_
        refine a_mmin dX7_measure_95 kl_X7_74 ks_min ki_Math kc_min (Nat.le_of_ble_eq_true rfl) (show _ = nI (min 6 (rlx F T S (rnd F T S (wyR F T S n b r) l) l (F l))) by rw [rlx_at hs, aw_min]; simp only [nI_ltI (show min 6 (rnd F T S (wyR F T S n b r) l (T l)) + 1 < 2 ^ 31 by omega) (show min 6 (rnd F T S (wyR F T S n b r) l (F l)) < 2 ^ 31 by omega)]; split <;> rfl) ?_
        refine a_iast dX7_measure_98 ⟨by decide, rfl⟩ (by omega) ?_
        refine a_iinc (L' := [_, _, _, _, _, _, _]) dX7_measure_99 rfl (nI_inc _) rfl ?_
        refine a_goto (tgt := 31) dX7_measure_102 (by decide) ?_
        exact ih (l + 1) (by omega) (by omega) _ _ (frA_up hf _ _) (aw_step hs (by omega) (by omega) hw)
      · exact absurd h47 (by decide)

set_option maxHeartbeats 4000000 in
set_option maxRecDepth 100000 in
theorem lp_me1b {G : am_G} {d : Nat} {I0 : am_I} {J : am_J} {wo : Int32} {N n b : Nat} {F T : Nat → Nat} {S : Nat → Bool} (hR : rwC I0 wo N n F T S) {K : am_I → am_J → Prop} (hK : ∀ I, frA 49 I I0 → awP 49 (wyR F T S n b N) I → K I J) : ∀ r, r ≤ N → ∀ (I : am_I) (v5 v6 : Option Value), frA 49 I I0 → awP 49 (wyR F T S n b r) I → AW G cX7_measure 7 RX7 (d + 1) (am_ex G none (fun r I J => r = none ∧ K I J)) 19 [some (.ref 3), some (.ref 1), some (.int wo), some (.int (nI b)), some (.int (nI r)), v5, v6] [] I J := by
  refine am_dn N (fun r hr ih => ?_)
  intro I v5 v6 hf hw
  have hR1 : rwC I wo N n F T S := rwC_fr hR (hf 1 (by decide)) (fun l hl => hf _ (by omega))
  obtain ⟨r1, r2, r3, r4, r5, r6, r7⟩ := id hR1
  refine a_iload dX7_measure_19 rfl ?_
  refine a_aload_n dX7_measure_21 rfl ?_
  refine a_geti dX7_measure_22 kf_X7_25 ⟨by decide, _, rfl, rfl⟩ r1 ?_
  refine a_icmp_geN (tgt := 111) dX7_measure_25 (by decide) (by omega) (by omega) (fun h => ?_) (fun h => ?_)
  · obtain rfl : r = N := by omega
    exact a_vreturn dX7_measure_111 ⟨rfl, (hK I hf hw)⟩
  · refine a_iconst (v := nI 0) dX7_measure_28 (by decide) ?_
    refine a_istore (L' := [_, _, _, _, _, _, _]) dX7_measure_29 (Nat.le_of_ble_eq_true rfl) rfl ?_
    refine lp_me2b hR (fun I v6 hf hw => ?_) 0 (by omega) I _ hf hw
    refine a_iinc (L' := [_, _, _, _, _, _, _]) dX7_measure_105 rfl (nI_inc _) rfl ?_
    refine a_goto (tgt := 19) dX7_measure_108 (by decide) ?_
    exact ih (r + 1) (by omega) (by omega) I _ _ hf hw

set_option maxHeartbeats 4000000 in
set_option maxRecDepth 100000 in
theorem r_measureb {G : am_G} {d : Nat} {I : am_I} {J : am_J} {K : am_I → am_J → Prop} {wo : Int32} {N n b : Nat} {F T : Nat → Nat} {S : Nat → Bool} (hR : rwC I wo N n F T S) (hb : b < N) (hK : ∀ I1, frA 49 I1 I → awP 49 (wyR F T S n b N) I1 → K I1 J) : CMv G (d + 1) yX7_measure [.ref 3, .ref 1, .int wo, .int (nI b)] I J K := by
  refine CM.of (L0 := [_, _, _, _, _, _, _]) cX7_measure 7 none (by decide) (by decide) kcX7_measure (Nat.le_of_ble_eq_true rfl) rfl ?_
  have hN6 := hR.2.2.1
  refine a_aload_n dX7_measure_0 rfl ?_
  refine a_getr dX7_measure_1 kf_X7_22 ⟨by decide, _, rfl, rfl⟩ ?_
  refine a_bipush (v := nI 6) dX7_measure_4 (by decide) ?_
  refine a_callSv (As := [_, _]) dX7_measure_6 km_X7_49 rfl rfl (Nat.le_of_ble_eq_true rfl) ?_
  refine c_fill ⟨by decide, rfl⟩ ?_
  refine a_aload_n dX7_measure_9 rfl ?_
  refine a_getr dX7_measure_10 kf_X7_22 ⟨by decide, _, rfl, rfl⟩ ?_
  refine a_iload_n dX7_measure_13 rfl ?_
  refine a_iconst (v := nI 0) dX7_measure_14 (by decide) ?_
  refine a_iast dX7_measure_15 ⟨by decide, rfl⟩ (by omega) ?_
  refine a_iconst (v := nI 0) dX7_measure_16 (by decide) ?_
  refine a_istore (L' := [_, _, _, _, _, _, _]) dX7_measure_17 (Nat.le_of_ble_eq_true rfl) rfl ?_
  exact lp_me1b hR hK 0 (by omega) _ _ _ (frA_up (fun k hk => mFill_ne hk) _ _) (fun x hx => by
    show _ = nI (min 6 (if x = b then 0 else 100))
    by_cases e : x = b
    · subst e; rw [am_up_same, if_pos rfl]; rfl
    · rw [am_up_slot e, mFill_in hx, if_neg e]; rfl)

