/-! ===== the system: Routes.walk, find ===== -/
def rvQ (r1 r2 : Nat) (F T : Nat → Nat) (S : Nat → Bool) (n N a b : Nat) (I : am_I) : Prop := I r1 (N * a + b) = (if wyR F T S n b N a < 100 then nI (wyR F T S n b N a) else -1) ∧ (wyR F T S n b N a < 100 → ∀ (i x : Nat), (rtO F T S n N a b)[i]? = some x → I r2 (5 * (N * a + b) + i) = nI x)
theorem ix_inj {N a b a' b' : Nat} (hb : b < N) (hb' : b' < N) (h : N * a + b = N * a' + b') : a = a' ∧ b = b' := by
  have h1 : (N * a + b) / N = a := by rw [Nat.mul_add_div (by omega), Nat.div_eq_of_lt hb, Nat.add_zero]
  have h2 : (N * a' + b') / N = a' := by rw [Nat.mul_add_div (by omega), Nat.div_eq_of_lt hb', Nat.add_zero]
  have h3 : a = a' := by rw [← h1, ← h2, h]
  subst h3
  exact ⟨rfl, by omega⟩
/-- what a walk leaves alone -/
def wkF (r1 r2 p i : Nat) (I1 I : am_I) : Prop := (∀ k, k ≠ r1 → k ≠ r2 → I1 k = I k) ∧ (∀ s, s ≠ p → I1 r1 s = I r1 s) ∧ ∀ s, (s < 5 * p + i ∨ 5 * p + 5 ≤ s) → I1 r2 s = I r2 s
theorem rvQ_fr {r1 r2 p : Nat} {F T : Nat → Nat} {S : Nat → Bool} {n N a b : Nat} {I I1 : am_I} (h : rvQ r1 r2 F T S n N a b I) (hf : wkF r1 r2 p 0 I1 I) (hp : N * a + b ≠ p) (hl : wyR F T S n b N a < 100 → (rtO F T S n N a b).length ≤ 5) : rvQ r1 r2 F T S n N a b I1 := by
  refine ⟨by rw [hf.2.1 _ hp]; exact h.1, fun q i x e => ?_⟩
  have := (List.getElem?_eq_some_iff.mp e).1
  have := hl q
  rw [hf.2.2 _ (by omega)]
  exact h.2 q i x e
theorem rtO_len {F T : Nat → Nat} {S : Nat → Bool} {n N a b : Nat} (hN : N ≤ 6) (ha : a < N) (hb : b < N) (hT : ∀ l, l < n → T l < N) (h : wyR F T S n b N a < 100) : (rtO F T S n N a b).length = wyR F T S n b N a ∧ (rtO F T S n N a b).length ≤ 5 ∧ ∀ l ∈ rtO F T S n N a b, l < n := by
  have h1 := rtL_lt hb hT _ a ha rfl h
  have h2 := wy_lt hb hT ha h
  exact ⟨h1.2, by have h3 : (rtO F T S n N a b).length = _ := h1.2; omega, h1.1⟩
set_option maxHeartbeats 4000000 in
set_option maxRecDepth 100000 in
theorem lp_wk2a {G : am_G} {d : Nat} {I : am_I} {J : am_J} {Ex : am_Ex} {N n p x i : Nat} {a0 wo : Int32} {F T : Nat → Nat} {S : Nat → Bool} {D : Nat → Nat} (hR : rwC I wo N n F T S) (hw : awP 46 D I) (hx : x < N) (hp36 : p < 36) (hi5 : i < 5) (hx1 : 1 ≤ D x) (hx5 : D x ≤ 5) {m : Nat} (hm : m < n) (hp : ldP F T S D x m = true) (hq : ∀ j, j < m → ldP F T S D x j = false)
    (kx : AW G cX7_walk 8 RX7 (d + 1) Ex 151 [some (.ref 2), some (.ref 1), some (.int wo), some (.int a0), some (.int (nI p)), some (.int (nI (T m))), some (.int (nI i)), some (.int (nI m))] [] (am_up I 45 (5 * p + i) (nI m)) J) : ∀ j, j ≤ m → AW G cX7_walk 8 RX7 (d + 1) Ex 49 [some (.ref 2), some (.ref 1), some (.int wo), some (.int a0), some (.int (nI p)), some (.int (nI x)), some (.int (nI i)), some (.int (nI j))] [] I J := by
  obtain ⟨r1, r2, r3, r4, r5, r6, r7⟩ := id hR
  refine am_dn m (fun j hj ih => ?_)
  obtain ⟨f1, f2, f3, f4⟩ := r6 j (by omega)
  have hpj : j = m → (S j = false ∧ F j = x ∧ D (T j) + 1 = D x) := fun e => by
    subst e
    simpa [ldP] using hp
  refine a_iload dX7_walk_49 rfl ?_
  refine a_aload_n dX7_walk_51 rfl ?_
  refine a_geti dX7_walk_52 kf_X7_55 ⟨by decide, _, rfl, rfl⟩ r4 ?_
  refine a_icmp_geN (tgt := 151) dX7_walk_55 (by decide) (by omega) (by omega) (fun h55 => ?_) (fun h55 => ?_)
  · exact absurd h55 (by omega)
  · refine a_aload_n dX7_walk_58 rfl ?_
    refine a_iload_n dX7_walk_59 rfl ?_
    refine a_iload dX7_walk_60 rfl ?_
    refine a_callSi (As := [_, _, _]) dX7_walk_62 km_X7_58 rfl rfl (Nat.le_of_ble_eq_true rfl) ?_
    refine r_isShut hR (by omega) (fun hs => ?_) (fun hs => ?_)
    · refine a_if_ne (tgt := 145) dX7_walk_65 (by decide) (fun h65 => ?_) (fun h65 => ?_)
      · have hjm : j < m := by
          rcases Nat.lt_or_ge j m with q | q
          · exact q
          · exfalso
            obtain ⟨z1, z2, z3⟩ := hpj (by omega)
            rw [hs] at z1; cases z1
        refine a_iinc (L' := [_, _, _, _, _, _, _, _]) dX7_walk_145 rfl (nI_inc _) rfl ?_
        refine a_goto (tgt := 49) dX7_walk_148 (by decide) ?_
        exact ih (j + 1) (by omega) (by omega)
      · exact absurd h65 (by decide)
    · refine a_if_ne (tgt := 145) dX7_walk_65 (by decide) (fun h65 => ?_) (fun h65 => ?_)
      · exact absurd h65 (by decide)
      · refine a_aload_n dX7_walk_68 rfl ?_
        refine a_getr dX7_walk_69 kf_X7_62 ⟨by decide, _, rfl, rfl⟩ ?_
        refine a_iload dX7_walk_72 rfl ?_
        refine a_aald dX7_walk_74 ⟨by decide, rfl⟩ (by decide) (by omega) rfl ?_
        refine a_geti dX7_walk_75 kf_X7_66 (sh_at (by omega) rfl) f1 ?_
        refine a_iload dX7_walk_78 rfl ?_
        refine a_icmp_eqN (tgt := 86) dX7_walk_80 (by decide) (by omega) (by omega) (fun h80 => ?_) (fun h80 => ?_)
        · refine a_aload_n dX7_walk_86 rfl ?_
          refine a_getr dX7_walk_87 kf_X7_22 ⟨by decide, _, rfl, rfl⟩ ?_
          refine a_aload_n dX7_walk_90 rfl ?_
          refine a_getr dX7_walk_91 kf_X7_62 ⟨by decide, _, rfl, rfl⟩ ?_
          refine a_iload dX7_walk_94 rfl ?_
          refine a_aald dX7_walk_96 ⟨by decide, rfl⟩ (by decide) (by omega) rfl ?_
          refine a_geti dX7_walk_97 kf_X7_71 (sh_at (by omega) rfl) f3 ?_
          refine a_iald dX7_walk_100 ⟨by decide, rfl⟩ (by omega) (hw (T j) (by omega)) ?_
          refine a_aload_n dX7_walk_101 rfl ?_
          refine a_getr dX7_walk_102 kf_X7_22 ⟨by decide, _, rfl, rfl⟩ ?_
          refine a_iload dX7_walk_105 rfl ?_
          refine a_iald dX7_walk_107 ⟨by decide, rfl⟩ (by omega) (hw x (by omega)) ?_
          refine a_iconst (v := nI 1) dX7_walk_108 (by decide) ?_
          refine a_isub dX7_walk_109 (show _ = nI (D x - 1) by rw [show min 6 (D x) = D x by omega]; exact pk_sub hx1) ?_
          refine a_icmp_eqN (tgt := 116) dX7_walk_110 (by decide) (by omega) (by omega) (fun h110 => ?_) (fun h110 => ?_)
          · have e : j = m := by
              rcases Nat.lt_or_ge j m with q | q
              · exfalso
                have z := hq j q
                simp [ldP, hs, h80] at z
                omega
              · omega
            subst e
            refine a_aload_n dX7_walk_116 rfl ?_
            refine a_getr dX7_walk_117 kf_X7_19 ⟨by decide, _, rfl, rfl⟩ ?_
            refine a_iload dX7_walk_120 rfl ?_
            refine a_iconst (v := nI 5) dX7_walk_122 (by decide) ?_
            refine a_imul dX7_walk_123 (show _ = nI (5 * p) by rw [Nat.mul_comm]; exact pk_mul _ _) ?_
            refine a_iload dX7_walk_124 rfl ?_
            refine a_iadd dX7_walk_126 (by first | exact nI_add _ _ | rfl) ?_
            refine a_iload dX7_walk_127 rfl ?_
            refine a_iast dX7_walk_129 ⟨by decide, rfl⟩ (by omega) ?_
            refine a_aload_n dX7_walk_130 rfl ?_
            refine a_getr dX7_walk_131 kf_X7_62 ⟨by decide, _, rfl, rfl⟩ ?_
            refine a_iload dX7_walk_134 rfl ?_
            refine a_aald dX7_walk_136 ⟨by decide, rfl⟩ (by decide) (by omega) rfl ?_
            refine a_geti dX7_walk_137 kf_X7_71 (sh_at (by omega) rfl) (show am_up _ _ _ _ (20 + j) 2 = nI (T j) by rw [am_up_ne (by omega)]; exact f3) ?_
            refine a_istore (L' := [_, _, _, _, _, _, _, _]) dX7_walk_140 (Nat.le_of_ble_eq_true rfl) rfl ?_
            refine a_goto (tgt := 151) dX7_walk_142 (by decide) ?_
            exact kx
          · refine a_goto (tgt := 145) dX7_walk_113 (by decide) ?_
            have hjm : j < m := by
              rcases Nat.lt_or_ge j m with q | q
              · exact q
              · exfalso
                obtain ⟨z1, z2, z3⟩ := hpj (by omega)
                omega
            refine a_iinc (L' := [_, _, _, _, _, _, _, _]) dX7_walk_145 rfl (nI_inc _) rfl ?_
            refine a_goto (tgt := 49) dX7_walk_148 (by decide) ?_
            exact ih (j + 1) (by omega) (by omega)
        · refine a_goto (tgt := 145) dX7_walk_83 (by decide) ?_
          have hjm : j < m := by
            rcases Nat.lt_or_ge j m with q | q
            · exact q
            · exfalso
              obtain ⟨z1, z2, z3⟩ := hpj (by omega)
              exact h80 z2
          refine a_iinc (L' := [_, _, _, _, _, _, _, _]) dX7_walk_145 rfl (nI_inc _) rfl ?_
          refine a_goto (tgt := 49) dX7_walk_148 (by decide) ?_
          exact ih (j + 1) (by omega) (by omega)

set_option maxHeartbeats 4000000 in
set_option maxRecDepth 100000 in
theorem lp_wk1a {G : am_G} {d : Nat} {J : am_J} {K : am_I → am_J → Prop} {N n b p a : Nat} {a0 wo : Int32} {F T : Nat → Nat} {S : Nat → Bool} (hb : b < N) (hp36 : p < 36) (ha5 : wyR F T S n b N a ≤ 5) :
    ∀ (f x i : Nat) (I : am_I) (x7 : Option Value), rwC I wo N n F T S → awP 46 (wyR F T S n b N) I → I 44 p = nI (wyR F T S n b N a) → wyR F T S n b N x = f → i + f = wyR F T S n b N a → x < N → (∀ I1, wkF 44 45 p i I1 I → I1 44 = I 44 → (∀ (j y : Nat), (rtL F T S n b (wyR F T S n b N) f x)[j]? = some y → I1 45 (5 * p + i + j) = nI y) → K I1 J) → AW G cX7_walk 8 RX7 (d + 1) (am_ex G none (fun r I J => r = none ∧ K I J)) 34 [some (.ref 2), some (.ref 1), some (.int wo), some (.int a0), some (.int (nI p)), some (.int (nI x)), some (.int (nI i)), x7] [] I J := by
  intro f
  induction f with
  | zero =>
    intro x i I x7 hR hw hl hf hi hx hK
    obtain ⟨r1, r2, r3, r4, r5, r6, r7⟩ := id hR
    refine a_iload dX7_walk_34 rfl ?_
    refine a_aload_n dX7_walk_36 rfl ?_
    refine a_getr dX7_walk_37 kf_X7_15 ⟨by decide, _, rfl, rfl⟩ ?_
    refine a_iload dX7_walk_40 rfl ?_
    refine a_iald dX7_walk_42 ⟨by decide, rfl⟩ (by omega) hl ?_
    refine a_icmp_geN (tgt := 157) dX7_walk_43 (by decide) (by omega) (by omega) (fun h43 => ?_) (fun h43 => ?_)
    · exact a_vreturn dX7_walk_157 ⟨rfl, (hK I ⟨fun _ _ _ => rfl, fun _ _ => rfl, fun _ _ => rfl⟩ rfl (fun j y e => by simp [rtL] at e))⟩
    · exact absurd h43 (by omega)
  | succ f ih =>
    intro x i I x7 hR hw hl hf hi hx hK
    obtain ⟨r1, r2, r3, r4, r5, r6, r7⟩ := id hR
    have hto : ∀ l, l < n → T l < N := fun l hl => (r6 l hl).2.2.2
    have exb : x ≠ b := fun q => by
      subst q
      rw [wy_b] at hf
      omega
    obtain ⟨l0, q1, q2, q3, q4⟩ := wy_next (fr := F) (to := T) (sh := S) (n := n) hb hto hx (by omega) exb
    obtain ⟨m1, m2, m3, m4⟩ := fnd_spec (ldP F T S (wyR F T S n b N) x) n 0 ⟨l0, by omega, by omega, by simp [ldP, q2, q3, q4]⟩
    rw [rtL, if_neg exb] at hK
    generalize fnd (ldP F T S (wyR F T S n b N) x) n 0 = m at m1 m2 m3 m4 hK
    have hm : m < n := by omega
    obtain ⟨f1, f2, f3, f4⟩ := r6 m hm
    have m5 : S m = false ∧ F m = x ∧ wyR F T S n b N (T m) + 1 = wyR F T S n b N x := by simpa [ldP] using m1
    refine a_iload dX7_walk_34 rfl ?_
    refine a_aload_n dX7_walk_36 rfl ?_
    refine a_getr dX7_walk_37 kf_X7_15 ⟨by decide, _, rfl, rfl⟩ ?_
    refine a_iload dX7_walk_40 rfl ?_
    refine a_iald dX7_walk_42 ⟨by decide, rfl⟩ (by omega) hl ?_
    refine a_icmp_geN (tgt := 157) dX7_walk_43 (by decide) (by omega) (by omega) (fun h43 => ?_) (fun h43 => ?_)
    · exact absurd h43 (by omega)
    · refine a_iconst (v := nI 0) dX7_walk_46 (by decide) ?_
      refine a_istore (L' := [_, _, _, _, _, _, _, _]) dX7_walk_47 (Nat.le_of_ble_eq_true rfl) rfl ?_
      refine lp_wk2a hR hw hx hp36 (by omega) (by omega) (by omega) hm m1 (fun j hj => m4 j (by omega) hj) ?_ 0 (by omega)
      refine a_iinc (L' := [_, _, _, _, _, _, _, _]) dX7_walk_151 rfl (nI_inc _) rfl ?_
      refine a_goto (tgt := 34) dX7_walk_154 (by decide) ?_
      refine ih (T m) (i + 1) _ _ (rwC_fr hR (am_up_ne (by decide)) (fun l hl => am_up_ne (by omega))) (fun y hy => by rw [am_up_ne (by decide)]; exact hw y hy) (by rw [am_up_ne (by decide)]; exact hl) (by omega) (by omega) f4 (fun I1 hf1 hL1 hs1 => ?_)
      refine hK I1 ⟨fun k k1 k2 => by rw [hf1.1 k k1 k2, am_up_ne k2], fun s hs => by rw [hf1.2.1 s hs, am_up_ne (by decide)], fun s hs => by rw [hf1.2.2 s (by omega), am_up_slot (by omega)]⟩ (by rw [hL1, am_up_ne (by decide)]) (fun j y e => ?_)
      cases j with
      | zero =>
        rw [List.getElem?_cons_zero] at e
        cases e
        rw [hf1.2.2 _ (by omega)]
        exact am_up_same
      | succ j =>
        rw [List.getElem?_cons_succ] at e
        have := hs1 j y e
        rw [show 5 * p + i + (j + 1) = 5 * p + (i + 1) + j by omega]
        exact this

set_option maxHeartbeats 4000000 in
set_option maxRecDepth 100000 in
theorem r_walka {G : am_G} {d : Nat} {I : am_I} {J : am_J} {K : am_I → am_J → Prop} {wo : Int32} {N n a b : Nat} {F T : Nat → Nat} {S : Nat → Bool} (hR : rwC I wo N n F T S) (ha : a < N) (hb : b < N) (hw : awP 46 (wyR F T S n b N) I) (hK : ∀ I1, wkF 44 45 (N * a + b) 0 I1 I → rvQ 44 45 F T S n N a b I1 → K I1 J) : CMv G (d + 1) yX7_walk [.ref 2, .ref 1, .int wo, .int (nI a), .int (nI (N * a + b))] I J K := by
  refine CM.of (L0 := [_, _, _, _, _, _, _, _]) cX7_walk 8 none (by decide) (by decide) kcX7_walk (Nat.le_of_ble_eq_true rfl) rfl ?_
  obtain ⟨r1, r2, r3, r4, r5, r6, r7⟩ := id hR
  have hto : ∀ l, l < n → T l < N := fun l hl => (r6 l hl).2.2.2
  have hp := ix_lt r3 ha hb
  have hD := wyR_le F T S n b N a
  have hD1 := fun q => wy_lt (x := a) (fr := F) (sh := S) hb hto ha q
  refine a_aload_n dX7_walk_0 rfl ?_
  refine a_getr dX7_walk_1 kf_X7_15 ⟨by decide, _, rfl, rfl⟩ ?_
  refine a_iload dX7_walk_4 rfl ?_
  refine a_aload_n dX7_walk_6 rfl ?_
  refine a_getr dX7_walk_7 kf_X7_22 ⟨by decide, _, rfl, rfl⟩ ?_
  refine a_iload_n dX7_walk_10 rfl ?_
  refine a_iald dX7_walk_11 ⟨by decide, rfl⟩ (by omega) (hw a (by omega)) ?_
  refine a_bipush (v := nI 6) dX7_walk_12 (by decide) ?_
  refine a_icmp_geN (tgt := 26) dX7_walk_14 (by decide) (by omega) (by omega) (fun h14 => ?_) (fun h14 => ?_)
  · refine a_iconst (v := (-1)) dX7_walk_26 (by decide) ?_
    refine a_iast dX7_walk_27 ⟨by decide, rfl⟩ (by omega) ?_
    refine a_iload_n dX7_walk_28 rfl ?_
    refine a_istore (L' := [_, _, _, _, _, _, _, _]) dX7_walk_29 (Nat.le_of_ble_eq_true rfl) rfl ?_
    refine a_iconst (v := nI 0) dX7_walk_31 (by decide) ?_
    refine a_istore (L' := [_, _, _, _, _, _, _, _]) dX7_walk_32 (Nat.le_of_ble_eq_true rfl) rfl ?_
    refine a_iload dX7_walk_34 rfl ?_
    refine a_aload_n dX7_walk_36 rfl ?_
    refine a_getr dX7_walk_37 kf_X7_15 ⟨by decide, _, rfl, rfl⟩ ?_
    refine a_iload dX7_walk_40 rfl ?_
    refine a_iald dX7_walk_42 ⟨by decide, rfl⟩ (by omega) (am_up_same) ?_
    refine a_icmp_ge (tgt := 157) dX7_walk_43 (by decide) (fun h43 => ?_) (fun h43 => ?_)
    · exact a_vreturn dX7_walk_157 ⟨rfl, (hK _ ⟨fun k k1 k2 => am_up_ne k1, fun s hs => am_up_slot hs, fun s hs => by rw [am_up_ne (by decide)]⟩ ⟨by rw [am_up_same, if_neg (fun q => by have := hD1 q; omega)], fun q => by have := hD1 q; omega⟩)⟩
    · exact absurd (show (-1 : Int32) ≤ nI 0 by decide) h43
  · refine a_aload_n dX7_walk_17 rfl ?_
    refine a_getr dX7_walk_18 kf_X7_22 ⟨by decide, _, rfl, rfl⟩ ?_
    refine a_iload_n dX7_walk_21 rfl ?_
    refine a_iald dX7_walk_22 ⟨by decide, rfl⟩ (by omega) (hw a (by omega)) ?_
    refine a_goto (tgt := 27) dX7_walk_23 (by decide) ?_
    refine a_iast dX7_walk_27 ⟨by decide, rfl⟩ (by omega) ?_
    refine a_iload_n dX7_walk_28 rfl ?_
    refine a_istore (L' := [_, _, _, _, _, _, _, _]) dX7_walk_29 (Nat.le_of_ble_eq_true rfl) rfl ?_
    refine a_iconst (v := nI 0) dX7_walk_31 (by decide) ?_
    refine a_istore (L' := [_, _, _, _, _, _, _, _]) dX7_walk_32 (Nat.le_of_ble_eq_true rfl) rfl ?_
    refine a_mem (show am_up _ _ _ _ = am_up I 44 (N * a + b) (nI (wyR F T S n b N a)) by rw [show min 6 (wyR F T S n b N a) = wyR F T S n b N a by omega]) ?_
    refine lp_wk1a hb hp (show wyR F T S n b N a ≤ 5 by omega) _ a 0 _ _ (rwC_fr hR (am_up_ne (by decide)) (fun l hl => am_up_ne (by omega))) (fun y hy => by rw [am_up_ne (by decide)]; exact hw y hy) am_up_same rfl (by omega) ha (fun I1 hf1 hL1 hs1 => ?_)
    refine hK I1 ⟨fun k k1 k2 => by rw [hf1.1 k k1 k2, am_up_ne k1], fun s hs => by rw [hf1.2.1 s hs, am_up_slot hs], fun s hs => by rw [hf1.2.2 s (by omega), am_up_ne (by decide)]⟩ ⟨by rw [hL1, am_up_same, if_pos (by omega)], fun _ i x e => hs1 i x e⟩

def rvPa (F T : Nat → Nat) (S : Nat → Bool) (n N t c : Nat) (I I0 : am_I) : Prop := (∀ k, k ≠ 2 → k ≠ 44 → k ≠ 45 → k ≠ 46 → I k = I0 k) ∧ I 2 0 = nI (N * N) ∧ ∀ a b, a < N → b < N → (b < t ∨ b = t ∧ a < c) → rvQ 44 45 F T S n N a b I
theorem rvPa_rw {F T : Nat → Nat} {S : Nat → Bool} {n N t c : Nat} {I I0 : am_I} {wo : Int32} (hR : rwC I0 wo N n F T S) (h : rvPa F T S n N t c I I0) : rwC I wo N n F T S := rwC_fr hR (h.1 1 (by decide) (by decide) (by decide) (by decide)) (fun l hl => h.1 _ (by omega) (by omega) (by omega) (by omega))
theorem rvPa_away {F T : Nat → Nat} {S : Nat → Bool} {n N t : Nat} {I I1 I0 : am_I} (h : rvPa F T S n N t 0 I I0) (hf : frA 46 I1 I) : rvPa F T S n N t 0 I1 I0 :=
  ⟨fun k k1 k2 k3 k4 => by rw [hf k k4]; exact h.1 k k1 k2 k3 k4, by rw [hf _ (by decide)]; exact h.2.1, fun a b ha hb q => by
    have := h.2.2 a b ha hb q
    unfold rvQ at this ⊢
    rw [hf 44 (by decide), hf 45 (by decide)]
    exact this⟩
theorem rvPa_walk {F T : Nat → Nat} {S : Nat → Bool} {n N t c : Nat} {I I1 I0 : am_I} (hN : N ≤ 6) (hto : ∀ l, l < n → T l < N) (ht : t < N) (hc : c < N) (h : rvPa F T S n N t c I I0) (hf : wkF 44 45 (N * c + t) 0 I1 I) (hq : rvQ 44 45 F T S n N c t I1) : rvPa F T S n N t (c + 1) I1 I0 :=
  ⟨fun k k1 k2 k3 k4 => by rw [hf.1 k k2 k3]; exact h.1 k k1 k2 k3 k4, by rw [hf.1 _ (by decide) (by decide)]; exact h.2.1, fun a b ha hb q => by
    by_cases e : N * a + b = N * c + t
    · obtain ⟨rfl, rfl⟩ := ix_inj hb ht e
      exact hq
    · refine rvQ_fr (h.2.2 a b ha hb ?_) hf e (fun z => (rtO_len hN ha hb hto z).2.1)
      rcases q with q | ⟨q1, q2⟩
      · exact Or.inl q
      · refine Or.inr ⟨q1, ?_⟩
        rcases Nat.lt_or_ge a c with z | z
        · exact z
        · exact absurd (by rw [show a = c by omega, q1]) e⟩
theorem rvPa_next {F T : Nat → Nat} {S : Nat → Bool} {n N t : Nat} {I I0 : am_I} (h : rvPa F T S n N t N I I0) : rvPa F T S n N (t + 1) 0 I I0 :=
  ⟨h.1, h.2.1, fun a b ha hb q => h.2.2 a b ha hb (by omega)⟩
set_option maxHeartbeats 4000000 in
set_option maxRecDepth 100000 in
theorem lp_fi2a {G : am_G} {d : Nat} {I0 : am_I} {J : am_J} {wo : Int32} {N n : Nat} {F T : Nat → Nat} {S : Nat → Bool} (hR : rwC I0 wo N n F T S) {Ex : am_Ex} {b : Nat} (hb : b < N) (kx : ∀ (I : am_I), rvPa F T S n N b N I I0 → AW G cX7_find 5 RX7 (d + 2) Ex 63 [some (.ref 2), some (.ref 1), some (.int wo), some (.int (nI b)), some (.int (nI N))] [] I J) : ∀ c, c ≤ N → ∀ (I : am_I), rvPa F T S n N b c I I0 → awP 46 (wyR F T S n b N) I → AW G cX7_find 5 RX7 (d + 2) Ex 33 [some (.ref 2), some (.ref 1), some (.int wo), some (.int (nI b)), some (.int (nI c))] [] I J := by
  refine am_dn N (fun c hc ih => ?_)
  intro I hp hw
  have hR1 := rvPa_rw hR hp
  obtain ⟨r1, r2, r3, r4, r5, r6, r7⟩ := id hR1
  refine a_iload dX7_find_33 rfl ?_
  refine a_aload_n dX7_find_35 rfl ?_
  refine a_geti dX7_find_36 kf_X7_25 ⟨by decide, _, rfl, rfl⟩ r1 ?_
  refine a_icmp_geN (tgt := 63) dX7_find_39 (by decide) (by omega) (by omega) (fun h => ?_) (fun h => ?_)
  · obtain rfl : c = N := by omega
    exact kx I hp
  · refine a_aload_n dX7_find_42 rfl ?_
    refine a_aload_n dX7_find_43 rfl ?_
    refine a_iload_n dX7_find_44 rfl ?_
    refine a_iload dX7_find_45 rfl ?_
    refine a_aload_n dX7_find_47 rfl ?_
    refine a_iload dX7_find_48 rfl ?_
    refine a_iload_n dX7_find_50 rfl ?_
    refine a_callVi (As := [_, _]) dX7_find_51 km_X7_34 ⟨by decide, _, _, _, rfl, rfl⟩ rfl rfl (Nat.le_of_ble_eq_true rfl) ?_
    refine n_pairNumber r1 ?_
    refine a_callVv (As := [_, _, _, _]) dX7_find_54 km_X7_38 ⟨by decide, _, _, _, rfl, rfl⟩ rfl rfl (Nat.le_of_ble_eq_true rfl) ?_
    refine r_walka hR1 h hb hw (fun I1 hf hq => ?_)
    refine a_iinc (L' := [_, _, _, _, _]) dX7_find_57 rfl (nI_inc _) rfl ?_
    refine a_goto (tgt := 33) dX7_find_60 (by decide) ?_
    exact ih (c + 1) (by omega) (by omega) I1 (rvPa_walk r3 (fun l hl => (r6 l hl).2.2.2) hb h hp hf hq) (fun y hy => by rw [hf.1 _ (by decide) (by decide)]; exact hw y hy)

set_option maxHeartbeats 4000000 in
set_option maxRecDepth 100000 in
theorem lp_fi1a {G : am_G} {d : Nat} {I0 : am_I} {J : am_J} {wo : Int32} {N n : Nat} {F T : Nat → Nat} {S : Nat → Bool} (hR : rwC I0 wo N n F T S) {K : am_I → am_J → Prop} (hK : ∀ I, rvPa F T S n N N 0 I I0 → K I J) : ∀ b, b ≤ N → ∀ (I : am_I) (v4 : Option Value), rvPa F T S n N b 0 I I0 → AW G cX7_find 5 RX7 (d + 2) (am_ex G none (fun r I J => r = none ∧ K I J)) 15 [some (.ref 2), some (.ref 1), some (.int wo), some (.int (nI b)), v4] [] I J := by
  refine am_dn N (fun b hb ih => ?_)
  intro I v4 hp
  have hR1 := rvPa_rw hR hp
  obtain ⟨r1, r2, r3, r4, r5, r6, r7⟩ := id hR1
  refine a_iload_n dX7_find_15 rfl ?_
  refine a_aload_n dX7_find_16 rfl ?_
  refine a_geti dX7_find_17 kf_X7_25 ⟨by decide, _, rfl, rfl⟩ r1 ?_
  refine a_icmp_geN (tgt := 69) dX7_find_20 (by decide) (by omega) (by omega) (fun h => ?_) (fun h => ?_)
  · obtain rfl : b = N := by omega
    exact a_vreturn dX7_find_69 ⟨rfl, (hK I hp)⟩
  · refine a_aload_n dX7_find_23 rfl ?_
    refine a_aload_n dX7_find_24 rfl ?_
    refine a_iload_n dX7_find_25 rfl ?_
    refine a_iload_n dX7_find_26 rfl ?_
    refine a_callVv (As := [_, _, _]) dX7_find_27 km_X7_30 ⟨by decide, _, _, _, rfl, rfl⟩ rfl rfl (Nat.le_of_ble_eq_true rfl) ?_
    refine r_measurea hR1 h (fun I1 hf hw => ?_)
    refine a_iconst (v := nI 0) dX7_find_30 (by decide) ?_
    refine a_istore (L' := [_, _, _, _, _]) dX7_find_31 (Nat.le_of_ble_eq_true rfl) rfl ?_
    refine lp_fi2a hR h (fun I hp => ?_) 0 (by omega) I1 (rvPa_away hp hf) hw
    refine a_iinc (L' := [_, _, _, _, _]) dX7_find_63 rfl (nI_inc _) rfl ?_
    refine a_goto (tgt := 15) dX7_find_66 (by decide) ?_
    exact ih (b + 1) (by omega) (by omega) I _ (rvPa_next hp)

set_option maxHeartbeats 4000000 in
set_option maxRecDepth 100000 in
theorem r_finda {G : am_G} {d : Nat} {I : am_I} {J : am_J} {K : am_I → am_J → Prop} {wo : Int32} {N n : Nat} {F T : Nat → Nat} {S : Nat → Bool} (hR : rwC I wo N n F T S) (hK : ∀ I1, (∀ k, k ≠ 2 → k ≠ 44 → k ≠ 45 → k ≠ 46 → I1 k = I k) → rvC 2 44 45 F T S n N I1 → K I1 J) : CMv G (d + 2) yX7_find [.ref 2, .ref 1, .int wo] I J K := by
  refine CM.of (L0 := [_, _, _, _, _]) cX7_find 5 none (by decide) (by decide) kcX7_find (Nat.le_of_ble_eq_true rfl) rfl ?_
  refine a_aload_n dX7_find_0 rfl ?_
  refine a_aload_n dX7_find_1 rfl ?_
  refine a_geti dX7_find_2 kf_X7_25 ⟨by decide, _, rfl, rfl⟩ hR.1 ?_
  refine a_aload_n dX7_find_5 rfl ?_
  refine a_geti dX7_find_6 kf_X7_25 ⟨by decide, _, rfl, rfl⟩ hR.1 ?_
  refine a_imul dX7_find_9 (by first | exact pk_mul _ _ | rfl) ?_
  refine a_puti dX7_find_10 kp_X7_9 ⟨by decide, _, rfl, rfl⟩ ?_
  refine a_iconst (v := nI 0) dX7_find_13 (by decide) ?_
  refine a_istore_n (L' := [_, _, _, _, _]) dX7_find_14 (Nat.le_of_ble_eq_true rfl) rfl ?_
  exact lp_fi1a hR (fun I1 h => hK I1 h.1 ⟨h.2.1, fun a b ha hb => h.2.2 a b ha hb (Or.inl hb)⟩) 0 (by omega) _ _ ⟨fun k k1 _ _ _ => am_up_ne k1, am_up_same, fun a b _ _ q => by omega⟩

set_option maxHeartbeats 4000000 in
set_option maxRecDepth 100000 in
theorem lp_wk2b {G : am_G} {d : Nat} {I : am_I} {J : am_J} {Ex : am_Ex} {N n p x i : Nat} {a0 wo : Int32} {F T : Nat → Nat} {S : Nat → Bool} {D : Nat → Nat} (hR : rwC I wo N n F T S) (hw : awP 49 D I) (hx : x < N) (hp36 : p < 36) (hi5 : i < 5) (hx1 : 1 ≤ D x) (hx5 : D x ≤ 5) {m : Nat} (hm : m < n) (hp : ldP F T S D x m = true) (hq : ∀ j, j < m → ldP F T S D x j = false)
    (kx : AW G cX7_walk 8 RX7 (d + 1) Ex 151 [some (.ref 3), some (.ref 1), some (.int wo), some (.int a0), some (.int (nI p)), some (.int (nI (T m))), some (.int (nI i)), some (.int (nI m))] [] (am_up I 48 (5 * p + i) (nI m)) J) : ∀ j, j ≤ m → AW G cX7_walk 8 RX7 (d + 1) Ex 49 [some (.ref 3), some (.ref 1), some (.int wo), some (.int a0), some (.int (nI p)), some (.int (nI x)), some (.int (nI i)), some (.int (nI j))] [] I J := by
  obtain ⟨r1, r2, r3, r4, r5, r6, r7⟩ := id hR
  refine am_dn m (fun j hj ih => ?_)
  obtain ⟨f1, f2, f3, f4⟩ := r6 j (by omega)
  have hpj : j = m → (S j = false ∧ F j = x ∧ D (T j) + 1 = D x) := fun e => by
    subst e
    simpa [ldP] using hp
  refine a_iload dX7_walk_49 rfl ?_
  refine a_aload_n dX7_walk_51 rfl ?_
  refine a_geti dX7_walk_52 kf_X7_55 ⟨by decide, _, rfl, rfl⟩ r4 ?_
  refine a_icmp_geN (tgt := 151) dX7_walk_55 (by decide) (by omega) (by omega) (fun h55 => ?_) (fun h55 => ?_)
  · exact absurd h55 (by omega)
  · refine a_aload_n dX7_walk_58 rfl ?_
    refine a_iload_n dX7_walk_59 rfl ?_
    refine a_iload dX7_walk_60 rfl ?_
    refine a_callSi (As := [_, _, _]) dX7_walk_62 km_X7_58 rfl rfl (Nat.le_of_ble_eq_true rfl) ?_
    refine r_isShut hR (by omega) (fun hs => ?_) (fun hs => ?_)
    · refine a_if_ne (tgt := 145) dX7_walk_65 (by decide) (fun h65 => ?_) (fun h65 => ?_)
      · have hjm : j < m := by
          rcases Nat.lt_or_ge j m with q | q
          · exact q
          · exfalso
            obtain ⟨z1, z2, z3⟩ := hpj (by omega)
            rw [hs] at z1; cases z1
        refine a_iinc (L' := [_, _, _, _, _, _, _, _]) dX7_walk_145 rfl (nI_inc _) rfl ?_
        refine a_goto (tgt := 49) dX7_walk_148 (by decide) ?_
        exact ih (j + 1) (by omega) (by omega)
      · exact absurd h65 (by decide)
    · refine a_if_ne (tgt := 145) dX7_walk_65 (by decide) (fun h65 => ?_) (fun h65 => ?_)
      · exact absurd h65 (by decide)
      · refine a_aload_n dX7_walk_68 rfl ?_
        refine a_getr dX7_walk_69 kf_X7_62 ⟨by decide, _, rfl, rfl⟩ ?_
        refine a_iload dX7_walk_72 rfl ?_
        refine a_aald dX7_walk_74 ⟨by decide, rfl⟩ (by decide) (by omega) rfl ?_
        refine a_geti dX7_walk_75 kf_X7_66 (sh_at (by omega) rfl) f1 ?_
        refine a_iload dX7_walk_78 rfl ?_
        refine a_icmp_eqN (tgt := 86) dX7_walk_80 (by decide) (by omega) (by omega) (fun h80 => ?_) (fun h80 => ?_)
        · refine a_aload_n dX7_walk_86 rfl ?_
          refine a_getr dX7_walk_87 kf_X7_22 ⟨by decide, _, rfl, rfl⟩ ?_
          refine a_aload_n dX7_walk_90 rfl ?_
          refine a_getr dX7_walk_91 kf_X7_62 ⟨by decide, _, rfl, rfl⟩ ?_
          refine a_iload dX7_walk_94 rfl ?_
          refine a_aald dX7_walk_96 ⟨by decide, rfl⟩ (by decide) (by omega) rfl ?_
          refine a_geti dX7_walk_97 kf_X7_71 (sh_at (by omega) rfl) f3 ?_
          refine a_iald dX7_walk_100 ⟨by decide, rfl⟩ (by omega) (hw (T j) (by omega)) ?_
          refine a_aload_n dX7_walk_101 rfl ?_
          refine a_getr dX7_walk_102 kf_X7_22 ⟨by decide, _, rfl, rfl⟩ ?_
          refine a_iload dX7_walk_105 rfl ?_
          refine a_iald dX7_walk_107 ⟨by decide, rfl⟩ (by omega) (hw x (by omega)) ?_
          refine a_iconst (v := nI 1) dX7_walk_108 (by decide) ?_
          refine a_isub dX7_walk_109 (show _ = nI (D x - 1) by rw [show min 6 (D x) = D x by omega]; exact pk_sub hx1) ?_
          refine a_icmp_eqN (tgt := 116) dX7_walk_110 (by decide) (by omega) (by omega) (fun h110 => ?_) (fun h110 => ?_)
          · have e : j = m := by
              rcases Nat.lt_or_ge j m with q | q
              · exfalso
                have z := hq j q
                simp [ldP, hs, h80] at z
                omega
              · omega
            subst e
            refine a_aload_n dX7_walk_116 rfl ?_
            refine a_getr dX7_walk_117 kf_X7_19 ⟨by decide, _, rfl, rfl⟩ ?_
            refine a_iload dX7_walk_120 rfl ?_
            refine a_iconst (v := nI 5) dX7_walk_122 (by decide) ?_
            refine a_imul dX7_walk_123 (show _ = nI (5 * p) by rw [Nat.mul_comm]; exact pk_mul _ _) ?_
            refine a_iload dX7_walk_124 rfl ?_
            refine a_iadd dX7_walk_126 (by first | exact nI_add _ _ | rfl) ?_
            refine a_iload dX7_walk_127 rfl ?_
            refine a_iast dX7_walk_129 ⟨by decide, rfl⟩ (by omega) ?_
            refine a_aload_n dX7_walk_130 rfl ?_
            refine a_getr dX7_walk_131 kf_X7_62 ⟨by decide, _, rfl, rfl⟩ ?_
            refine a_iload dX7_walk_134 rfl ?_
            refine a_aald dX7_walk_136 ⟨by decide, rfl⟩ (by decide) (by omega) rfl ?_
            refine a_geti dX7_walk_137 kf_X7_71 (sh_at (by omega) rfl) (show am_up _ _ _ _ (20 + j) 2 = nI (T j) by rw [am_up_ne (by omega)]; exact f3) ?_
            refine a_istore (L' := [_, _, _, _, _, _, _, _]) dX7_walk_140 (Nat.le_of_ble_eq_true rfl) rfl ?_
            refine a_goto (tgt := 151) dX7_walk_142 (by decide) ?_
            exact kx
          · refine a_goto (tgt := 145) dX7_walk_113 (by decide) ?_
            have hjm : j < m := by
              rcases Nat.lt_or_ge j m with q | q
              · exact q
              · exfalso
                obtain ⟨z1, z2, z3⟩ := hpj (by omega)
                omega
            refine a_iinc (L' := [_, _, _, _, _, _, _, _]) dX7_walk_145 rfl (nI_inc _) rfl ?_
            refine a_goto (tgt := 49) dX7_walk_148 (by decide) ?_
            exact ih (j + 1) (by omega) (by omega)
        · refine a_goto (tgt := 145) dX7_walk_83 (by decide) ?_
          have hjm : j < m := by
            rcases Nat.lt_or_ge j m with q | q
            · exact q
            · exfalso
              obtain ⟨z1, z2, z3⟩ := hpj (by omega)
              exact h80 z2
          refine a_iinc (L' := [_, _, _, _, _, _, _, _]) dX7_walk_145 rfl (nI_inc _) rfl ?_
          refine a_goto (tgt := 49) dX7_walk_148 (by decide) ?_
          exact ih (j + 1) (by omega) (by omega)

set_option maxHeartbeats 4000000 in
set_option maxRecDepth 100000 in
theorem lp_wk1b {G : am_G} {d : Nat} {J : am_J} {K : am_I → am_J → Prop} {N n b p a : Nat} {a0 wo : Int32} {F T : Nat → Nat} {S : Nat → Bool} (hb : b < N) (hp36 : p < 36) (ha5 : wyR F T S n b N a ≤ 5) :
    ∀ (f x i : Nat) (I : am_I) (x7 : Option Value), rwC I wo N n F T S → awP 49 (wyR F T S n b N) I → I 47 p = nI (wyR F T S n b N a) → wyR F T S n b N x = f → i + f = wyR F T S n b N a → x < N → (∀ I1, wkF 47 48 p i I1 I → I1 47 = I 47 → (∀ (j y : Nat), (rtL F T S n b (wyR F T S n b N) f x)[j]? = some y → I1 48 (5 * p + i + j) = nI y) → K I1 J) → AW G cX7_walk 8 RX7 (d + 1) (am_ex G none (fun r I J => r = none ∧ K I J)) 34 [some (.ref 3), some (.ref 1), some (.int wo), some (.int a0), some (.int (nI p)), some (.int (nI x)), some (.int (nI i)), x7] [] I J := by
  intro f
  induction f with
  | zero =>
    intro x i I x7 hR hw hl hf hi hx hK
    obtain ⟨r1, r2, r3, r4, r5, r6, r7⟩ := id hR
    refine a_iload dX7_walk_34 rfl ?_
    refine a_aload_n dX7_walk_36 rfl ?_
    refine a_getr dX7_walk_37 kf_X7_15 ⟨by decide, _, rfl, rfl⟩ ?_
    refine a_iload dX7_walk_40 rfl ?_
    refine a_iald dX7_walk_42 ⟨by decide, rfl⟩ (by omega) hl ?_
    refine a_icmp_geN (tgt := 157) dX7_walk_43 (by decide) (by omega) (by omega) (fun h43 => ?_) (fun h43 => ?_)
    · exact a_vreturn dX7_walk_157 ⟨rfl, (hK I ⟨fun _ _ _ => rfl, fun _ _ => rfl, fun _ _ => rfl⟩ rfl (fun j y e => by simp [rtL] at e))⟩
    · exact absurd h43 (by omega)
  | succ f ih =>
    intro x i I x7 hR hw hl hf hi hx hK
    obtain ⟨r1, r2, r3, r4, r5, r6, r7⟩ := id hR
    have hto : ∀ l, l < n → T l < N := fun l hl => (r6 l hl).2.2.2
    have exb : x ≠ b := fun q => by
      subst q
      rw [wy_b] at hf
      omega
    obtain ⟨l0, q1, q2, q3, q4⟩ := wy_next (fr := F) (to := T) (sh := S) (n := n) hb hto hx (by omega) exb
    obtain ⟨m1, m2, m3, m4⟩ := fnd_spec (ldP F T S (wyR F T S n b N) x) n 0 ⟨l0, by omega, by omega, by simp [ldP, q2, q3, q4]⟩
    rw [rtL, if_neg exb] at hK
    generalize fnd (ldP F T S (wyR F T S n b N) x) n 0 = m at m1 m2 m3 m4 hK
    have hm : m < n := by omega
    obtain ⟨f1, f2, f3, f4⟩ := r6 m hm
    have m5 : S m = false ∧ F m = x ∧ wyR F T S n b N (T m) + 1 = wyR F T S n b N x := by simpa [ldP] using m1
    refine a_iload dX7_walk_34 rfl ?_
    refine a_aload_n dX7_walk_36 rfl ?_
    refine a_getr dX7_walk_37 kf_X7_15 ⟨by decide, _, rfl, rfl⟩ ?_
    refine a_iload dX7_walk_40 rfl ?_
    refine a_iald dX7_walk_42 ⟨by decide, rfl⟩ (by omega) hl ?_
    refine a_icmp_geN (tgt := 157) dX7_walk_43 (by decide) (by omega) (by omega) (fun h43 => ?_) (fun h43 => ?_)
    · exact absurd h43 (by omega)
    · refine a_iconst (v := nI 0) dX7_walk_46 (by decide) ?_
      refine a_istore (L' := [_, _, _, _, _, _, _, _]) dX7_walk_47 (Nat.le_of_ble_eq_true rfl) rfl ?_
      refine lp_wk2b hR hw hx hp36 (by omega) (by omega) (by omega) hm m1 (fun j hj => m4 j (by omega) hj) ?_ 0 (by omega)
      refine a_iinc (L' := [_, _, _, _, _, _, _, _]) dX7_walk_151 rfl (nI_inc _) rfl ?_
      refine a_goto (tgt := 34) dX7_walk_154 (by decide) ?_
      refine ih (T m) (i + 1) _ _ (rwC_fr hR (am_up_ne (by decide)) (fun l hl => am_up_ne (by omega))) (fun y hy => by rw [am_up_ne (by decide)]; exact hw y hy) (by rw [am_up_ne (by decide)]; exact hl) (by omega) (by omega) f4 (fun I1 hf1 hL1 hs1 => ?_)
      refine hK I1 ⟨fun k k1 k2 => by rw [hf1.1 k k1 k2, am_up_ne k2], fun s hs => by rw [hf1.2.1 s hs, am_up_ne (by decide)], fun s hs => by rw [hf1.2.2 s (by omega), am_up_slot (by omega)]⟩ (by rw [hL1, am_up_ne (by decide)]) (fun j y e => ?_)
      cases j with
      | zero =>
        rw [List.getElem?_cons_zero] at e
        cases e
        rw [hf1.2.2 _ (by omega)]
        exact am_up_same
      | succ j =>
        rw [List.getElem?_cons_succ] at e
        have := hs1 j y e
        rw [show 5 * p + i + (j + 1) = 5 * p + (i + 1) + j by omega]
        exact this

set_option maxHeartbeats 4000000 in
set_option maxRecDepth 100000 in
theorem r_walkb {G : am_G} {d : Nat} {I : am_I} {J : am_J} {K : am_I → am_J → Prop} {wo : Int32} {N n a b : Nat} {F T : Nat → Nat} {S : Nat → Bool} (hR : rwC I wo N n F T S) (ha : a < N) (hb : b < N) (hw : awP 49 (wyR F T S n b N) I) (hK : ∀ I1, wkF 47 48 (N * a + b) 0 I1 I → rvQ 47 48 F T S n N a b I1 → K I1 J) : CMv G (d + 1) yX7_walk [.ref 3, .ref 1, .int wo, .int (nI a), .int (nI (N * a + b))] I J K := by
  refine CM.of (L0 := [_, _, _, _, _, _, _, _]) cX7_walk 8 none (by decide) (by decide) kcX7_walk (Nat.le_of_ble_eq_true rfl) rfl ?_
  obtain ⟨r1, r2, r3, r4, r5, r6, r7⟩ := id hR
  have hto : ∀ l, l < n → T l < N := fun l hl => (r6 l hl).2.2.2
  have hp := ix_lt r3 ha hb
  have hD := wyR_le F T S n b N a
  have hD1 := fun q => wy_lt (x := a) (fr := F) (sh := S) hb hto ha q
  refine a_aload_n dX7_walk_0 rfl ?_
  refine a_getr dX7_walk_1 kf_X7_15 ⟨by decide, _, rfl, rfl⟩ ?_
  refine a_iload dX7_walk_4 rfl ?_
  refine a_aload_n dX7_walk_6 rfl ?_
  refine a_getr dX7_walk_7 kf_X7_22 ⟨by decide, _, rfl, rfl⟩ ?_
  refine a_iload_n dX7_walk_10 rfl ?_
  refine a_iald dX7_walk_11 ⟨by decide, rfl⟩ (by omega) (hw a (by omega)) ?_
  refine a_bipush (v := nI 6) dX7_walk_12 (by decide) ?_
  refine a_icmp_geN (tgt := 26) dX7_walk_14 (by decide) (by omega) (by omega) (fun h14 => ?_) (fun h14 => ?_)
  · refine a_iconst (v := (-1)) dX7_walk_26 (by decide) ?_
    refine a_iast dX7_walk_27 ⟨by decide, rfl⟩ (by omega) ?_
    refine a_iload_n dX7_walk_28 rfl ?_
    refine a_istore (L' := [_, _, _, _, _, _, _, _]) dX7_walk_29 (Nat.le_of_ble_eq_true rfl) rfl ?_
    refine a_iconst (v := nI 0) dX7_walk_31 (by decide) ?_
    refine a_istore (L' := [_, _, _, _, _, _, _, _]) dX7_walk_32 (Nat.le_of_ble_eq_true rfl) rfl ?_
    refine a_iload dX7_walk_34 rfl ?_
    refine a_aload_n dX7_walk_36 rfl ?_
    refine a_getr dX7_walk_37 kf_X7_15 ⟨by decide, _, rfl, rfl⟩ ?_
    refine a_iload dX7_walk_40 rfl ?_
    refine a_iald dX7_walk_42 ⟨by decide, rfl⟩ (by omega) (am_up_same) ?_
    refine a_icmp_ge (tgt := 157) dX7_walk_43 (by decide) (fun h43 => ?_) (fun h43 => ?_)
    · exact a_vreturn dX7_walk_157 ⟨rfl, (hK _ ⟨fun k k1 k2 => am_up_ne k1, fun s hs => am_up_slot hs, fun s hs => by rw [am_up_ne (by decide)]⟩ ⟨by rw [am_up_same, if_neg (fun q => by have := hD1 q; omega)], fun q => by have := hD1 q; omega⟩)⟩
    · exact absurd (show (-1 : Int32) ≤ nI 0 by decide) h43
  · refine a_aload_n dX7_walk_17 rfl ?_
    refine a_getr dX7_walk_18 kf_X7_22 ⟨by decide, _, rfl, rfl⟩ ?_
    refine a_iload_n dX7_walk_21 rfl ?_
    refine a_iald dX7_walk_22 ⟨by decide, rfl⟩ (by omega) (hw a (by omega)) ?_
    refine a_goto (tgt := 27) dX7_walk_23 (by decide) ?_
    refine a_iast dX7_walk_27 ⟨by decide, rfl⟩ (by omega) ?_
    refine a_iload_n dX7_walk_28 rfl ?_
    refine a_istore (L' := [_, _, _, _, _, _, _, _]) dX7_walk_29 (Nat.le_of_ble_eq_true rfl) rfl ?_
    refine a_iconst (v := nI 0) dX7_walk_31 (by decide) ?_
    refine a_istore (L' := [_, _, _, _, _, _, _, _]) dX7_walk_32 (Nat.le_of_ble_eq_true rfl) rfl ?_
    refine a_mem (show am_up _ _ _ _ = am_up I 47 (N * a + b) (nI (wyR F T S n b N a)) by rw [show min 6 (wyR F T S n b N a) = wyR F T S n b N a by omega]) ?_
    refine lp_wk1b hb hp (show wyR F T S n b N a ≤ 5 by omega) _ a 0 _ _ (rwC_fr hR (am_up_ne (by decide)) (fun l hl => am_up_ne (by omega))) (fun y hy => by rw [am_up_ne (by decide)]; exact hw y hy) am_up_same rfl (by omega) ha (fun I1 hf1 hL1 hs1 => ?_)
    refine hK I1 ⟨fun k k1 k2 => by rw [hf1.1 k k1 k2, am_up_ne k1], fun s hs => by rw [hf1.2.1 s hs, am_up_slot hs], fun s hs => by rw [hf1.2.2 s (by omega), am_up_ne (by decide)]⟩ ⟨by rw [hL1, am_up_same, if_pos (by omega)], fun _ i x e => hs1 i x e⟩

def rvPb (F T : Nat → Nat) (S : Nat → Bool) (n N t c : Nat) (I I0 : am_I) : Prop := (∀ k, k ≠ 3 → k ≠ 47 → k ≠ 48 → k ≠ 49 → I k = I0 k) ∧ I 3 0 = nI (N * N) ∧ ∀ a b, a < N → b < N → (b < t ∨ b = t ∧ a < c) → rvQ 47 48 F T S n N a b I
theorem rvPb_rw {F T : Nat → Nat} {S : Nat → Bool} {n N t c : Nat} {I I0 : am_I} {wo : Int32} (hR : rwC I0 wo N n F T S) (h : rvPb F T S n N t c I I0) : rwC I wo N n F T S := rwC_fr hR (h.1 1 (by decide) (by decide) (by decide) (by decide)) (fun l hl => h.1 _ (by omega) (by omega) (by omega) (by omega))
theorem rvPb_away {F T : Nat → Nat} {S : Nat → Bool} {n N t : Nat} {I I1 I0 : am_I} (h : rvPb F T S n N t 0 I I0) (hf : frA 49 I1 I) : rvPb F T S n N t 0 I1 I0 :=
  ⟨fun k k1 k2 k3 k4 => by rw [hf k k4]; exact h.1 k k1 k2 k3 k4, by rw [hf _ (by decide)]; exact h.2.1, fun a b ha hb q => by
    have := h.2.2 a b ha hb q
    unfold rvQ at this ⊢
    rw [hf 47 (by decide), hf 48 (by decide)]
    exact this⟩
theorem rvPb_walk {F T : Nat → Nat} {S : Nat → Bool} {n N t c : Nat} {I I1 I0 : am_I} (hN : N ≤ 6) (hto : ∀ l, l < n → T l < N) (ht : t < N) (hc : c < N) (h : rvPb F T S n N t c I I0) (hf : wkF 47 48 (N * c + t) 0 I1 I) (hq : rvQ 47 48 F T S n N c t I1) : rvPb F T S n N t (c + 1) I1 I0 :=
  ⟨fun k k1 k2 k3 k4 => by rw [hf.1 k k2 k3]; exact h.1 k k1 k2 k3 k4, by rw [hf.1 _ (by decide) (by decide)]; exact h.2.1, fun a b ha hb q => by
    by_cases e : N * a + b = N * c + t
    · obtain ⟨rfl, rfl⟩ := ix_inj hb ht e
      exact hq
    · refine rvQ_fr (h.2.2 a b ha hb ?_) hf e (fun z => (rtO_len hN ha hb hto z).2.1)
      rcases q with q | ⟨q1, q2⟩
      · exact Or.inl q
      · refine Or.inr ⟨q1, ?_⟩
        rcases Nat.lt_or_ge a c with z | z
        · exact z
        · exact absurd (by rw [show a = c by omega, q1]) e⟩
theorem rvPb_next {F T : Nat → Nat} {S : Nat → Bool} {n N t : Nat} {I I0 : am_I} (h : rvPb F T S n N t N I I0) : rvPb F T S n N (t + 1) 0 I I0 :=
  ⟨h.1, h.2.1, fun a b ha hb q => h.2.2 a b ha hb (by omega)⟩
set_option maxHeartbeats 4000000 in
set_option maxRecDepth 100000 in
theorem lp_fi2b {G : am_G} {d : Nat} {I0 : am_I} {J : am_J} {wo : Int32} {N n : Nat} {F T : Nat → Nat} {S : Nat → Bool} (hR : rwC I0 wo N n F T S) {Ex : am_Ex} {b : Nat} (hb : b < N) (kx : ∀ (I : am_I), rvPb F T S n N b N I I0 → AW G cX7_find 5 RX7 (d + 2) Ex 63 [some (.ref 3), some (.ref 1), some (.int wo), some (.int (nI b)), some (.int (nI N))] [] I J) : ∀ c, c ≤ N → ∀ (I : am_I), rvPb F T S n N b c I I0 → awP 49 (wyR F T S n b N) I → AW G cX7_find 5 RX7 (d + 2) Ex 33 [some (.ref 3), some (.ref 1), some (.int wo), some (.int (nI b)), some (.int (nI c))] [] I J := by
  refine am_dn N (fun c hc ih => ?_)
  intro I hp hw
  have hR1 := rvPb_rw hR hp
  obtain ⟨r1, r2, r3, r4, r5, r6, r7⟩ := id hR1
  refine a_iload dX7_find_33 rfl ?_
  refine a_aload_n dX7_find_35 rfl ?_
  refine a_geti dX7_find_36 kf_X7_25 ⟨by decide, _, rfl, rfl⟩ r1 ?_
  refine a_icmp_geN (tgt := 63) dX7_find_39 (by decide) (by omega) (by omega) (fun h => ?_) (fun h => ?_)
  · obtain rfl : c = N := by omega
    exact kx I hp
  · refine a_aload_n dX7_find_42 rfl ?_
    refine a_aload_n dX7_find_43 rfl ?_
    refine a_iload_n dX7_find_44 rfl ?_
    refine a_iload dX7_find_45 rfl ?_
    refine a_aload_n dX7_find_47 rfl ?_
    refine a_iload dX7_find_48 rfl ?_
    refine a_iload_n dX7_find_50 rfl ?_
    refine a_callVi (As := [_, _]) dX7_find_51 km_X7_34 ⟨by decide, _, _, _, rfl, rfl⟩ rfl rfl (Nat.le_of_ble_eq_true rfl) ?_
    refine n_pairNumber r1 ?_
    refine a_callVv (As := [_, _, _, _]) dX7_find_54 km_X7_38 ⟨by decide, _, _, _, rfl, rfl⟩ rfl rfl (Nat.le_of_ble_eq_true rfl) ?_
    refine r_walkb hR1 h hb hw (fun I1 hf hq => ?_)
    refine a_iinc (L' := [_, _, _, _, _]) dX7_find_57 rfl (nI_inc _) rfl ?_
    refine a_goto (tgt := 33) dX7_find_60 (by decide) ?_
    exact ih (c + 1) (by omega) (by omega) I1 (rvPb_walk r3 (fun l hl => (r6 l hl).2.2.2) hb h hp hf hq) (fun y hy => by rw [hf.1 _ (by decide) (by decide)]; exact hw y hy)

set_option maxHeartbeats 4000000 in
set_option maxRecDepth 100000 in
theorem lp_fi1b {G : am_G} {d : Nat} {I0 : am_I} {J : am_J} {wo : Int32} {N n : Nat} {F T : Nat → Nat} {S : Nat → Bool} (hR : rwC I0 wo N n F T S) {K : am_I → am_J → Prop} (hK : ∀ I, rvPb F T S n N N 0 I I0 → K I J) : ∀ b, b ≤ N → ∀ (I : am_I) (v4 : Option Value), rvPb F T S n N b 0 I I0 → AW G cX7_find 5 RX7 (d + 2) (am_ex G none (fun r I J => r = none ∧ K I J)) 15 [some (.ref 3), some (.ref 1), some (.int wo), some (.int (nI b)), v4] [] I J := by
  refine am_dn N (fun b hb ih => ?_)
  intro I v4 hp
  have hR1 := rvPb_rw hR hp
  obtain ⟨r1, r2, r3, r4, r5, r6, r7⟩ := id hR1
  refine a_iload_n dX7_find_15 rfl ?_
  refine a_aload_n dX7_find_16 rfl ?_
  refine a_geti dX7_find_17 kf_X7_25 ⟨by decide, _, rfl, rfl⟩ r1 ?_
  refine a_icmp_geN (tgt := 69) dX7_find_20 (by decide) (by omega) (by omega) (fun h => ?_) (fun h => ?_)
  · obtain rfl : b = N := by omega
    exact a_vreturn dX7_find_69 ⟨rfl, (hK I hp)⟩
  · refine a_aload_n dX7_find_23 rfl ?_
    refine a_aload_n dX7_find_24 rfl ?_
    refine a_iload_n dX7_find_25 rfl ?_
    refine a_iload_n dX7_find_26 rfl ?_
    refine a_callVv (As := [_, _, _]) dX7_find_27 km_X7_30 ⟨by decide, _, _, _, rfl, rfl⟩ rfl rfl (Nat.le_of_ble_eq_true rfl) ?_
    refine r_measureb hR1 h (fun I1 hf hw => ?_)
    refine a_iconst (v := nI 0) dX7_find_30 (by decide) ?_
    refine a_istore (L' := [_, _, _, _, _]) dX7_find_31 (Nat.le_of_ble_eq_true rfl) rfl ?_
    refine lp_fi2b hR h (fun I hp => ?_) 0 (by omega) I1 (rvPb_away hp hf) hw
    refine a_iinc (L' := [_, _, _, _, _]) dX7_find_63 rfl (nI_inc _) rfl ?_
    refine a_goto (tgt := 15) dX7_find_66 (by decide) ?_
    exact ih (b + 1) (by omega) (by omega) I _ (rvPb_next hp)

set_option maxHeartbeats 4000000 in
set_option maxRecDepth 100000 in
theorem r_findb {G : am_G} {d : Nat} {I : am_I} {J : am_J} {K : am_I → am_J → Prop} {wo : Int32} {N n : Nat} {F T : Nat → Nat} {S : Nat → Bool} (hR : rwC I wo N n F T S) (hK : ∀ I1, (∀ k, k ≠ 3 → k ≠ 47 → k ≠ 48 → k ≠ 49 → I1 k = I k) → rvC 3 47 48 F T S n N I1 → K I1 J) : CMv G (d + 2) yX7_find [.ref 3, .ref 1, .int wo] I J K := by
  refine CM.of (L0 := [_, _, _, _, _]) cX7_find 5 none (by decide) (by decide) kcX7_find (Nat.le_of_ble_eq_true rfl) rfl ?_
  refine a_aload_n dX7_find_0 rfl ?_
  refine a_aload_n dX7_find_1 rfl ?_
  refine a_geti dX7_find_2 kf_X7_25 ⟨by decide, _, rfl, rfl⟩ hR.1 ?_
  refine a_aload_n dX7_find_5 rfl ?_
  refine a_geti dX7_find_6 kf_X7_25 ⟨by decide, _, rfl, rfl⟩ hR.1 ?_
  refine a_imul dX7_find_9 (by first | exact pk_mul _ _ | rfl) ?_
  refine a_puti dX7_find_10 kp_X7_9 ⟨by decide, _, rfl, rfl⟩ ?_
  refine a_iconst (v := nI 0) dX7_find_13 (by decide) ?_
  refine a_istore_n (L' := [_, _, _, _, _]) dX7_find_14 (Nat.le_of_ble_eq_true rfl) rfl ?_
  exact lp_fi1b hR (fun I1 h => hK I1 h.1 ⟨h.2.1, fun a b ha hb => h.2.2 a b ha hb (Or.inl hb)⟩) 0 (by omega) _ _ ⟨fun k k1 _ _ _ => am_up_ne k1, am_up_same, fun a b _ _ q => by omega⟩

