/-! ===== the reference: bound, sure, route, mark ===== -/

set_option maxHeartbeats 4000000 in
set_option maxRecDepth 100000 in
theorem c_bound {G : am_G} {d : Nat} {I : am_I} {J : am_J} {K : Int32 → am_I → am_J → Prop} {N n : Nat} {F T : Nat → Nat} {S : Nat → Bool} {x y z u : Int32} (hR : rwR I (-9) N n F T S) (hme : ∀ p, p < 36 → vlP (I 72 p)) (hca : ∀ l, l < n → vlP (I 70 l)) (hz : z = 0 ∨ z = 1)
  (h1 : ∀ p q lim, p < N → q < N → p ≠ q → x = nI p → y = nI q → 1 ≤ lim → lim ≤ 20000 → u = nI lim → ∀ I' t c, sbP I' I N n F T S → I' 63 29 = nI t → runS (bdP (skQ I N n F T S) (skL I N n F T S).length) lim 0 (evI I N n F T S) bd0 = (t, 0, c) → K (if c.1 = true then (if z = 0 then c.2.1 (N * p + q) else c.2.2 (N * p + q)) else -9) I' J)
  (h2 : ∀ lim, isPr N x y → 1 ≤ lim → lim ≤ 20000 → u = nI lim → ∀ I' t c, sbP I' I N n F T S → I' 63 29 = nI t → runS (bdP (skQ I N n F T S) (skL I N n F T S).length) lim 0 (evI I N n F T S) bd0 = (t, 1, c) → K (-6) I' J) (h0 : ¬ (isPr N x y ∧ nI 1 ≤ u ∧ u ≤ nI 20000) → K (-1) I J) : CMi G (d + 5) yX12_bound [.ref 63, .int x, .int y, .int z, .int u] I J K := by
  refine CM.of (L0 := [_, _, _, _, _, _]) cX12_bound 6 (some .int) (by decide) (by decide) kcX12_bound (Nat.le_of_ble_eq_true rfl) rfl ?_
  have hR' := hR
  obtain ⟨hN, hN2, hb, r4, r5, r6, r7⟩ := hR'
  refine a_aload_n dX12_bound_0 rfl ?_
  refine a_iload_n dX12_bound_1 rfl ?_
  refine a_iload_n dX12_bound_2 rfl ?_
  refine a_callVi (As := [_, _]) dX12_bound_3 km_X12_174 ⟨by decide, _, _, _, rfl, rfl⟩ rfl rfl (Nat.le_of_ble_eq_true rfl) ?_
  refine c_isPair hN (by omega) (fun p q hp hq hpq e1 e2 => ?_) (fun e1 => ?_)
  · subst e1 e2
    refine a_if_eq (tgt := 17) dX12_bound_6 (by decide) (fun h6 => ?_) (fun h6 => ?_)
    · exact absurd h6 (by decide)
    · refine a_iload dX12_bound_9 rfl ?_
      refine a_callSi (As := [_]) dX12_bound_11 km_X12_206 rfl rfl (Nat.le_of_ble_eq_true rfl) ?_
      refine c_areTries (fun lim hl1 hl2 e1 => ?_) (fun e1 => ?_)
      · subst e1
        refine a_if_ne (tgt := 19) dX12_bound_14 (by decide) (fun h14 => ?_) (fun h14 => ?_)
        · refine a_aload_n dX12_bound_19 rfl ?_
          refine a_iload dX12_bound_20 rfl ?_
          refine a_callVi (As := [_]) dX12_bound_22 km_X12_219 ⟨by decide, _, _, _, rfl, rfl⟩ rfl rfl (Nat.le_of_ble_eq_true rfl) ?_
          refine c_setBounds hR hme hca hl1 hl2 (fun I' t c hsb ht hw hrun => ?_) (fun I' t c hsb ht hrun => ?_)
          · have hN' : I' 63 3 = nI N := by rw [hsb.1 63 3 (by omega) (by omega)]; exact hN
            have hix := ix_lt hb hp hq
            have hk := h1 p q lim hp hq hpq rfl rfl hl1 hl2 rfl I' t c hsb ht hrun
            obtain ⟨w1, w2⟩ := hw _ hix
            cases hc : c.1
            · rw [hc, if_neg (by decide)] at hk
              refine a_istore (L' := [_, _, _, _, _, _]) dX12_bound_25 (Nat.le_of_ble_eq_true rfl) rfl ?_
              refine a_iload dX12_bound_27 rfl ?_
              refine a_if_ge (tgt := 37) dX12_bound_29 (by decide) (fun h29 => ?_) (fun h29 => ?_)
              · refine a_iload dX12_bound_37 rfl ?_
                refine a_if_ne (tgt := 47) dX12_bound_39 (by decide) (fun h39 => ?_) (fun h39 => ?_)
                · exact absurd (show bI false = 0 by decide) h39
                · refine a_bipush (v := (-9)) dX12_bound_42 (by decide) ?_
                  refine a_goto (tgt := 80) dX12_bound_44 (by decide) ?_
                  exact a_ireturn dX12_bound_80 ⟨_, rfl, hk⟩
              · exact absurd (show (0 : Int32) ≤ bI false by decide) h29
            · rw [hc, if_pos rfl] at hk
              refine a_istore (L' := [_, _, _, _, _, _]) dX12_bound_25 (Nat.le_of_ble_eq_true rfl) rfl ?_
              refine a_iload dX12_bound_27 rfl ?_
              refine a_if_ge (tgt := 37) dX12_bound_29 (by decide) (fun h29 => ?_) (fun h29 => ?_)
              · refine a_iload dX12_bound_37 rfl ?_
                refine a_if_ne (tgt := 47) dX12_bound_39 (by decide) (fun h39 => ?_) (fun h39 => ?_)
                · refine a_iload_n dX12_bound_47 rfl ?_
                  refine a_if_eq (tgt := 67) dX12_bound_48 (by decide) (fun h48 => ?_) (fun h48 => ?_)
                  · rw [if_pos h48] at hk
                    refine a_aload_n dX12_bound_67 rfl ?_
                    refine a_getr dX12_bound_68 kf_X12_81 ⟨by decide, _, rfl, rfl⟩ ?_
                    refine a_aload_n dX12_bound_71 rfl ?_
                    refine a_geti dX12_bound_72 kf_X12_13 ⟨by decide, _, rfl, rfl⟩ hN' ?_
                    refine a_iload_n dX12_bound_75 rfl ?_
                    refine a_imul dX12_bound_76 (by first | exact pk_mul _ _ | rfl) ?_
                    refine a_iload_n dX12_bound_77 rfl ?_
                    refine a_iadd dX12_bound_78 (by first | exact nI_add _ _ | rfl) ?_
                    refine a_iald dX12_bound_79 ⟨by decide, rfl⟩ hix w1 ?_
                    exact a_ireturn dX12_bound_80 ⟨_, rfl, hk⟩
                  · rw [if_neg h48] at hk
                    refine a_aload_n dX12_bound_51 rfl ?_
                    refine a_getr dX12_bound_52 kf_X12_84 ⟨by decide, _, rfl, rfl⟩ ?_
                    refine a_aload_n dX12_bound_55 rfl ?_
                    refine a_geti dX12_bound_56 kf_X12_13 ⟨by decide, _, rfl, rfl⟩ hN' ?_
                    refine a_iload_n dX12_bound_59 rfl ?_
                    refine a_imul dX12_bound_60 (by first | exact pk_mul _ _ | rfl) ?_
                    refine a_iload_n dX12_bound_61 rfl ?_
                    refine a_iadd dX12_bound_62 (by first | exact nI_add _ _ | rfl) ?_
                    refine a_iald dX12_bound_63 ⟨by decide, rfl⟩ hix w2 ?_
                    refine a_goto (tgt := 80) dX12_bound_64 (by decide) ?_
                    exact a_ireturn dX12_bound_80 ⟨_, rfl, hk⟩
                · exact absurd h39 (by decide)
              · exact absurd (show (0 : Int32) ≤ bI true by decide) h29
          · refine a_istore (L' := [_, _, _, _, _, _]) dX12_bound_25 (Nat.le_of_ble_eq_true rfl) rfl ?_
            refine a_iload dX12_bound_27 rfl ?_
            refine a_if_ge (tgt := 37) dX12_bound_29 (by decide) (fun h29 => ?_) (fun h29 => ?_)
            · exact absurd h29 (by decide)
            · refine a_iload dX12_bound_32 rfl ?_
              refine a_goto (tgt := 80) dX12_bound_34 (by decide) ?_
              exact a_ireturn dX12_bound_80 ⟨_, rfl, (h2 lim ⟨p, q, hp, hq, hpq, rfl, rfl⟩ hl1 hl2 rfl I' t c hsb ht hrun)⟩
        · exact absurd h14 (by decide)
      · refine a_if_ne (tgt := 19) dX12_bound_14 (by decide) (fun h14 => ?_) (fun h14 => ?_)
        · exact absurd h14 (by decide)
        · refine a_iconst (v := (-1)) dX12_bound_17 (by decide) ?_
          exact a_ireturn dX12_bound_18 ⟨_, rfl, (h0 (fun q => e1 q.2))⟩
  · refine a_if_eq (tgt := 17) dX12_bound_6 (by decide) (fun h6 => ?_) (fun h6 => ?_)
    · refine a_iconst (v := (-1)) dX12_bound_17 (by decide) ?_
      exact a_ireturn dX12_bound_18 ⟨_, rfl, (h0 (fun q => e1 q.1))⟩
    · exact absurd h6 (by decide)

def suQ (rb : Nat → Option Nat) (r : (Nat → Int32) × (Nat → Int32)) : Nat → Bool := fun p => (rb p).isSome && decide (r.1 p = r.2 p)
set_option maxHeartbeats 4000000 in
set_option maxRecDepth 100000 in
theorem lp_sure {G : am_G} {d : Nat} {I0 : am_I} {J : am_J} {K : Int32 → am_I → am_J → Prop} {x z : Int32} {N : Nat} {rb : Nat → Option Nat} {r : (Nat → Int32) × (Nat → Int32)} (hN : I0 63 3 = nI N) (hN6 : N ≤ 6) (hr : ∀ p, p < N * N → I0 78 p = fxI (rb p) ∧ ∀ q, rb p = some q → q < 2 ^ 12) (hw : rwB I0 r) (hK : K (nI (cN (suQ rb r) (N * N))) I0 J) : ∀ i, i ≤ N * N → AW G cX12_sure 5 RX12 d (am_ex G (some .int) (fun r I J => ∃ x, r = some (.int x) ∧ K x I J)) 36 [some (.ref 63), some (.int x), some (.int z), some (.int (nI (cN (suQ rb r) i))), some (.int (nI i))] [] I0 J := by
  have hsq := sq_le hN6
  refine am_dn (N * N) (fun i hi ih => ?_)
  refine a_iload dX12_sure_36 rfl ?_
  refine a_aload_n dX12_sure_38 rfl ?_
  refine a_geti dX12_sure_39 kf_X12_13 ⟨by decide, _, rfl, rfl⟩ hN ?_
  refine a_aload_n dX12_sure_42 rfl ?_
  refine a_geti dX12_sure_43 kf_X12_13 ⟨by decide, _, rfl, rfl⟩ hN ?_
  refine a_imul dX12_sure_46 (by first | exact pk_mul _ _ | rfl) ?_
  refine a_icmp_geN (tgt := 91) dX12_sure_47 (by decide) (by omega) (by omega) (fun h => ?_) (fun h => ?_)
  · obtain rfl : i = N * N := by omega
    refine a_iload_n dX12_sure_91 rfl ?_
    exact a_ireturn dX12_sure_92 ⟨_, rfl, hK⟩
  · obtain ⟨q1, q2⟩ := hr i h
    obtain ⟨w1, w2⟩ := hw i (by omega)
    refine a_iload_n dX12_sure_50 rfl ?_
    refine a_join 83 [.int (if suQ rb r i = true then nI 1 else nI 0), .int (nI (cN (suQ rb r) i))] ?_ (fun kj => ?_)
    · refine a_iadd dX12_sure_83 (show _ = (nI (cN (suQ rb r) (i + 1))) by rw [cN_s]; by_cases e : suQ rb r i = true <;> simp [e, nI_add, nI_0]) ?_
      refine a_istore_n (L' := [_, _, _, _, _]) dX12_sure_84 (Nat.le_of_ble_eq_true rfl) rfl ?_
      refine a_iinc (L' := [_, _, _, _, _]) dX12_sure_85 rfl (nI_inc _) rfl ?_
      refine a_goto (tgt := 36) dX12_sure_88 (by decide) ?_
      exact ih (i + 1) (by omega) (by omega)
    · refine a_aload_n dX12_sure_51 rfl ?_
      refine a_getr dX12_sure_52 kf_X12_57 ⟨by decide, _, rfl, rfl⟩ ?_
      refine a_iload dX12_sure_55 rfl ?_
      refine a_iald dX12_sure_57 ⟨by decide, rfl⟩ (by omega) q1 ?_
      refine a_if_lt (tgt := 82) dX12_sure_58 (by decide) (fun h58 => ?_) (fun h58 => ?_)
      · have hn : rb i = none := by cases hrb : rb i with
          | none => rfl
          | some q => rw [hrb] at h58; exact absurd h58 (nI_pos (by have := q2 q hrb; omega))
        refine a_iconst (v := nI 0) dX12_sure_82 (by decide) ?_
        exact a_topi (by simp [suQ, hn]) kj
      · obtain ⟨q, hrb⟩ : ∃ q, rb i = some q := by
          cases hrb : rb i with
          | none => rw [hrb] at h58; exact absurd (show fxI none < 0 by decide) h58
          | some r => exact ⟨r, rfl⟩
        refine a_aload_n dX12_sure_61 rfl ?_
        refine a_getr dX12_sure_62 kf_X12_81 ⟨by decide, _, rfl, rfl⟩ ?_
        refine a_iload dX12_sure_65 rfl ?_
        refine a_iald dX12_sure_67 ⟨by decide, rfl⟩ (by omega) w1 ?_
        refine a_aload_n dX12_sure_68 rfl ?_
        refine a_getr dX12_sure_69 kf_X12_84 ⟨by decide, _, rfl, rfl⟩ ?_
        refine a_iload dX12_sure_72 rfl ?_
        refine a_iald dX12_sure_74 ⟨by decide, rfl⟩ (by omega) w2 ?_
        refine a_icmp_ne (tgt := 82) dX12_sure_75 (by decide) (fun h75 => ?_) (fun h75 => ?_)
        · refine a_iconst (v := nI 0) dX12_sure_82 (by decide) ?_
          exact a_topi (by simp [suQ, hrb, h75]) kj
        · refine a_iconst (v := nI 1) dX12_sure_78 (by decide) ?_
          refine a_goto (tgt := 83) dX12_sure_79 (by decide) ?_
          exact a_topi (by simp [suQ, hrb, h75]) kj

set_option maxHeartbeats 4000000 in
set_option maxRecDepth 100000 in
theorem c_sure {G : am_G} {d : Nat} {I : am_I} {J : am_J} {K : Int32 → am_I → am_J → Prop} {N n : Nat} {F T : Nat → Nat} {S : Nat → Bool} {x : Int32} (hR : rwR I (-9) N n F T S) (hme : ∀ p, p < 36 → vlP (I 72 p)) (hca : ∀ l, l < n → vlP (I 70 l))
  (h1 : ∀ lim, 1 ≤ lim → lim ≤ 20000 → x = nI lim → ∀ I' t c, sbP I' I N n F T S → I' 63 29 = nI t → runS (bdP (skQ I N n F T S) (skL I N n F T S).length) lim 0 (evI I N n F T S) bd0 = (t, 0, c) → K (if c.1 = true then nI (cN (suQ (rbO F T S n N) c.2) (N * N)) else -9) I' J)
  (h2 : ∀ lim, 1 ≤ lim → lim ≤ 20000 → x = nI lim → ∀ I' t c, sbP I' I N n F T S → I' 63 29 = nI t → runS (bdP (skQ I N n F T S) (skL I N n F T S).length) lim 0 (evI I N n F T S) bd0 = (t, 1, c) → K (-6) I' J) (h0 : ¬ (nI 1 ≤ x ∧ x ≤ nI 20000) → K (-1) I J) : CMi G (d + 5) yX12_sure [.ref 63, .int x] I J K := by
  refine CM.of (L0 := [_, _, _, _, _]) cX12_sure 5 (some .int) (by decide) (by decide) kcX12_sure (Nat.le_of_ble_eq_true rfl) rfl ?_
  have hR' := hR
  obtain ⟨hN, hN2, hb, r4, r5, r6, r7⟩ := hR'
  refine a_iload_n dX12_sure_0 rfl ?_
  refine a_callSi (As := [_]) dX12_sure_1 km_X12_206 rfl rfl (Nat.le_of_ble_eq_true rfl) ?_
  refine c_areTries (fun lim hl1 hl2 e1 => ?_) (fun e1 => ?_)
  · subst e1
    refine a_if_ne (tgt := 9) dX12_sure_4 (by decide) (fun h4 => ?_) (fun h4 => ?_)
    · refine a_aload_n dX12_sure_9 rfl ?_
      refine a_iload_n dX12_sure_10 rfl ?_
      refine a_callVi (As := [_]) dX12_sure_11 km_X12_219 ⟨by decide, _, _, _, rfl, rfl⟩ rfl rfl (Nat.le_of_ble_eq_true rfl) ?_
      refine c_setBounds hR hme hca hl1 hl2 (fun I' t c hsb ht hw hrun => ?_) (fun I' t c hsb ht hrun => ?_)
      · have hN' : I' 63 3 = nI N := by rw [hsb.1 63 3 (by omega) (by omega)]; exact hN
        have hk := h1 lim hl1 hl2 rfl I' t c hsb ht hrun
        cases hc : c.1
        · rw [hc, if_neg (by decide)] at hk
          refine a_istore_n (L' := [_, _, _, _, _]) dX12_sure_14 (Nat.le_of_ble_eq_true rfl) rfl ?_
          refine a_iload_n dX12_sure_15 rfl ?_
          refine a_iconst (v := nI 1) dX12_sure_16 (by decide) ?_
          refine a_icmp_ge (tgt := 31) dX12_sure_17 (by decide) (fun h17 => ?_) (fun h17 => ?_)
          · exact absurd h17 (by decide)
          · refine a_iload_n dX12_sure_20 rfl ?_
            refine a_if_ge (tgt := 28) dX12_sure_21 (by decide) (fun h21 => ?_) (fun h21 => ?_)
            · refine a_bipush (v := (-9)) dX12_sure_28 (by decide) ?_
              exact a_ireturn dX12_sure_30 ⟨_, rfl, hk⟩
            · exact absurd (show (0 : Int32) ≤ bI false by decide) h21
        · rw [hc, if_pos rfl] at hk
          refine a_istore_n (L' := [_, _, _, _, _]) dX12_sure_14 (Nat.le_of_ble_eq_true rfl) rfl ?_
          refine a_iload_n dX12_sure_15 rfl ?_
          refine a_iconst (v := nI 1) dX12_sure_16 (by decide) ?_
          refine a_icmp_ge (tgt := 31) dX12_sure_17 (by decide) (fun h17 => ?_) (fun h17 => ?_)
          · refine a_iconst (v := nI 0) dX12_sure_31 (by decide) ?_
            refine a_istore_n (L' := [_, _, _, _, _]) dX12_sure_32 (Nat.le_of_ble_eq_true rfl) rfl ?_
            refine a_iconst (v := nI 0) dX12_sure_33 (by decide) ?_
            refine a_istore (L' := [_, _, _, _, _]) dX12_sure_34 (Nat.le_of_ble_eq_true rfl) rfl ?_
            exact lp_sure hN' hb (fun p hp => ⟨hsb.2.2.2 p hp, fun q hq => rbO_lt hN2 r5 (fun l hl => (r6 l hl).2.2.2) hp hq⟩) hw hk 0 (by omega)
          · exact absurd (show nI 1 ≤ bI true by decide) h17
      · refine a_istore_n (L' := [_, _, _, _, _]) dX12_sure_14 (Nat.le_of_ble_eq_true rfl) rfl ?_
        refine a_iload_n dX12_sure_15 rfl ?_
        refine a_iconst (v := nI 1) dX12_sure_16 (by decide) ?_
        refine a_icmp_ge (tgt := 31) dX12_sure_17 (by decide) (fun h17 => ?_) (fun h17 => ?_)
        · exact absurd h17 (by decide)
        · refine a_iload_n dX12_sure_20 rfl ?_
          refine a_if_ge (tgt := 28) dX12_sure_21 (by decide) (fun h21 => ?_) (fun h21 => ?_)
          · exact absurd h21 (by decide)
          · refine a_iload_n dX12_sure_24 rfl ?_
            refine a_goto (tgt := 30) dX12_sure_25 (by decide) ?_
            exact a_ireturn dX12_sure_30 ⟨_, rfl, (h2 lim hl1 hl2 rfl I' t c hsb ht hrun)⟩
    · exact absurd h4 (by decide)
  · refine a_if_ne (tgt := 9) dX12_sure_4 (by decide) (fun h4 => ?_) (fun h4 => ?_)
    · exact absurd h4 (by decide)
    · refine a_iconst (v := (-1)) dX12_sure_7 (by decide) ?_
      exact a_ireturn dX12_sure_8 ⟨_, rfl, (h0 e1)⟩

theorem rtB_neg {F T : Nat → Nat} {S : Nat → Bool} {n N a b : Nat} (h : ¬ (a = b ∨ 100 ≤ wyR F T S n b N a)) : rtB F T S n N a b = nI (bN (rtO F T S n N a b)) := if_neg h
theorem rtB_pos {F T : Nat → Nat} {S : Nat → Bool} {n N a b : Nat} (h : a = b ∨ 100 ≤ wyR F T S n b N a) : rtB F T S n N a b = -9 := if_pos h
set_option maxHeartbeats 4000000 in
set_option maxRecDepth 100000 in
theorem c_route {G : am_G} {d : Nat} {I : am_I} {J : am_J} {K : Int32 → am_I → am_J → Prop} {N n : Nat} {F T : Nat → Nat} {S : Nat → Bool} {x y z : Int32} (hR : rwR I (-9) N n F T S)
  (h1 : ∀ p q, p < N → q < N → p ≠ q → x = nI p → y = nI q → wyR F T S n q N p < 100 → ∀ I', frR I' I → K (if z = -1 then nI (rtO F T S n N p q).length else lnAt z (rtO F T S n N p q) 0 (-9)) I' J)
  (h2 : ∀ p q, p < N → q < N → p ≠ q → x = nI p → y = nI q → 100 ≤ wyR F T S n q N p → ∀ I', frR I' I → K (-9) I' J) (h0 : ¬ isPr N x y → K (-1) I J) : CMi G (d + 3) yX12_route [.ref 63, .int x, .int y, .int z] I J K := by
  refine CM.of (L0 := [_, _, _, _, _]) cX12_route 5 (some .int) (by decide) (by decide) kcX12_route (Nat.le_of_ble_eq_true rfl) rfl ?_
  have hR' := hR
  obtain ⟨hN, hN2, hb, r4, r5, r6, r7⟩ := hR'
  refine a_aload_n dX12_route_0 rfl ?_
  refine a_iload_n dX12_route_1 rfl ?_
  refine a_iload_n dX12_route_2 rfl ?_
  refine a_callVi (As := [_, _]) dX12_route_3 km_X12_174 ⟨by decide, _, _, _, rfl, rfl⟩ rfl rfl (Nat.le_of_ble_eq_true rfl) ?_
  refine c_isPair hN (by omega) (fun p q hp hq hpq e1 e2 => ?_) (fun e1 => ?_)
  · subst e1 e2
    refine a_if_ne (tgt := 11) dX12_route_6 (by decide) (fun h6 => ?_) (fun h6 => ?_)
    · refine a_aload_n dX12_route_11 rfl ?_
      refine a_bipush (v := (-9)) dX12_route_12 (by decide) ?_
      refine a_callVv (As := [_]) dX12_route_14 km_X12_148 ⟨by decide, _, _, _, rfl, rfl⟩ rfl rfl (Nat.le_of_ble_eq_true rfl) ?_
      refine c_setRoutes hR (fun I1 hM => ?_)
      obtain ⟨m1, m2, m3⟩ := hM
      have hN1 : I1 63 3 = nI N := by rw [m1 63 3 (by decide) (by decide) (by decide)]; exact hN
      have hlt : bN (rtO F T S n N p q) < 2 ^ 12 ∨ 100 ≤ wyR F T S n q N p := by
        rcases Nat.lt_or_ge (wyR F T S n q N p) 100 with z | z
        · exact Or.inl (bN_lt (fun l hl => by have := (rtL_lt hq (fun l hl => (r6 l hl).2.2.2) _ _ hp rfl z).1 l hl; omega))
        · exact Or.inr z
      refine a_aload_n dX12_route_17 rfl ?_
      refine a_getr dX12_route_18 kf_X12_48 ⟨by decide, _, rfl, rfl⟩ ?_
      refine a_aload_n dX12_route_21 rfl ?_
      refine a_geti dX12_route_22 kf_X12_13 ⟨by decide, _, rfl, rfl⟩ hN1 ?_
      refine a_iload_n dX12_route_25 rfl ?_
      refine a_imul dX12_route_26 (by first | exact pk_mul _ _ | rfl) ?_
      refine a_iload_n dX12_route_27 rfl ?_
      refine a_iadd dX12_route_28 (by first | exact nI_add _ _ | rfl) ?_
      refine a_iald dX12_route_29 ⟨by decide, rfl⟩ (ix_lt hb hp hq) (m3 p q hp hq) ?_
      refine a_if_ge (tgt := 36) dX12_route_30 (by decide) (fun h30 => ?_) (fun h30 => ?_)
      · have hw : wyR F T S n q N p < 100 := by
          rcases Nat.lt_or_ge (wyR F T S n q N p) 100 with z | z
          · exact z
          · rw [rtB_pos (Or.inr z)] at h30; exact absurd h30 (by decide)
        refine a_aload_n dX12_route_36 rfl ?_
        refine a_iload_n dX12_route_37 rfl ?_
        refine a_iload_n dX12_route_38 rfl ?_
        refine a_bipush (v := (-9)) dX12_route_39 (by decide) ?_
        refine a_iload_n dX12_route_41 rfl ?_
        refine a_callVi (As := [_, _, _, _]) dX12_route_42 km_X12_164 ⟨by decide, _, _, _, rfl, rfl⟩ rfl rfl (Nat.le_of_ble_eq_true rfl) ?_
        refine c_routeOf (rwR_fr hR m1) hp hq (fun a ha => m2 a q ha hq) hw ?_
        refine a_istore (L' := [_, _, _, _, _]) dX12_route_45 (Nat.le_of_ble_eq_true rfl) rfl ?_
        refine a_iload_n dX12_route_47 rfl ?_
        refine a_iconst (v := (-1)) dX12_route_48 (by decide) ?_
        refine a_ticmp_ne (tgt := 59) (pj := 63) (a := (lnAt z (rtO F T S n N p q) 0 (-9))) (b := (nI (rtO F T S n N p q).length)) dX12_route_49 (by decide) (fun kj => ?_) (fun kj => ?_) ?_
        · refine a_aload_n dX12_route_59 rfl ?_
          refine a_geti dX12_route_60 kf_X12_171 ⟨by decide, _, rfl, rfl⟩ rfl ?_
          exact kj
        · refine a_aload_n dX12_route_52 rfl ?_
          refine a_geti dX12_route_53 kf_X12_168 ⟨by decide, _, rfl, rfl⟩ rfl ?_
          refine a_goto (tgt := 63) dX12_route_56 (by decide) ?_
          exact kj
        exact a_ireturn dX12_route_63 ⟨_, rfl, (h1 p q hp hq hpq rfl rfl hw _ (frR_mRt m1 _ _))⟩
      · refine a_bipush (v := (-9)) dX12_route_33 (by decide) ?_
        exact a_ireturn dX12_route_35 ⟨_, rfl, (h2 p q hp hq hpq rfl rfl (by
            rcases Nat.lt_or_ge (wyR F T S n q N p) 100 with z | z
            · rw [rtB_neg (fun e => by omega)] at h30; exact absurd (nI_pos' (by omega)) h30
            · exact z) I1 m1)⟩
    · exact absurd h6 (by decide)
  · refine a_if_ne (tgt := 11) dX12_route_6 (by decide) (fun h6 => ?_) (fun h6 => ?_)
    · exact absurd h6 (by decide)
    · refine a_iconst (v := (-1)) dX12_route_9 (by decide) ?_
      exact a_ireturn dX12_route_10 ⟨_, rfl, (h0 e1)⟩

def onQ (rb : Nat → Option Nat) (l : Nat) : Nat → Bool := fun p => ((rb p).getD 0).testBit l
set_option maxHeartbeats 4000000 in
set_option maxRecDepth 100000 in
theorem lp_mark {G : am_G} {d : Nat} {I0 : am_I} {J : am_J} {K : Int32 → am_I → am_J → Prop} {y z : Int32} {N l : Nat} {rb : Nat → Option Nat} (hN : I0 63 3 = nI N) (hN6 : N ≤ 6) (hl : l < 12) (hr : ∀ p, p < N * N → I0 75 p = fxI (rb p) ∧ ∀ q, rb p = some q → q < 2 ^ 12) (hK : K (nI (cN (onQ rb l) (N * N))) I0 J) : ∀ i, i ≤ N * N → AW G cX12_mark 6 RX12 d (am_ex G (some .int) (fun r I J => ∃ x, r = some (.int x) ∧ K x I J)) 81 [some (.ref 63), some (.int (nI l)), some (.int y), some (.int z), some (.int (nI (cN (onQ rb l) i))), some (.int (nI i))] [] I0 J := by
  have hsq := sq_le hN6
  refine am_dn (N * N) (fun i hi ih => ?_)
  refine a_iload dX12_mark_81 rfl ?_
  refine a_aload_n dX12_mark_83 rfl ?_
  refine a_geti dX12_mark_84 kf_X12_13 ⟨by decide, _, rfl, rfl⟩ hN ?_
  refine a_aload_n dX12_mark_87 rfl ?_
  refine a_geti dX12_mark_88 kf_X12_13 ⟨by decide, _, rfl, rfl⟩ hN ?_
  refine a_imul dX12_mark_91 (by first | exact pk_mul _ _ | rfl) ?_
  refine a_icmp_geN (tgt := 136) dX12_mark_92 (by decide) (by omega) (by omega) (fun h => ?_) (fun h => ?_)
  · obtain rfl : i = N * N := by omega
    refine a_iload dX12_mark_136 rfl ?_
    exact a_ireturn dX12_mark_138 ⟨_, rfl, hK⟩
  · obtain ⟨q1, q2⟩ := hr i h
    refine a_iload dX12_mark_95 rfl ?_
    refine a_join 127 [.int (if onQ rb l i = true then nI 1 else nI 0), .int (nI (cN (onQ rb l) i))] ?_ (fun kj => ?_)
    · refine a_iadd dX12_mark_127 (show _ = (nI (cN (onQ rb l) (i + 1))) by rw [cN_s]; by_cases e : onQ rb l i = true <;> simp [e, nI_add, nI_0]) ?_
      refine a_istore (L' := [_, _, _, _, _, _]) dX12_mark_128 (Nat.le_of_ble_eq_true rfl) rfl ?_
      refine a_iinc (L' := [_, _, _, _, _, _]) dX12_mark_130 rfl (nI_inc _) rfl ?_
      refine a_goto (tgt := 81) dX12_mark_133 (by decide) ?_
      exact ih (i + 1) (by omega) (by omega)
    · refine a_aload_n dX12_mark_97 rfl ?_
      refine a_getr dX12_mark_98 kf_X12_48 ⟨by decide, _, rfl, rfl⟩ ?_
      refine a_iload dX12_mark_101 rfl ?_
      refine a_iald dX12_mark_103 ⟨by decide, rfl⟩ (by omega) q1 ?_
      refine a_if_lt (tgt := 126) dX12_mark_104 (by decide) (fun h104 => ?_) (fun h104 => ?_)
      · have hn : rb i = none := by cases hrb : rb i with
          | none => rfl
          | some q => rw [hrb] at h104; exact absurd h104 (nI_pos (by have := q2 q hrb; omega))
        refine a_iconst (v := nI 0) dX12_mark_126 (by decide) ?_
        exact a_topi (by simp [onQ, hn]) kj
      · obtain ⟨q, hrb⟩ : ∃ q, rb i = some q := by
          cases hrb : rb i with
          | none => rw [hrb] at h104; exact absurd (show fxI none < 0 by decide) h104
          | some r => exact ⟨r, rfl⟩
        have q3 := q2 q hrb
        have q4 : I0 75 i = nI q := by rw [q1, hrb]; rfl
        refine a_aload_n dX12_mark_107 rfl ?_
        refine a_getr dX12_mark_108 kf_X12_48 ⟨by decide, _, rfl, rfl⟩ ?_
        refine a_iload dX12_mark_111 rfl ?_
        refine a_iald dX12_mark_113 ⟨by decide, rfl⟩ (by omega) q4 ?_
        refine a_iload_n dX12_mark_114 rfl ?_
        refine a_ishr dX12_mark_115 rfl ?_
        refine a_iconst (v := nI 1) dX12_mark_116 (by decide) ?_
        refine a_iand dX12_mark_117 rfl ?_
        refine a_iconst (v := nI 1) dX12_mark_118 (by decide) ?_
        refine a_icmp_ne (tgt := 126) dX12_mark_119 (by decide) (fun h119 => ?_) (fun h119 => ?_)
        · refine a_iconst (v := nI 0) dX12_mark_126 (by decide) ?_
          exact a_topi (by rw [if_neg]; simp only [onQ, hrb, Option.getD_some]; exact fun z => h119 ((bx_bit1 (by omega) (by omega)).mpr z)) kj
        · refine a_iconst (v := nI 1) dX12_mark_122 (by decide) ?_
          refine a_goto (tgt := 127) dX12_mark_123 (by decide) ?_
          exact a_topi (by rw [if_pos]; simp only [onQ, hrb, Option.getD_some]; exact (bx_bit1 (by omega) (by omega)).mp h119) kj

theorem rb75 {I1 I : am_I} {oth : Int32} {N n : Nat} {F T : Nat → Nat} {S : Nat → Bool} (hR : rwR I oth N n F T S) (hM : rtM F T S N n I1 I) : ∀ p, p < N * N → I1 75 p = fxI (rbO F T S n N p) ∧ ∀ r, rbO F T S n N p = some r → r < 2 ^ 12 := fun p hp => by
  obtain ⟨r1, r2, r3, r4, r5, r6, r7⟩ := hR
  refine ⟨?_, fun r h => rbO_lt r2 r5 (fun l hl => (r6 l hl).2.2.2) hp h⟩
  have h1 : p % N < N := Nat.mod_lt _ (by omega)
  have h2 : p / N < N := Nat.div_lt_of_lt_mul hp
  have h3 := hM.2.2 (p / N) (p % N) h2 h1
  rw [Nat.div_add_mod] at h3
  rw [h3, rtB_rbO h1, Nat.div_add_mod]
theorem mk_no {q k : Nat} (hq : q ≤ 3) (hk : k ≤ 3) (h : q ≠ k) (h2 : q ≠ 1 ∨ k ≠ 2) : ¬ (nI k = nI q ∨ q = 1 ∧ nI k = nI 2) := by
  intro z
  rcases z with z | ⟨z1, z2⟩
  · exact h (nI_inj (by omega) (by omega) z).symm
  · have := nI_inj (by omega) (by decide) z2
    omega
set_option maxHeartbeats 4000000 in
set_option maxRecDepth 100000 in
theorem c_mark {G : am_G} {d : Nat} {I : am_I} {J : am_J} {K : Int32 → am_I → am_J → Prop} {N n : Nat} {F T : Nat → Nat} {S : Nat → Bool} {x y : Int32} (hR : rwR I (-9) N n F T S) (hkd : ∀ l, l < n → ∃ q, q ≤ 3 ∧ I 65 l = nI q)
  (h1 : ∀ l, l < n → x = nI l → y = nI 1 → (I 65 l = nI 1 ∨ I 65 l = nI 2) → K (ctR I l) I J) (h2 : ∀ l, l < n → x = nI l → y = nI 2 → I 65 l = nI 2 → K (nI (cN (rdL I l) 24)) I J)
  (h3 : ∀ l, l < n → x = nI l → y = nI 3 → I 65 l = nI 3 → ∀ I', frR I' I → K (nI (cN (onQ (rbO F T S n N) l) (N * N))) I' J)
  (h4 : ∀ l q, l < n → x = nI l → 1 ≤ q → q ≤ 3 → y = nI q → ¬ (I 65 l = nI q ∨ q = 1 ∧ I 65 l = nI 2) → K (-3) (mMeet I 3) J) (h0 : ¬ (isLn n x ∧ nI 1 ≤ y ∧ y ≤ nI 3) → K (-1) I J) : CMi G (d + 3) yX12_mark [.ref 63, .int x, .int y] I J K := by
  refine CM.of (L0 := [_, _, _, _, _, _]) cX12_mark 6 (some .int) (by decide) (by decide) kcX12_mark (Nat.le_of_ble_eq_true rfl) rfl ?_
  have hR' := hR
  obtain ⟨hN, hN2, hb, hn, hn12, r6, r7⟩ := hR'
  refine a_aload_n dX12_mark_0 rfl ?_
  refine a_iload_n dX12_mark_1 rfl ?_
  refine a_callVi (As := [_]) dX12_mark_2 km_X12_130 ⟨by decide, _, _, _, rfl, rfl⟩ rfl rfl (Nat.le_of_ble_eq_true rfl) ?_
  refine c_isLine hn (by omega) (fun l hl e1 => ?_) (fun e1 => ?_)
  · subst e1
    have hl12 : l < 12 := by omega
    refine a_if_eq (tgt := 17) dX12_mark_5 (by decide) (fun h5 => ?_) (fun h5 => ?_)
    · exact absurd h5 (by decide)
    · refine a_iload_n dX12_mark_8 rfl ?_
      refine a_iconst (v := nI 1) dX12_mark_9 (by decide) ?_
      refine a_iconst (v := nI 3) dX12_mark_10 (by decide) ?_
      refine a_callSi (As := [_, _, _]) dX12_mark_11 km_X12_122 rfl rfl (Nat.le_of_ble_eq_true rfl) ?_
      refine c_in (fun e1 e2 => ?_) (fun e1 => ?_)
      · obtain ⟨q, hq, rfl⟩ := (rg_iff1 (n := 3) (by decide)).mp ⟨Int32.le_trans (by decide) e1, e2⟩
        have e1 := (nI_leI (by omega) (by omega)).mp e1
        obtain ⟨k, hk3, hk⟩ := hkd l hl
        refine a_if_ne (tgt := 19) dX12_mark_14 (by decide) (fun h14 => ?_) (fun h14 => ?_)
        · refine a_aload_n dX12_mark_19 rfl ?_
          refine a_getr dX12_mark_20 kf_X12_17 ⟨by decide, _, rfl, rfl⟩ ?_
          refine a_iload_n dX12_mark_23 rfl ?_
          refine a_iald dX12_mark_24 ⟨by decide, rfl⟩ (by omega) hk ?_
          refine a_istore_n (L' := [_, _, _, _, _, _]) dX12_mark_25 (Nat.le_of_ble_eq_true rfl) rfl ?_
          refine a_iload_n dX12_mark_26 rfl ?_
          refine a_iload_n dX12_mark_27 rfl ?_
          refine a_icmp_eqN (tgt := 47) dX12_mark_28 (by decide) (by omega) (by omega) (fun h28 => ?_) (fun h28 => ?_)
          · refine a_iload_n dX12_mark_47 rfl ?_
            refine a_iconst (v := nI 1) dX12_mark_48 (by decide) ?_
            refine a_icmp_neN (tgt := 58) dX12_mark_49 (by decide) (by omega) (by omega) (fun h49 => ?_) (fun h49 => ?_)
            · refine a_iload_n dX12_mark_58 rfl ?_
              refine a_iconst (v := nI 2) dX12_mark_59 (by decide) ?_
              refine a_icmp_neN (tgt := 69) dX12_mark_60 (by decide) (by omega) (by omega) (fun h60 => ?_) (fun h60 => ?_)
              · refine a_iconst (v := nI 0) dX12_mark_69 (by decide) ?_
                refine a_istore (L' := [_, _, _, _, _, _]) dX12_mark_70 (Nat.le_of_ble_eq_true rfl) rfl ?_
                refine a_aload_n dX12_mark_72 rfl ?_
                refine a_bipush (v := (-9)) dX12_mark_73 (by decide) ?_
                refine a_callVv (As := [_]) dX12_mark_75 km_X12_148 ⟨by decide, _, _, _, rfl, rfl⟩ rfl rfl (Nat.le_of_ble_eq_true rfl) ?_
                refine c_setRoutes hR (fun I1 hM => ?_)
                refine a_iconst (v := nI 0) dX12_mark_78 (by decide) ?_
                refine a_istore (L' := [_, _, _, _, _, _]) dX12_mark_79 (Nat.le_of_ble_eq_true rfl) rfl ?_
                exact lp_mark (d := d + 2 + 1) (by rw [hM.1 63 3 (by decide) (by decide) (by decide)]; exact hN) hb hl12 (rb75 hR hM) (h3 l hl rfl (by congr 1; omega) (by rw [hk]; congr 1; omega) I1 hM.1) 0 (by omega)
              · refine a_aload_n dX12_mark_63 rfl ?_
                refine a_iload_n dX12_mark_64 rfl ?_
                refine a_callVi (As := [_]) dX12_mark_65 km_X12_145 ⟨by decide, _, _, _, rfl, rfl⟩ rfl rfl (Nat.le_of_ble_eq_true rfl) ?_
                refine c_had hl12 ?_
                exact a_ireturn dX12_mark_68 ⟨_, rfl, (h2 l hl rfl (by rw [h60]) (by rw [hk, show k = 2 by omega]))⟩
            · refine a_aload_n dX12_mark_52 rfl ?_
              refine a_iload_n dX12_mark_53 rfl ?_
              refine a_callVi (As := [_]) dX12_mark_54 km_X12_142 ⟨by decide, _, _, _, rfl, rfl⟩ rfl rfl (Nat.le_of_ble_eq_true rfl) ?_
              refine c_counterOf hl12 ?_
              refine a_topi (v := ctR I l) rfl ?_
              exact a_ireturn dX12_mark_57 ⟨_, rfl, (h1 l hl rfl (by rw [h49]) (by rw [hk]; first | exact Or.inl (by congr 1; omega) | exact Or.inr (by congr 1)))⟩
          · refine a_iload_n dX12_mark_31 rfl ?_
            refine a_iconst (v := nI 1) dX12_mark_32 (by decide) ?_
            refine a_icmp_neN (tgt := 41) dX12_mark_33 (by decide) (by omega) (by omega) (fun h33 => ?_) (fun h33 => ?_)
            · refine a_aload_n dX12_mark_41 rfl ?_
              refine a_iconst (v := nI 3) dX12_mark_42 (by decide) ?_
              refine a_callVi (As := [_]) dX12_mark_43 km_X12_138 ⟨by decide, _, _, _, rfl, rfl⟩ rfl rfl (Nat.le_of_ble_eq_true rfl) ?_
              refine c_meets (by decide) ?_
              exact a_ireturn dX12_mark_46 ⟨_, rfl, (h4 l q hl rfl e1 hq rfl (by rw [hk]; exact mk_no hq hk3 h28 (Or.inl h33)))⟩
            · refine a_iload_n dX12_mark_36 rfl ?_
              refine a_iconst (v := nI 2) dX12_mark_37 (by decide) ?_
              refine a_icmp_eqN (tgt := 47) dX12_mark_38 (by decide) (by omega) (by omega) (fun h38 => ?_) (fun h38 => ?_)
              · refine a_iload_n dX12_mark_47 rfl ?_
                refine a_iconst (v := nI 1) dX12_mark_48 (by decide) ?_
                refine a_icmp_neN (tgt := 58) dX12_mark_49 (by decide) (by omega) (by omega) (fun h49 => ?_) (fun h49 => ?_)
                · refine a_iload_n dX12_mark_58 rfl ?_
                  refine a_iconst (v := nI 2) dX12_mark_59 (by decide) ?_
                  refine a_icmp_neN (tgt := 69) dX12_mark_60 (by decide) (by omega) (by omega) (fun h60 => ?_) (fun h60 => ?_)
                  · refine a_iconst (v := nI 0) dX12_mark_69 (by decide) ?_
                    refine a_istore (L' := [_, _, _, _, _, _]) dX12_mark_70 (Nat.le_of_ble_eq_true rfl) rfl ?_
                    refine a_aload_n dX12_mark_72 rfl ?_
                    refine a_bipush (v := (-9)) dX12_mark_73 (by decide) ?_
                    refine a_callVv (As := [_]) dX12_mark_75 km_X12_148 ⟨by decide, _, _, _, rfl, rfl⟩ rfl rfl (Nat.le_of_ble_eq_true rfl) ?_
                    refine c_setRoutes hR (fun I1 hM => ?_)
                    refine a_iconst (v := nI 0) dX12_mark_78 (by decide) ?_
                    refine a_istore (L' := [_, _, _, _, _, _]) dX12_mark_79 (Nat.le_of_ble_eq_true rfl) rfl ?_
                    exact lp_mark (d := d + 2 + 1) (by rw [hM.1 63 3 (by decide) (by decide) (by decide)]; exact hN) hb hl12 (rb75 hR hM) (h3 l hl rfl (by congr 1; omega) (by rw [hk]; congr 1; omega) I1 hM.1) 0 (by omega)
                  · refine a_aload_n dX12_mark_63 rfl ?_
                    refine a_iload_n dX12_mark_64 rfl ?_
                    refine a_callVi (As := [_]) dX12_mark_65 km_X12_145 ⟨by decide, _, _, _, rfl, rfl⟩ rfl rfl (Nat.le_of_ble_eq_true rfl) ?_
                    refine c_had hl12 ?_
                    exact a_ireturn dX12_mark_68 ⟨_, rfl, (h2 l hl rfl (by rw [h60]) (by rw [hk, show k = 2 by omega]))⟩
                · refine a_aload_n dX12_mark_52 rfl ?_
                  refine a_iload_n dX12_mark_53 rfl ?_
                  refine a_callVi (As := [_]) dX12_mark_54 km_X12_142 ⟨by decide, _, _, _, rfl, rfl⟩ rfl rfl (Nat.le_of_ble_eq_true rfl) ?_
                  refine c_counterOf hl12 ?_
                  refine a_topi (v := ctR I l) rfl ?_
                  exact a_ireturn dX12_mark_57 ⟨_, rfl, (h1 l hl rfl (by rw [h49]) (by rw [hk]; first | exact Or.inl (by congr 1; omega) | exact Or.inr (by congr 1)))⟩
              · refine a_aload_n dX12_mark_41 rfl ?_
                refine a_iconst (v := nI 3) dX12_mark_42 (by decide) ?_
                refine a_callVi (As := [_]) dX12_mark_43 km_X12_138 ⟨by decide, _, _, _, rfl, rfl⟩ rfl rfl (Nat.le_of_ble_eq_true rfl) ?_
                refine c_meets (by decide) ?_
                exact a_ireturn dX12_mark_46 ⟨_, rfl, (h4 l q hl rfl e1 hq rfl (by rw [hk]; exact mk_no hq hk3 h28 (Or.inr h38)))⟩
        · exact absurd h14 (by decide)
      · refine a_if_ne (tgt := 19) dX12_mark_14 (by decide) (fun h14 => ?_) (fun h14 => ?_)
        · exact absurd h14 (by decide)
        · refine a_iconst (v := (-1)) dX12_mark_17 (by decide) ?_
          exact a_ireturn dX12_mark_18 ⟨_, rfl, (h0 (fun q => e1 q.2))⟩
  · refine a_if_eq (tgt := 17) dX12_mark_5 (by decide) (fun h5 => ?_) (fun h5 => ?_)
    · refine a_iconst (v := (-1)) dX12_mark_17 (by decide) ?_
      exact a_ireturn dX12_mark_18 ⟨_, rfl, (h0 (fun q => e1 q.1))⟩
    · exact absurd h5 (by decide)

