/-! ===== the reference: changed and worst, whole ===== -/
theorem kp_open {I1 Ib I : am_I} {N n : Nat} {F T : Nat → Nat} {S : Nat → Bool} {x : Int32} (h : opQ I1 Ib I N n F T S x) (h15 : Ib 63 15 = nI 0) (sq : Nat → Nat) (m : Nat) : kpP I1 sq m none := by
  show I1 63 15 = nI 0
  rw [h.1 63 15 (by omega) (by decide) (by decide)]
  exact h15
set_option maxHeartbeats 4000000 in
set_option maxRecDepth 100000 in
theorem c_changed {G : am_G} {d : Nat} {I : am_I} {J : am_J} {K : Int32 → am_I → am_J → Prop} {N n : Nat} {F T : Nat → Nat} {S : Nat → Bool} {x : Int32} (hR : rwR I (-9) N n F T S) (hme : ∀ p, p < 36 → vlP (I 72 p)) (hca : ∀ l, l < n → vlP (I 70 l)) (h1 : ∀ lim, 1 ≤ lim → lim ≤ 20000 → x = nI lim → ∀ I' t c, prP I' I → I' 63 29 = nI t → kpP I' (skQ I N n F T S) (skL I N n F T S).length c.2 → runS (beP btC (fun A => chR (I 73) (N * N) (skQ I N n F T S) A (skL I N n F T S).length)) lim 0 (evI I N n F T S) (-9, none) = (t, 0, c) → K c.1 I' J) (h2 : ∀ lim, 1 ≤ lim → lim ≤ 20000 → x = nI lim → ∀ I' t c, prP I' I → I' 63 29 = nI t → I' 63 15 = nI 0 → runS (beP btC (fun A => chR (I 73) (N * N) (skQ I N n F T S) A (skL I N n F T S).length)) lim 0 (evI I N n F T S) (-9, none) = (t, 1, c) → K (-6) I' J) (h0 : ¬ (nI 1 ≤ x ∧ x ≤ nI 20000) → K (-1) I J) : CMi G (d + 4) yX12_changed [.ref 63, .int x] I J K := by
  refine CM.of (L0 := [_, _, _, _, _]) cX12_changed 5 (some .int) (by decide) (by decide) kcX12_changed (Nat.le_of_ble_eq_true rfl) rfl ?_
  refine a_iload_n dX12_changed_0 rfl ?_
  refine a_callSi (As := [_]) dX12_changed_1 km_X12_206 rfl rfl (Nat.le_of_ble_eq_true rfl) ?_
  refine c_areTries (fun lim hl1 hl2 e1 => ?_) (fun e1 => ?_)
  · subst e1
    refine a_if_ne (tgt := 9) dX12_changed_4 (by decide) (fun h4 => ?_) (fun h4 => ?_)
    · refine a_aload_n dX12_changed_9 rfl ?_
      refine a_iconst (v := nI 0) dX12_changed_10 (by decide) ?_
      refine a_putz dX12_changed_11 kp_X12_118 ⟨by decide, _, rfl, rfl⟩ (by first | exact Or.inl rfl | exact Or.inr rfl) ?_
      refine a_aload_n dX12_changed_14 rfl ?_
      refine a_iload_n dX12_changed_15 rfl ?_
      refine a_callVv (As := [_]) dX12_changed_16 km_X12_209 ⟨by decide, _, _, _, rfl, rfl⟩ rfl rfl (Nat.le_of_ble_eq_true rfl) ?_
      refine c_openQ (N := N) (n := n) (F := F) (T := T) (S := S) hR hme hca (prP_up63 (fun _ _ _ _ => rfl) (by omega) _) (fun I1 hop => ?_)
      have hprI : prP I1 I := prP_tr (opQ_pr hop) (prP_up63 (fun _ _ _ _ => rfl) (by omega) _)
      have hkp0 := kp_open hop rfl (skQ I N n F T S) (skL I N n F T S).length
      have e73 : I1 73 = I 73 := prP_row hprI (by omega) (by decide)
      obtain ⟨o1, o2, o3, o4, o5, o6⟩ := hop
      refine a_bipush (v := (-9)) dX12_changed_19 (by decide) ?_
      refine a_istore_n (L' := [_, _, _, _, _]) dX12_changed_21 (Nat.le_of_ble_eq_true rfl) rfl ?_
      refine a_aload_n dX12_changed_22 rfl ?_
      refine a_iconst (v := nI 1) dX12_changed_23 (by decide) ?_
      refine a_callVi (As := [_]) dX12_changed_24 km_X12_212 ⟨by decide, _, _, _, rfl, rfl⟩ rfl rfl (Nat.le_of_ble_eq_true rfl) ?_
      refine c_nextS o2 o5 hl2 o4 (by omega) (fun _ => o6 0 (by decide)) (fun _ => 0) (fun I' t' hf' ht' e => ?_) (fun I' t' hf' ht' e => ?_) (fun I' t' A' hf' e hfs' => ?_)
      · refine a_istore_n (L' := [_, _, _, _, _]) dX12_changed_27 (Nat.le_of_ble_eq_true rfl) rfl ?_
        refine a_iload_n dX12_changed_28 rfl ?_
        refine a_iconst (v := nI 1) dX12_changed_29 (by decide) ?_
        refine a_icmp_ne (tgt := 65) dX12_changed_30 (by decide) (fun h30 => ?_) (fun h30 => ?_)
        · refine a_aload_n dX12_changed_65 rfl ?_
          refine a_aload_n dX12_changed_66 rfl ?_
          refine a_geti dX12_changed_67 kf_X12_118 ⟨by decide, _, rfl, rfl⟩ rfl ?_
          refine a_if_eq (tgt := 81) dX12_changed_70 (by decide) (fun h70 => ?_) (fun h70 => ?_)
          · refine a_iconst (v := nI 0) dX12_changed_81 (by decide) ?_
            refine a_putz dX12_changed_82 kp_X12_118 ⟨by decide, _, rfl, rfl⟩ (by first | exact Or.inl rfl | exact Or.inr rfl) ?_
            refine a_iload_n dX12_changed_85 rfl ?_
            refine a_if_ge (tgt := 93) dX12_changed_86 (by decide) (fun h86 => ?_) (fun h86 => ?_)
            · refine a_iload_n dX12_changed_93 rfl ?_
              exact a_ireturn dX12_changed_94 ⟨_, rfl, (h1 lim hl1 hl2 rfl _ t' (-9, none) (prP_tr (prP_up63 (prP_frS hf') (by omega) _) hprI) ht' rfl (by rw [runS_nx, evI, e]; rfl))⟩
            · exact absurd (show (0 : Int32) ≤ nI 0 by decide) h86
          · exact absurd (by rw [hf' 63 15 (by decide) (by decide) (by decide) (by decide) (by decide)]; exact hkp0) h70
        · exact absurd h30 (by decide)
      · refine a_istore_n (L' := [_, _, _, _, _]) dX12_changed_27 (Nat.le_of_ble_eq_true rfl) rfl ?_
        refine a_iload_n dX12_changed_28 rfl ?_
        refine a_iconst (v := nI 1) dX12_changed_29 (by decide) ?_
        refine a_icmp_ne (tgt := 65) dX12_changed_30 (by decide) (fun h30 => ?_) (fun h30 => ?_)
        · refine a_aload_n dX12_changed_65 rfl ?_
          refine a_aload_n dX12_changed_66 rfl ?_
          refine a_geti dX12_changed_67 kf_X12_118 ⟨by decide, _, rfl, rfl⟩ rfl ?_
          refine a_if_eq (tgt := 81) dX12_changed_70 (by decide) (fun h70 => ?_) (fun h70 => ?_)
          · refine a_iconst (v := nI 0) dX12_changed_81 (by decide) ?_
            refine a_putz dX12_changed_82 kp_X12_118 ⟨by decide, _, rfl, rfl⟩ (by first | exact Or.inl rfl | exact Or.inr rfl) ?_
            refine a_iload_n dX12_changed_85 rfl ?_
            refine a_if_ge (tgt := 93) dX12_changed_86 (by decide) (fun h86 => ?_) (fun h86 => ?_)
            · exact absurd h86 (by decide)
            · refine a_iload_n dX12_changed_89 rfl ?_
              refine a_goto (tgt := 94) dX12_changed_90 (by decide) ?_
              exact a_ireturn dX12_changed_94 ⟨_, rfl, (h2 lim hl1 hl2 rfl _ t' (-9, none) (prP_tr (prP_up63 (prP_frS hf') (by omega) _) hprI) ht' rfl (by rw [runS_nx, evI, e]; rfl))⟩
          · refine a_iload_n dX12_changed_73 rfl ?_
            refine a_if_ne (tgt := 81) dX12_changed_74 (by decide) (fun h74 => ?_) (fun h74 => ?_)
            · refine a_iconst (v := nI 0) dX12_changed_81 (by decide) ?_
              refine a_putz dX12_changed_82 kp_X12_118 ⟨by decide, _, rfl, rfl⟩ (by first | exact Or.inl rfl | exact Or.inr rfl) ?_
              refine a_iload_n dX12_changed_85 rfl ?_
              refine a_if_ge (tgt := 93) dX12_changed_86 (by decide) (fun h86 => ?_) (fun h86 => ?_)
              · exact absurd h86 (by decide)
              · refine a_iload_n dX12_changed_89 rfl ?_
                refine a_goto (tgt := 94) dX12_changed_90 (by decide) ?_
                exact a_ireturn dX12_changed_94 ⟨_, rfl, (h2 lim hl1 hl2 rfl _ t' (-9, none) (prP_tr (prP_up63 (prP_frS hf') (by omega) _) hprI) ht' rfl (by rw [runS_nx, evI, e]; rfl))⟩
            · exact absurd h74 (by decide)
        · exact absurd h30 (by decide)
      · refine a_istore_n (L' := [_, _, _, _, _]) dX12_changed_27 (Nat.le_of_ble_eq_true rfl) rfl ?_
        have hrun : runS (beP btC (fun A => chR (I 73) (N * N) (skQ I N n F T S) A (skL I N n F T S).length)) lim 0 (evI I N n F T S) (-9, none) = runS (beP btC (fun A => chR (I 73) (N * N) (skQ I N n F T S) A (skL I N n F T S).length)) lim t' (bkE (skG I N n F T S) (skA I N n F T S) (skX I N n F T S) (tlI I) n (skL I N n F T S).length (skF I) A' (skL I N n F T S).length) (if btC (-9) (chR (I 73) (N * N) (skQ I N n F T S) A' (skL I N n F T S).length) = true then (chR (I 73) (N * N) (skQ I N n F T S) A' (skL I N n F T S).length, some A') else (-9, none)) := by
          rw [runS_nx, evI, e]; rfl
        have e73' := e73
        obtain ⟨t1, st, c1, hr⟩ : ∃ t1 st c1, runS (beP btC (fun A => chR (I 73) (N * N) (skQ I N n F T S) A (skL I N n F T S).length)) lim t' (bkE (skG I N n F T S) (skA I N n F T S) (skX I N n F T S) (tlI I) n (skL I N n F T S).length (skF I) A' (skL I N n F T S).length) (if btC (-9) (chR (I 73) (N * N) (skQ I N n F T S) A' (skL I N n F T S).length) = true then (chR (I 73) (N * N) (skQ I N n F T S) A' (skL I N n F T S).length, some A') else (-9, none)) = (t1, st, c1) := ⟨_, _, _, rfl⟩
        exact lp_changed (d := d + 1) (I1 := I1) (N := N) (st := st) (t1 := t1) (c1 := c1) (by rw [hprI 63 3 (by omega) (by omega)]; exact hR.1) hR.2.2.1 (fun e0 I2 hf ht hkp => h1 lim hl1 hl2 rfl I2 _ _ (prP_tr (prP_frU hf) hprI) ht hkp (by rw [hrun, hr, e0])) (fun e0 I2 hf ht h15 => h2 lim hl1 hl2 rfl I2 _ c1 (prP_tr (prP_frU hf) hprI) ht h15 (by rw [hrun, hr, e0])) _ I' A' t' (-9, none) _ (frU_S hf' (fun _ _ _ _ _ _ _ _ => rfl)) hfs' (kpP_S hf' hkp0) (Nat.lt_succ_self _) (by rw [e73]; exact hr)
    · exact absurd h4 (by decide)
  · refine a_if_ne (tgt := 9) dX12_changed_4 (by decide) (fun h4 => ?_) (fun h4 => ?_)
    · exact absurd h4 (by decide)
    · refine a_iconst (v := (-1)) dX12_changed_7 (by decide) ?_
      exact a_ireturn dX12_changed_8 ⟨_, rfl, (h0 e1)⟩

def thN (rb : Nat → Option Nat) (l NN p : Nat) : Nat := if p < NN ∧ ((rb p).getD 0).testBit l = true then 1 else 0
def wsN (th : Nat → Nat) (sq A : Nat → Nat) : Nat → Nat
  | 0 => 0
  | k + 1 => wsN th sq A k + th (sq k) * A k
set_option maxHeartbeats 4000000 in
set_option maxRecDepth 100000 in
theorem lp_ws2 {G : am_G} {d : Nat} {I0 : am_I} {J : am_J} {Ex : am_Ex} {x y z b : Int32} {m : Nat} {sq A th : Nat → Nat} (hm : I0 63 20 = nI m) (hm36 : m ≤ 36) (hsq : ∀ k, k < m → I0 77 k = nI (sq k) ∧ sq k < 36 ∧ I0 83 k = nI (A k)) (hth : ∀ p, p < 36 → I0 88 p = nI (th p)) (kx : AW G cX12_worst 8 RX12 d Ex 191 [some (.ref 63), some (.int x), some (.int y), some (.int z), some (.int b), some (.int (nI 1)), some (.int (nI (wsN th sq A m))), some (.int (nI m))] [] I0 J) : ∀ i, i ≤ m → AW G cX12_worst 8 RX12 d Ex 151 [some (.ref 63), some (.int x), some (.int y), some (.int z), some (.int b), some (.int (nI 1)), some (.int (nI (wsN th sq A i))), some (.int (nI i))] [] I0 J := by
  refine am_dn m (fun i hi ih => ?_)
  refine a_iload dX12_worst_151 rfl ?_
  refine a_aload_n dX12_worst_153 rfl ?_
  refine a_geti dX12_worst_154 kf_X12_178 ⟨by decide, _, rfl, rfl⟩ hm ?_
  refine a_icmp_geN (tgt := 191) dX12_worst_157 (by decide) (by omega) (by omega) (fun h => ?_) (fun h => ?_)
  · obtain rfl : i = m := by omega
    exact kx
  · obtain ⟨q1, q2, q3⟩ := hsq i h
    refine a_iload dX12_worst_160 rfl ?_
    refine a_aload_n dX12_worst_162 rfl ?_
    refine a_getr dX12_worst_163 kf_X12_87 ⟨by decide, _, rfl, rfl⟩ ?_
    refine a_aload_n dX12_worst_166 rfl ?_
    refine a_getr dX12_worst_167 kf_X12_54 ⟨by decide, _, rfl, rfl⟩ ?_
    refine a_iload dX12_worst_170 rfl ?_
    refine a_iald dX12_worst_172 ⟨by decide, rfl⟩ (by omega) q1 ?_
    refine a_iald dX12_worst_173 ⟨by decide, rfl⟩ (by omega) (hth _ q2) ?_
    refine a_aload_n dX12_worst_174 rfl ?_
    refine a_getr dX12_worst_175 kf_X12_72 ⟨by decide, _, rfl, rfl⟩ ?_
    refine a_iload dX12_worst_178 rfl ?_
    refine a_iald dX12_worst_180 ⟨by decide, rfl⟩ (by omega) q3 ?_
    refine a_imul dX12_worst_181 (by first | exact pk_mul _ _ | rfl) ?_
    refine a_iadd dX12_worst_182 (show _ = nI (wsN th sq A (i + 1)) from nI_add _ _) ?_
    refine a_istore (L' := [_, _, _, _, _, _, _, _]) dX12_worst_183 (Nat.le_of_ble_eq_true rfl) rfl ?_
    refine a_iinc (L' := [_, _, _, _, _, _, _, _]) dX12_worst_185 rfl (nI_inc _) rfl ?_
    refine a_goto (tgt := 151) dX12_worst_188 (by decide) ?_
    exact ih (i + 1) (by omega) (by omega)

set_option maxHeartbeats 4000000 in
set_option maxRecDepth 100000 in
theorem lp_worst {G : am_G} {d : Nat} {I1 : am_I} {J : am_J} {K : Int32 → am_I → am_J → Prop} {x : Int32} {n m lim : Nat} {g la : Nat → Nat} {fx : Nat → Option Nat} {sq : Nat → Nat} {tl : Nat → Bool} {lf0 : Nat → Nat} {t1 st : Nat} {c1 : Int32 × Option (Nat → Nat)} {y z : Int32} {th : Nat → Nat} (hth : ∀ p, p < 36 → I1 88 p = nI (th p)) (h0 : st = 0 → ∀ I', frU I' I1 → I' 63 29 = nI t1 → kpP I' sq m c1.2 → K c1.1 I' J) (hS : st = 1 → ∀ I', frU I' I1 → I' 63 29 = nI t1 → I' 63 15 = nI 0 → K (-6) I' J) : ∀ M, ∀ (I : am_I) (A : Nat → Nat) (t : Nat) (c : Int32 × Option (Nat → Nat)) (v6 v7 : Option Value), frU I I1 → fsP g la fx sq tl lf0 n m lim t A I → kpP I sq m c.2 → (bkE g la fx tl n m lf0 A m).length < M → runS (beP btW (fun A => nI (wsN th sq A m))) lim t (bkE g la fx tl n m lf0 A m) (if btW c.1 (nI (wsN th sq A m)) = true then (nI (wsN th sq A m), some A) else c) = (t1, st, c1) → AW G cX12_worst 8 RX12 (d + 3) (am_ex G (some .int) (fun r I J => ∃ x, r = some (.int x) ∧ K x I J)) 139 [some (.ref 63), some (.int x), some (.int y), some (.int z), some (.int c.1), some (.int (nI 1)), v6, v7] [] I J := by
  intro M
  induction M with
  | zero => intro I A t c v6 v7 _ _ _ h; omega
  | succ M ih =>
    intro I A t c v6 v7 hf hfs hkp hM hrun
    obtain ⟨hm, hm36, hsq⟩ := fsP_sq hfs
    have hth' : ∀ p, p < 36 → I 88 p = nI (th p) := fun p hp => by rw [hf 88 p (by decide) (by decide) (by decide) (by decide) (by decide) (fun e => absurd e (by decide))]; exact hth p hp
    refine a_iload dX12_worst_139 rfl ?_
    refine a_iconst (v := nI 1) dX12_worst_141 (by decide) ?_
    refine a_icmp_ne (tgt := 216) dX12_worst_142 (by decide) (fun h142 => ?_) (fun h142 => ?_)
    · exact absurd rfl h142
    · refine a_iconst (v := nI 0) dX12_worst_145 (by decide) ?_
      refine a_istore (L' := [_, _, _, _, _, _, _, _]) dX12_worst_146 (Nat.le_of_ble_eq_true rfl) rfl ?_
      refine a_iconst (v := nI 0) dX12_worst_148 (by decide) ?_
      refine a_istore (L' := [_, _, _, _, _, _, _, _]) dX12_worst_149 (Nat.le_of_ble_eq_true rfl) rfl ?_
      refine lp_ws2 hm hm36 hsq hth' ?_ 0 (by omega)
      refine a_iload dX12_worst_191 rfl ?_
      refine a_iload dX12_worst_193 rfl ?_
      refine a_icmp_le (tgt := 206) dX12_worst_195 (by decide) (fun h195 => ?_) (fun h195 => ?_)
      · have hbt : ¬ btW c.1 (nI (wsN th sq A m)) = true := by simp only [btW, decide_eq_true_eq]; exact Int32.not_lt.mpr h195
        rw [if_neg hbt] at hrun
        refine a_aload_n dX12_worst_206 rfl ?_
        refine a_iconst (v := nI 0) dX12_worst_207 (by decide) ?_
        refine a_callVi (As := [_]) dX12_worst_208 km_X12_212 ⟨by decide, _, _, _, rfl, rfl⟩ rfl rfl (Nat.le_of_ble_eq_true rfl) ?_
        refine c_nextF hfs (fun I2 t2 hf2 ht2 e => ?_) (fun I2 t2 hf2 ht2 e => ?_) (fun I2 t2 A2 hf2 e hfs2 => ?_)
        · rw [runS_nx, e] at hrun
          obtain ⟨rfl, rfl, rfl⟩ : t2 = t1 ∧ 0 = st ∧ c = c1 := by simpa [runM] using hrun
          refine a_istore (L' := [_, _, _, _, _, _, _, _]) dX12_worst_211 (Nat.le_of_ble_eq_true rfl) rfl ?_
          refine a_goto (tgt := 139) dX12_worst_213 (by decide) ?_
          refine a_iload dX12_worst_139 rfl ?_
          refine a_iconst (v := nI 1) dX12_worst_141 (by decide) ?_
          refine a_icmp_ne (tgt := 216) dX12_worst_142 (by decide) (fun h142 => ?_) (fun h142 => ?_)
          · refine a_aload_n dX12_worst_216 rfl ?_
            refine a_aload_n dX12_worst_217 rfl ?_
            refine a_geti dX12_worst_218 kf_X12_118 ⟨by decide, _, rfl, rfl⟩ rfl ?_
            refine a_if_eq (tgt := 233) dX12_worst_221 (by decide) (fun h221 => ?_) (fun h221 => ?_)
            · refine a_iconst (v := nI 0) dX12_worst_233 (by decide) ?_
              refine a_putz dX12_worst_234 kp_X12_118 ⟨by decide, _, rfl, rfl⟩ (by first | exact Or.inl rfl | exact Or.inr rfl) ?_
              refine a_iload dX12_worst_237 rfl ?_
              refine a_if_ge (tgt := 247) dX12_worst_239 (by decide) (fun h239 => ?_) (fun h239 => ?_)
              · refine a_iload dX12_worst_247 rfl ?_
                exact a_ireturn dX12_worst_249 ⟨_, rfl, (h0 rfl _ (frU_15 (frU_S hf2 hf) _) ht2 (kp_15 (kpP_S hf2 hkp) h221.symm))⟩
              · exact absurd (show (0 : Int32) ≤ nI 0 by decide) h239
            · refine a_iload dX12_worst_224 rfl ?_
              refine a_if_ne (tgt := 233) dX12_worst_226 (by decide) (fun h226 => ?_) (fun h226 => ?_)
              · exact absurd rfl h226
              · refine a_iconst (v := nI 1) dX12_worst_229 (by decide) ?_
                refine a_goto (tgt := 234) dX12_worst_230 (by decide) ?_
                refine a_putz dX12_worst_234 kp_X12_118 ⟨by decide, _, rfl, rfl⟩ (by first | exact Or.inl rfl | exact Or.inr rfl) ?_
                refine a_iload dX12_worst_237 rfl ?_
                refine a_if_ge (tgt := 247) dX12_worst_239 (by decide) (fun h239 => ?_) (fun h239 => ?_)
                · refine a_iload dX12_worst_247 rfl ?_
                  exact a_ireturn dX12_worst_249 ⟨_, rfl, (h0 rfl _ (frU_15 (frU_S hf2 hf) _) ht2 (kp_15 (kpP_S hf2 hkp) ((kp_no (kpP_S hf2 hkp)).resolve_left h221).symm))⟩
                · exact absurd (show (0 : Int32) ≤ nI 0 by decide) h239
          · exact absurd h142 (by decide)
        · rw [runS_nx, e] at hrun
          obtain ⟨rfl, rfl, rfl⟩ : t2 = t1 ∧ 1 = st ∧ c = c1 := by simpa [runM] using hrun
          refine a_istore (L' := [_, _, _, _, _, _, _, _]) dX12_worst_211 (Nat.le_of_ble_eq_true rfl) rfl ?_
          refine a_goto (tgt := 139) dX12_worst_213 (by decide) ?_
          refine a_iload dX12_worst_139 rfl ?_
          refine a_iconst (v := nI 1) dX12_worst_141 (by decide) ?_
          refine a_icmp_ne (tgt := 216) dX12_worst_142 (by decide) (fun h142 => ?_) (fun h142 => ?_)
          · refine a_aload_n dX12_worst_216 rfl ?_
            refine a_aload_n dX12_worst_217 rfl ?_
            refine a_geti dX12_worst_218 kf_X12_118 ⟨by decide, _, rfl, rfl⟩ rfl ?_
            refine a_if_eq (tgt := 233) dX12_worst_221 (by decide) (fun h221 => ?_) (fun h221 => ?_)
            · refine a_iconst (v := nI 0) dX12_worst_233 (by decide) ?_
              refine a_putz dX12_worst_234 kp_X12_118 ⟨by decide, _, rfl, rfl⟩ (by first | exact Or.inl rfl | exact Or.inr rfl) ?_
              refine a_iload dX12_worst_237 rfl ?_
              refine a_if_ge (tgt := 247) dX12_worst_239 (by decide) (fun h239 => ?_) (fun h239 => ?_)
              · exact absurd h239 (by decide)
              · refine a_iload dX12_worst_242 rfl ?_
                refine a_goto (tgt := 249) dX12_worst_244 (by decide) ?_
                exact a_ireturn dX12_worst_249 ⟨_, rfl, (hS rfl _ (frU_15 (frU_S hf2 hf) _) ht2 rfl)⟩
            · refine a_iload dX12_worst_224 rfl ?_
              refine a_if_ne (tgt := 233) dX12_worst_226 (by decide) (fun h226 => ?_) (fun h226 => ?_)
              · refine a_iconst (v := nI 0) dX12_worst_233 (by decide) ?_
                refine a_putz dX12_worst_234 kp_X12_118 ⟨by decide, _, rfl, rfl⟩ (by first | exact Or.inl rfl | exact Or.inr rfl) ?_
                refine a_iload dX12_worst_237 rfl ?_
                refine a_if_ge (tgt := 247) dX12_worst_239 (by decide) (fun h239 => ?_) (fun h239 => ?_)
                · exact absurd h239 (by decide)
                · refine a_iload dX12_worst_242 rfl ?_
                  refine a_goto (tgt := 249) dX12_worst_244 (by decide) ?_
                  exact a_ireturn dX12_worst_249 ⟨_, rfl, (hS rfl _ (frU_15 (frU_S hf2 hf) _) ht2 rfl)⟩
              · exact absurd h226 (by decide)
          · exact absurd h142 (by decide)
        · rw [runS_nx, e] at hrun
          have hlen := nxE_len _ _ _ _ _ e
          refine a_istore (L' := [_, _, _, _, _, _, _, _]) dX12_worst_211 (Nat.le_of_ble_eq_true rfl) rfl ?_
          refine a_goto (tgt := 139) dX12_worst_213 (by decide) ?_
          exact ih I2 A2 t2 c _ _ (frU_S hf2 hf) hfs2 (kpP_S hf2 hkp) (by omega) (by simpa [beP, runM] using hrun)
      · have hbt : btW c.1 (nI (wsN th sq A m)) = true := by simp only [btW, decide_eq_true_eq]; exact Int32.not_le.mp h195
        rw [if_pos hbt] at hrun
        refine a_iload dX12_worst_198 rfl ?_
        refine a_istore (L' := [_, _, _, _, _, _, _, _]) dX12_worst_200 (Nat.le_of_ble_eq_true rfl) rfl ?_
        refine a_aload_n dX12_worst_202 rfl ?_
        refine a_callVv (As := []) dX12_worst_203 km_X12_216 ⟨by decide, _, _, _, rfl, rfl⟩ rfl rfl (Nat.le_of_ble_eq_true rfl) ?_
        refine c_keepF hfs ?_
        refine a_aload_n dX12_worst_206 rfl ?_
        refine a_iconst (v := nI 0) dX12_worst_207 (by decide) ?_
        refine a_callVi (As := [_]) dX12_worst_208 km_X12_212 ⟨by decide, _, _, _, rfl, rfl⟩ rfl rfl (Nat.le_of_ble_eq_true rfl) ?_
        refine c_nextF (fsP_keep hfs sq A m) (fun I2 t2 hf2 ht2 e => ?_) (fun I2 t2 hf2 ht2 e => ?_) (fun I2 t2 A2 hf2 e hfs2 => ?_)
        · rw [runS_nx, e] at hrun
          obtain ⟨rfl, rfl, rfl⟩ : t2 = t1 ∧ 0 = st ∧ (nI (wsN th sq A m), some A) = c1 := by simpa [runM] using hrun
          refine a_istore (L' := [_, _, _, _, _, _, _, _]) dX12_worst_211 (Nat.le_of_ble_eq_true rfl) rfl ?_
          refine a_goto (tgt := 139) dX12_worst_213 (by decide) ?_
          refine a_iload dX12_worst_139 rfl ?_
          refine a_iconst (v := nI 1) dX12_worst_141 (by decide) ?_
          refine a_icmp_ne (tgt := 216) dX12_worst_142 (by decide) (fun h142 => ?_) (fun h142 => ?_)
          · refine a_aload_n dX12_worst_216 rfl ?_
            refine a_aload_n dX12_worst_217 rfl ?_
            refine a_geti dX12_worst_218 kf_X12_118 ⟨by decide, _, rfl, rfl⟩ rfl ?_
            refine a_if_eq (tgt := 233) dX12_worst_221 (by decide) (fun h221 => ?_) (fun h221 => ?_)
            · refine a_iconst (v := nI 0) dX12_worst_233 (by decide) ?_
              refine a_putz dX12_worst_234 kp_X12_118 ⟨by decide, _, rfl, rfl⟩ (by first | exact Or.inl rfl | exact Or.inr rfl) ?_
              refine a_iload dX12_worst_237 rfl ?_
              refine a_if_ge (tgt := 247) dX12_worst_239 (by decide) (fun h239 => ?_) (fun h239 => ?_)
              · refine a_iload dX12_worst_247 rfl ?_
                exact a_ireturn dX12_worst_249 ⟨_, rfl, (h0 rfl _ (frU_15 (frU_S hf2 (frU_keep hf sq A m)) _) ht2 (kp_15 (kpP_S hf2 (kpP_keep I sq A m)) h221.symm))⟩
              · exact absurd (show (0 : Int32) ≤ nI 0 by decide) h239
            · refine a_iload dX12_worst_224 rfl ?_
              refine a_if_ne (tgt := 233) dX12_worst_226 (by decide) (fun h226 => ?_) (fun h226 => ?_)
              · exact absurd rfl h226
              · refine a_iconst (v := nI 1) dX12_worst_229 (by decide) ?_
                refine a_goto (tgt := 234) dX12_worst_230 (by decide) ?_
                refine a_putz dX12_worst_234 kp_X12_118 ⟨by decide, _, rfl, rfl⟩ (by first | exact Or.inl rfl | exact Or.inr rfl) ?_
                refine a_iload dX12_worst_237 rfl ?_
                refine a_if_ge (tgt := 247) dX12_worst_239 (by decide) (fun h239 => ?_) (fun h239 => ?_)
                · refine a_iload dX12_worst_247 rfl ?_
                  exact a_ireturn dX12_worst_249 ⟨_, rfl, (h0 rfl _ (frU_15 (frU_S hf2 (frU_keep hf sq A m)) _) ht2 (kp_15 (kpP_S hf2 (kpP_keep I sq A m)) ((kp_no (kpP_S hf2 (kpP_keep I sq A m))).resolve_left h221).symm))⟩
                · exact absurd (show (0 : Int32) ≤ nI 0 by decide) h239
          · exact absurd h142 (by decide)
        · rw [runS_nx, e] at hrun
          obtain ⟨rfl, rfl, rfl⟩ : t2 = t1 ∧ 1 = st ∧ (nI (wsN th sq A m), some A) = c1 := by simpa [runM] using hrun
          refine a_istore (L' := [_, _, _, _, _, _, _, _]) dX12_worst_211 (Nat.le_of_ble_eq_true rfl) rfl ?_
          refine a_goto (tgt := 139) dX12_worst_213 (by decide) ?_
          refine a_iload dX12_worst_139 rfl ?_
          refine a_iconst (v := nI 1) dX12_worst_141 (by decide) ?_
          refine a_icmp_ne (tgt := 216) dX12_worst_142 (by decide) (fun h142 => ?_) (fun h142 => ?_)
          · refine a_aload_n dX12_worst_216 rfl ?_
            refine a_aload_n dX12_worst_217 rfl ?_
            refine a_geti dX12_worst_218 kf_X12_118 ⟨by decide, _, rfl, rfl⟩ rfl ?_
            refine a_if_eq (tgt := 233) dX12_worst_221 (by decide) (fun h221 => ?_) (fun h221 => ?_)
            · refine a_iconst (v := nI 0) dX12_worst_233 (by decide) ?_
              refine a_putz dX12_worst_234 kp_X12_118 ⟨by decide, _, rfl, rfl⟩ (by first | exact Or.inl rfl | exact Or.inr rfl) ?_
              refine a_iload dX12_worst_237 rfl ?_
              refine a_if_ge (tgt := 247) dX12_worst_239 (by decide) (fun h239 => ?_) (fun h239 => ?_)
              · exact absurd h239 (by decide)
              · refine a_iload dX12_worst_242 rfl ?_
                refine a_goto (tgt := 249) dX12_worst_244 (by decide) ?_
                exact a_ireturn dX12_worst_249 ⟨_, rfl, (hS rfl _ (frU_15 (frU_S hf2 (frU_keep hf sq A m)) _) ht2 rfl)⟩
            · refine a_iload dX12_worst_224 rfl ?_
              refine a_if_ne (tgt := 233) dX12_worst_226 (by decide) (fun h226 => ?_) (fun h226 => ?_)
              · refine a_iconst (v := nI 0) dX12_worst_233 (by decide) ?_
                refine a_putz dX12_worst_234 kp_X12_118 ⟨by decide, _, rfl, rfl⟩ (by first | exact Or.inl rfl | exact Or.inr rfl) ?_
                refine a_iload dX12_worst_237 rfl ?_
                refine a_if_ge (tgt := 247) dX12_worst_239 (by decide) (fun h239 => ?_) (fun h239 => ?_)
                · exact absurd h239 (by decide)
                · refine a_iload dX12_worst_242 rfl ?_
                  refine a_goto (tgt := 249) dX12_worst_244 (by decide) ?_
                  exact a_ireturn dX12_worst_249 ⟨_, rfl, (hS rfl _ (frU_15 (frU_S hf2 (frU_keep hf sq A m)) _) ht2 rfl)⟩
              · exact absurd h226 (by decide)
          · exact absurd h142 (by decide)
        · rw [runS_nx, e] at hrun
          have hlen := nxE_len _ _ _ _ _ e
          refine a_istore (L' := [_, _, _, _, _, _, _, _]) dX12_worst_211 (Nat.le_of_ble_eq_true rfl) rfl ?_
          refine a_goto (tgt := 139) dX12_worst_213 (by decide) ?_
          exact ih I2 A2 t2 (nI (wsN th sq A m), some A) _ _ (frU_S hf2 (frU_keep hf sq A m)) hfs2 (kpP_S hf2 (kpP_keep I sq A m)) (by omega) (by simpa [beP, runM] using hrun)

def mTh (I : am_I) (th : Nat → Nat) (i : Nat) : am_I := fun a b => if a = 88 ∧ b < i then nI (th b) else I a b
theorem mTh_s (I : am_I) (th : Nat → Nat) (i : Nat) : am_up (mTh I th i) 88 i (nI (th i)) = mTh I th (i + 1) := by
  funext a b
  simp only [am_up, mTh]
  by_cases h1 : a = 88
  · subst h1
    by_cases h2 : b = i
    · subst h2
      simp
    · by_cases h3 : b < i
      · simp [h2, h3, show b < i + 1 by omega]
      · simp [h2, h3, show ¬ b < i + 1 by omega]
  · simp [h1]
set_option maxHeartbeats 4000000 in
set_option maxRecDepth 100000 in
theorem lp_th {G : am_G} {d : Nat} {I0 : am_I} {J : am_J} {Ex : am_Ex} {y z : Int32} {N l : Nat} {rb : Nat → Option Nat} (hN : I0 63 3 = nI N) (hN6 : N ≤ 6) (hl : l < 12) (hr : ∀ p, p < N * N → I0 75 p = fxI (rb p) ∧ ∀ q, rb p = some q → q < 2 ^ 12) (kx : AW G cX12_worst 8 RX12 d Ex 123 [some (.ref 63), some (.int (nI l)), some (.int y), some (.int z), some (.int (nI 36)), none, none, none] [] (mTh I0 (thN rb l (N * N)) 36) J) : ∀ i, i ≤ 36 → AW G cX12_worst 8 RX12 d Ex 64 [some (.ref 63), some (.int (nI l)), some (.int y), some (.int z), some (.int (nI i)), none, none, none] [] (mTh I0 (thN rb l (N * N)) i) J := by
  have hsq := sq_le hN6
  refine am_dn 36 (fun i hi ih => ?_)
  refine a_iload dX12_worst_64 rfl ?_
  refine a_bipush (v := nI 36) dX12_worst_66 (by decide) ?_
  refine a_icmp_geN (tgt := 123) dX12_worst_68 (by decide) (by omega) (by omega) (fun h => ?_) (fun h => ?_)
  · obtain rfl : i = 36 := by omega
    exact kx
  · refine a_aload_n dX12_worst_71 rfl ?_
    refine a_getr dX12_worst_72 kf_X12_87 ⟨by decide, _, rfl, rfl⟩ ?_
    refine a_iload dX12_worst_75 rfl ?_
    refine a_join 116 [.int (nI ((thN rb l (N * N)) i)), .int (nI i), .ref 88] ?_ (fun kj => ?_)
    · refine a_iast dX12_worst_116 ⟨by decide, rfl⟩ (by omega) ?_
      refine a_mem (mTh_s I0 _ i) ?_
      refine a_iinc (L' := [_, _, _, _, _, _, _, _]) dX12_worst_117 rfl (nI_inc _) rfl ?_
      refine a_goto (tgt := 64) dX12_worst_120 (by decide) ?_
      exact ih (i + 1) (by omega) (by omega)
    · refine a_iload dX12_worst_77 rfl ?_
      refine a_aload_n dX12_worst_79 rfl ?_
      refine a_geti dX12_worst_80 kf_X12_13 ⟨by decide, _, rfl, rfl⟩ hN ?_
      refine a_aload_n dX12_worst_83 rfl ?_
      refine a_geti dX12_worst_84 kf_X12_13 ⟨by decide, _, rfl, rfl⟩ hN ?_
      refine a_imul dX12_worst_87 (by first | exact pk_mul _ _ | rfl) ?_
      refine a_icmp_geN (tgt := 115) dX12_worst_88 (by decide) (by omega) (by omega) (fun h88 => ?_) (fun h88 => ?_)
      · refine a_iconst (v := nI 0) dX12_worst_115 (by decide) ?_
        exact a_topi (by unfold thN; rw [if_neg (fun q => by omega)]) kj
      · obtain ⟨q1, q2⟩ := hr i h88
        refine a_aload_n dX12_worst_91 rfl ?_
        refine a_getr dX12_worst_92 kf_X12_48 ⟨by decide, _, rfl, rfl⟩ ?_
        refine a_iload dX12_worst_95 rfl ?_
        refine a_iald dX12_worst_97 ⟨by decide, rfl⟩ (by omega) q1 ?_
        refine a_if_lt (tgt := 115) dX12_worst_98 (by decide) (fun h98 => ?_) (fun h98 => ?_)
        · have hn : rb i = none := by cases hrb : rb i with
            | none => rfl
            | some q => rw [hrb] at h98; exact absurd h98 (nI_pos (by have := q2 q hrb; omega))
          refine a_iconst (v := nI 0) dX12_worst_115 (by decide) ?_
          exact a_topi (by unfold thN; simp [hn]) kj
        · obtain ⟨q, hrb⟩ : ∃ q, rb i = some q := by
            cases hrb : rb i with
            | none => rw [hrb] at h98; exact absurd (show fxI none < 0 by decide) h98
            | some r => exact ⟨r, rfl⟩
          have q3 := q2 q hrb
          have q4 : I0 75 i = nI q := by rw [q1, hrb]; rfl
          refine a_aload_n dX12_worst_101 rfl ?_
          refine a_getr dX12_worst_102 kf_X12_48 ⟨by decide, _, rfl, rfl⟩ ?_
          refine a_iload dX12_worst_105 rfl ?_
          refine a_iald dX12_worst_107 ⟨by decide, rfl⟩ (by omega) q4 ?_
          refine a_iload_n dX12_worst_108 rfl ?_
          refine a_ishr dX12_worst_109 rfl ?_
          refine a_iconst (v := nI 1) dX12_worst_110 (by decide) ?_
          refine a_iand dX12_worst_111 (bx_bit (by omega) (by omega)) ?_
          refine a_goto (tgt := 116) dX12_worst_112 (by decide) ?_
          exact a_topi (by unfold thN; simp [hrb, h88]) kj

/-- shut: DOWN, or the LINE q -/
def shB (I : am_I) (q : Int32) (l : Nat) : Bool := decide (I 68 l ≠ 0 ∨ nI l = q)
set_option maxHeartbeats 4000000 in
set_option maxRecDepth 100000 in
theorem c_worst {G : am_G} {d : Nat} {I : am_I} {J : am_J} {K : Int32 → am_I → am_J → Prop} {N n : Nat} {F T : Nat → Nat} {S : Nat → Bool} {x y z : Int32} (hR : rwR I (-9) N n F T S) (hme : ∀ p, p < 36 → vlP (I 72 p)) (hca : ∀ l, l < n → vlP (I 70 l)) (h1 : ∀ l q lim, l < n → q < n → l ≠ q → x = nI l → y = nI q → 1 ≤ lim → lim ≤ 20000 → z = nI lim → I 68 l = 0 → I 68 q = 0 → ∀ I' t c, prP I' I → I' 63 29 = nI t → kpP I' (skQ I N n F T S) (skL I N n F T S).length c.2 → runS (beP btW (fun A => nI (wsN (thN (rbO F T (shB I (nI q)) n N) l (N * N)) (skQ I N n F T S) A (skL I N n F T S).length))) lim 0 (evI I N n F T S) (-9, none) = (t, 0, c) → K c.1 I' J) (h2 : ∀ l q lim, l < n → q < n → l ≠ q → x = nI l → y = nI q → 1 ≤ lim → lim ≤ 20000 → z = nI lim → I 68 l = 0 → I 68 q = 0 → ∀ I' t c, prP I' I → I' 63 29 = nI t → I' 63 15 = nI 0 → runS (beP btW (fun A => nI (wsN (thN (rbO F T (shB I (nI q)) n N) l (N * N)) (skQ I N n F T S) A (skL I N n F T S).length))) lim 0 (evI I N n F T S) (-9, none) = (t, 1, c) → K (-6) I' J)
  (h4 : ∀ l q lim, l < n → q < n → l ≠ q → x = nI l → y = nI q → 1 ≤ lim → lim ≤ 20000 → z = nI lim → (I 68 l ≠ 0 ∨ I 68 q ≠ 0) → K (-4) I J) (h0 : ¬ (isLn n x ∧ isLn n y ∧ x ≠ y ∧ nI 1 ≤ z ∧ z ≤ nI 20000) → K (-1) I J) : CMi G (d + 4) yX12_worst [.ref 63, .int x, .int y, .int z] I J K := by
  refine CM.of (L0 := [_, _, _, _, _, _, _, _]) cX12_worst 8 (some .int) (by decide) (by decide) kcX12_worst (Nat.le_of_ble_eq_true rfl) rfl ?_
  have hR' := hR
  obtain ⟨hN, hN2, hb, hn, hn12, r6, r7⟩ := hR'
  refine a_aload_n dX12_worst_0 rfl ?_
  refine a_iload_n dX12_worst_1 rfl ?_
  refine a_callVi (As := [_]) dX12_worst_2 km_X12_130 ⟨by decide, _, _, _, rfl, rfl⟩ rfl rfl (Nat.le_of_ble_eq_true rfl) ?_
  refine c_isLine hn (by omega) (fun l hl e1 => ?_) (fun e1 => ?_)
  · refine a_if_eq (tgt := 28) dX12_worst_5 (by decide) (fun h5 => ?_) (fun h5 => ?_)
    · exact absurd h5 (by decide)
    · refine a_aload_n dX12_worst_8 rfl ?_
      refine a_iload_n dX12_worst_9 rfl ?_
      refine a_callVi (As := [_]) dX12_worst_10 km_X12_130 ⟨by decide, _, _, _, rfl, rfl⟩ rfl rfl (Nat.le_of_ble_eq_true rfl) ?_
      refine c_isLine hn (by omega) (fun q hq e2 => ?_) (fun e2 => ?_)
      · refine a_if_eq (tgt := 28) dX12_worst_13 (by decide) (fun h13 => ?_) (fun h13 => ?_)
        · exact absurd h13 (by decide)
        · refine a_iload_n dX12_worst_16 rfl ?_
          refine a_iload_n dX12_worst_17 rfl ?_
          refine a_icmp_eq (tgt := 28) dX12_worst_18 (by decide) (fun h18 => ?_) (fun h18 => ?_)
          · refine a_iconst (v := (-1)) dX12_worst_28 (by decide) ?_
            exact a_ireturn dX12_worst_29 ⟨_, rfl, (h0 (fun z => z.2.2.1 h18))⟩
          · subst e1 e2
            have hlq : l ≠ q := fun e => h18 (by rw [e])
            refine a_iload_n dX12_worst_21 rfl ?_
            refine a_callSi (As := [_]) dX12_worst_22 km_X12_206 rfl rfl (Nat.le_of_ble_eq_true rfl) ?_
            refine c_areTries (fun lim hl1 hl2 e1 => ?_) (fun e1 => ?_)
            · subst e1
              refine a_if_ne (tgt := 30) dX12_worst_25 (by decide) (fun h25 => ?_) (fun h25 => ?_)
              · refine a_aload_n dX12_worst_30 rfl ?_
                refine a_getr dX12_worst_31 kf_X12_26 ⟨by decide, _, rfl, rfl⟩ ?_
                refine a_iload_n dX12_worst_34 rfl ?_
                refine a_zald dX12_worst_35 ⟨by decide, rfl⟩ (by omega) rfl ?_
                refine a_if_ne (tgt := 48) dX12_worst_36 (by decide) (fun h36 => ?_) (fun h36 => ?_)
                · refine a_bipush (v := (-4)) dX12_worst_48 (by decide) ?_
                  exact a_ireturn dX12_worst_50 ⟨_, rfl, (h4 l q lim hl hq hlq rfl rfl hl1 hl2 rfl (Or.inl h36))⟩
                · have hd1 : I 68 l = 0 := h36
                  refine a_aload_n dX12_worst_39 rfl ?_
                  refine a_getr dX12_worst_40 kf_X12_26 ⟨by decide, _, rfl, rfl⟩ ?_
                  refine a_iload_n dX12_worst_43 rfl ?_
                  refine a_zald dX12_worst_44 ⟨by decide, rfl⟩ (by omega) rfl ?_
                  refine a_if_eq (tgt := 51) dX12_worst_45 (by decide) (fun h45 => ?_) (fun h45 => ?_)
                  · have hd2 : I 68 q = 0 := h45
                    refine a_aload_n dX12_worst_51 rfl ?_
                    refine a_iconst (v := nI 0) dX12_worst_52 (by decide) ?_
                    refine a_putz dX12_worst_53 kp_X12_118 ⟨by decide, _, rfl, rfl⟩ (by first | exact Or.inl rfl | exact Or.inr rfl) ?_
                    refine a_aload_n dX12_worst_56 rfl ?_
                    refine a_iload_n dX12_worst_57 rfl ?_
                    refine a_callVv (As := [_]) dX12_worst_58 km_X12_148 ⟨by decide, _, _, _, rfl, rfl⟩ rfl rfl (Nat.le_of_ble_eq_true rfl) ?_
                    have hRr : rwR (am_up I 63 15 (nI 0)) (nI q) N n F T (shB I (nI q)) := ⟨hN, hN2, hb, hn, hn12, r6, fun l hl => rfl⟩
                    refine c_setRoutes hRr (fun Ir hM => ?_)
                    have hrb := rb75 hRr hM
                    have hNr : Ir 63 3 = nI N := by rw [hM.1 63 3 (by decide) (by decide) (by decide)]; exact hN
                    have h15r : Ir 63 15 = nI 0 := by rw [hM.1 63 15 (by decide) (by decide) (by decide)]; rfl
                    refine a_iconst (v := nI 0) dX12_worst_61 (by decide) ?_
                    refine a_istore (L' := [_, _, _, _, _, _, _, _]) dX12_worst_62 (Nat.le_of_ble_eq_true rfl) rfl ?_
                    refine a_mem (I' := mTh Ir (thN (rbO F T (shB I (nI q)) n N) l (N * N)) 0) (by funext a b; simp [mTh]) ?_
                    have hprB : prP (mTh Ir (thN (rbO F T (shB I (nI q)) n N) l (N * N)) 36) I := fun k j a b => by
                      show (if k = 88 ∧ j < 36 then _ else _) = _
                      rw [if_neg (fun z => by omega), prP_frR hM.1 k j a b]
                      exact prP_up63 (fun _ _ _ _ => rfl) (by omega) _ k j a b
                    have h15B : mTh Ir (thN (rbO F T (shB I (nI q)) n N) l (N * N)) 36 63 15 = nI 0 := h15r
                    refine lp_th hNr hb (by omega) hrb ?_ 0 (by omega)
                    refine a_aload_n dX12_worst_123 rfl ?_
                    refine a_iload_n dX12_worst_124 rfl ?_
                    refine a_callVv (As := [_]) dX12_worst_125 km_X12_209 ⟨by decide, _, _, _, rfl, rfl⟩ rfl rfl (Nat.le_of_ble_eq_true rfl) ?_
                    refine c_openQ (N := N) (n := n) (F := F) (T := T) (S := S) hR hme hca hprB (fun I1 hop => ?_)
                    have hprI : prP I1 I := prP_tr (opQ_pr hop) hprB
                    have hkp0 := kp_open hop h15B (skQ I N n F T S) (skL I N n F T S).length
                    have hth : ∀ p, p < 36 → I1 88 p = nI (thN (rbO F T (shB I (nI q)) n N) l (N * N) p) := fun p hp => by rw [hop.1 88 p (by omega) (by decide) (fun e => absurd e (by decide))]; simp [mTh, hp]
                    obtain ⟨o1, o2, o3, o4, o5, o6⟩ := hop
                    refine a_bipush (v := (-9)) dX12_worst_128 (by decide) ?_
                    refine a_istore (L' := [_, _, _, _, _, _, _, _]) dX12_worst_130 (Nat.le_of_ble_eq_true rfl) rfl ?_
                    refine a_aload_n dX12_worst_132 rfl ?_
                    refine a_iconst (v := nI 1) dX12_worst_133 (by decide) ?_
                    refine a_callVi (As := [_]) dX12_worst_134 km_X12_212 ⟨by decide, _, _, _, rfl, rfl⟩ rfl rfl (Nat.le_of_ble_eq_true rfl) ?_
                    refine c_nextS o2 o5 hl2 o4 (by omega) (fun _ => o6 0 (by decide)) (fun _ => 0) (fun I' t' hf' ht' e => ?_) (fun I' t' hf' ht' e => ?_) (fun I' t' A' hf' e hfs' => ?_)
                    · refine a_istore (L' := [_, _, _, _, _, _, _, _]) dX12_worst_137 (Nat.le_of_ble_eq_true rfl) rfl ?_
                      refine a_iload dX12_worst_139 rfl ?_
                      refine a_iconst (v := nI 1) dX12_worst_141 (by decide) ?_
                      refine a_icmp_ne (tgt := 216) dX12_worst_142 (by decide) (fun h142 => ?_) (fun h142 => ?_)
                      · refine a_aload_n dX12_worst_216 rfl ?_
                        refine a_aload_n dX12_worst_217 rfl ?_
                        refine a_geti dX12_worst_218 kf_X12_118 ⟨by decide, _, rfl, rfl⟩ rfl ?_
                        refine a_if_eq (tgt := 233) dX12_worst_221 (by decide) (fun h221 => ?_) (fun h221 => ?_)
                        · refine a_iconst (v := nI 0) dX12_worst_233 (by decide) ?_
                          refine a_putz dX12_worst_234 kp_X12_118 ⟨by decide, _, rfl, rfl⟩ (by first | exact Or.inl rfl | exact Or.inr rfl) ?_
                          refine a_iload dX12_worst_237 rfl ?_
                          refine a_if_ge (tgt := 247) dX12_worst_239 (by decide) (fun h239 => ?_) (fun h239 => ?_)
                          · refine a_iload dX12_worst_247 rfl ?_
                            exact a_ireturn dX12_worst_249 ⟨_, rfl, (h1 l q lim hl hq hlq rfl rfl hl1 hl2 rfl hd1 hd2 _ t' (-9, none) (prP_tr (prP_up63 (prP_frS hf') (by omega) _) hprI) ht' rfl (by rw [runS_nx, evI, e]; rfl))⟩
                          · exact absurd (show (0 : Int32) ≤ nI 0 by decide) h239
                        · exact absurd (by rw [hf' 63 15 (by decide) (by decide) (by decide) (by decide) (by decide)]; exact hkp0) h221
                      · exact absurd h142 (by decide)
                    · refine a_istore (L' := [_, _, _, _, _, _, _, _]) dX12_worst_137 (Nat.le_of_ble_eq_true rfl) rfl ?_
                      refine a_iload dX12_worst_139 rfl ?_
                      refine a_iconst (v := nI 1) dX12_worst_141 (by decide) ?_
                      refine a_icmp_ne (tgt := 216) dX12_worst_142 (by decide) (fun h142 => ?_) (fun h142 => ?_)
                      · refine a_aload_n dX12_worst_216 rfl ?_
                        refine a_aload_n dX12_worst_217 rfl ?_
                        refine a_geti dX12_worst_218 kf_X12_118 ⟨by decide, _, rfl, rfl⟩ rfl ?_
                        refine a_if_eq (tgt := 233) dX12_worst_221 (by decide) (fun h221 => ?_) (fun h221 => ?_)
                        · refine a_iconst (v := nI 0) dX12_worst_233 (by decide) ?_
                          refine a_putz dX12_worst_234 kp_X12_118 ⟨by decide, _, rfl, rfl⟩ (by first | exact Or.inl rfl | exact Or.inr rfl) ?_
                          refine a_iload dX12_worst_237 rfl ?_
                          refine a_if_ge (tgt := 247) dX12_worst_239 (by decide) (fun h239 => ?_) (fun h239 => ?_)
                          · exact absurd h239 (by decide)
                          · refine a_iload dX12_worst_242 rfl ?_
                            refine a_goto (tgt := 249) dX12_worst_244 (by decide) ?_
                            exact a_ireturn dX12_worst_249 ⟨_, rfl, (h2 l q lim hl hq hlq rfl rfl hl1 hl2 rfl hd1 hd2 _ t' (-9, none) (prP_tr (prP_up63 (prP_frS hf') (by omega) _) hprI) ht' rfl (by rw [runS_nx, evI, e]; rfl))⟩
                        · refine a_iload dX12_worst_224 rfl ?_
                          refine a_if_ne (tgt := 233) dX12_worst_226 (by decide) (fun h226 => ?_) (fun h226 => ?_)
                          · refine a_iconst (v := nI 0) dX12_worst_233 (by decide) ?_
                            refine a_putz dX12_worst_234 kp_X12_118 ⟨by decide, _, rfl, rfl⟩ (by first | exact Or.inl rfl | exact Or.inr rfl) ?_
                            refine a_iload dX12_worst_237 rfl ?_
                            refine a_if_ge (tgt := 247) dX12_worst_239 (by decide) (fun h239 => ?_) (fun h239 => ?_)
                            · exact absurd h239 (by decide)
                            · refine a_iload dX12_worst_242 rfl ?_
                              refine a_goto (tgt := 249) dX12_worst_244 (by decide) ?_
                              exact a_ireturn dX12_worst_249 ⟨_, rfl, (h2 l q lim hl hq hlq rfl rfl hl1 hl2 rfl hd1 hd2 _ t' (-9, none) (prP_tr (prP_up63 (prP_frS hf') (by omega) _) hprI) ht' rfl (by rw [runS_nx, evI, e]; rfl))⟩
                          · exact absurd h226 (by decide)
                      · exact absurd h142 (by decide)
                    · refine a_istore (L' := [_, _, _, _, _, _, _, _]) dX12_worst_137 (Nat.le_of_ble_eq_true rfl) rfl ?_
                      have hrun : runS (beP btW (fun A => nI (wsN (thN (rbO F T (shB I (nI q)) n N) l (N * N)) (skQ I N n F T S) A (skL I N n F T S).length))) lim 0 (evI I N n F T S) (-9, none) = runS (beP btW (fun A => nI (wsN (thN (rbO F T (shB I (nI q)) n N) l (N * N)) (skQ I N n F T S) A (skL I N n F T S).length))) lim t' (bkE (skG I N n F T S) (skA I N n F T S) (skX I N n F T S) (tlI I) n (skL I N n F T S).length (skF I) A' (skL I N n F T S).length) (if btW (-9) (nI (wsN (thN (rbO F T (shB I (nI q)) n N) l (N * N)) (skQ I N n F T S) A' (skL I N n F T S).length)) = true then (nI (wsN (thN (rbO F T (shB I (nI q)) n N) l (N * N)) (skQ I N n F T S) A' (skL I N n F T S).length), some A') else (-9, none)) := by
                        rw [runS_nx, evI, e]; rfl
                      obtain ⟨t1, st, c1, hr⟩ : ∃ t1 st c1, runS (beP btW (fun A => nI (wsN (thN (rbO F T (shB I (nI q)) n N) l (N * N)) (skQ I N n F T S) A (skL I N n F T S).length))) lim t' (bkE (skG I N n F T S) (skA I N n F T S) (skX I N n F T S) (tlI I) n (skL I N n F T S).length (skF I) A' (skL I N n F T S).length) (if btW (-9) (nI (wsN (thN (rbO F T (shB I (nI q)) n N) l (N * N)) (skQ I N n F T S) A' (skL I N n F T S).length)) = true then (nI (wsN (thN (rbO F T (shB I (nI q)) n N) l (N * N)) (skQ I N n F T S) A' (skL I N n F T S).length), some A') else (-9, none)) = (t1, st, c1) := ⟨_, _, _, rfl⟩
                      exact lp_worst (d := d + 1) (I1 := I1) (y := nI q) (z := nI lim) hth (fun e0 I2 hf ht hkp => h1 l q lim hl hq hlq rfl rfl hl1 hl2 rfl hd1 hd2 I2 _ _ (prP_tr (prP_frU hf) hprI) ht hkp (by rw [hrun, hr, e0])) (fun e0 I2 hf ht h15 => h2 l q lim hl hq hlq rfl rfl hl1 hl2 rfl hd1 hd2 I2 _ c1 (prP_tr (prP_frU hf) hprI) ht h15 (by rw [hrun, hr, e0])) _ I' A' t' (-9, none) _ _ (frU_S hf' (fun _ _ _ _ _ _ _ _ => rfl)) hfs' (kpP_S hf' hkp0) (Nat.lt_succ_self _) hr
                  · refine a_bipush (v := (-4)) dX12_worst_48 (by decide) ?_
                    exact a_ireturn dX12_worst_50 ⟨_, rfl, (h4 l q lim hl hq hlq rfl rfl hl1 hl2 rfl (Or.inr h45))⟩
              · exact absurd h25 (by decide)
            · refine a_if_ne (tgt := 30) dX12_worst_25 (by decide) (fun h25 => ?_) (fun h25 => ?_)
              · exact absurd h25 (by decide)
              · refine a_iconst (v := (-1)) dX12_worst_28 (by decide) ?_
                exact a_ireturn dX12_worst_29 ⟨_, rfl, (h0 (fun z => e1 z.2.2.2))⟩
      · refine a_if_eq (tgt := 28) dX12_worst_13 (by decide) (fun h13 => ?_) (fun h13 => ?_)
        · refine a_iconst (v := (-1)) dX12_worst_28 (by decide) ?_
          exact a_ireturn dX12_worst_29 ⟨_, rfl, (h0 (fun z => e2 z.2.1))⟩
        · exact absurd h13 (by decide)
  · refine a_if_eq (tgt := 28) dX12_worst_5 (by decide) (fun h5 => ?_) (fun h5 => ?_)
    · refine a_iconst (v := (-1)) dX12_worst_28 (by decide) ?_
      exact a_ireturn dX12_worst_29 ⟨_, rfl, (h0 (fun z => e1 z.1))⟩
    · exact absurd h5 (by decide)

