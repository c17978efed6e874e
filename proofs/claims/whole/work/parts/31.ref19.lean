/-! ===== the reference: meters, its loops ===== -/
theorem runS_le {C : Type} (step : C → (Nat → Nat) → C × Bool) {lim : Nat} : ∀ (E : EvS) (t : Nat) (c : C), t ≤ lim → (runS step lim t E c).1 ≤ lim
  | [], t, c, h => h
  | none :: E, t, c, h => by
    rw [runS]
    split
    · exact h
    · exact runS_le step E (t + 1) c (by omega)
  | some A :: E, t, c, h => by
    rw [runS]
    split
    · exact h
    · exact runS_le step E t _ h
theorem cmp_0 {a : Nat} (h : a < 2 ^ 62) : lg_cmp (lN a) 0 = 0 ↔ a = 0 := by
  unfold lg_cmp
  have e1 : lN a > (0 : Int64) ↔ 0 < a := pk_lLT (a := 0) (by decide) (by omega)
  have e2 : lN a = (0 : Int64) ↔ a = 0 := pk_lEQ (b := 0) (by omega) (by decide)
  by_cases q : a = 0
  · rw [if_neg (fun z => by have := e1.mp z; omega), if_pos (e2.mpr q)]
    exact ⟨fun _ => q, fun _ => rfl⟩
  · rw [if_pos (e1.mpr (by omega))]
    exact ⟨fun z => absurd z (by decide), fun z => absurd z q⟩
def frM (I I1 : am_I) : Prop := ∀ k j, (k < 81 ∨ 85 < k) → (k = 63 → j ≠ 29 ∧ j ≠ 31) → I k j = I1 k j
theorem frM_row {I I1 : am_I} (h : frM I I1) {k : Nat} (h1 : k < 81 ∨ 85 < k) (h2 : k ≠ 63) : I k = I1 k := by
  funext j
  exact h k j h1 (fun e => absurd e h2)
theorem frM_al {I I1 I' : am_I} {fr : Nat → Nat} {s f : Nat} (h : frM I I1) (hf : frS I' (mTk0 (mFx I fr s f) 36)) : frM I' I1 := fun k j h1 h2 => by
  rw [hf k j (by omega) (by omega) (by omega) (by omega) h2, ← h k j h1 h2]
  show (if k = 85 ∧ j < 36 then _ else _) = _
  rw [if_neg (fun z => by omega)]
  show (if k = 81 then _ else _) = _
  rw [if_neg (by omega)]
/-- what isAlone needs of the memory -/
theorem skP_al {I I1 : am_I} {n m s : Nat} {g la : Nat → Nat} {fx : Nat → Option Nat} {sq : Nat → Nat} {tl : Nat → Bool} {lf0 A : Nat → Nat} (hS : skP I1 n m g la fx sq tl lf0) (h : frM I I1) (hsq : ∀ j k, j < k → k < m → sq j < sq k) (hb : ∀ k f, k < m → fx k = some f → I 81 (sq k) = nI f) (hff : ∀ k, k < m → I1 89 (sq k) = nI (A k)) (hA : ∀ k, k < m → A k ≤ 200) : skP (mTk0 (mFx I (frN fx sq m) s (frL fx sq m).length) 36) n m g la (fxS fx A s) sq tl lf0 := by
  obtain ⟨a1, a2, a3, a4, a5, a6, a7⟩ := hS
  have e (k : Nat) (z : k < 81 ∨ 85 < k := by omega) (z2 : k ≠ 63 := by decide) : I k = I1 k := frM_row h z z2
  have hff' : ∀ k, k < m → I 89 (sq k) = nI (A k) := fun k hk => by rw [e 89]; exact hff k hk
  refine ⟨?_, a2, ?_, a4, fun k hk => ?_, fun l hl => ?_, a7⟩
  · show I 63 4 = nI n
    rw [h 63 4 (by omega) (by decide)]; exact a1
  · show I 63 20 = nI m
    rw [h 63 20 (by omega) (by decide)]; exact a3
  · obtain ⟨b1, b2, b3, b4, b5, b6, b7, b8, b9⟩ := a5 k hk
    refine ⟨?_, b2, ?_, b4, ?_, b6, ?_, fun f hf => ?_, b9⟩
    · show I 79 k = _
      rw [e 79]; exact b1
    · show I 80 k = _
      rw [e 80]; exact b3
    · show I 77 k = _
      rw [e 77]; exact b5
    · exact fxR_S hsq hb hff' hk
    · unfold fxS at hf
      cases hfx : fx k with
      | some f2 => rw [hfx] at hf; cases hf; exact b8 f hfx
      | none =>
        rw [hfx] at hf
        simp only at hf
        split at hf
        · cases hf; exact hA k hk
        · cases hf
  · show I 70 l = _
    rw [e 70]; exact a6 l hl
def alS (g la : Nat → Nat) (fx : Nat → Option Nat) (tl : Nat → Bool) (n m : Nat) (lf0 A : Nat → Nat) (lim t s : Nat) : Nat × Nat × Nat := runS cn2 lim t (evS g la (fxS fx A s) tl n m 0 lf0 (fun _ => 0)) 0
theorem nxL_lt {s j a : Nat} (hs : s = 2 ^ j * (2 * a + 1)) (h : s < 2 ^ 36) (hj : j < 36) : nxL s < 2 ^ 38 ∧ nxL s = nxS j s := by
  have e : czN s = j := by rw [hs]; exact czN_low (by omega)
  have e2 : nxL s = nxS j s := by unfold nxL; rw [e]
  refine ⟨?_, e2⟩
  rw [e2]
  have hj2 : 2 ^ j < 2 ^ 36 := Nat.pow_lt_pow_right (by decide) hj
  exact Nat.or_lt_two_pow (by omega) (Nat.lt_of_le_of_lt (Nat.div_le_self _ _) (Nat.xor_lt_two_pow (by omega) (by omega)))
set_option maxHeartbeats 4000000 in
set_option maxRecDepth 100000 in
theorem lp_mt3 {G : am_G} {d : Nat} {I1 : am_I} {J : am_J} {K : Int32 → am_I → am_J → Prop} {x1 x2 : Int32} {n m lim : Nat} {g la : Nat → Nat} {fx : Nat → Option Nat} {sq : Nat → Nat} {tl : Nat → Bool} {lf0 A : Nat → Nat} {res : Nat × Option (Option (Nat × Nat))} (hS : skP I1 n m g la fx sq tl lf0) (hlim : I1 63 30 = nI lim) (hl2 : lim ≤ 20000) (hsq : ∀ j k, j < k → k < m → sq j < sq k) (hff : ∀ k, k < m → I1 89 (sq k) = nI (A k)) (hA : ∀ k, k < m → A k ≤ 200) (hfr : ∀ i, i < (frL fx sq m).length → I1 90 i = nI (frN fx sq m i) ∧ frN fx sq m i < 36) (h0 : res.2 = some none → ∀ I', frM I' I1 → I' 63 29 = nI res.1 → K (-9) I' J) (hs : res.2 = none → ∀ I', frM I' I1 → I' 63 29 = nI res.1 → K (-6) I' J) (h1 : ∀ z s, res.2 = some (some (z, s)) → ∀ I', frM I' I1 → I' 63 29 = nI res.1 → K (nI z) I' (am_upJ J 63 2 (lN (btN (frN fx sq m) s (frL fx sq m).length)))) : ∀ (f z s t : Nat) (I : am_I) (v7 : Option Value), z ≤ (frL fx sq m).length → s < 2 ^ 40 → (z ≠ 0 → 0 < s) → frM I I1 → I 63 29 = nI t → t ≤ lim → (∀ k f, k < m → fx k = some f → I 81 (sq k) = nI f) → mtM (frL fx sq m).length z s < f → mtS (alS g la fx tl n m lf0 A lim) (frL fx sq m).length f z s t = res → AW G cX12_meters 11 RX12 (d + 4) (am_ex G (some .int) (fun r I J => ∃ x, r = some (.int x) ∧ K x I J)) 125 [some (.ref 63), some (.int x1), some (.int x2), some (.int (nI (frL fx sq m).length)), some (.int (nI z)), some (.long (lN s)), none, v7, none, none, none] [] I J := by
  have hfl : (frL fx sq m).length ≤ 36 := by
    rw [frL_len]
    exact Nat.le_trans (cN_le _ _) hS.2.2.2.1
  have hp36 : 2 ^ (frL fx sq m).length ≤ 2 ^ 36 := Nat.pow_le_pow_right (by decide) hfl
  intro f
  induction f with
  | zero => intro z s t I v7 _ _ _ _ _ _ _ h; omega
  | succ f ih =>
    intro z s t I v7 hz hs40 hzs hf ht htl hb hM hres
    rw [mtS, if_neg (by omega)] at hres
    have e90 : I 90 = I1 90 := frM_row hf (by omega) (by decide)
    by_cases hsl : s < 2 ^ (frL fx sq m).length
    · rw [if_pos hsl] at hres
      by_cases g1 : (alS g la fx tl n m lf0 A lim t s).2.1 = 1
      · rw [if_pos g1] at hres
        refine a_lload dX12_meters_125 rfl ?_
        refine a_iload_n dX12_meters_127 rfl ?_
        refine a_lshr dX12_meters_128 (lx_shr (by omega) (by omega)) ?_
        refine a_lconst (v := 0) dX12_meters_129 (by decide) ?_
        refine a_lcmp dX12_meters_130 rfl ?_
        refine a_if_ne (tgt := 225) dX12_meters_131 (by decide) (fun h131 => ?_) (fun h131 => ?_)
        · exact absurd ((cmp_0 (Nat.lt_of_le_of_lt (Nat.div_le_self _ _) (by omega))).mpr (Nat.div_eq_of_lt hsl)) h131
        · refine a_aload_n dX12_meters_134 rfl ?_
          refine a_lload dX12_meters_135 rfl ?_
          refine a_iload_n dX12_meters_137 rfl ?_
          refine a_callVi (As := [_, _]) dX12_meters_138 km_X12_226 ⟨by decide, _, _, _, rfl, rfl⟩ rfl rfl (Nat.le_of_ble_eq_true rfl) ?_
          refine c_isAlone (fr := frN fx sq m) (fx := fxS fx A s) (by omega) hfl (by rw [e90]; exact hfr) (skP_al hS hf hsq hb hff hA) (by rw [hf 63 30 (by omega) (by decide)]; exact hlim) hl2 ht htl (fun I' hf' ht' => ?_)
          have hfM : frM I' I1 := frM_al hf hf'
          have hb' : ∀ k f, k < m → fx k = some f → I' 81 (sq k) = nI f := fun k f hk hfk => by
            rw [frS_row hf' (by decide) (by decide) (by decide) (by decide) (by decide)]
            have e := fxR_S (A := A) (s := s) (base := I 81) (ff := I 89) hsq hb (by rw [frM_row hf (by omega) (by decide)]; exact hff) hk
            show fxR _ _ _ _ _ _ = _
            rw [e]
            simp [fxS, hfk, fxI]
          have htl' : (alS g la fx tl n m lf0 A lim t s).1 ≤ lim := runS_le _ _ _ _ htl
          have ht2 : I' 63 29 = nI (alS g la fx tl n m lf0 A lim t s).1 := ht'
          show AW _ _ _ _ _ _ _ _ (.int (alR (alS g la fx tl n m lf0 A lim t s)) :: _) _ _
          refine a_topi (v := (-6)) (by unfold alR; rw [if_pos g1]) ?_
          refine a_istore (L' := [_, _, _, _, _, _, _, _, _, _, _]) dX12_meters_141 (Nat.le_of_ble_eq_true rfl) rfl ?_
          refine a_iload dX12_meters_143 rfl ?_
          refine a_if_ge (tgt := 151) dX12_meters_145 (by decide) (fun h145 => ?_) (fun h145 => ?_)
          · exact absurd h145 (by decide)
          · refine a_iload dX12_meters_148 rfl ?_
            exact a_ireturn dX12_meters_150 ⟨_, rfl, (hs (by rw [← hres]) I' hfM (by rw [← hres]; exact ht2))⟩
      · rw [if_neg g1] at hres
        by_cases g2 : (alS g la fx tl n m lf0 A lim t s).2.2 = 1
        · rw [if_pos g2] at hres
          refine a_lload dX12_meters_125 rfl ?_
          refine a_iload_n dX12_meters_127 rfl ?_
          refine a_lshr dX12_meters_128 (lx_shr (by omega) (by omega)) ?_
          refine a_lconst (v := 0) dX12_meters_129 (by decide) ?_
          refine a_lcmp dX12_meters_130 rfl ?_
          refine a_if_ne (tgt := 225) dX12_meters_131 (by decide) (fun h131 => ?_) (fun h131 => ?_)
          · exact absurd ((cmp_0 (Nat.lt_of_le_of_lt (Nat.div_le_self _ _) (by omega))).mpr (Nat.div_eq_of_lt hsl)) h131
          · refine a_aload_n dX12_meters_134 rfl ?_
            refine a_lload dX12_meters_135 rfl ?_
            refine a_iload_n dX12_meters_137 rfl ?_
            refine a_callVi (As := [_, _]) dX12_meters_138 km_X12_226 ⟨by decide, _, _, _, rfl, rfl⟩ rfl rfl (Nat.le_of_ble_eq_true rfl) ?_
            refine c_isAlone (fr := frN fx sq m) (fx := fxS fx A s) (by omega) hfl (by rw [e90]; exact hfr) (skP_al hS hf hsq hb hff hA) (by rw [hf 63 30 (by omega) (by decide)]; exact hlim) hl2 ht htl (fun I' hf' ht' => ?_)
            have hfM : frM I' I1 := frM_al hf hf'
            have hb' : ∀ k f, k < m → fx k = some f → I' 81 (sq k) = nI f := fun k f hk hfk => by
              rw [frS_row hf' (by decide) (by decide) (by decide) (by decide) (by decide)]
              have e := fxR_S (A := A) (s := s) (base := I 81) (ff := I 89) hsq hb (by rw [frM_row hf (by omega) (by decide)]; exact hff) hk
              show fxR _ _ _ _ _ _ = _
              rw [e]
              simp [fxS, hfk, fxI]
            have htl' : (alS g la fx tl n m lf0 A lim t s).1 ≤ lim := runS_le _ _ _ _ htl
            have ht2 : I' 63 29 = nI (alS g la fx tl n m lf0 A lim t s).1 := ht'
            show AW _ _ _ _ _ _ _ _ (.int (alR (alS g la fx tl n m lf0 A lim t s)) :: _) _ _
            refine a_topi (v := (nI 1)) (by unfold alR; rw [if_neg g1, if_pos g2]) ?_
            refine a_istore (L' := [_, _, _, _, _, _, _, _, _, _, _]) dX12_meters_141 (Nat.le_of_ble_eq_true rfl) rfl ?_
            refine a_iload dX12_meters_143 rfl ?_
            refine a_if_ge (tgt := 151) dX12_meters_145 (by decide) (fun h145 => ?_) (fun h145 => ?_)
            · refine a_iload dX12_meters_151 rfl ?_
              refine a_iconst (v := nI 1) dX12_meters_153 (by decide) ?_
              refine a_icmp_ne (tgt := 204) dX12_meters_154 (by decide) (fun h154 => ?_) (fun h154 => ?_)
              · exact absurd rfl h154
              · refine a_lconst (v := 0) dX12_meters_157 (by decide) ?_
                refine a_lstore (L' := [_, _, _, _, _, _, _, _, _, _, _]) dX12_meters_158 (Nat.le_of_ble_eq_true rfl) rfl ?_
                refine a_iconst (v := nI 0) dX12_meters_160 (by decide) ?_
                refine a_istore (L' := [_, _, _, _, _, _, _, _, _, _, _]) dX12_meters_161 (Nat.le_of_ble_eq_true rfl) rfl ?_
                exact lp_mt4 (d := d + 3) hfl (by omega) (by rw [frM_row hfM (by omega) (by decide)]; exact hfr) (h1 z s (by rw [← hres]) I' hfM (by rw [← hres]; exact ht2)) 0 (by omega)
            · exact absurd (show (0 : Int32) ≤ nI 1 by decide) h145
        · rw [if_neg g2] at hres
          by_cases hz0 : z = 0
          · subst hz0
            rw [if_pos rfl] at hres
            refine a_lload dX12_meters_125 rfl ?_
            refine a_iload_n dX12_meters_127 rfl ?_
            refine a_lshr dX12_meters_128 (lx_shr (by omega) (by omega)) ?_
            refine a_lconst (v := 0) dX12_meters_129 (by decide) ?_
            refine a_lcmp dX12_meters_130 rfl ?_
            refine a_if_ne (tgt := 225) dX12_meters_131 (by decide) (fun h131 => ?_) (fun h131 => ?_)
            · exact absurd ((cmp_0 (Nat.lt_of_le_of_lt (Nat.div_le_self _ _) (by omega))).mpr (Nat.div_eq_of_lt hsl)) h131
            · refine a_aload_n dX12_meters_134 rfl ?_
              refine a_lload dX12_meters_135 rfl ?_
              refine a_iload_n dX12_meters_137 rfl ?_
              refine a_callVi (As := [_, _]) dX12_meters_138 km_X12_226 ⟨by decide, _, _, _, rfl, rfl⟩ rfl rfl (Nat.le_of_ble_eq_true rfl) ?_
              refine c_isAlone (fr := frN fx sq m) (fx := fxS fx A s) (by omega) hfl (by rw [e90]; exact hfr) (skP_al hS hf hsq hb hff hA) (by rw [hf 63 30 (by omega) (by decide)]; exact hlim) hl2 ht htl (fun I' hf' ht' => ?_)
              have hfM : frM I' I1 := frM_al hf hf'
              have hb' : ∀ k f, k < m → fx k = some f → I' 81 (sq k) = nI f := fun k f hk hfk => by
                rw [frS_row hf' (by decide) (by decide) (by decide) (by decide) (by decide)]
                have e := fxR_S (A := A) (s := s) (base := I 81) (ff := I 89) hsq hb (by rw [frM_row hf (by omega) (by decide)]; exact hff) hk
                show fxR _ _ _ _ _ _ = _
                rw [e]
                simp [fxS, hfk, fxI]
              have htl' : (alS g la fx tl n m lf0 A lim t s).1 ≤ lim := runS_le _ _ _ _ htl
              have ht2 : I' 63 29 = nI (alS g la fx tl n m lf0 A lim t s).1 := ht'
              show AW _ _ _ _ _ _ _ _ (.int (alR (alS g la fx tl n m lf0 A lim t s)) :: _) _ _
              refine a_topi (v := (nI 0)) (by unfold alR; rw [if_neg g1, if_neg g2]) ?_
              refine a_istore (L' := [_, _, _, _, _, _, _, _, _, _, _]) dX12_meters_141 (Nat.le_of_ble_eq_true rfl) rfl ?_
              refine a_iload dX12_meters_143 rfl ?_
              refine a_if_ge (tgt := 151) dX12_meters_145 (by decide) (fun h145 => ?_) (fun h145 => ?_)
              · refine a_iload dX12_meters_151 rfl ?_
                refine a_iconst (v := nI 1) dX12_meters_153 (by decide) ?_
                refine a_icmp_ne (tgt := 204) dX12_meters_154 (by decide) (fun h154 => ?_) (fun h154 => ?_)
                · refine a_iload dX12_meters_204 rfl ?_
                  refine a_if_ne (tgt := 215) dX12_meters_206 (by decide) (fun h206 => ?_) (fun h206 => ?_)
                  · exact absurd (show nI 0 = 0 by rfl) h206
                  · refine a_lconst (v := 1) dX12_meters_209 (by decide) ?_
                    refine a_iload_n dX12_meters_210 rfl ?_
                    refine a_lshl dX12_meters_211 (show (1 : Int64) <<< _ = lN (2 ^ (frL fx sq m).length) by have e := lx_shl (n := 1) (k := (frL fx sq m).length) (by omega) (by omega); rw [Nat.one_mul] at e; exact e) ?_
                    refine a_goto (tgt := 220) dX12_meters_212 (by decide) ?_
                    refine a_lstore (L' := [_, _, _, _, _, _, _, _, _, _, _]) dX12_meters_220 (Nat.le_of_ble_eq_true rfl) rfl ?_
                    refine a_goto (tgt := 125) dX12_meters_222 (by decide) ?_
                    refine ih 0 (2 ^ (frL fx sq m).length) _ I' _ hz (by omega) (fun q => absurd rfl q) hfM ht2 htl' hb' ?_ hres
                    unfold mtM at hM ⊢
                    omega
                · exact absurd h154 (by decide)
              · exact absurd (show (0 : Int32) ≤ nI 0 by decide) h145
          · rw [if_neg hz0] at hres
            refine a_lload dX12_meters_125 rfl ?_
            refine a_iload_n dX12_meters_127 rfl ?_
            refine a_lshr dX12_meters_128 (lx_shr (by omega) (by omega)) ?_
            refine a_lconst (v := 0) dX12_meters_129 (by decide) ?_
            refine a_lcmp dX12_meters_130 rfl ?_
            refine a_if_ne (tgt := 225) dX12_meters_131 (by decide) (fun h131 => ?_) (fun h131 => ?_)
            · exact absurd ((cmp_0 (Nat.lt_of_le_of_lt (Nat.div_le_self _ _) (by omega))).mpr (Nat.div_eq_of_lt hsl)) h131
            · refine a_aload_n dX12_meters_134 rfl ?_
              refine a_lload dX12_meters_135 rfl ?_
              refine a_iload_n dX12_meters_137 rfl ?_
              refine a_callVi (As := [_, _]) dX12_meters_138 km_X12_226 ⟨by decide, _, _, _, rfl, rfl⟩ rfl rfl (Nat.le_of_ble_eq_true rfl) ?_
              refine c_isAlone (fr := frN fx sq m) (fx := fxS fx A s) (by omega) hfl (by rw [e90]; exact hfr) (skP_al hS hf hsq hb hff hA) (by rw [hf 63 30 (by omega) (by decide)]; exact hlim) hl2 ht htl (fun I' hf' ht' => ?_)
              have hfM : frM I' I1 := frM_al hf hf'
              have hb' : ∀ k f, k < m → fx k = some f → I' 81 (sq k) = nI f := fun k f hk hfk => by
                rw [frS_row hf' (by decide) (by decide) (by decide) (by decide) (by decide)]
                have e := fxR_S (A := A) (s := s) (base := I 81) (ff := I 89) hsq hb (by rw [frM_row hf (by omega) (by decide)]; exact hff) hk
                show fxR _ _ _ _ _ _ = _
                rw [e]
                simp [fxS, hfk, fxI]
              have htl' : (alS g la fx tl n m lf0 A lim t s).1 ≤ lim := runS_le _ _ _ _ htl
              have ht2 : I' 63 29 = nI (alS g la fx tl n m lf0 A lim t s).1 := ht'
              show AW _ _ _ _ _ _ _ _ (.int (alR (alS g la fx tl n m lf0 A lim t s)) :: _) _ _
              refine a_topi (v := (nI 0)) (by unfold alR; rw [if_neg g1, if_neg g2]) ?_
              refine a_istore (L' := [_, _, _, _, _, _, _, _, _, _, _]) dX12_meters_141 (Nat.le_of_ble_eq_true rfl) rfl ?_
              refine a_iload dX12_meters_143 rfl ?_
              refine a_if_ge (tgt := 151) dX12_meters_145 (by decide) (fun h145 => ?_) (fun h145 => ?_)
              · refine a_iload dX12_meters_151 rfl ?_
                refine a_iconst (v := nI 1) dX12_meters_153 (by decide) ?_
                refine a_icmp_ne (tgt := 204) dX12_meters_154 (by decide) (fun h154 => ?_) (fun h154 => ?_)
                · refine a_iload dX12_meters_204 rfl ?_
                  refine a_if_ne (tgt := 215) dX12_meters_206 (by decide) (fun h206 => ?_) (fun h206 => ?_)
                  · refine a_lload dX12_meters_215 rfl ?_
                    refine a_callSl (As := [_]) dX12_meters_217 km_X12_229 rfl rfl (Nat.le_of_ble_eq_true rfl) ?_
                    obtain ⟨j, a, hja⟩ := low_ex s (hzs hz0)
                    have hj36 : j < 36 := by
                      rcases Nat.lt_or_ge j 36 with q | q
                      · exact q
                      · have q1 : 2 ^ 36 ≤ 2 ^ j := Nat.pow_le_pow_right (by decide) q
                        have q2 : 2 ^ j * 1 ≤ 2 ^ j * (2 * a + 1) := Nat.mul_le_mul_left _ (by omega)
                        omega
                    obtain ⟨n1, n2⟩ := nxL_lt hja (by omega) hj36
                    have n3 : s < nxL s := by rw [n2]; exact nxS_gt j s
                    rw [hja]
                    refine c_later (by rw [← hja]; omega) (by omega) ?_
                    rw [← hja, ← n2]
                    refine a_lstore (L' := [_, _, _, _, _, _, _, _, _, _, _]) dX12_meters_220 (Nat.le_of_ble_eq_true rfl) rfl ?_
                    refine a_goto (tgt := 125) dX12_meters_222 (by decide) ?_
                    refine ih z (nxL s) _ I' _ hz (by omega) (fun _ => by omega) hfM ht2 htl' hb' ?_ hres
                    unfold mtM at hM ⊢
                    omega
                  · exact absurd (nI_inj (by omega) (by decide) (h206.trans nI_0.symm)) hz0
                · exact absurd h154 (by decide)
              · exact absurd (show (0 : Int32) ≤ nI 0 by decide) h145
    · rw [if_neg hsl] at hres
      refine a_lload dX12_meters_125 rfl ?_
      refine a_iload_n dX12_meters_127 rfl ?_
      refine a_lshr dX12_meters_128 (lx_shr (by omega) (by omega)) ?_
      refine a_lconst (v := 0) dX12_meters_129 (by decide) ?_
      refine a_lcmp dX12_meters_130 rfl ?_
      refine a_if_ne (tgt := 225) dX12_meters_131 (by decide) (fun h131 => ?_) (fun h131 => ?_)
      · refine a_iinc (L' := [_, _, _, _, _, _, _, _, _, _, _]) dX12_meters_225 rfl (nI_inc _) rfl ?_
        refine a_goto (tgt := 111) dX12_meters_228 (by decide) ?_
        refine a_iload dX12_meters_111 rfl ?_
        refine a_iload_n dX12_meters_113 rfl ?_
        refine a_icmp_gtN (tgt := 231) dX12_meters_114 (by decide) (by omega) (by omega) (fun h114 => ?_) (fun h114 => ?_)
        · have hmt : mtS (alS g la fx tl n m lf0 A lim) (frL fx sq m).length f (z + 1) (2 ^ (z + 1) - 1) t = (t, some none) := by
            cases f with
            | zero => rfl
            | succ f => rw [mtS, if_pos h114]
          rw [hmt] at hres
          refine a_bipush (v := (-9)) dX12_meters_231 (by decide) ?_
          exact a_ireturn dX12_meters_233 ⟨_, rfl, (h0 (by rw [← hres]) I hf (by rw [← hres]; exact ht))⟩
        · have hz2 : 2 ^ (z + 1) ≤ 2 ^ 36 := Nat.pow_le_pow_right (by decide) (by omega)
          have hz3 : 2 ≤ 2 ^ (z + 1) := by
            have := Nat.pow_le_pow_right (show 0 < 2 by decide) (show 1 ≤ z + 1 by omega)
            omega
          refine a_lconst (v := 1) dX12_meters_117 (by decide) ?_
          refine a_iload dX12_meters_118 rfl ?_
          refine a_lshl dX12_meters_120 (show (1 : Int64) <<< _ = lN (2 ^ (z + 1)) by have e := lx_shl (n := 1) (k := z + 1) (by omega) (by rw [Nat.one_mul]; exact Nat.pow_lt_pow_right (by decide) (by omega)); rw [Nat.one_mul] at e; exact e) ?_
          refine a_lconst (v := 1) dX12_meters_121 (by decide) ?_
          refine a_lsub dX12_meters_122 (show lN (2 ^ (z + 1)) - 1 = lN (2 ^ (z + 1) - 1) from lN_sub (Nat.two_pow_pos _)) ?_
          refine a_lstore (L' := [_, _, _, _, _, _, _, _, _, _, _]) dX12_meters_123 (Nat.le_of_ble_eq_true rfl) rfl ?_
          refine ih (z + 1) (2 ^ (z + 1) - 1) t I _ h114 (by omega) (fun _ => by omega) hf ht htl hb ?_ hres
          unfold mtM at hM ⊢
          obtain ⟨c, hc⟩ : ∃ c, (frL fx sq m).length + 1 - z = c + 1 := ⟨(frL fx sq m).length - z, by omega⟩
          rw [show (frL fx sq m).length + 1 - (z + 1) = c by omega]
          rw [hc, Nat.succ_mul] at hM
          have hp0 := Nat.two_pow_pos (frL fx sq m).length
          omega
      · exact absurd ((cmp_0 (Nat.lt_of_le_of_lt (Nat.div_le_self _ _) (by omega))).mp h131) (fun q => by have := (Nat.div_eq_zero_iff.mp q); have := Nat.two_pow_pos (frL fx sq m).length; omega)

