/-! ===== the reference: setRoutes ===== -/
def mWay (I : am_I) (i : Nat) : am_I := fun a b => if a = 76 ∧ b < i then nI (if b / 6 = b % 6 then 0 else 100) else I a b
theorem mWay_s (I : am_I) (i : Nat) : am_up (mWay I i) 76 i (nI (if i / 6 = i % 6 then 0 else 100)) = mWay I (i + 1) := by
  funext a b
  simp only [am_up, mWay]
  by_cases h1 : a = 76
  · subst h1
    by_cases h2 : b = i
    · subst h2
      simp
    · by_cases h3 : b < i
      · simp [h2, h3, show b < i + 1 by omega]
      · simp [h2, h3, show ¬ b < i + 1 by omega]
  · simp [h1]
set_option maxHeartbeats 4000000 in
set_option maxRecDepth 100000 in
theorem lp_sr0 {G : am_G} {d : Nat} {I : am_I} {J : am_J} {Ex : am_Ex} {oth : Int32} {v3 v4 v5 : Option Value} (kx : AW G cX12_setRoutes 6 RX12 d Ex 37 [some (.ref 63), some (.int oth), some (.int (nI 36)), v3, v4, v5] [] (mWay I 36) J) : ∀ i, i ≤ 36 → AW G cX12_setRoutes 6 RX12 d Ex 2 [some (.ref 63), some (.int oth), some (.int (nI i)), v3, v4, v5] [] (mWay I i) J := by
  refine am_dn 36 (fun i hi ih => ?_)
  refine a_iload_n dX12_setRoutes_2 rfl ?_
  refine a_bipush (v := nI 36) dX12_setRoutes_3 (by decide) ?_
  refine a_icmp_geN (tgt := 37) dX12_setRoutes_5 (by decide) (by omega) (by omega) (fun h => ?_) (fun h => ?_)
  · obtain rfl : i = 36 := by omega
    exact kx
  · refine a_aload_n dX12_setRoutes_8 rfl ?_
    refine a_getr dX12_setRoutes_9 kf_X12_51 ⟨by decide, _, rfl, rfl⟩ ?_
    refine a_iload_n dX12_setRoutes_12 rfl ?_
    refine a_iload_n dX12_setRoutes_13 rfl ?_
    refine a_bipush (v := nI 6) dX12_setRoutes_14 (by decide) ?_
    refine a_idiv dX12_setRoutes_16 (by decide) (pk_div (by omega) (by decide) (by decide)) ?_
    refine a_iload_n dX12_setRoutes_17 rfl ?_
    refine a_bipush (v := nI 6) dX12_setRoutes_18 (by decide) ?_
    refine a_irem dX12_setRoutes_20 (by decide) (pk_rem (by omega) (by decide) (by decide)) ?_
    refine a_ticmp_ne (tgt := 28) (pj := 30) (a := (nI 100)) (b := (nI 0)) dX12_setRoutes_21 (by decide) (fun kj => ?_) (fun kj => ?_) ?_
    · refine a_bipush (v := nI 100) dX12_setRoutes_28 (by decide) ?_
      exact kj
    · refine a_iconst (v := nI 0) dX12_setRoutes_24 (by decide) ?_
      refine a_goto (tgt := 30) dX12_setRoutes_25 (by decide) ?_
      exact kj
    refine a_topi (v := nI (if i / 6 = i % 6 then 0 else 100)) (by by_cases e : i / 6 = i % 6 <;> simp [e, nI_eq (show i / 6 < 2 ^ 31 by omega) (show i % 6 < 2 ^ 31 by omega)]) ?_
    refine a_iast dX12_setRoutes_30 ⟨by decide, rfl⟩ (by omega) ?_
    refine a_mem (mWay_s I i) ?_
    refine a_iinc (L' := [_, _, _, _, _, _]) dX12_setRoutes_31 rfl (nI_inc _) rfl ?_
    refine a_goto (tgt := 2) dX12_setRoutes_34 (by decide) ?_
    exact ih (i + 1) (by omega) (by omega)

/-- the row of the ways: r rounds, l LINES of the next one, and of the one behind them those to the KNOTS below t -/
def wyP (F T : Nat → Nat) (S : Nat → Bool) (N n r l t : Nat) (I : am_I) : Prop := ∀ a b, a < 6 → b < N → I 76 (6 * a + b) = nI (rnd F T S (wyR F T S n b r) (if b < t then l + 1 else l) a)
theorem wyP_end {F T : Nat → Nat} {S : Nat → Bool} {N n r l : Nat} {I : am_I} (h : wyP F T S N n r l N I) : wyP F T S N n r (l + 1) 0 I := fun a b ha hb => by
  rw [h a b ha hb, if_pos hb, if_neg (by omega)]
theorem wyP_shut {F T : Nat → Nat} {S : Nat → Bool} {N n r l : Nat} {I : am_I} (hs : S l = true) (h : wyP F T S N n r l 0 I) : wyP F T S N n r (l + 1) 0 I := fun a b ha hb => by
  rw [h a b ha hb, if_neg (by omega), if_neg (by omega)]
  congr 1
  show _ = rlx F T S _ l a
  unfold rlx
  simp [hs]
theorem wyP_step {F T : Nat → Nat} {S : Nat → Bool} {N n r l t : Nat} {I : am_I} (hN : N ≤ 6) (hF : F l < N) (ht : t < N) (h : wyP F T S N n r l t I) : wyP F T S N n r l (t + 1) (am_up I 76 (6 * F l + t) (nI (rlx F T S (rnd F T S (wyR F T S n t r) l) l (F l)))) := fun a b ha hb => by
  by_cases e : b = t
  · subst e
    rw [if_pos (by omega)]
    by_cases ea : a = F l
    · subst ea
      rw [am_up_same]
      rfl
    · rw [am_up_slot (by omega), h a b ha hb, if_neg (by omega)]
      congr 1
      show _ = rlx F T S _ l a
      unfold rlx
      simp [ea]
  · rw [am_up_slot (by omega), h a b ha hb]
    by_cases q : b < t
    · rw [if_pos q, if_pos (by omega)]
    · rw [if_neg q, if_neg (by omega)]
def fr76 (I I0 : am_I) : Prop := ∀ k, k ≠ 76 → I k = I0 k
theorem fr76_up {I I0 : am_I} (h : fr76 I I0) (j : Nat) (x : Int32) : fr76 (am_up I 76 j x) I0 := fun k hk => by rw [am_up_ne hk]; exact h k hk
set_option maxHeartbeats 4000000 in
set_option maxRecDepth 100000 in
theorem lp_sr3 {G : am_G} {d : Nat} {I0 : am_I} {J : am_J} {Ex : am_Ex} {oth : Int32} {N n r : Nat} {F T : Nat → Nat} {S : Nat → Bool} (hR : rwR I0 oth N n F T S) {l : Nat} (hl : l < n) (kx : ∀ (I : am_I) (v4 v5 : Option Value), fr76 I I0 → wyP F T S N n r (l + 1) 0 I → AW G cX12_setRoutes 6 RX12 d Ex 171 [some (.ref 63), some (.int oth), some (.int (nI r)), some (.int (nI l)), v4, v5] [] I J) : ∀ t, t ≤ N → ∀ (I : am_I) (v5 : Option Value), fr76 I I0 → wyP F T S N n r l t I → (S l = true → t = 0) → AW G cX12_setRoutes 6 RX12 d Ex 60 [some (.ref 63), some (.int oth), some (.int (nI r)), some (.int (nI l)), some (.int (nI t)), v5] [] I J := by
  obtain ⟨r1, r2, r3, r4, r5, r6, r7⟩ := hR
  obtain ⟨f1, f2, f3, f4⟩ := r6 l hl
  have fS := r7 l hl
  refine am_dn N (fun t ht ih => ?_)
  intro I v5 hf hw hsh
  have e63 : I 63 3 = nI N := by rw [hf 63 (by decide)]; exact r1
  have e66 : I 66 l = nI (F l) := by rw [hf 66 (by decide)]; exact f1
  have e67 : I 67 l = nI (T l) := by rw [hf 67 (by decide)]; exact f3
  have e68 : I 68 l = I0 68 l := by rw [hf 68 (by decide)]
  refine a_iload dX12_setRoutes_60 rfl ?_
  refine a_aload_n dX12_setRoutes_62 rfl ?_
  refine a_geti dX12_setRoutes_63 kf_X12_13 ⟨by decide, _, rfl, rfl⟩ e63 ?_
  refine a_icmp_geN (tgt := 171) dX12_setRoutes_66 (by decide) (by omega) (by omega) (fun h => ?_) (fun h => ?_)
  · obtain rfl : t = N := by omega
    exact kx I _ _ hf (wyP_end hw)
  · refine a_aload_n dX12_setRoutes_69 rfl ?_
    refine a_getr dX12_setRoutes_70 kf_X12_26 ⟨by decide, _, rfl, rfl⟩ ?_
    refine a_iload_n dX12_setRoutes_73 rfl ?_
    refine a_zald dX12_setRoutes_74 ⟨by decide, rfl⟩ (by omega) e68 ?_
    refine a_if_ne (tgt := 171) dX12_setRoutes_75 (by decide) (fun h75 => ?_) (fun h75 => ?_)
    · have hs : S l = true := by rw [fS]; simp; exact Or.inl h75
      obtain rfl := hsh hs
      exact kx I _ _ hf (wyP_shut hs hw)
    · refine a_iload_n dX12_setRoutes_78 rfl ?_
      refine a_iload_n dX12_setRoutes_79 rfl ?_
      refine a_icmp_eq (tgt := 171) dX12_setRoutes_80 (by decide) (fun h80 => ?_) (fun h80 => ?_)
      · have hs : S l = true := by rw [fS]; simp; exact Or.inr h80
        obtain rfl := hsh hs
        exact kx I _ _ hf (wyP_shut hs hw)
      · have hs : S l = false := by rw [fS]; simp; exact ⟨h75, h80⟩
        have b1 := rndw_le F T S n t r l (F l)
        have b2 := rndw_le F T S n t r l (T l)
        refine a_aload_n dX12_setRoutes_83 rfl ?_
        refine a_getr dX12_setRoutes_84 kf_X12_51 ⟨by decide, _, rfl, rfl⟩ ?_
        refine a_bipush (v := nI 6) dX12_setRoutes_87 (by decide) ?_
        refine a_aload_n dX12_setRoutes_89 rfl ?_
        refine a_getr dX12_setRoutes_90 kf_X12_23 ⟨by decide, _, rfl, rfl⟩ ?_
        refine a_iload_n dX12_setRoutes_93 rfl ?_
        refine a_iald dX12_setRoutes_94 ⟨by decide, rfl⟩ (by omega) e67 ?_
        refine a_imul dX12_setRoutes_95 (by first | exact pk_mul _ _ | rfl) ?_
        refine a_iload dX12_setRoutes_96 rfl ?_
        refine a_iadd dX12_setRoutes_98 (by first | exact nI_add _ _ | rfl) ?_
        refine a_iald dX12_setRoutes_99 ⟨by decide, rfl⟩ (by omega) (by rw [hw (T l) t (by omega) (by omega), if_neg (by omega)]) ?_
        refine a_iconst (v := nI 1) dX12_setRoutes_100 (by decide) ?_
        refine a_iadd dX12_setRoutes_101 (by first | exact nI_add _ _ | rfl) ?_
        refine a_istore (L' := [_, _, _, _, _, _]) dX12_setRoutes_102 (Nat.le_of_ble_eq_true rfl) rfl ?_
        refine a_aload_n dX12_setRoutes_104 rfl ?_
        refine a_getr dX12_setRoutes_105 kf_X12_51 ⟨by decide, _, rfl, rfl⟩ ?_
        refine a_bipush (v := nI 6) dX12_setRoutes_108 (by decide) ?_
        refine a_aload_n dX12_setRoutes_110 rfl ?_
        refine a_getr dX12_setRoutes_111 kf_X12_20 ⟨by decide, _, rfl, rfl⟩ ?_
        refine a_iload_n dX12_setRoutes_114 rfl ?_
        refine a_iald dX12_setRoutes_115 ⟨by decide, rfl⟩ (by omega) e66 ?_
        refine a_imul dX12_setRoutes_116 (by first | exact pk_mul _ _ | rfl) ?_
        refine a_iload dX12_setRoutes_117 rfl ?_
        refine a_iadd dX12_setRoutes_119 (by first | exact nI_add _ _ | rfl) ?_
        refine a_iload dX12_setRoutes_120 rfl ?_
        refine a_aload_n dX12_setRoutes_122 rfl ?_
        refine a_getr dX12_setRoutes_123 kf_X12_51 ⟨by decide, _, rfl, rfl⟩ ?_
        refine a_bipush (v := nI 6) dX12_setRoutes_126 (by decide) ?_
        refine a_aload_n dX12_setRoutes_128 rfl ?_
        refine a_getr dX12_setRoutes_129 kf_X12_20 ⟨by decide, _, rfl, rfl⟩ ?_
        refine a_iload_n dX12_setRoutes_132 rfl ?_
        refine a_iald dX12_setRoutes_133 ⟨by decide, rfl⟩ (by omega) e66 ?_
        refine a_imul dX12_setRoutes_134 (by first | exact pk_mul _ _ | rfl) ?_
        refine a_iload dX12_setRoutes_135 rfl ?_
        refine a_iadd dX12_setRoutes_137 (by first | exact nI_add _ _ | rfl) ?_
        refine a_iald dX12_setRoutes_138 ⟨by decide, rfl⟩ (by omega) (by rw [hw (F l) t (by omega) (by omega), if_neg (by omega)]) ?_
        refine a_ticmp_ge (tgt := 147) (pj := 164) (a := (nI (rnd F T S (wyR F T S n t r) l (F l)))) (b := (nI (rnd F T S (wyR F T S n t r) l (T l) + 1))) dX12_setRoutes_139 (by decide) (fun kj => ?_) (fun kj => ?_) ?_
        · refine a_aload_n dX12_setRoutes_147 rfl ?_
          refine a_getr dX12_setRoutes_148 kf_X12_51 ⟨by decide, _, rfl, rfl⟩ ?_
          refine a_bipush (v := nI 6) dX12_setRoutes_151 (by decide) ?_
          refine a_aload_n dX12_setRoutes_153 rfl ?_
          refine a_getr dX12_setRoutes_154 kf_X12_20 ⟨by decide, _, rfl, rfl⟩ ?_
          refine a_iload_n dX12_setRoutes_157 rfl ?_
          refine a_iald dX12_setRoutes_158 ⟨by decide, rfl⟩ (by omega) e66 ?_
          refine a_imul dX12_setRoutes_159 (by first | exact pk_mul _ _ | rfl) ?_
          refine a_iload dX12_setRoutes_160 rfl ?_
          refine a_iadd dX12_setRoutes_162 (by first | exact nI_add _ _ | rfl) ?_
          refine a_iald dX12_setRoutes_163 ⟨by decide, rfl⟩ (by omega) (by rw [hw (F l) t (by omega) (by omega), if_neg (by omega)]) ?_
          exact kj
        · refine a_iload dX12_setRoutes_142 rfl ?_
          refine a_goto (tgt := 164) dX12_setRoutes_144 (by decide) ?_
          exact kj
        refine a_topi (v := nI (rlx F T S (rnd F T S (wyR F T S n t r) l) l (F l))) (by
          unfold rlx
          by_cases e : rnd F T S (wyR F T S n t r) l (T l) + 1 < rnd F T S (wyR F T S n t r) l (F l)
          · rw [if_neg (fun q => by have := (nI_leI (by omega) (by omega)).mp q; omega), if_pos ⟨hs, rfl, e⟩]
          · rw [if_pos ((nI_leI (by omega) (by omega)).mpr (by omega)), if_neg (fun q => e q.2.2)]) ?_
        refine a_iast dX12_setRoutes_164 ⟨by decide, rfl⟩ (by omega) ?_
        refine a_iinc (L' := [_, _, _, _, _, _]) dX12_setRoutes_165 rfl (nI_inc _) rfl ?_
        refine a_goto (tgt := 60) dX12_setRoutes_168 (by decide) ?_
        exact ih (t + 1) (by omega) (by omega) _ _ (fr76_up hf _ _) (wyP_step r3 f2 h hw) (fun q => by rw [hs] at q; cases q)

set_option maxHeartbeats 4000000 in
set_option maxRecDepth 100000 in
theorem lp_sr2 {G : am_G} {d : Nat} {I0 : am_I} {J : am_J} {Ex : am_Ex} {oth : Int32} {N n r : Nat} {F T : Nat → Nat} {S : Nat → Bool} (hR : rwR I0 oth N n F T S) (kx : ∀ (I : am_I) (v4 v5 : Option Value), fr76 I I0 → wyP F T S N n r n 0 I → AW G cX12_setRoutes 6 RX12 d Ex 177 [some (.ref 63), some (.int oth), some (.int (nI r)), some (.int (nI n)), v4, v5] [] I J) : ∀ l, l ≤ n → ∀ (I : am_I) (v4 v5 : Option Value), fr76 I I0 → wyP F T S N n r l 0 I → AW G cX12_setRoutes 6 RX12 d Ex 49 [some (.ref 63), some (.int oth), some (.int (nI r)), some (.int (nI l)), v4, v5] [] I J := by
  have hR' := hR
  obtain ⟨r1, r2, r3, r4, r5, r6, r7⟩ := hR'
  refine am_dn n (fun l hl ih => ?_)
  intro I v4 v5 hf hw
  have e64 : I 63 4 = nI n := by rw [hf 63 (by decide)]; exact r4
  refine a_iload_n dX12_setRoutes_49 rfl ?_
  refine a_aload_n dX12_setRoutes_50 rfl ?_
  refine a_geti dX12_setRoutes_51 kf_X12_115 ⟨by decide, _, rfl, rfl⟩ e64 ?_
  refine a_icmp_geN (tgt := 177) dX12_setRoutes_54 (by decide) (by omega) (by omega) (fun h => ?_) (fun h => ?_)
  · obtain rfl : l = n := by omega
    exact kx I _ _ hf hw
  · refine a_iconst (v := nI 0) dX12_setRoutes_57 (by decide) ?_
    refine a_istore (L' := [_, _, _, _, _, _]) dX12_setRoutes_58 (Nat.le_of_ble_eq_true rfl) rfl ?_
    refine lp_sr3 hR h (fun I v4 v5 hf hw => ?_) 0 (by omega) I _ hf hw (fun _ => rfl)
    refine a_iinc (L' := [_, _, _, _, _, _]) dX12_setRoutes_171 rfl (nI_inc _) rfl ?_
    refine a_goto (tgt := 49) dX12_setRoutes_174 (by decide) ?_
    exact ih (l + 1) (by omega) (by omega) I _ _ hf hw

set_option maxHeartbeats 4000000 in
set_option maxRecDepth 100000 in
theorem lp_sr1 {G : am_G} {d : Nat} {I0 : am_I} {J : am_J} {Ex : am_Ex} {oth : Int32} {N n : Nat} {F T : Nat → Nat} {S : Nat → Bool} (hR : rwR I0 oth N n F T S) (kx : ∀ (I : am_I) (v3 v4 v5 : Option Value), fr76 I I0 → wyP F T S N n N 0 0 I → AW G cX12_setRoutes 6 RX12 d Ex 183 [some (.ref 63), some (.int oth), some (.int (nI N)), v3, v4, v5] [] I J) : ∀ r, r ≤ N → ∀ (I : am_I) (v3 v4 v5 : Option Value), fr76 I I0 → wyP F T S N n r 0 0 I → AW G cX12_setRoutes 6 RX12 d Ex 39 [some (.ref 63), some (.int oth), some (.int (nI r)), v3, v4, v5] [] I J := by
  have hR' := hR
  obtain ⟨r1, r2, r3, r4, r5, r6, r7⟩ := hR'
  refine am_dn N (fun r hr ih => ?_)
  intro I v3 v4 v5 hf hw
  have e63 : I 63 3 = nI N := by rw [hf 63 (by decide)]; exact r1
  refine a_iload_n dX12_setRoutes_39 rfl ?_
  refine a_aload_n dX12_setRoutes_40 rfl ?_
  refine a_geti dX12_setRoutes_41 kf_X12_13 ⟨by decide, _, rfl, rfl⟩ e63 ?_
  refine a_icmp_geN (tgt := 183) dX12_setRoutes_44 (by decide) (by omega) (by omega) (fun h => ?_) (fun h => ?_)
  · obtain rfl : r = N := by omega
    exact kx I _ _ _ hf hw
  · refine a_iconst (v := nI 0) dX12_setRoutes_47 (by decide) ?_
    refine a_istore_n (L' := [_, _, _, _, _, _]) dX12_setRoutes_48 (Nat.le_of_ble_eq_true rfl) rfl ?_
    refine lp_sr2 hR (fun I v4 v5 hf hw => ?_) 0 (by omega) I _ _ hf hw
    refine a_iinc (L' := [_, _, _, _, _, _]) dX12_setRoutes_177 rfl (nI_inc _) rfl ?_
    refine a_goto (tgt := 39) dX12_setRoutes_180 (by decide) ?_
    exact ih (r + 1) (by omega) (by omega) I _ _ _ hf (fun a b ha hb => by rw [hw a b ha hb]; rfl)

/-- what the row of the routes holds of a PAIR -/
def rtB (F T : Nat → Nat) (S : Nat → Bool) (n N a b : Nat) : Int32 := if a = b ∨ 100 ≤ wyR F T S n b N a then -9 else nI (bN (rtO F T S n N a b))
def frR (I I0 : am_I) : Prop := ∀ k j, k ≠ 75 → k ≠ 76 → (k = 63 → j ≠ 18 ∧ j ≠ 19) → I k j = I0 k j
def wyQ (F T : Nat → Nat) (S : Nat → Bool) (N n : Nat) (I : am_I) : Prop := ∀ a b, a < 6 → b < N → I 76 (6 * a + b) = nI (wyR F T S n b N a)
theorem frR_row {I I0 : am_I} (h : frR I I0) {k : Nat} (h1 : k ≠ 75) (h2 : k ≠ 76) (h3 : k ≠ 63) : I k = I0 k := by
  funext j
  exact h k j h1 h2 (fun e => absurd e h3)
theorem rwR_fr {I I0 : am_I} {oth : Int32} {N n : Nat} {F T : Nat → Nat} {S : Nat → Bool} (hR : rwR I0 oth N n F T S) (h : frR I I0) : rwR I oth N n F T S := by
  obtain ⟨r1, r2, r3, r4, r5, r6, r7⟩ := hR
  refine ⟨by rw [h 63 3 (by decide) (by decide) (by decide)]; exact r1, r2, r3, by rw [h 63 4 (by decide) (by decide) (by decide)]; exact r4, r5, fun l hl => ?_, fun l hl => ?_⟩
  · rw [frR_row h (by decide) (by decide) (by decide), frR_row h (k := 67) (by decide) (by decide) (by decide)]; exact r6 l hl
  · rw [frR_row h (by decide) (by decide) (by decide)]; exact r7 l hl
theorem frR_mRt {I I0 : am_I} (h : frR I I0) (c v : Int32) : frR (mRt I c v) I0 := fun k j h1 h2 h3 => by
  rw [← h k j h1 h2 h3]
  simp only [mRt, am_up]
  by_cases e : k = 63
  · obtain ⟨e1, e2⟩ := h3 e
    simp [e, e1, e2]
  · simp [e]
theorem frR_up {I I0 : am_I} (h : frR I I0) (j : Nat) (x : Int32) : frR (am_up I 75 j x) I0 := fun k q h1 h2 h3 => by
  rw [← h k q h1 h2 h3]
  simp [am_up, h1]
def rtQ (F T : Nat → Nat) (S : Nat → Bool) (N n a b : Nat) (I : am_I) : Prop := ∀ p q, q < N → (p < a ∨ p = a ∧ q < b) → I 75 (N * p + q) = rtB F T S n N p q
theorem rtQ_step {F T : Nat → Nat} {S : Nat → Bool} {N n a b : Nat} {I : am_I} (hb : b < N) (h : rtQ F T S N n a b I) : rtQ F T S N n a (b + 1) (am_up I 75 (N * a + b) (rtB F T S n N a b)) := fun p q hq hc => by
  by_cases e : N * p + q = N * a + b
  · have e2 : p = a ∧ q = b := by
      rcases Nat.lt_trichotomy p a with z | z | z
      · have := Nat.mul_le_mul_left N (show p + 1 ≤ a by omega)
        rw [Nat.mul_add] at this
        omega
      · subst z
        exact ⟨rfl, by omega⟩
      · have := Nat.mul_le_mul_left N (show a + 1 ≤ p by omega)
        rw [Nat.mul_add] at this
        omega
    obtain ⟨rfl, rfl⟩ := e2
    rw [am_up_same]
  · rw [am_up_slot e]
    refine h p q hq ?_
    rcases hc with z | ⟨z1, z2⟩
    · exact Or.inl z
    · subst z1
      exact Or.inr ⟨rfl, by omega⟩
set_option maxHeartbeats 4000000 in
set_option maxRecDepth 100000 in
theorem lp_sr5 {G : am_G} {d : Nat} {I0 : am_I} {J : am_J} {K : am_I → am_J → Prop} {oth : Int32} {N n : Nat} {F T : Nat → Nat} {S : Nat → Bool} (hR : rwR I0 oth N n F T S) {a : Nat} (ha : a < N) (kx : ∀ (I : am_I) (v4 v5 : Option Value), frR I I0 → wyQ F T S N n I → rtQ F T S N n (a + 1) 0 I → AW G cX12_setRoutes 6 RX12 (d + 1) (am_ex G none (fun r I J => r = none ∧ K I J)) 257 [some (.ref 63), some (.int oth), some (.int (nI a)), some (.int (nI N)), v4, v5] [] I J) : ∀ b, b ≤ N → ∀ (I : am_I) (v4 v5 : Option Value), frR I I0 → wyQ F T S N n I → rtQ F T S N n a b I → AW G cX12_setRoutes 6 RX12 (d + 1) (am_ex G none (fun r I J => r = none ∧ K I J)) 195 [some (.ref 63), some (.int oth), some (.int (nI a)), some (.int (nI b)), v4, v5] [] I J := by
  refine am_dn N (fun b hb ih => ?_)
  intro I v4 v5 hf hw hq
  have hR1 := rwR_fr hR hf
  have hR' := hR1
  obtain ⟨e63, r2, r3, r4, r5, r6, r7⟩ := hR'
  refine a_iload_n dX12_setRoutes_195 rfl ?_
  refine a_aload_n dX12_setRoutes_196 rfl ?_
  refine a_geti dX12_setRoutes_197 kf_X12_13 ⟨by decide, _, rfl, rfl⟩ e63 ?_
  refine a_icmp_geN (tgt := 257) dX12_setRoutes_200 (by decide) (by omega) (by omega) (fun h => ?_) (fun h => ?_)
  · obtain rfl : b = N := by omega
    exact kx I _ _ hf hw (fun p q hq1 hc => hq p q hq1 (by omega))
  · refine a_aload_n dX12_setRoutes_203 rfl ?_
    refine a_getr dX12_setRoutes_204 kf_X12_48 ⟨by decide, _, rfl, rfl⟩ ?_
    refine a_aload_n dX12_setRoutes_207 rfl ?_
    refine a_geti dX12_setRoutes_208 kf_X12_13 ⟨by decide, _, rfl, rfl⟩ e63 ?_
    refine a_iload_n dX12_setRoutes_211 rfl ?_
    refine a_imul dX12_setRoutes_212 (by first | exact pk_mul _ _ | rfl) ?_
    refine a_iload_n dX12_setRoutes_213 rfl ?_
    refine a_iadd dX12_setRoutes_214 (by first | exact nI_add _ _ | rfl) ?_
    refine a_iload_n dX12_setRoutes_215 rfl ?_
    refine a_iload_n dX12_setRoutes_216 rfl ?_
    refine a_icmp_eqN (tgt := 236) dX12_setRoutes_217 (by decide) (by omega) (by omega) (fun h217 => ?_) (fun h217 => ?_)
    · refine a_bipush (v := (-9)) dX12_setRoutes_236 (by decide) ?_
      refine a_topi (v := rtB F T S n N a b) (by unfold rtB; rw [if_pos (Or.inl h217)]) ?_
      refine a_goto (tgt := 250) dX12_setRoutes_238 (by decide) ?_
      refine a_iast dX12_setRoutes_250 ⟨by decide, rfl⟩ (ix_lt r3 ha h) ?_
      refine a_iinc (L' := [_, _, _, _, _, _]) dX12_setRoutes_251 rfl (nI_inc _) rfl ?_
      refine a_goto (tgt := 195) dX12_setRoutes_254 (by decide) ?_
      exact ih (b + 1) (by omega) (by omega) _ _ _ (frR_up hf _ _) (fun p q hp hq => by rw [am_up_ne (by decide)]; exact hw p q hp hq) (rtQ_step h hq)
    · refine a_aload_n dX12_setRoutes_220 rfl ?_
      refine a_getr dX12_setRoutes_221 kf_X12_51 ⟨by decide, _, rfl, rfl⟩ ?_
      refine a_bipush (v := nI 6) dX12_setRoutes_224 (by decide) ?_
      refine a_iload_n dX12_setRoutes_226 rfl ?_
      refine a_imul dX12_setRoutes_227 (by first | exact pk_mul _ _ | rfl) ?_
      refine a_iload_n dX12_setRoutes_228 rfl ?_
      refine a_iadd dX12_setRoutes_229 (by first | exact nI_add _ _ | rfl) ?_
      refine a_iald dX12_setRoutes_230 ⟨by decide, rfl⟩ (by omega) (hw a b (by omega) (by omega)) ?_
      refine a_bipush (v := nI 100) dX12_setRoutes_231 (by decide) ?_
      refine a_icmp_ltN (tgt := 241) dX12_setRoutes_233 (by decide) (by have := wyR_le F T S n b N a; omega) (by omega) (fun h233 => ?_) (fun h233 => ?_)
      · refine a_aload_n dX12_setRoutes_241 rfl ?_
        refine a_iload_n dX12_setRoutes_242 rfl ?_
        refine a_iload_n dX12_setRoutes_243 rfl ?_
        refine a_iload_n dX12_setRoutes_244 rfl ?_
        refine a_bipush (v := (-9)) dX12_setRoutes_245 (by decide) ?_
        refine a_callVi (As := [_, _, _, _]) dX12_setRoutes_247 km_X12_164 ⟨by decide, _, _, _, rfl, rfl⟩ rfl rfl (Nat.le_of_ble_eq_true rfl) ?_
        refine c_routeOf hR1 ha h (fun a ha => hw a b ha h) h233 ?_
        refine a_topi (v := rtB F T S n N a b) (by unfold rtB; rw [if_neg (fun q => by rcases q with q | q <;> omega)]) ?_
        refine a_iast dX12_setRoutes_250 ⟨by decide, rfl⟩ (ix_lt r3 ha h) ?_
        refine a_iinc (L' := [_, _, _, _, _, _]) dX12_setRoutes_251 rfl (nI_inc _) rfl ?_
        refine a_goto (tgt := 195) dX12_setRoutes_254 (by decide) ?_
        exact ih (b + 1) (by omega) (by omega) _ _ _ (frR_up (frR_mRt hf _ _) _ _) (fun p q hp hq => by rw [am_up_ne (by decide)]; exact hw p q hp hq) (rtQ_step h hq)
      · refine a_bipush (v := (-9)) dX12_setRoutes_236 (by decide) ?_
        refine a_topi (v := rtB F T S n N a b) (by unfold rtB; rw [if_pos (Or.inr h233)]) ?_
        refine a_goto (tgt := 250) dX12_setRoutes_238 (by decide) ?_
        refine a_iast dX12_setRoutes_250 ⟨by decide, rfl⟩ (ix_lt r3 ha h) ?_
        refine a_iinc (L' := [_, _, _, _, _, _]) dX12_setRoutes_251 rfl (nI_inc _) rfl ?_
        refine a_goto (tgt := 195) dX12_setRoutes_254 (by decide) ?_
        exact ih (b + 1) (by omega) (by omega) _ _ _ (frR_up hf _ _) (fun p q hp hq => by rw [am_up_ne (by decide)]; exact hw p q hp hq) (rtQ_step h hq)

set_option maxHeartbeats 4000000 in
set_option maxRecDepth 100000 in
theorem lp_sr4 {G : am_G} {d : Nat} {I0 : am_I} {J : am_J} {K : am_I → am_J → Prop} {oth : Int32} {N n : Nat} {F T : Nat → Nat} {S : Nat → Bool} (hR : rwR I0 oth N n F T S) (hK : ∀ I, frR I I0 → wyQ F T S N n I → rtQ F T S N n N 0 I → K I J) : ∀ a, a ≤ N → ∀ (I : am_I) (v3 v4 v5 : Option Value), frR I I0 → wyQ F T S N n I → rtQ F T S N n a 0 I → AW G cX12_setRoutes 6 RX12 (d + 1) (am_ex G none (fun r I J => r = none ∧ K I J)) 185 [some (.ref 63), some (.int oth), some (.int (nI a)), v3, v4, v5] [] I J := by
  refine am_dn N (fun a ha ih => ?_)
  intro I v3 v4 v5 hf hw hq
  have hR1 := rwR_fr hR hf
  have hR' := hR1
  obtain ⟨e63, r2, r3, r4, r5, r6, r7⟩ := hR'
  refine a_iload_n dX12_setRoutes_185 rfl ?_
  refine a_aload_n dX12_setRoutes_186 rfl ?_
  refine a_geti dX12_setRoutes_187 kf_X12_13 ⟨by decide, _, rfl, rfl⟩ e63 ?_
  refine a_icmp_geN (tgt := 263) dX12_setRoutes_190 (by decide) (by omega) (by omega) (fun h => ?_) (fun h => ?_)
  · obtain rfl : a = N := by omega
    exact a_vreturn dX12_setRoutes_263 ⟨rfl, (hK I hf hw hq)⟩
  · refine a_iconst (v := nI 0) dX12_setRoutes_193 (by decide) ?_
    refine a_istore_n (L' := [_, _, _, _, _, _]) dX12_setRoutes_194 (Nat.le_of_ble_eq_true rfl) rfl ?_
    refine lp_sr5 hR h (fun I v4 v5 hf hw hq => ?_) 0 (by omega) I _ _ hf hw hq
    refine a_iinc (L' := [_, _, _, _, _, _]) dX12_setRoutes_257 rfl (nI_inc _) rfl ?_
    refine a_goto (tgt := 185) dX12_setRoutes_260 (by decide) ?_
    exact ih (a + 1) (by omega) (by omega) I _ _ _ hf hw hq

/-- the memory behind setRoutes(oth) -/
def rtM (F T : Nat → Nat) (S : Nat → Bool) (N n : Nat) (I I0 : am_I) : Prop := frR I I0 ∧ wyQ F T S N n I ∧ ∀ a b, a < N → b < N → I 75 (N * a + b) = rtB F T S n N a b
set_option maxHeartbeats 4000000 in
set_option maxRecDepth 100000 in
theorem c_setRoutes {G : am_G} {d : Nat} {I : am_I} {J : am_J} {K : am_I → am_J → Prop} {oth : Int32} {N n : Nat} {F T : Nat → Nat} {S : Nat → Bool} (hR : rwR I oth N n F T S) (hK : ∀ I1, rtM F T S N n I1 I → K I1 J) : CMv G (d + 1) yX12_setRoutes [.ref 63, .int oth] I J K := by
  refine CM.of (L0 := [_, _, _, _, _, _]) cX12_setRoutes 6 none (by decide) (by decide) kcX12_setRoutes (Nat.le_of_ble_eq_true rfl) rfl ?_
  refine a_iconst (v := nI 0) dX12_setRoutes_0 (by decide) ?_
  refine a_istore_n (L' := [_, _, _, _, _, _]) dX12_setRoutes_1 (Nat.le_of_ble_eq_true rfl) rfl ?_
  refine a_mem (I' := mWay I 0) (by funext a b; simp [mWay]) ?_
  refine lp_sr0 ?_ 0 (by omega)
  refine a_iconst (v := nI 0) dX12_setRoutes_37 (by decide) ?_
  refine a_istore_n (L' := [_, _, _, _, _, _]) dX12_setRoutes_38 (Nat.le_of_ble_eq_true rfl) rfl ?_
  refine lp_sr1 hR (fun I1 v3 v4 v5 hf hw => ?_) 0 (by omega) _ _ _ _ (fun k hk => by funext j; simp [mWay, hk]) (fun a b ha hb => by
    have hN := hR.2.2.1
    rw [if_neg (by omega)]
    show (if 76 = 76 ∧ 6 * a + b < 36 then _ else _) = _
    rw [if_pos ⟨rfl, by omega⟩]
    congr 1
    show _ = if a = b then 0 else 100
    rw [show (6 * a + b) / 6 = a by omega, show (6 * a + b) % 6 = b by omega])
  refine a_iconst (v := nI 0) dX12_setRoutes_183 (by decide) ?_
  refine a_istore_n (L' := [_, _, _, _, _, _]) dX12_setRoutes_184 (Nat.le_of_ble_eq_true rfl) rfl ?_
  exact lp_sr4 hR (fun I2 h1 h2 h3 => hK I2 ⟨h1, h2, fun a b ha hb => h3 a b hb (Or.inl ha)⟩) 0 (by omega) I1 _ _ _ (fun k j h1 h2 h3 => by rw [hf k h2]) (fun a b ha hb => by rw [hw a b ha hb, if_neg (by omega)]; rfl) (fun p q hq hc => by omega)

