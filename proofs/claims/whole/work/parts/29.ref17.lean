/-! ===== the reference: later, isAlone ===== -/
theorem lx_bit {s k : Nat} (hk : k < 64) (h : s < 2 ^ 63) : (lN s >>> ((nI k).toInt64 &&& 63)) &&& 1 = lN (if s.testBit k = true then 1 else 0) := by
  rw [lx_shr hk h, show (1 : Int64) = lN 1 from rfl, lx_and, Nat.and_one_is_mod]
  congr 1
  rw [Nat.testBit_eq_decide_div_mod_eq]
  rcases Nat.mod_two_eq_zero_or_one (s / 2 ^ k) with e | e <;> simp [e]
theorem lx_bit0 {s k : Nat} (hk : k < 64) (h : s < 2 ^ 63) : lg_cmp ((lN s >>> ((nI k).toInt64 &&& 63)) &&& 1) 1 = 0 ↔ s.testBit k = true := by
  rw [lx_bit hk h]
  by_cases e : s.testBit k = true
  · simp only [e, if_true]; decide
  · simp only [e]; decide
set_option maxHeartbeats 4000000 in
set_option maxRecDepth 100000 in
theorem c_later {G : am_G} {d : Nat} {I : am_I} {J : am_J} {K : Int64 → am_I → am_J → Prop} {j a : Nat} (h : 2 ^ j * (2 * a + 1) < 2 ^ 60) (hj : j < 60) (hK : K (lN (nxS j (2 ^ j * (2 * a + 1)))) I J) : CMl G d yX12_later [.long (lN (2 ^ j * (2 * a + 1)))] I J K := by
  refine CM.of (L0 := [_, _, _, _, _, _]) cX12_later 6 (some .long) (by decide) (by decide) kcX12_later (Nat.le_of_ble_eq_true rfl) rfl ?_
  generalize hs : 2 ^ j * (2 * a + 1) = s at h hK
  have hp : 0 < s := by rw [← hs]; exact Nat.mul_pos (Nat.two_pow_pos j) (by omega)
  have hlow : s &&& (2 ^ 64 - s) = 2 ^ j := by rw [← hs]; exact lx_low (by rw [hs]; omega)
  have hj2 : 2 ^ j < 2 ^ 60 := Nat.pow_lt_pow_right (by decide) hj
  have hx : s ^^^ (s + 2 ^ j) < 2 ^ 61 := Nat.xor_lt_two_pow (by omega) (by omega)
  refine a_lload_n dX12_later_0 rfl ?_
  refine a_lload_n dX12_later_1 rfl ?_
  refine a_lneg dX12_later_2 (lx_neg hp (by omega)) ?_
  refine a_land dX12_later_3 (show _ = lN (2 ^ j) by rw [lx_and, hlow]) ?_
  refine a_lstore_n (L' := [_, _, _, _, _, _]) dX12_later_4 (Nat.le_of_ble_eq_true rfl) rfl ?_
  refine a_lload_n dX12_later_5 rfl ?_
  refine a_lload_n dX12_later_6 rfl ?_
  refine a_ladd dX12_later_7 (lN_add _ _) ?_
  refine a_lstore (L' := [_, _, _, _, _, _]) dX12_later_8 (Nat.le_of_ble_eq_true rfl) rfl ?_
  refine a_lload dX12_later_10 rfl ?_
  refine a_lload_n dX12_later_12 rfl ?_
  refine a_lload dX12_later_13 rfl ?_
  refine a_lxor dX12_later_15 (lx_xor _ _) ?_
  refine a_lload_n dX12_later_16 rfl ?_
  refine a_ldiv dX12_later_17 (fun e => absurd ((pk_lEQ (by omega) (by decide)).mp (e.trans (show (0 : Int64) = lN 0 from rfl))) (by have := Nat.two_pow_pos j; omega)) (pk_lDiv (by omega) (Nat.two_pow_pos j) (by omega)) ?_
  refine a_iconst (v := nI 2) dX12_later_18 (by decide) ?_
  refine a_lshr dX12_later_19 (lx_shr (by decide) (Nat.lt_of_le_of_lt (Nat.div_le_self _ _) (by omega))) ?_
  refine a_lor dX12_later_20 (show _ = lN (nxS j s) by rw [lx_or, Nat.div_div_eq_div_mul, ← Nat.pow_add]; rfl) ?_
  exact a_lreturn dX12_later_21 ⟨_, rfl, hK⟩

theorem runM_fit {C : Type} (step : C → (Nat → Nat) → C × Bool) (lim : Nat) (c : C) (t : Nat) (A : Nat → Nat) (E : EvS) : runM step lim c (t, some (some (A, E))) = if (step c A).2 = true then (t, 2, (step c A).1) else runS step lim t E (step c A).1 := rfl
def fxR (base : Nat → Int32) (fr : Nat → Nat) (s : Nat) (ff : Nat → Int32) : Nat → Nat → Int32
  | 0 => base
  | i + 1 => upd (fxR base fr s ff i) (fr i) (if s.testBit i = true then ff (fr i) else -9)
def mFx (I : am_I) (fr : Nat → Nat) (s i : Nat) : am_I := fun a b => if a = 81 then fxR (I 81) fr s (I 89) i b else I a b
theorem mFx_s (I : am_I) (fr : Nat → Nat) (s i : Nat) : am_up (mFx I fr s i) 81 (fr i) (if s.testBit i = true then I 89 (fr i) else -9) = mFx I fr s (i + 1) := by
  funext a b
  simp only [am_up, mFx, fxR, upd]
  by_cases h1 : a = 81
  · subst h1; simp
  · simp [h1]
def cn2 (c : Nat) (_ : Nat → Nat) : Nat × Bool := (c + 1, decide (2 ≤ c + 1))
def alR (r : Nat × Nat × Nat) : Int32 := if r.2.1 = 1 then -6 else if r.2.2 = 1 then nI 1 else nI 0
set_option maxHeartbeats 4000000 in
set_option maxRecDepth 100000 in
theorem lp_al1 {G : am_G} {d : Nat} {I0 : am_I} {J : am_J} {Ex : am_Ex} {s f : Nat} {fr : Nat → Nat} (hs : s < 2 ^ 60) (hf : f ≤ 36) (hfr : ∀ i, i < f → I0 90 i = nI (fr i) ∧ fr i < 36) (kx : AW G cX12_isAlone 5 RX12 d Ex 55 [some (.ref 63), some (.long (lN s)), none, some (.int (nI f)), some (.int (nI f))] [] (mFx I0 fr s f) J) : ∀ i, i ≤ f → AW G cX12_isAlone 5 RX12 d Ex 3 [some (.ref 63), some (.long (lN s)), none, some (.int (nI f)), some (.int (nI i))] [] (mFx I0 fr s i) J := by
  refine am_dn f (fun i hi ih => ?_)
  refine a_iload dX12_isAlone_3 rfl ?_
  refine a_iload_n dX12_isAlone_5 rfl ?_
  refine a_icmp_geN (tgt := 55) dX12_isAlone_6 (by decide) (by omega) (by omega) (fun h => ?_) (fun h => ?_)
  · obtain rfl : i = f := by omega
    exact kx
  · obtain ⟨q1, q2⟩ := hfr i h
    refine a_aload_n dX12_isAlone_9 rfl ?_
    refine a_getr dX12_isAlone_10 kf_X12_66 ⟨by decide, _, rfl, rfl⟩ ?_
    refine a_aload_n dX12_isAlone_13 rfl ?_
    refine a_getr dX12_isAlone_14 kf_X12_93 ⟨by decide, _, rfl, rfl⟩ ?_
    refine a_iload dX12_isAlone_17 rfl ?_
    refine a_iald dX12_isAlone_19 ⟨by decide, rfl⟩ (by omega) q1 ?_
    refine a_lload_n dX12_isAlone_20 rfl ?_
    refine a_iload dX12_isAlone_21 rfl ?_
    refine a_lshr dX12_isAlone_23 rfl ?_
    refine a_lconst (v := 1) dX12_isAlone_24 (by decide) ?_
    refine a_land dX12_isAlone_25 rfl ?_
    refine a_lconst (v := 1) dX12_isAlone_26 (by decide) ?_
    refine a_lcmp dX12_isAlone_27 rfl ?_
    refine a_tif_ne (tgt := 46) (pj := 48) (a := (-9)) (b := (I0 89 (fr i))) dX12_isAlone_28 (by decide) (fun kj => ?_) (fun kj => ?_) ?_
    · refine a_bipush (v := (-9)) dX12_isAlone_46 (by decide) ?_
      exact kj
    · refine a_aload_n dX12_isAlone_31 rfl ?_
      refine a_getr dX12_isAlone_32 kf_X12_90 ⟨by decide, _, rfl, rfl⟩ ?_
      refine a_aload_n dX12_isAlone_35 rfl ?_
      refine a_getr dX12_isAlone_36 kf_X12_93 ⟨by decide, _, rfl, rfl⟩ ?_
      refine a_iload dX12_isAlone_39 rfl ?_
      refine a_iald dX12_isAlone_41 ⟨by decide, rfl⟩ (by omega) q1 ?_
      refine a_iald dX12_isAlone_42 ⟨by decide, rfl⟩ (by omega) rfl ?_
      refine a_goto (tgt := 48) dX12_isAlone_43 (by decide) ?_
      exact kj
    refine a_topi (v := if s.testBit i = true then I0 89 (fr i) else -9) (by simp only [lx_bit0 (show i < 64 by omega) (show s < 2 ^ 63 by omega)]) ?_
    refine a_iast dX12_isAlone_48 ⟨by decide, rfl⟩ (by omega) ?_
    refine a_mem (mFx_s I0 fr s i) ?_
    refine a_iinc (L' := [_, _, _, _, _]) dX12_isAlone_49 rfl (nI_inc _) rfl ?_
    refine a_goto (tgt := 3) dX12_isAlone_52 (by decide) ?_
    exact ih (i + 1) (by omega) (by omega)

set_option maxHeartbeats 4000000 in
set_option maxRecDepth 100000 in
theorem lp_al2 {G : am_G} {d : Nat} {I0 : am_I} {J : am_J} {Ex : am_Ex} {s f : Nat} (kx : AW G cX12_isAlone 5 RX12 d Ex 79 [some (.ref 63), some (.long (lN s)), none, some (.int (nI f)), some (.int (nI 36))] [] (mTk0 I0 36) J) : ∀ i, i ≤ 36 → AW G cX12_isAlone 5 RX12 d Ex 58 [some (.ref 63), some (.long (lN s)), none, some (.int (nI f)), some (.int (nI i))] [] (mTk0 I0 i) J := by
  refine am_dn 36 (fun i hi ih => ?_)
  refine a_iload dX12_isAlone_58 rfl ?_
  refine a_bipush (v := nI 36) dX12_isAlone_60 (by decide) ?_
  refine a_icmp_geN (tgt := 79) dX12_isAlone_62 (by decide) (by omega) (by omega) (fun h => ?_) (fun h => ?_)
  · obtain rfl : i = 36 := by omega
    exact kx
  · refine a_aload_n dX12_isAlone_65 rfl ?_
    refine a_getr dX12_isAlone_66 kf_X12_78 ⟨by decide, _, rfl, rfl⟩ ?_
    refine a_iload dX12_isAlone_69 rfl ?_
    refine a_iconst (v := nI 0) dX12_isAlone_71 (by decide) ?_
    refine a_zast dX12_isAlone_72 ⟨by decide, rfl⟩ (by omega) (by first | exact Or.inl rfl | exact Or.inr rfl) ?_
    refine a_mem (mTk0_s I0 i) ?_
    refine a_iinc (L' := [_, _, _, _, _]) dX12_isAlone_73 rfl (nI_inc _) rfl ?_
    refine a_goto (tgt := 58) dX12_isAlone_76 (by decide) ?_
    exact ih (i + 1) (by omega) (by omega)

set_option maxHeartbeats 4000000 in
set_option maxRecDepth 100000 in
theorem c_isAlone {G : am_G} {d : Nat} {I : am_I} {J : am_J} {K : Int32 → am_I → am_J → Prop} {n m lim t s f : Nat} {g la : Nat → Nat} {fx : Nat → Option Nat} {sq : Nat → Nat} {tl : Nat → Bool} {lf0 fr : Nat → Nat} (hs : s < 2 ^ 60) (hf : f ≤ 36) (hfr : ∀ i, i < f → I 90 i = nI (fr i) ∧ fr i < 36) (hsk : skP (mTk0 (mFx I fr s f) 36) n m g la fx sq tl lf0) (h30 : I 63 30 = nI lim) (hl2 : lim ≤ 20000) (h29 : I 63 29 = nI t) (htl : t ≤ lim) (hK : ∀ I', frS I' (mTk0 (mFx I fr s f) 36) → I' 63 29 = nI (runS cn2 lim t (evS g la fx tl n m 0 lf0 (fun _ => 0)) 0).1 → K (alR (runS cn2 lim t (evS g la fx tl n m 0 lf0 (fun _ => 0)) 0)) I' J) : CMi G (d + 3) yX12_isAlone [.ref 63, .long (lN s), .int (nI f)] I J K := by
  refine CM.of (L0 := [_, _, _, _, _]) cX12_isAlone 5 (some .int) (by decide) (by decide) kcX12_isAlone (Nat.le_of_ble_eq_true rfl) rfl ?_
  refine a_iconst (v := nI 0) dX12_isAlone_0 (by decide) ?_
  refine a_istore (L' := [_, _, _, _, _]) dX12_isAlone_1 (Nat.le_of_ble_eq_true rfl) rfl ?_
  refine a_mem (I' := mFx I fr s 0) (by funext a b; simp only [mFx, fxR]; by_cases e : a = 81 <;> simp [e]) ?_
  refine lp_al1 hs hf hfr ?_ 0 (by omega)
  refine a_iconst (v := nI 0) dX12_isAlone_55 (by decide) ?_
  refine a_istore (L' := [_, _, _, _, _]) dX12_isAlone_56 (Nat.le_of_ble_eq_true rfl) rfl ?_
  refine a_mem (I' := mTk0 (mFx I fr s f) 0) (by funext a b; simp [mTk0]) ?_
  refine lp_al2 ?_ 0 (by omega)
  refine a_aload_n dX12_isAlone_79 rfl ?_
  refine a_iconst (v := nI 1) dX12_isAlone_80 (by decide) ?_
  refine a_callVi (As := [_]) dX12_isAlone_81 km_X12_212 ⟨by decide, _, _, _, rfl, rfl⟩ rfl rfl (Nat.le_of_ble_eq_true rfl) ?_
  refine c_nextS hsk h30 hl2 h29 htl (fun _ => by simp [mTk0]) (fun _ => 0) (fun I' t' hf' ht' e => ?_) (fun I' t' hf' ht' e => ?_) (fun I' t' A' hf' e hfs' => ?_)
  · have hrun : runS cn2 lim t (evS g la fx tl n m 0 lf0 (fun _ => 0)) 0 = (t', 0, 0) := by rw [runS_nx, e]; rfl
    have hk := hK I' hf' (by rw [hrun]; exact ht')
    rw [hrun] at hk
    refine a_istore (L' := [_, _, _, _, _]) dX12_isAlone_84 (Nat.le_of_ble_eq_true rfl) rfl ?_
    refine a_iload dX12_isAlone_86 rfl ?_
    refine a_iconst (v := nI 1) dX12_isAlone_88 (by decide) ?_
    refine a_icmp_ne (tgt := 121) dX12_isAlone_89 (by decide) (fun h89 => ?_) (fun h89 => ?_)
    · refine a_iload dX12_isAlone_121 rfl ?_
      exact a_ireturn dX12_isAlone_123 ⟨_, rfl, hk⟩
    · exact absurd h89 (by decide)
  · have hrun : runS cn2 lim t (evS g la fx tl n m 0 lf0 (fun _ => 0)) 0 = (t', 1, 0) := by rw [runS_nx, e]; rfl
    have hk := hK I' hf' (by rw [hrun]; exact ht')
    rw [hrun] at hk
    refine a_istore (L' := [_, _, _, _, _]) dX12_isAlone_84 (Nat.le_of_ble_eq_true rfl) rfl ?_
    refine a_iload dX12_isAlone_86 rfl ?_
    refine a_iconst (v := nI 1) dX12_isAlone_88 (by decide) ?_
    refine a_icmp_ne (tgt := 121) dX12_isAlone_89 (by decide) (fun h89 => ?_) (fun h89 => ?_)
    · refine a_iload dX12_isAlone_121 rfl ?_
      exact a_ireturn dX12_isAlone_123 ⟨_, rfl, hk⟩
    · exact absurd h89 (by decide)
  · refine a_istore (L' := [_, _, _, _, _]) dX12_isAlone_84 (Nat.le_of_ble_eq_true rfl) rfl ?_
    refine a_iload dX12_isAlone_86 rfl ?_
    refine a_iconst (v := nI 1) dX12_isAlone_88 (by decide) ?_
    refine a_icmp_ne (tgt := 121) dX12_isAlone_89 (by decide) (fun h89 => ?_) (fun h89 => ?_)
    · exact absurd rfl h89
    · refine a_aload_n dX12_isAlone_92 rfl ?_
      refine a_iconst (v := nI 0) dX12_isAlone_93 (by decide) ?_
      refine a_callVi (As := [_]) dX12_isAlone_94 km_X12_212 ⟨by decide, _, _, _, rfl, rfl⟩ rfl rfl (Nat.le_of_ble_eq_true rfl) ?_
      refine c_nextF hfs' (fun I2 t2 hf2 ht2 e2 => ?_) (fun I2 t2 hf2 ht2 e2 => ?_) (fun I2 t2 A2 hf2 e2 hfs2 => ?_)
      · have hrun : runS cn2 lim t (evS g la fx tl n m 0 lf0 (fun _ => 0)) 0 = (t2, 0, 1) := by
          rw [runS_nx, e, runM_fit, if_neg (by simp [cn2]), runS_nx, e2]; rfl
        have hk := hK I2 (frS_tr hf2 hf') (by rw [hrun]; exact ht2)
        rw [hrun] at hk
        refine a_istore (L' := [_, _, _, _, _]) dX12_isAlone_97 (Nat.le_of_ble_eq_true rfl) rfl ?_
        refine a_iload dX12_isAlone_99 rfl ?_
        refine a_if_ge (tgt := 109) dX12_isAlone_101 (by decide) (fun h101 => ?_) (fun h101 => ?_)
        · refine a_iload dX12_isAlone_109 rfl ?_
          refine a_iconst (v := nI 1) dX12_isAlone_111 (by decide) ?_
          refine a_icmp_ne (tgt := 119) dX12_isAlone_112 (by decide) (fun h112 => ?_) (fun h112 => ?_)
          · refine a_iconst (v := nI 1) dX12_isAlone_119 (by decide) ?_
            exact a_ireturn dX12_isAlone_120 ⟨_, rfl, hk⟩
          · exact absurd h112 (by decide)
        · exact absurd (show (0 : Int32) ≤ nI 0 by decide) h101
      · have hrun : runS cn2 lim t (evS g la fx tl n m 0 lf0 (fun _ => 0)) 0 = (t2, 1, 1) := by
          rw [runS_nx, e, runM_fit, if_neg (by simp [cn2]), runS_nx, e2]; rfl
        have hk := hK I2 (frS_tr hf2 hf') (by rw [hrun]; exact ht2)
        rw [hrun] at hk
        refine a_istore (L' := [_, _, _, _, _]) dX12_isAlone_97 (Nat.le_of_ble_eq_true rfl) rfl ?_
        refine a_iload dX12_isAlone_99 rfl ?_
        refine a_if_ge (tgt := 109) dX12_isAlone_101 (by decide) (fun h101 => ?_) (fun h101 => ?_)
        · exact absurd h101 (by decide)
        · refine a_iload dX12_isAlone_104 rfl ?_
          refine a_goto (tgt := 120) dX12_isAlone_106 (by decide) ?_
          exact a_ireturn dX12_isAlone_120 ⟨_, rfl, hk⟩
      · have hrun : runS cn2 lim t (evS g la fx tl n m 0 lf0 (fun _ => 0)) 0 = (t2, 2, 2) := by
          rw [runS_nx, e, runM_fit, if_neg (by simp [cn2]), runS_nx, e2]; rfl
        have hk := hK I2 (frS_tr hf2 hf') (by rw [hrun]; exact hfs2.2.2.2.1)
        rw [hrun] at hk
        refine a_istore (L' := [_, _, _, _, _]) dX12_isAlone_97 (Nat.le_of_ble_eq_true rfl) rfl ?_
        refine a_iload dX12_isAlone_99 rfl ?_
        refine a_if_ge (tgt := 109) dX12_isAlone_101 (by decide) (fun h101 => ?_) (fun h101 => ?_)
        · refine a_iload dX12_isAlone_109 rfl ?_
          refine a_iconst (v := nI 1) dX12_isAlone_111 (by decide) ?_
          refine a_icmp_ne (tgt := 119) dX12_isAlone_112 (by decide) (fun h112 => ?_) (fun h112 => ?_)
          · exact absurd rfl h112
          · refine a_iconst (v := nI 0) dX12_isAlone_115 (by decide) ?_
            refine a_goto (tgt := 120) dX12_isAlone_116 (by decide) ?_
            exact a_ireturn dX12_isAlone_120 ⟨_, rfl, hk⟩
        · exact absurd (show (0 : Int32) ≤ nI 1 by decide) h101

