/-! ===== the system: the public calls, sheets, digest ===== -/
def szP (I : am_I) : Prop := ∀ s, s < 4 → I 62 s = -1 ∨ ∃ n, n ≤ 24 ∧ I 62 s = nI n
set_option maxHeartbeats 4000000 in
set_option maxRecDepth 100000 in
theorem l_sheet {G : am_G} {d : Nat} {I : am_I} {J : am_J} {K : Int32 → am_I → am_J → Prop} {x y : Int32} (h1 : ∀ s n, s < 4 → x = nI s → n ≤ 24 → y = nI n → K y (mFill (am_up I 62 s y) (16 + s) 24 (nI 0)) J) (h5 : ∀ s, s < 4 → x = nI s → ¬ 0 ≤ y → K (-3) (mFou I 5) J) (h0 : ¬ ((∃ s, s < 4 ∧ x = nI s) ∧ y ≤ nI 24) → K (-1) I J) : CMi G (d + 2) yX11_sheet [.ref 0, .int x, .int y] I J K := by
  refine CM.of (L0 := [_, _, _]) cX11_sheet 3 (some .int) (by decide) (by decide) kcX11_sheet (Nat.le_of_ble_eq_true rfl) rfl ?_
  refine a_iload_n dX11_sheet_0 rfl ?_
  refine a_callSi (As := [_]) dX11_sheet_1 km_X11_270 rfl rfl (Nat.le_of_ble_eq_true rfl) ?_
  refine l_isSheet (fun s hs es => ?_) (fun es => ?_)
  · subst es
    refine a_if_eq (tgt := 13) dX11_sheet_4 (by decide) (fun g4 => ?_) (fun g4 => ?_)
    · exact absurd g4 (by decide)
    · refine a_iload_n dX11_sheet_7 rfl ?_
      refine a_bipush (v := nI 24) dX11_sheet_8 (by decide) ?_
      refine a_icmp_le (tgt := 15) dX11_sheet_10 (by decide) (fun a => ?_) (fun a => ?_)
      · refine a_iload_n dX11_sheet_15 rfl ?_
        refine a_if_ge (tgt := 25) dX11_sheet_16 (by decide) (fun b => ?_) (fun b => ?_)
        · obtain ⟨n, hn, rfl⟩ := (rg_iff1 (n := 24) (by decide)).mp ⟨b, a⟩
          refine a_aload_n dX11_sheet_25 rfl ?_
          refine a_getr dX11_sheet_26 kf_X11_72 ⟨by decide, _, rfl, rfl⟩ ?_
          refine a_iload_n dX11_sheet_29 rfl ?_
          refine a_iload_n dX11_sheet_30 rfl ?_
          refine a_callVv (As := [_, _]) dX11_sheet_31 km_X11_273 ⟨by decide, _, _, _, rfl, rfl⟩ rfl rfl (Nat.le_of_ble_eq_true rfl) ?_
          refine s_put hs ?_
          refine a_iload_n dX11_sheet_34 rfl ?_
          exact a_ireturn dX11_sheet_35 ⟨_, rfl, (h1 s n hs rfl hn rfl)⟩
        · refine a_aload_n dX11_sheet_19 rfl ?_
          refine a_iconst (v := nI 5) dX11_sheet_20 (by decide) ?_
          refine a_callVi (As := [_]) dX11_sheet_21 km_X11_147 ⟨by decide, _, _, _, rfl, rfl⟩ rfl rfl (Nat.le_of_ble_eq_true rfl) ?_
          refine l_found (by decide) ?_
          exact a_ireturn dX11_sheet_24 ⟨_, rfl, (h5 s hs rfl b)⟩
      · refine a_iconst (v := (-1)) dX11_sheet_13 (by decide) ?_
        exact a_ireturn dX11_sheet_14 ⟨_, rfl, (h0 (fun z => a z.2))⟩
  · refine a_if_eq (tgt := 13) dX11_sheet_4 (by decide) (fun g4 => ?_) (fun g4 => ?_)
    · refine a_iconst (v := (-1)) dX11_sheet_13 (by decide) ?_
      exact a_ireturn dX11_sheet_14 ⟨_, rfl, (h0 (fun z => es z.1))⟩
    · exact absurd g4 (by decide)

theorem tb_tb {z : Int32} : z.toInt8.toInt32.toInt8.toInt32 = z.toInt8.toInt32 := by rw [Int8.toInt8_toInt32]
set_option maxHeartbeats 4000000 in
set_option maxRecDepth 100000 in
theorem l_lay {G : am_G} {d : Nat} {I : am_I} {J : am_J} {K : Int32 → am_I → am_J → Prop} {x y z : Int32} (hz : szP I) (h1 : ∀ s n i, s < 4 → x = nI s → I 62 s = nI n → n ≤ 24 → i < n → y = nI i → K (I (16 + s) i + nI 1000) (am_up I (16 + s) i z.toInt8.toInt32) J) (h2 : ∀ s n, s < 4 → x = nI s → I 62 s = nI n → n ≤ 24 → ¬ (∃ i, i < n ∧ y = nI i) → K (-3) (mFou I 2) J) (h4 : ∀ s, s < 4 → x = nI s → I 62 s = -1 → K (-3) (mFou I 1) J) (h0 : ¬ (∃ s, s < 4 ∧ x = nI s) → K (-1) I J) : CMi G (d + 1) yX11_lay [.ref 0, .int x, .int y, .int z] I J K := by
  refine CM.of (L0 := [_, _, _, _, _]) cX11_lay 5 (some .int) (by decide) (by decide) kcX11_lay (Nat.le_of_ble_eq_true rfl) rfl ?_
  refine a_iload_n dX11_lay_0 rfl ?_
  refine a_callSi (As := [_]) dX11_lay_1 km_X11_270 rfl rfl (Nat.le_of_ble_eq_true rfl) ?_
  refine l_isSheet (fun s hs es => ?_) (fun es => ?_)
  · subst es
    refine a_if_ne (tgt := 9) dX11_lay_4 (by decide) (fun g4 => ?_) (fun g4 => ?_)
    · refine a_aload_n dX11_lay_9 rfl ?_
      refine a_getr dX11_lay_10 kf_X11_72 ⟨by decide, _, rfl, rfl⟩ ?_
      refine a_getr dX11_lay_13 kf_X11_276 ⟨by decide, _, rfl, rfl⟩ ?_
      refine a_iload_n dX11_lay_16 rfl ?_
      refine a_iald dX11_lay_17 ⟨by decide, rfl⟩ (by omega) rfl ?_
      refine a_iconst (v := (-1)) dX11_lay_18 (by decide) ?_
      refine a_icmp_ne (tgt := 28) dX11_lay_19 (by decide) (fun c => ?_) (fun c => ?_)
      · obtain ⟨n, hn24, hsn⟩ := (hz s hs).resolve_left c
        refine a_iload_n dX11_lay_28 rfl ?_
        refine a_if_lt (tgt := 45) dX11_lay_29 (by decide) (fun a => ?_) (fun a => ?_)
        · refine a_aload_n dX11_lay_45 rfl ?_
          refine a_iconst (v := nI 2) dX11_lay_46 (by decide) ?_
          refine a_callVi (As := [_]) dX11_lay_47 km_X11_147 ⟨by decide, _, _, _, rfl, rfl⟩ rfl rfl (Nat.le_of_ble_eq_true rfl) ?_
          refine l_found (by decide) ?_
          exact a_ireturn dX11_lay_50 ⟨_, rfl, (h2 s n hs rfl hsn hn24 (fun ⟨i, p, q⟩ => by rw [q] at a; exact nI_pos (by omega) a))⟩
        · refine a_iload_n dX11_lay_32 rfl ?_
          refine a_aload_n dX11_lay_33 rfl ?_
          refine a_getr dX11_lay_34 kf_X11_72 ⟨by decide, _, rfl, rfl⟩ ?_
          refine a_getr dX11_lay_37 kf_X11_276 ⟨by decide, _, rfl, rfl⟩ ?_
          refine a_iload_n dX11_lay_40 rfl ?_
          refine a_iald dX11_lay_41 ⟨by decide, rfl⟩ (by omega) hsn ?_
          refine a_icmp_lt (tgt := 51) dX11_lay_42 (by decide) (fun b => ?_) (fun b => ?_)
          · obtain ⟨i, hi, rfl⟩ := (rg_iff (n := n) (by omega)).mp ⟨Int32.not_lt.mp a, b⟩
            refine a_aload_n dX11_lay_51 rfl ?_
            refine a_getr dX11_lay_52 kf_X11_72 ⟨by decide, _, rfl, rfl⟩ ?_
            refine a_getr dX11_lay_55 kf_X11_279 ⟨by decide, _, rfl, rfl⟩ ?_
            refine a_iload_n dX11_lay_58 rfl ?_
            refine a_aald dX11_lay_59 ⟨by decide, rfl⟩ (by decide) (by omega) rfl ?_
            refine a_iload_n dX11_lay_60 rfl ?_
            refine a_bald dX11_lay_61 (sh_byte hs) (by omega) rfl ?_
            refine a_istore (L' := [_, _, _, _, _]) dX11_lay_62 (Nat.le_of_ble_eq_true rfl) rfl ?_
            refine a_aload_n dX11_lay_64 rfl ?_
            refine a_getr dX11_lay_65 kf_X11_72 ⟨by decide, _, rfl, rfl⟩ ?_
            refine a_getr dX11_lay_68 kf_X11_279 ⟨by decide, _, rfl, rfl⟩ ?_
            refine a_iload_n dX11_lay_71 rfl ?_
            refine a_aald dX11_lay_72 ⟨by decide, rfl⟩ (by decide) (by omega) rfl ?_
            refine a_iload_n dX11_lay_73 rfl ?_
            refine a_iload_n dX11_lay_74 rfl ?_
            refine a_i2b dX11_lay_75 rfl ?_
            refine a_bast dX11_lay_76 (sh_byte hs) (by omega) ?_
            refine a_iload dX11_lay_77 rfl ?_
            refine a_sipush (v := nI 1000) dX11_lay_79 (by decide) ?_
            refine a_iadd dX11_lay_82 rfl ?_
            exact a_ireturn dX11_lay_83 ⟨_, rfl, (by rw [tb_tb] ; exact h1 s n i hs rfl hsn hn24 hi rfl)⟩
          · refine a_aload_n dX11_lay_45 rfl ?_
            refine a_iconst (v := nI 2) dX11_lay_46 (by decide) ?_
            refine a_callVi (As := [_]) dX11_lay_47 km_X11_147 ⟨by decide, _, _, _, rfl, rfl⟩ rfl rfl (Nat.le_of_ble_eq_true rfl) ?_
            refine l_found (by decide) ?_
            exact a_ireturn dX11_lay_50 ⟨_, rfl, (h2 s n hs rfl hsn hn24 (fun ⟨i, p, q⟩ => by rw [q] at b; exact b (nI_lt p (by omega))))⟩
      · refine a_aload_n dX11_lay_22 rfl ?_
        refine a_iconst (v := nI 1) dX11_lay_23 (by decide) ?_
        refine a_callVi (As := [_]) dX11_lay_24 km_X11_147 ⟨by decide, _, _, _, rfl, rfl⟩ rfl rfl (Nat.le_of_ble_eq_true rfl) ?_
        refine l_found (by decide) ?_
        exact a_ireturn dX11_lay_27 ⟨_, rfl, (h4 s hs rfl c)⟩
    · exact absurd g4 (by decide)
  · refine a_if_ne (tgt := 9) dX11_lay_4 (by decide) (fun g4 => ?_) (fun g4 => ?_)
    · exact absurd g4 (by decide)
    · refine a_iconst (v := (-1)) dX11_lay_7 (by decide) ?_
      exact a_ireturn dX11_lay_8 ⟨_, rfl, (h0 es)⟩

set_option maxHeartbeats 4000000 in
set_option maxRecDepth 100000 in
theorem l_tear {G : am_G} {d : Nat} {I : am_I} {J : am_J} {K : Int32 → am_I → am_J → Prop} {x : Int32} (hz : szP I) (h1 : ∀ s n, s < 4 → x = nI s → I 62 s = nI n → n ≤ 24 → K (nI 1) (am_up I 62 s (-1)) J) (h4 : ∀ s, s < 4 → x = nI s → I 62 s = -1 → K (-3) (mFou I 1) J) (h0 : ¬ (∃ s, s < 4 ∧ x = nI s) → K (-1) I J) : CMi G (d + 1) yX11_tear [.ref 0, .int x] I J K := by
  refine CM.of (L0 := [_, _]) cX11_tear 2 (some .int) (by decide) (by decide) kcX11_tear (Nat.le_of_ble_eq_true rfl) rfl ?_
  refine a_iload_n dX11_tear_0 rfl ?_
  refine a_callSi (As := [_]) dX11_tear_1 km_X11_270 rfl rfl (Nat.le_of_ble_eq_true rfl) ?_
  refine l_isSheet (fun s hs es => ?_) (fun es => ?_)
  · subst es
    refine a_if_ne (tgt := 9) dX11_tear_4 (by decide) (fun g4 => ?_) (fun g4 => ?_)
    · refine a_aload_n dX11_tear_9 rfl ?_
      refine a_getr dX11_tear_10 kf_X11_72 ⟨by decide, _, rfl, rfl⟩ ?_
      refine a_getr dX11_tear_13 kf_X11_276 ⟨by decide, _, rfl, rfl⟩ ?_
      refine a_iload_n dX11_tear_16 rfl ?_
      refine a_iald dX11_tear_17 ⟨by decide, rfl⟩ (by omega) rfl ?_
      refine a_iconst (v := (-1)) dX11_tear_18 (by decide) ?_
      refine a_icmp_ne (tgt := 28) dX11_tear_19 (by decide) (fun c => ?_) (fun c => ?_)
      · obtain ⟨n, hn24, hsn⟩ := (hz s hs).resolve_left c
        refine a_aload_n dX11_tear_28 rfl ?_
        refine a_getr dX11_tear_29 kf_X11_72 ⟨by decide, _, rfl, rfl⟩ ?_
        refine a_getr dX11_tear_32 kf_X11_276 ⟨by decide, _, rfl, rfl⟩ ?_
        refine a_iload_n dX11_tear_35 rfl ?_
        refine a_iconst (v := (-1)) dX11_tear_36 (by decide) ?_
        refine a_iast dX11_tear_37 ⟨by decide, rfl⟩ (by omega) ?_
        refine a_iconst (v := nI 1) dX11_tear_38 (by decide) ?_
        exact a_ireturn dX11_tear_39 ⟨_, rfl, (h1 s n hs rfl hsn hn24)⟩
      · refine a_aload_n dX11_tear_22 rfl ?_
        refine a_iconst (v := nI 1) dX11_tear_23 (by decide) ?_
        refine a_callVi (As := [_]) dX11_tear_24 km_X11_147 ⟨by decide, _, _, _, rfl, rfl⟩ rfl rfl (Nat.le_of_ble_eq_true rfl) ?_
        refine l_found (by decide) ?_
        exact a_ireturn dX11_tear_27 ⟨_, rfl, (h4 s hs rfl c)⟩
    · exact absurd g4 (by decide)
  · refine a_if_ne (tgt := 9) dX11_tear_4 (by decide) (fun g4 => ?_) (fun g4 => ?_)
    · exact absurd g4 (by decide)
    · refine a_iconst (v := (-1)) dX11_tear_7 (by decide) ?_
      exact a_ireturn dX11_tear_8 ⟨_, rfl, (h0 es)⟩

def mPl (I : am_I) (s l i : Nat) : am_I := fun a b => if a = 32 + l ∧ b < i then kpC I l (I (16 + s) b &&& nI 255) else I a b
theorem mPl_s (I : am_I) (s l i : Nat) : am_up (mPl I s l i) (32 + l) i (kpC I l (I (16 + s) i &&& nI 255)) = mPl I s l (i + 1) := by
  funext a b
  simp only [am_up, mPl]
  by_cases h1 : a = 32 + l
  · subst h1
    by_cases h2 : b = i
    · subst h2; simp
    · by_cases h3 : b < i
      · simp [h2, h3, show b < i + 1 by omega]
      · simp [h2, h3, show ¬ b < i + 1 by omega]
  · simp [h1]
theorem mPl_ne {I : am_I} {s l i a : Nat} (h : a ≠ 32 + l) : mPl I s l i a = I a := by
  funext b; simp [mPl, h]
theorem kpC_pl {I : am_I} {s l i : Nat} {x : Int32} (hl : l < 12) : kpC (mPl I s l i) l x = kpC I l x := by
  unfold kpC ctC
  rw [mPl_ne (by omega)]
set_option maxHeartbeats 4000000 in
set_option maxRecDepth 100000 in
theorem lp_plc {G : am_G} {d : Nat} {I0 : am_I} {J : am_J} {K : Int32 → am_I → am_J → Prop} {s l z : Nat} (hs : s < 4) (hl : l < 12) (hz24 : z ≤ 24) (hsn : I0 62 s = nI z) (hK : K (nI z) (mPl I0 s l z) J) : ∀ i, i ≤ z → AW G cX11_play 5 RX11 (d + 3) (am_ex G (some .int) (fun r I J => ∃ x, r = some (.int x) ∧ K x I J)) 66 [some (.ref 0), some (.int (nI s)), some (.int (nI l)), some (.ref (20 + l)), some (.int (nI i))] [] (mPl I0 s l i) J := by
  refine am_dn z (fun i hi ih => ?_)
  have e62 : mPl I0 s l i 62 s = nI z := by rw [mPl_ne (by omega)]; exact hsn
  refine a_iload dX11_play_66 rfl ?_
  refine a_aload_n dX11_play_68 rfl ?_
  refine a_getr dX11_play_69 kf_X11_72 ⟨by decide, _, rfl, rfl⟩ ?_
  refine a_getr dX11_play_72 kf_X11_276 ⟨by decide, _, rfl, rfl⟩ ?_
  refine a_iload_n dX11_play_75 rfl ?_
  refine a_iald dX11_play_76 ⟨by decide, rfl⟩ (by omega) e62 ?_
  refine a_icmp_geN (tgt := 108) dX11_play_77 (by decide) (by omega) (by omega) (fun h => ?_) (fun h => ?_)
  · obtain rfl : i = z := by omega
    refine a_aload_n dX11_play_108 rfl ?_
    refine a_getr dX11_play_109 kf_X11_72 ⟨by decide, _, rfl, rfl⟩ ?_
    refine a_getr dX11_play_112 kf_X11_276 ⟨by decide, _, rfl, rfl⟩ ?_
    refine a_iload_n dX11_play_115 rfl ?_
    refine a_iald dX11_play_116 ⟨by decide, rfl⟩ (by omega) e62 ?_
    exact a_ireturn dX11_play_117 ⟨_, rfl, hK⟩
  · refine a_aload_n dX11_play_80 rfl ?_
    refine a_iload dX11_play_81 rfl ?_
    refine a_aload_n dX11_play_83 rfl ?_
    refine a_getr dX11_play_84 kf_X11_72 ⟨by decide, _, rfl, rfl⟩ ?_
    refine a_getr dX11_play_87 kf_X11_279 ⟨by decide, _, rfl, rfl⟩ ?_
    refine a_iload_n dX11_play_90 rfl ?_
    refine a_aald dX11_play_91 ⟨by decide, rfl⟩ (by decide) (by omega) rfl ?_
    refine a_iload dX11_play_92 rfl ?_
    refine a_bald dX11_play_94 (sh_byte hs) (by omega) (congrFun (mPl_ne (by omega)) i) ?_
    refine a_sipush (v := nI 255) dX11_play_95 (by decide) ?_
    refine a_iand dX11_play_98 rfl ?_
    refine a_callVv (As := [_, _]) dX11_play_99 km_X11_168 (sh_ob (by omega)) rfl rfl (Nat.le_of_ble_eq_true rfl) ?_
    refine k_keepReading hl (by omega) ?_
    rw [kpC_pl hl]
    refine a_mem (mPl_s I0 s l i) ?_
    refine a_iinc (L' := [_, _, _, _, _]) dX11_play_102 rfl (nI_inc _) rfl ?_
    refine a_goto (tgt := 66) dX11_play_105 (by decide) ?_
    exact ih (i + 1) (by omega) (by omega)

set_option maxHeartbeats 4000000 in
set_option maxRecDepth 100000 in
theorem l_play {G : am_G} {d : Nat} {I : am_I} {J : am_J} {K : Int32 → am_I → am_J → Prop} {x y : Int32} {n : Nat} (hn : I 1 1 = nI n) (hn12 : n ≤ 12) (hz : szP I) (h1 : ∀ s z l, s < 4 → x = nI s → l < n → y = nI l → kdK I l → I 62 s = nI z → z ≤ 24 → K (nI z) (mPl I s l z) J) (h3 : ∀ s l, s < 4 → x = nI s → l < n → y = nI l → ¬ kdK I l → K (-3) (mFou I 3) J) (h4 : ∀ s l, s < 4 → x = nI s → l < n → y = nI l → kdK I l → I 62 s = -1 → K (-3) (mFou I 1) J) (h0 : ¬ ((∃ s, s < 4 ∧ x = nI s) ∧ isLn n y) → K (-1) I J) : CMi G (d + 3) yX11_play [.ref 0, .int x, .int y] I J K := by
  refine CM.of (L0 := [_, _, _, _, _]) cX11_play 5 (some .int) (by decide) (by decide) kcX11_play (Nat.le_of_ble_eq_true rfl) rfl ?_
  refine a_iload_n dX11_play_0 rfl ?_
  refine a_callSi (As := [_]) dX11_play_1 km_X11_270 rfl rfl (Nat.le_of_ble_eq_true rfl) ?_
  refine l_isSheet (fun s hs es => ?_) (fun es => ?_)
  · subst es
    refine a_if_eq (tgt := 18) dX11_play_4 (by decide) (fun g4 => ?_) (fun g4 => ?_)
    · exact absurd g4 (by decide)
    · refine a_aload_n dX11_play_7 rfl ?_
      refine a_getr dX11_play_8 kf_X11_10 ⟨by decide, _, rfl, rfl⟩ ?_
      refine a_iload_n dX11_play_11 rfl ?_
      refine a_callVi (As := [_]) dX11_play_12 km_X11_116 ⟨by decide, _, _, _, rfl, rfl⟩ rfl rfl (Nat.le_of_ble_eq_true rfl) ?_
      refine n_isLine hn (by omega) (fun l hl el => ?_) (fun e0 => ?_)
      · subst el
        have hl12 : l < 12 := by omega
        refine a_if_ne (tgt := 20) dX11_play_15 (by decide) (fun h15 => ?_) (fun h15 => ?_)
        · refine a_aload_n dX11_play_20 rfl ?_
          refine a_getr dX11_play_21 kf_X11_10 ⟨by decide, _, rfl, rfl⟩ ?_
          refine a_getr dX11_play_24 kf_X11_120 ⟨by decide, _, rfl, rfl⟩ ?_
          refine a_iload_n dX11_play_27 rfl ?_
          refine a_aald dX11_play_28 ⟨by decide, rfl⟩ (by decide) (by omega) rfl ?_
          refine a_astore_n (L' := [_, _, _, _, _]) dX11_play_29 (Nat.le_of_ble_eq_true rfl) rfl ?_
          refine a_aload_n dX11_play_30 rfl ?_
          refine a_iconst (v := nI 1) dX11_play_31 (by decide) ?_
          refine a_callVi (As := [_]) dX11_play_32 km_X11_144 (sh_ob (by omega)) rfl rfl (Nat.le_of_ble_eq_true rfl) ?_
          refine k_isOf (by omega) (fun g => ?_) (fun g => ?_)
          · have hkd := kd_of g
            refine a_if_ne (tgt := 44) dX11_play_35 (by decide) (fun h35 => ?_) (fun h35 => ?_)
            · refine a_aload_n dX11_play_44 rfl ?_
              refine a_getr dX11_play_45 kf_X11_72 ⟨by decide, _, rfl, rfl⟩ ?_
              refine a_getr dX11_play_48 kf_X11_276 ⟨by decide, _, rfl, rfl⟩ ?_
              refine a_iload_n dX11_play_51 rfl ?_
              refine a_iald dX11_play_52 ⟨by decide, rfl⟩ (by omega) rfl ?_
              refine a_iconst (v := (-1)) dX11_play_53 (by decide) ?_
              refine a_icmp_ne (tgt := 63) dX11_play_54 (by decide) (fun c => ?_) (fun c => ?_)
              · obtain ⟨z, hz24, hsn⟩ := (hz s hs).resolve_left c
                refine a_iconst (v := nI 0) dX11_play_63 (by decide) ?_
                refine a_istore (L' := [_, _, _, _, _]) dX11_play_64 (Nat.le_of_ble_eq_true rfl) rfl ?_
                refine a_mem (I' := mPl I s l 0) (by funext a b; simp [mPl]) ?_
                exact lp_plc hs hl12 hz24 hsn (h1 s z l hs rfl hl rfl hkd hsn hz24) 0 (by omega)
              · refine a_aload_n dX11_play_57 rfl ?_
                refine a_iconst (v := nI 1) dX11_play_58 (by decide) ?_
                refine a_callVi (As := [_]) dX11_play_59 km_X11_147 ⟨by decide, _, _, _, rfl, rfl⟩ rfl rfl (Nat.le_of_ble_eq_true rfl) ?_
                refine l_found (by decide) ?_
                exact a_ireturn dX11_play_62 ⟨_, rfl, (h4 s l hs rfl hl rfl hkd c)⟩
            · exact absurd h35 (by decide)
          · have hkd := kd_no g
            refine a_if_ne (tgt := 44) dX11_play_35 (by decide) (fun h35 => ?_) (fun h35 => ?_)
            · exact absurd h35 (by decide)
            · refine a_aload_n dX11_play_38 rfl ?_
              refine a_iconst (v := nI 3) dX11_play_39 (by decide) ?_
              refine a_callVi (As := [_]) dX11_play_40 km_X11_147 ⟨by decide, _, _, _, rfl, rfl⟩ rfl rfl (Nat.le_of_ble_eq_true rfl) ?_
              refine l_found (by decide) ?_
              exact a_ireturn dX11_play_43 ⟨_, rfl, (h3 s l hs rfl hl rfl hkd)⟩
        · exact absurd h15 (by decide)
      · refine a_if_ne (tgt := 20) dX11_play_15 (by decide) (fun h15 => ?_) (fun h15 => ?_)
        · exact absurd h15 (by decide)
        · refine a_iconst (v := (-1)) dX11_play_18 (by decide) ?_
          exact a_ireturn dX11_play_19 ⟨_, rfl, (h0 (fun z => e0 z.2))⟩
  · refine a_if_eq (tgt := 18) dX11_play_4 (by decide) (fun g4 => ?_) (fun g4 => ?_)
    · refine a_iconst (v := (-1)) dX11_play_18 (by decide) ?_
      exact a_ireturn dX11_play_19 ⟨_, rfl, (h0 (fun z => es z.1))⟩
    · exact absurd g4 (by decide)

set_option maxHeartbeats 4000000 in
set_option maxRecDepth 100000 in
theorem l_copy {G : am_G} {d : Nat} {I : am_I} {J : am_J} {K : Int32 → am_I → am_J → Prop} {x y z u v : Int32} (hz : szP I) (hby : ∀ s, s < 4 → ∀ h, h < 24 → (I (16 + s) h).toInt8.toInt32 = I (16 + s) h) (h1 : ∀ s t i j m a b, s < 4 → t < 4 → x = nI s → z = nI t → v = nI m → y = nI i → u = nI j → I 62 s = nI a → a ≤ 24 → I 62 t = nI b → b ≤ 24 → i + m ≤ a → j + m ≤ b → K (nI 1) (am_cp I (16 + t) (I (16 + s)) i j m) J) (h2 : ∀ s t m a b, s < 4 → t < 4 → x = nI s → z = nI t → m < 2 ^ 31 → v = nI m → I 62 s = nI a → a ≤ 24 → I 62 t = nI b → b ≤ 24 → ¬ (∃ i j, y = nI i ∧ u = nI j ∧ i + m ≤ a ∧ j + m ≤ b) → K (-3) (mFou I 2) J) (h4 : ∀ s t, s < 4 → t < 4 → x = nI s → z = nI t → 0 ≤ v → (I 62 s = -1 ∨ I 62 t = -1) → K (-3) (mFou I 1) J) (h5 : ∀ s t, s < 4 → t < 4 → x = nI s → z = nI t → ¬ 0 ≤ v → K (-3) (mFou I 5) J) (h0 : ¬ ((∃ s, s < 4 ∧ x = nI s) ∧ ∃ t, t < 4 ∧ z = nI t) → K (-1) I J) : CMi G (d + 1) yX11_copy [.ref 0, .int x, .int y, .int z, .int u, .int v] I J K := by
  refine CM.of (L0 := [_, _, _, _, _, _]) cX11_copy 6 (some .int) (by decide) (by decide) kcX11_copy (Nat.le_of_ble_eq_true rfl) rfl ?_
  refine a_iload_n dX11_copy_0 rfl ?_
  refine a_callSi (As := [_]) dX11_copy_1 km_X11_270 rfl rfl (Nat.le_of_ble_eq_true rfl) ?_
  refine l_isSheet (fun s hs es => ?_) (fun es => ?_)
  · subst es
    refine a_if_eq (tgt := 14) dX11_copy_4 (by decide) (fun g4 => ?_) (fun g4 => ?_)
    · exact absurd g4 (by decide)
    · refine a_iload_n dX11_copy_7 rfl ?_
      refine a_callSi (As := [_]) dX11_copy_8 km_X11_270 rfl rfl (Nat.le_of_ble_eq_true rfl) ?_
      refine l_isSheet (fun t ht et => ?_) (fun et => ?_)
      · subst et
        refine a_if_ne (tgt := 16) dX11_copy_11 (by decide) (fun h11 => ?_) (fun h11 => ?_)
        · refine a_iload dX11_copy_16 rfl ?_
          refine a_if_ge (tgt := 27) dX11_copy_18 (by decide) (fun a => ?_) (fun a => ?_)
          · refine a_aload_n dX11_copy_27 rfl ?_
            refine a_getr dX11_copy_28 kf_X11_72 ⟨by decide, _, rfl, rfl⟩ ?_
            refine a_getr dX11_copy_31 kf_X11_276 ⟨by decide, _, rfl, rfl⟩ ?_
            refine a_iload_n dX11_copy_34 rfl ?_
            refine a_iald dX11_copy_35 ⟨by decide, rfl⟩ (by omega) rfl ?_
            refine a_iconst (v := (-1)) dX11_copy_36 (by decide) ?_
            refine a_icmp_eq (tgt := 53) dX11_copy_37 (by decide) (fun b => ?_) (fun b => ?_)
            · refine a_aload_n dX11_copy_53 rfl ?_
              refine a_iconst (v := nI 1) dX11_copy_54 (by decide) ?_
              refine a_callVi (As := [_]) dX11_copy_55 km_X11_147 ⟨by decide, _, _, _, rfl, rfl⟩ rfl rfl (Nat.le_of_ble_eq_true rfl) ?_
              refine l_found (by decide) ?_
              exact a_ireturn dX11_copy_58 ⟨_, rfl, (h4 s t hs ht rfl rfl a (Or.inl b))⟩
            · refine a_aload_n dX11_copy_40 rfl ?_
              refine a_getr dX11_copy_41 kf_X11_72 ⟨by decide, _, rfl, rfl⟩ ?_
              refine a_getr dX11_copy_44 kf_X11_276 ⟨by decide, _, rfl, rfl⟩ ?_
              refine a_iload_n dX11_copy_47 rfl ?_
              refine a_iald dX11_copy_48 ⟨by decide, rfl⟩ (by omega) rfl ?_
              refine a_iconst (v := (-1)) dX11_copy_49 (by decide) ?_
              refine a_icmp_ne (tgt := 59) dX11_copy_50 (by decide) (fun c => ?_) (fun c => ?_)
              · obtain ⟨na, ha24, hsa⟩ := (hz s hs).resolve_left b
                obtain ⟨nb, hb24, hsb⟩ := (hz t ht).resolve_left c
                obtain ⟨m, hm, rfl⟩ := nI_of (Int32.not_lt.mpr a)
                refine a_aload_n dX11_copy_59 rfl ?_
                refine a_getr dX11_copy_60 kf_X11_72 ⟨by decide, _, rfl, rfl⟩ ?_
                refine a_iload_n dX11_copy_63 rfl ?_
                refine a_iload_n dX11_copy_64 rfl ?_
                refine a_iload dX11_copy_65 rfl ?_
                refine a_callVi (As := [_, _, _]) dX11_copy_67 km_X11_283 ⟨by decide, _, _, _, rfl, rfl⟩ rfl rfl (Nat.le_of_ble_eq_true rfl) ?_
                refine s_hasRun hs hsa ha24 hm (fun i ei hi => ?_) (fun g => ?_)
                · subst ei
                  refine a_if_eq (tgt := 88) dX11_copy_70 (by decide) (fun h70 => ?_) (fun h70 => ?_)
                  · exact absurd h70 (by decide)
                  · refine a_aload_n dX11_copy_73 rfl ?_
                    refine a_getr dX11_copy_74 kf_X11_72 ⟨by decide, _, rfl, rfl⟩ ?_
                    refine a_iload_n dX11_copy_77 rfl ?_
                    refine a_iload dX11_copy_78 rfl ?_
                    refine a_iload dX11_copy_80 rfl ?_
                    refine a_callVi (As := [_, _, _]) dX11_copy_82 km_X11_283 ⟨by decide, _, _, _, rfl, rfl⟩ rfl rfl (Nat.le_of_ble_eq_true rfl) ?_
                    refine s_hasRun ht hsb hb24 hm (fun j ej hj => ?_) (fun g => ?_)
                    · subst ej
                      refine a_if_ne (tgt := 94) dX11_copy_85 (by decide) (fun h85 => ?_) (fun h85 => ?_)
                      · refine a_aload_n dX11_copy_94 rfl ?_
                        refine a_getr dX11_copy_95 kf_X11_72 ⟨by decide, _, rfl, rfl⟩ ?_
                        refine a_getr dX11_copy_98 kf_X11_279 ⟨by decide, _, rfl, rfl⟩ ?_
                        refine a_iload_n dX11_copy_101 rfl ?_
                        refine a_aald dX11_copy_102 ⟨by decide, rfl⟩ (by decide) (by omega) rfl ?_
                        refine a_iload_n dX11_copy_103 rfl ?_
                        refine a_aload_n dX11_copy_104 rfl ?_
                        refine a_getr dX11_copy_105 kf_X11_72 ⟨by decide, _, rfl, rfl⟩ ?_
                        refine a_getr dX11_copy_108 kf_X11_279 ⟨by decide, _, rfl, rfl⟩ ?_
                        refine a_iload_n dX11_copy_111 rfl ?_
                        refine a_aald dX11_copy_112 ⟨by decide, rfl⟩ (by decide) (by omega) rfl ?_
                        refine a_iload dX11_copy_113 rfl ?_
                        refine a_iload dX11_copy_115 rfl ?_
                        refine a_copy dX11_copy_117 kl_X11_287 kn_copy ks_copy ki_System (sh_byte hs) (sh_byte ht) (by decide) (by omega) (by omega) (fun _ q hq => hby s hs _ (by omega)) (Nat.le_of_ble_eq_true rfl) ?_
                        refine a_iconst (v := nI 1) dX11_copy_120 (by decide) ?_
                        exact a_ireturn dX11_copy_121 ⟨_, rfl, (h1 s t i j m na nb hs ht rfl rfl rfl rfl rfl hsa ha24 hsb hb24 hi hj)⟩
                      · exact absurd h85 (by decide)
                    · refine a_if_ne (tgt := 94) dX11_copy_85 (by decide) (fun h85 => ?_) (fun h85 => ?_)
                      · exact absurd h85 (by decide)
                      · refine a_aload_n dX11_copy_88 rfl ?_
                        refine a_iconst (v := nI 2) dX11_copy_89 (by decide) ?_
                        refine a_callVi (As := [_]) dX11_copy_90 km_X11_147 ⟨by decide, _, _, _, rfl, rfl⟩ rfl rfl (Nat.le_of_ble_eq_true rfl) ?_
                        refine l_found (by decide) ?_
                        exact a_ireturn dX11_copy_93 ⟨_, rfl, (h2 s t m na nb hs ht rfl rfl hm rfl hsa ha24 hsb hb24 (fun ⟨i, j, p1, p2, p3, p4⟩ => g ⟨j, p2, p4⟩))⟩
                · refine a_if_eq (tgt := 88) dX11_copy_70 (by decide) (fun h70 => ?_) (fun h70 => ?_)
                  · refine a_aload_n dX11_copy_88 rfl ?_
                    refine a_iconst (v := nI 2) dX11_copy_89 (by decide) ?_
                    refine a_callVi (As := [_]) dX11_copy_90 km_X11_147 ⟨by decide, _, _, _, rfl, rfl⟩ rfl rfl (Nat.le_of_ble_eq_true rfl) ?_
                    refine l_found (by decide) ?_
                    exact a_ireturn dX11_copy_93 ⟨_, rfl, (h2 s t m na nb hs ht rfl rfl hm rfl hsa ha24 hsb hb24 (fun ⟨i, j, p1, p2, p3, p4⟩ => g ⟨i, p1, p3⟩))⟩
                  · exact absurd h70 (by decide)
              · refine a_aload_n dX11_copy_53 rfl ?_
                refine a_iconst (v := nI 1) dX11_copy_54 (by decide) ?_
                refine a_callVi (As := [_]) dX11_copy_55 km_X11_147 ⟨by decide, _, _, _, rfl, rfl⟩ rfl rfl (Nat.le_of_ble_eq_true rfl) ?_
                refine l_found (by decide) ?_
                exact a_ireturn dX11_copy_58 ⟨_, rfl, (h4 s t hs ht rfl rfl a (Or.inr c))⟩
          · refine a_aload_n dX11_copy_21 rfl ?_
            refine a_iconst (v := nI 5) dX11_copy_22 (by decide) ?_
            refine a_callVi (As := [_]) dX11_copy_23 km_X11_147 ⟨by decide, _, _, _, rfl, rfl⟩ rfl rfl (Nat.le_of_ble_eq_true rfl) ?_
            refine l_found (by decide) ?_
            exact a_ireturn dX11_copy_26 ⟨_, rfl, (h5 s t hs ht rfl rfl a)⟩
        · exact absurd h11 (by decide)
      · refine a_if_ne (tgt := 16) dX11_copy_11 (by decide) (fun h11 => ?_) (fun h11 => ?_)
        · exact absurd h11 (by decide)
        · refine a_iconst (v := (-1)) dX11_copy_14 (by decide) ?_
          exact a_ireturn dX11_copy_15 ⟨_, rfl, (h0 (fun z => et z.2))⟩
  · refine a_if_eq (tgt := 14) dX11_copy_4 (by decide) (fun g4 => ?_) (fun g4 => ?_)
    · refine a_iconst (v := (-1)) dX11_copy_14 (by decide) ?_
      exact a_ireturn dX11_copy_15 ⟨_, rfl, (h0 (fun z => es z.1))⟩
    · exact absurd g4 (by decide)

def dgS1 (I : am_I) (h : Int64) (s : Nat) : Int64 := dgF (fun k => I (16 + s) k) (31 * h + (I 62 s).toInt64) (I 62 s).toNatClampNeg
def dgSk (I : am_I) (h : Int64) : Nat → Int64
  | 0 => h
  | s + 1 => dgS1 I (dgSk I h s) s
set_option maxHeartbeats 4000000 in
set_option maxRecDepth 100000 in
theorem lp_ds {G : am_G} {d : Nat} {I : am_I} {J : am_J} {K : Int64 → am_I → am_J → Prop} {s z : Nat} {h h1 : Int64} (hs : s < 4) (hz24 : z ≤ 24) (hsn : I 62 s = nI z) (hK : K (dgF (fun k => I (16 + s) k) h1 z) I J) : ∀ i, i ≤ z → AW G cX11_digestSheet 7 RX11 d (am_ex G (some .long) (fun r I J => ∃ x, r = some (.long x) ∧ K x I J)) 21 [some (.ref 0), some (.long h), none, some (.int (nI s)), some (.long (dgF (fun k => I (16 + s) k) h1 i)), none, some (.int (nI i))] [] I J := by
  refine am_dn z (fun i hi ih => ?_)
  refine a_iload dX11_digestSheet_21 rfl ?_
  refine a_aload_n dX11_digestSheet_23 rfl ?_
  refine a_getr dX11_digestSheet_24 kf_X11_72 ⟨by decide, _, rfl, rfl⟩ ?_
  refine a_getr dX11_digestSheet_27 kf_X11_276 ⟨by decide, _, rfl, rfl⟩ ?_
  refine a_iload_n dX11_digestSheet_30 rfl ?_
  refine a_iald dX11_digestSheet_31 ⟨by decide, rfl⟩ (by omega) hsn ?_
  refine a_icmp_geN (tgt := 63) dX11_digestSheet_32 (by decide) (by omega) (by omega) (fun g => ?_) (fun g => ?_)
  · obtain rfl : i = z := by omega
    refine a_lload dX11_digestSheet_63 rfl ?_
    exact a_lreturn dX11_digestSheet_65 ⟨_, rfl, hK⟩
  · refine a_ldc2 dX11_digestSheet_35 kk_X11_307 rfl ?_
    refine a_lload dX11_digestSheet_38 rfl ?_
    refine a_lmul dX11_digestSheet_40 rfl ?_
    refine a_aload_n dX11_digestSheet_41 rfl ?_
    refine a_getr dX11_digestSheet_42 kf_X11_72 ⟨by decide, _, rfl, rfl⟩ ?_
    refine a_getr dX11_digestSheet_45 kf_X11_279 ⟨by decide, _, rfl, rfl⟩ ?_
    refine a_iload_n dX11_digestSheet_48 rfl ?_
    refine a_aald dX11_digestSheet_49 ⟨by decide, rfl⟩ (by decide) (by omega) rfl ?_
    refine a_iload dX11_digestSheet_50 rfl ?_
    refine a_bald dX11_digestSheet_52 (sh_byte hs) (by omega) rfl ?_
    refine a_i2l dX11_digestSheet_53 rfl ?_
    refine a_ladd dX11_digestSheet_54 rfl ?_
    refine a_lstore (L' := [_, _, _, _, _, _, _]) dX11_digestSheet_55 (Nat.le_of_ble_eq_true rfl) rfl ?_
    refine a_iinc (L' := [_, _, _, _, _, _, _]) dX11_digestSheet_57 rfl (nI_inc _) rfl ?_
    refine a_goto (tgt := 21) dX11_digestSheet_60 (by decide) ?_
    exact ih (i + 1) (by omega) (by omega)

set_option maxHeartbeats 4000000 in
set_option maxRecDepth 100000 in
theorem l_digestSheet {G : am_G} {d : Nat} {I : am_I} {J : am_J} {K : Int64 → am_I → am_J → Prop} {s : Nat} {h : Int64} (hs : s < 4) (hz : szP I) (hK : K (dgS1 I h s) I J) : CMl G d yX11_digestSheet [.ref 0, .long h, .int (nI s)] I J K := by
  refine CM.of (L0 := [_, _, _, _, _, _, _]) cX11_digestSheet 7 (some .long) (by decide) (by decide) kcX11_digestSheet (Nat.le_of_ble_eq_true rfl) rfl ?_
  refine a_ldc2 dX11_digestSheet_0 kk_X11_307 rfl ?_
  refine a_lload_n dX11_digestSheet_3 rfl ?_
  refine a_lmul dX11_digestSheet_4 rfl ?_
  refine a_aload_n dX11_digestSheet_5 rfl ?_
  refine a_getr dX11_digestSheet_6 kf_X11_72 ⟨by decide, _, rfl, rfl⟩ ?_
  refine a_getr dX11_digestSheet_9 kf_X11_276 ⟨by decide, _, rfl, rfl⟩ ?_
  refine a_iload_n dX11_digestSheet_12 rfl ?_
  refine a_iald dX11_digestSheet_13 ⟨by decide, rfl⟩ (by omega) rfl ?_
  refine a_i2l dX11_digestSheet_14 rfl ?_
  refine a_ladd dX11_digestSheet_15 rfl ?_
  refine a_lstore (L' := [_, _, _, _, _, _, _]) dX11_digestSheet_16 (Nat.le_of_ble_eq_true rfl) rfl ?_
  refine a_iconst (v := nI 0) dX11_digestSheet_18 (by decide) ?_
  refine a_istore (L' := [_, _, _, _, _, _, _]) dX11_digestSheet_19 (Nat.le_of_ble_eq_true rfl) rfl ?_
  rcases hz s hs with e | ⟨z, hz24, hsn⟩
  · have hk : K (31 * h + (I 62 s).toInt64) I J := by
      have h2 := hK
      unfold dgS1 at h2
      rw [show (I 62 s).toNatClampNeg = 0 by rw [e]; rfl] at h2
      exact h2
    refine a_iload dX11_digestSheet_21 rfl ?_
    refine a_aload_n dX11_digestSheet_23 rfl ?_
    refine a_getr dX11_digestSheet_24 kf_X11_72 ⟨by decide, _, rfl, rfl⟩ ?_
    refine a_getr dX11_digestSheet_27 kf_X11_276 ⟨by decide, _, rfl, rfl⟩ ?_
    refine a_iload_n dX11_digestSheet_30 rfl ?_
    refine a_iald dX11_digestSheet_31 ⟨by decide, rfl⟩ (by omega) e ?_
    refine a_icmp_ge (tgt := 63) dX11_digestSheet_32 (by decide) (fun g => ?_) (fun g => ?_)
    · refine a_lload dX11_digestSheet_63 rfl ?_
      exact a_lreturn dX11_digestSheet_65 ⟨_, rfl, hk⟩
    · exact absurd (show (-1 : Int32) ≤ nI 0 by decide) g
  · have hk := hK
    unfold dgS1 at hk
    rw [show (I 62 s).toNatClampNeg = z by rw [hsn, nI_clamp (by omega)]] at hk
    exact lp_ds hs hz24 hsn hk 0 (by omega)

def dgL1 (I : am_I) (h : Int64) (l : Nat) : Int64 := if I (20 + l) 0 = nI 1 ∨ I (20 + l) 0 = nI 2 then dgF (fun k => I (32 + l) k) (dgF (tlK I l) h 6) 24 else dgF (tlK I l) h 6
set_option maxHeartbeats 4000000 in
set_option maxRecDepth 100000 in
theorem lp_dl2 {G : am_G} {d : Nat} {I : am_I} {J : am_J} {K : Int64 → am_I → am_J → Prop} {l : Nat} {h h1 : Int64} (hl12 : l < 12) (hK : K (dgF (fun k => I (32 + l) k) h1 24) I J) : ∀ i, i ≤ 24 → AW G cX11_digestLine 7 RX11 d (am_ex G (some .long) (fun r I J => ∃ x, r = some (.long x) ∧ K x I J)) 57 [some (.ref 0), some (.long h), none, some (.int (nI l)), some (.long (dgF (fun k => I (32 + l) k) h1 i)), none, some (.int (nI i))] [] I J := by
  refine am_dn 24 (fun i hi ih => ?_)
  refine a_iload dX11_digestLine_57 rfl ?_
  refine a_bipush (v := nI 24) dX11_digestLine_59 (by decide) ?_
  refine a_icmp_geN (tgt := 95) dX11_digestLine_61 (by decide) (by omega) (by omega) (fun g => ?_) (fun g => ?_)
  · obtain rfl : i = 24 := by omega
    refine a_lload dX11_digestLine_95 rfl ?_
    exact a_lreturn dX11_digestLine_97 ⟨_, rfl, hK⟩
  · refine a_ldc2 dX11_digestLine_64 kk_X11_307 rfl ?_
    refine a_lload dX11_digestLine_67 rfl ?_
    refine a_lmul dX11_digestLine_69 rfl ?_
    refine a_aload_n dX11_digestLine_70 rfl ?_
    refine a_getr dX11_digestLine_71 kf_X11_10 ⟨by decide, _, rfl, rfl⟩ ?_
    refine a_getr dX11_digestLine_74 kf_X11_120 ⟨by decide, _, rfl, rfl⟩ ?_
    refine a_iload_n dX11_digestLine_77 rfl ?_
    refine a_aald dX11_digestLine_78 ⟨by decide, rfl⟩ (by decide) (by omega) rfl ?_
    refine a_getr dX11_digestLine_79 kf_X11_165 (sh_at (by omega) rfl) ?_
    refine a_iload dX11_digestLine_82 rfl ?_
    refine a_iald dX11_digestLine_84 (sh_read hl12) (by omega) rfl ?_
    refine a_i2l dX11_digestLine_85 rfl ?_
    refine a_ladd dX11_digestLine_86 rfl ?_
    refine a_lstore (L' := [_, _, _, _, _, _, _]) dX11_digestLine_87 (Nat.le_of_ble_eq_true rfl) rfl ?_
    refine a_iinc (L' := [_, _, _, _, _, _, _]) dX11_digestLine_89 rfl (nI_inc _) rfl ?_
    refine a_goto (tgt := 57) dX11_digestLine_92 (by decide) ?_
    exact ih (i + 1) (by omega) (by omega)

set_option maxHeartbeats 4000000 in
set_option maxRecDepth 100000 in
theorem lp_dl1 {G : am_G} {d : Nat} {I : am_I} {J : am_J} {K : Int64 → am_I → am_J → Prop} {n l : Nat} {h : Int64} (hn : I 1 1 = nI n) (hn12 : n ≤ 12) (hd : ∀ l, l < n → I (20 + l) 3 = 0 ∨ I (20 + l) 3 = 1) (hl : l < n) (hK : K (dgL1 I h l) I J) : ∀ i, i ≤ 6 → AW G cX11_digestLine 7 RX11 (d + 2) (am_ex G (some .long) (fun r I J => ∃ x, r = some (.long x) ∧ K x I J)) 6 [some (.ref 0), some (.long h), none, some (.int (nI l)), some (.long (dgF (tlK I l) h i)), none, some (.int (nI i))] [] I J := by
  have hl12 : l < 12 := by omega
  unfold dgL1 at hK
  refine am_dn 6 (fun i hi ih => ?_)
  refine a_iload dX11_digestLine_6 rfl ?_
  refine a_iconst (v := nI 5) dX11_digestLine_8 (by decide) ?_
  refine a_icmp_gtN (tgt := 35) dX11_digestLine_9 (by decide) (by omega) (by omega) (fun g => ?_) (fun g => ?_)
  · obtain rfl : i = 6 := by omega
    refine a_aload_n dX11_digestLine_35 rfl ?_
    refine a_getr dX11_digestLine_36 kf_X11_10 ⟨by decide, _, rfl, rfl⟩ ?_
    refine a_getr dX11_digestLine_39 kf_X11_120 ⟨by decide, _, rfl, rfl⟩ ?_
    refine a_iload_n dX11_digestLine_42 rfl ?_
    refine a_aald dX11_digestLine_43 ⟨by decide, rfl⟩ (by decide) (by omega) rfl ?_
    refine a_iconst (v := nI 1) dX11_digestLine_44 (by decide) ?_
    refine a_callVi (As := [_]) dX11_digestLine_45 km_X11_144 (sh_ob (by omega)) rfl rfl (Nat.le_of_ble_eq_true rfl) ?_
    refine k_isOf (by omega) (fun g => ?_) (fun g => ?_)
    · have hkd := kd_of g
      rw [if_pos (show I (20 + l) 0 = nI 1 ∨ I (20 + l) 0 = nI 2 from hkd)] at hK
      refine a_if_ne (tgt := 54) dX11_digestLine_48 (by decide) (fun h48 => ?_) (fun h48 => ?_)
      · refine a_iconst (v := nI 0) dX11_digestLine_54 (by decide) ?_
        refine a_istore (L' := [_, _, _, _, _, _, _]) dX11_digestLine_55 (Nat.le_of_ble_eq_true rfl) rfl ?_
        exact lp_dl2 hl12 hK 0 (by omega)
      · exact absurd h48 (by decide)
    · have hkd := kd_no g
      rw [if_neg (show ¬ (I (20 + l) 0 = nI 1 ∨ I (20 + l) 0 = nI 2) from hkd)] at hK
      refine a_if_ne (tgt := 54) dX11_digestLine_48 (by decide) (fun h48 => ?_) (fun h48 => ?_)
      · exact absurd h48 (by decide)
      · refine a_lload dX11_digestLine_51 rfl ?_
        exact a_lreturn dX11_digestLine_53 ⟨_, rfl, hK⟩
  · refine a_ldc2 dX11_digestLine_12 kk_X11_307 rfl ?_
    refine a_lload dX11_digestLine_15 rfl ?_
    refine a_lmul dX11_digestLine_17 rfl ?_
    refine a_aload_n dX11_digestLine_18 rfl ?_
    refine a_iload_n dX11_digestLine_19 rfl ?_
    refine a_iload dX11_digestLine_20 rfl ?_
    refine a_callVi (As := [_, _]) dX11_digestLine_22 km_X11_336 ⟨by decide, _, _, _, rfl, rfl⟩ rfl rfl (Nat.le_of_ble_eq_true rfl) ?_
    refine l_told hn hn12 hd (fun l' j hl' el hj ej => ?_) (fun z => absurd ⟨⟨l, hl, rfl⟩, (nI_leI (by decide) (by omega)).mpr (by omega), (nI_leI (by omega) (by decide)).mpr (by omega)⟩ z)
    obtain rfl : l = l' := nI_inj (by omega) (by omega) el
    obtain rfl : i = j := nI_inj (by omega) (by omega) ej
    refine a_i2l dX11_digestLine_25 rfl ?_
    refine a_ladd dX11_digestLine_26 rfl ?_
    refine a_lstore (L' := [_, _, _, _, _, _, _]) dX11_digestLine_27 (Nat.le_of_ble_eq_true rfl) rfl ?_
    refine a_iinc (L' := [_, _, _, _, _, _, _]) dX11_digestLine_29 rfl (nI_inc _) rfl ?_
    refine a_goto (tgt := 6) dX11_digestLine_32 (by decide) ?_
    exact ih (i + 1) (by omega) (by omega)

set_option maxHeartbeats 4000000 in
set_option maxRecDepth 100000 in
theorem l_digestLine {G : am_G} {d : Nat} {I : am_I} {J : am_J} {K : Int64 → am_I → am_J → Prop} {n l : Nat} {h : Int64} (hn : I 1 1 = nI n) (hn12 : n ≤ 12) (hd : ∀ l, l < n → I (20 + l) 3 = 0 ∨ I (20 + l) 3 = 1) (hl : l < n) (hK : K (dgL1 I h l) I J) : CMl G (d + 2) yX11_digestLine [.ref 0, .long h, .int (nI l)] I J K := by
  refine CM.of (L0 := [_, _, _, _, _, _, _]) cX11_digestLine 7 (some .long) (by decide) (by decide) kcX11_digestLine (Nat.le_of_ble_eq_true rfl) rfl ?_
  refine a_lload_n dX11_digestLine_0 rfl ?_
  refine a_lstore (L' := [_, _, _, _, _, _, _]) dX11_digestLine_1 (Nat.le_of_ble_eq_true rfl) rfl ?_
  refine a_iconst (v := nI 0) dX11_digestLine_3 (by decide) ?_
  refine a_istore (L' := [_, _, _, _, _, _, _]) dX11_digestLine_4 (Nat.le_of_ble_eq_true rfl) rfl ?_
  exact lp_dl1 hn hn12 hd hl hK 0 (by omega)

def dgLk (I : am_I) (h : Int64) : Nat → Int64
  | 0 => h
  | l + 1 => dgL1 I (dgLk I h l) l
def dgK (I : am_I) (R : Nat → Option (List Nat)) (N n : Nat) : Int64 := dgSk I (dgPa N (I 13) (I 14) (dgLk I (dgF (tcK I R N n) 17 5) n) N) 4
set_option maxHeartbeats 4000000 in
set_option maxRecDepth 100000 in
theorem lp_g5 {G : am_G} {d : Nat} {I : am_I} {J : am_J} {K : Int64 → am_I → am_J → Prop} {h : Int64} {v4 v5 : Option Value} (hz : szP I) (hK : K (dgSk I h 4) I J) : ∀ i, i ≤ 4 → AW G cX11_digest 6 RX11 (d + 1) (am_ex G (some .long) (fun r I J => ∃ x, r = some (.long x) ∧ K x I J)) 155 [some (.ref 0), some (.long (dgSk I h i)), none, some (.int (nI i)), v4, v5] [] I J := by
  refine am_dn 4 (fun i hi ih => ?_)
  refine a_iload_n dX11_digest_155 rfl ?_
  refine a_iconst (v := nI 4) dX11_digest_156 (by decide) ?_
  refine a_icmp_geN (tgt := 173) dX11_digest_157 (by decide) (by omega) (by omega) (fun g => ?_) (fun g => ?_)
  · obtain rfl : i = 4 := by omega
    refine a_lload_n dX11_digest_173 rfl ?_
    exact a_lreturn dX11_digest_174 ⟨_, rfl, hK⟩
  · refine a_aload_n dX11_digest_160 rfl ?_
    refine a_lload_n dX11_digest_161 rfl ?_
    refine a_iload_n dX11_digest_162 rfl ?_
    refine a_callVl (As := [_, _]) dX11_digest_163 km_X11_316 ⟨by decide, _, _, _, rfl, rfl⟩ rfl rfl (Nat.le_of_ble_eq_true rfl) ?_
    refine l_digestSheet g hz ?_
    refine a_lstore_n (L' := [_, _, _, _, _, _]) dX11_digest_166 (Nat.le_of_ble_eq_true rfl) rfl ?_
    refine a_iinc (L' := [_, _, _, _, _, _]) dX11_digest_167 rfl (nI_inc _) rfl ?_
    refine a_goto (tgt := 155) dX11_digest_170 (by decide) ?_
    exact ih (i + 1) (by omega) (by omega)

set_option maxHeartbeats 4000000 in
set_option maxRecDepth 100000 in
theorem lp_g4 {G : am_G} {d : Nat} {I : am_I} {J : am_J} {Ex : am_Ex} {N a : Nat} {h : Int64} (hN : I 1 0 = nI N) (hN6 : N ≤ 6) (ha : a < N) (kx : ∀ v4 v5, AW G cX11_digest 6 RX11 (d + 1) Ex 147 [some (.ref 0), some (.long (dgPb N a (I 13) (I 14) h N)), none, some (.int (nI a)), v4, v5] [] I J) : ∀ b, b ≤ N → ∀ v5, AW G cX11_digest 6 RX11 (d + 1) Ex 72 [some (.ref 0), some (.long (dgPb N a (I 13) (I 14) h b)), none, some (.int (nI a)), some (.int (nI b)), v5] [] I J := by
  refine am_dn N (fun b hb ih => ?_)
  intro v5
  refine a_iload dX11_digest_72 rfl ?_
  refine a_aload_n dX11_digest_74 rfl ?_
  refine a_getr dX11_digest_75 kf_X11_10 ⟨by decide, _, rfl, rfl⟩ ?_
  refine a_geti dX11_digest_78 kf_X11_293 ⟨by decide, _, rfl, rfl⟩ hN ?_
  refine a_icmp_geN (tgt := 147) dX11_digest_81 (by decide) (by omega) (by omega) (fun g => ?_) (fun g => ?_)
  · obtain rfl : b = N := by omega
    exact kx _ _
  · refine a_iload_n dX11_digest_84 rfl ?_
    refine a_iload dX11_digest_85 rfl ?_
    refine a_icmp_neN (tgt := 93) dX11_digest_87 (by decide) (by omega) (by omega) (fun e => ?_) (fun e => ?_)
    · refine a_aload_n dX11_digest_93 rfl ?_
      refine a_getr dX11_digest_94 kf_X11_10 ⟨by decide, _, rfl, rfl⟩ ?_
      refine a_iload_n dX11_digest_97 rfl ?_
      refine a_iload dX11_digest_98 rfl ?_
      refine a_callVi (As := [_, _]) dX11_digest_100 km_X11_182 ⟨by decide, _, _, _, rfl, rfl⟩ rfl rfl (Nat.le_of_ble_eq_true rfl) ?_
      refine n_pairNumber hN ?_
      refine a_istore (L' := [_, _, _, _, _, _]) dX11_digest_103 (Nat.le_of_ble_eq_true rfl) rfl ?_
      refine a_ldc2 dX11_digest_105 kk_X11_307 rfl ?_
      refine a_lload_n dX11_digest_108 rfl ?_
      refine a_lmul dX11_digest_109 rfl ?_
      refine a_aload_n dX11_digest_110 rfl ?_
      refine a_getr dX11_digest_111 kf_X11_10 ⟨by decide, _, rfl, rfl⟩ ?_
      refine a_getr dX11_digest_114 kf_X11_194 ⟨by decide, _, rfl, rfl⟩ ?_
      refine a_iload dX11_digest_117 rfl ?_
      refine a_iald dX11_digest_119 ⟨by decide, rfl⟩ (ix_lt hN6 ha g) rfl ?_
      refine a_i2l dX11_digest_120 rfl ?_
      refine a_ladd dX11_digest_121 rfl ?_
      refine a_lstore_n (L' := [_, _, _, _, _, _]) dX11_digest_122 (Nat.le_of_ble_eq_true rfl) rfl ?_
      refine a_ldc2 dX11_digest_123 kk_X11_307 rfl ?_
      refine a_lload_n dX11_digest_126 rfl ?_
      refine a_lmul dX11_digest_127 rfl ?_
      refine a_aload_n dX11_digest_128 rfl ?_
      refine a_getr dX11_digest_129 kf_X11_10 ⟨by decide, _, rfl, rfl⟩ ?_
      refine a_getr dX11_digest_132 kf_X11_51 ⟨by decide, _, rfl, rfl⟩ ?_
      refine a_iload dX11_digest_135 rfl ?_
      refine a_iald dX11_digest_137 ⟨by decide, rfl⟩ (ix_lt hN6 ha g) rfl ?_
      refine a_i2l dX11_digest_138 rfl ?_
      refine a_ladd dX11_digest_139 rfl ?_
      refine a_lstore_n (L' := [_, _, _, _, _, _]) dX11_digest_140 (Nat.le_of_ble_eq_true rfl) rfl ?_
      refine a_iinc (L' := [_, _, _, _, _, _]) dX11_digest_141 rfl (nI_inc _) rfl ?_
      refine a_goto (tgt := 72) dX11_digest_144 (by decide) ?_
      have z := ih (b + 1) (by omega) (by omega) (some (.int (nI (N * a + b))))
      rw [dgPb, if_neg e] at z
      exact z
    · refine a_goto (tgt := 141) dX11_digest_90 (by decide) ?_
      refine a_iinc (L' := [_, _, _, _, _, _]) dX11_digest_141 rfl (nI_inc _) rfl ?_
      refine a_goto (tgt := 72) dX11_digest_144 (by decide) ?_
      have z := ih (b + 1) (by omega) (by omega) v5
      rw [dgPb, if_pos e] at z
      exact z

set_option maxHeartbeats 4000000 in
set_option maxRecDepth 100000 in
theorem lp_g3 {G : am_G} {d : Nat} {I : am_I} {J : am_J} {Ex : am_Ex} {N : Nat} {h : Int64} (hN : I 1 0 = nI N) (hN6 : N ≤ 6) (kx : ∀ v4 v5, AW G cX11_digest 6 RX11 (d + 1) Ex 153 [some (.ref 0), some (.long (dgPa N (I 13) (I 14) h N)), none, some (.int (nI N)), v4, v5] [] I J) : ∀ a, a ≤ N → ∀ v4 v5, AW G cX11_digest 6 RX11 (d + 1) Ex 58 [some (.ref 0), some (.long (dgPa N (I 13) (I 14) h a)), none, some (.int (nI a)), v4, v5] [] I J := by
  refine am_dn N (fun a ha ih => ?_)
  intro v4 v5
  refine a_iload_n dX11_digest_58 rfl ?_
  refine a_aload_n dX11_digest_59 rfl ?_
  refine a_getr dX11_digest_60 kf_X11_10 ⟨by decide, _, rfl, rfl⟩ ?_
  refine a_geti dX11_digest_63 kf_X11_293 ⟨by decide, _, rfl, rfl⟩ hN ?_
  refine a_icmp_geN (tgt := 153) dX11_digest_66 (by decide) (by omega) (by omega) (fun g => ?_) (fun g => ?_)
  · obtain rfl : a = N := by omega
    exact kx _ _
  · refine a_iconst (v := nI 0) dX11_digest_69 (by decide) ?_
    refine a_istore (L' := [_, _, _, _, _, _]) dX11_digest_70 (Nat.le_of_ble_eq_true rfl) rfl ?_
    refine lp_g4 hN hN6 g (fun v4 v5 => ?_) 0 (by omega) _
    refine a_iinc (L' := [_, _, _, _, _, _]) dX11_digest_147 rfl (nI_inc _) rfl ?_
    refine a_goto (tgt := 58) dX11_digest_150 (by decide) ?_
    exact ih (a + 1) (by omega) (by omega) _ _

set_option maxHeartbeats 4000000 in
set_option maxRecDepth 100000 in
theorem lp_g2 {G : am_G} {d : Nat} {I : am_I} {J : am_J} {Ex : am_Ex} {n : Nat} {h : Int64} (hn : I 1 1 = nI n) (hn12 : n ≤ 12) (hd : ∀ l, l < n → I (20 + l) 3 = 0 ∨ I (20 + l) 3 = 1) (kx : AW G cX11_digest 6 RX11 (d + 3) Ex 56 [some (.ref 0), some (.long (dgLk I h n)), none, some (.int (nI n)), none, none] [] I J) : ∀ i, i ≤ n → AW G cX11_digest 6 RX11 (d + 3) Ex 32 [some (.ref 0), some (.long (dgLk I h i)), none, some (.int (nI i)), none, none] [] I J := by
  refine am_dn n (fun i hi ih => ?_)
  refine a_iload_n dX11_digest_32 rfl ?_
  refine a_aload_n dX11_digest_33 rfl ?_
  refine a_getr dX11_digest_34 kf_X11_10 ⟨by decide, _, rfl, rfl⟩ ?_
  refine a_geti dX11_digest_37 kf_X11_109 ⟨by decide, _, rfl, rfl⟩ hn ?_
  refine a_icmp_geN (tgt := 56) dX11_digest_40 (by decide) (by omega) (by omega) (fun g => ?_) (fun g => ?_)
  · obtain rfl : i = n := by omega
    exact kx
  · refine a_aload_n dX11_digest_43 rfl ?_
    refine a_lload_n dX11_digest_44 rfl ?_
    refine a_iload_n dX11_digest_45 rfl ?_
    refine a_callVl (As := [_, _]) dX11_digest_46 km_X11_312 ⟨by decide, _, _, _, rfl, rfl⟩ rfl rfl (Nat.le_of_ble_eq_true rfl) ?_
    refine l_digestLine hn hn12 hd g ?_
    refine a_lstore_n (L' := [_, _, _, _, _, _]) dX11_digest_49 (Nat.le_of_ble_eq_true rfl) rfl ?_
    refine a_iinc (L' := [_, _, _, _, _, _]) dX11_digest_50 rfl (nI_inc _) rfl ?_
    refine a_goto (tgt := 32) dX11_digest_53 (by decide) ?_
    exact ih (i + 1) (by omega) (by omega)

set_option maxHeartbeats 4000000 in
set_option maxRecDepth 100000 in
theorem lp_g1 {G : am_G} {d : Nat} {I : am_I} {J : am_J} {Ex : am_Ex} {N n : Nat} {R : Nat → Option (List Nat)} {h : Int64} (hN : I 1 0 = nI N) (hN6 : N ≤ 6) (hn : I 1 1 = nI n) (hn12 : n ≤ 12) (hrl : rlP 44 45 n (N * N) R I) (hpl : I 2 0 = nI (N * N)) (kx : AW G cX11_digest 6 RX11 (d + 2) Ex 30 [some (.ref 0), some (.long (dgF (tcK I R N n) h 5)), none, some (.int (nI 5)), none, none] [] I J) : ∀ i, i ≤ 5 → AW G cX11_digest 6 RX11 (d + 2) Ex 6 [some (.ref 0), some (.long (dgF (tcK I R N n) h i)), none, some (.int (nI i)), none, none] [] I J := by
  refine am_dn 5 (fun i hi ih => ?_)
  refine a_iload_n dX11_digest_6 rfl ?_
  refine a_iconst (v := nI 4) dX11_digest_7 (by decide) ?_
  refine a_icmp_gtN (tgt := 30) dX11_digest_8 (by decide) (by omega) (by omega) (fun g => ?_) (fun g => ?_)
  · obtain rfl : i = 5 := by omega
    exact kx
  · refine a_ldc2 dX11_digest_11 kk_X11_307 rfl ?_
    refine a_lload_n dX11_digest_14 rfl ?_
    refine a_lmul dX11_digest_15 rfl ?_
    refine a_aload_n dX11_digest_16 rfl ?_
    refine a_iload_n dX11_digest_17 rfl ?_
    refine a_callVi (As := [_]) dX11_digest_18 km_X11_309 ⟨by decide, _, _, _, rfl, rfl⟩ rfl rfl (Nat.le_of_ble_eq_true rfl) ?_
    refine l_count hN hN6 hn hn12 hrl hpl (fun w hw e => ?_) (fun z => absurd ⟨(nI_leI (by decide) (by omega)).mpr (by omega), (nI_leI (by omega) (by decide)).mpr (by omega)⟩ z)
    obtain rfl : i = w := nI_inj (by omega) (by omega) e
    refine a_i2l dX11_digest_21 rfl ?_
    refine a_ladd dX11_digest_22 rfl ?_
    refine a_lstore_n (L' := [_, _, _, _, _, _]) dX11_digest_23 (Nat.le_of_ble_eq_true rfl) rfl ?_
    refine a_iinc (L' := [_, _, _, _, _, _]) dX11_digest_24 rfl (nI_inc _) rfl ?_
    refine a_goto (tgt := 6) dX11_digest_27 (by decide) ?_
    exact ih (i + 1) (by omega) (by omega)

set_option maxHeartbeats 4000000 in
set_option maxRecDepth 100000 in
theorem l_digest {G : am_G} {d : Nat} {I : am_I} {J : am_J} {K : Int64 → am_I → am_J → Prop} {N n : Nat} {R : Nat → Option (List Nat)} (hN : I 1 0 = nI N) (hN6 : N ≤ 6) (hn : I 1 1 = nI n) (hn12 : n ≤ 12) (hd : ∀ l, l < n → I (20 + l) 3 = 0 ∨ I (20 + l) 3 = 1) (hz : szP I) (hrl : rlP 44 45 n (N * N) R I) (hpl : I 2 0 = nI (N * N)) (hK : K (dgK I R N n) I J) : CMl G (d + 3) yX11_digest [.ref 0] I J K := by
  refine CM.of (L0 := [_, _, _, _, _, _]) cX11_digest 6 (some .long) (by decide) (by decide) kcX11_digest (Nat.le_of_ble_eq_true rfl) rfl ?_
  refine a_ldc2 dX11_digest_0 kk_X11_305 rfl ?_
  refine a_lstore_n (L' := [_, _, _, _, _, _]) dX11_digest_3 (Nat.le_of_ble_eq_true rfl) rfl ?_
  refine a_iconst (v := nI 0) dX11_digest_4 (by decide) ?_
  refine a_istore_n (L' := [_, _, _, _, _, _]) dX11_digest_5 (Nat.le_of_ble_eq_true rfl) rfl ?_
  refine lp_g1 (d := d + 1) hN hN6 hn hn12 hrl hpl ?_ 0 (by omega)
  refine a_iconst (v := nI 0) dX11_digest_30 (by decide) ?_
  refine a_istore_n (L' := [_, _, _, _, _, _]) dX11_digest_31 (Nat.le_of_ble_eq_true rfl) rfl ?_
  refine lp_g2 hn hn12 hd ?_ 0 (by omega)
  refine a_iconst (v := nI 0) dX11_digest_56 (by decide) ?_
  refine a_istore_n (L' := [_, _, _, _, _, _]) dX11_digest_57 (Nat.le_of_ble_eq_true rfl) rfl ?_
  refine lp_g3 (d := d + 2) hN hN6 (fun v4 v5 => ?_) 0 (by omega) _ _
  refine a_iconst (v := nI 0) dX11_digest_153 (by decide) ?_
  refine a_istore_n (L' := [_, _, _, _, _, _]) dX11_digest_154 (Nat.le_of_ble_eq_true rfl) rfl ?_
  exact lp_g5 (d := d + 2) hz hK 0 (by omega)

