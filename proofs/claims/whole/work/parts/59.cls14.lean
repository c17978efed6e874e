/-! ===== the system: the public calls, readings, what is told ===== -/
def kdK (I : am_I) (l : Nat) : Prop := I (20 + l) 0 = nI 1 ∨ I (20 + l) 0 = nI 2
theorem kd_of {I : am_I} {l : Nat} (g : I (20 + l) 0 = nI 1 ∨ nI 1 = nI 1 ∧ I (20 + l) 0 = nI 2) : kdK I l := g.elim Or.inl (fun z => Or.inr z.2)
theorem kd_no {I : am_I} {l : Nat} (g : ¬ (I (20 + l) 0 = nI 1 ∨ nI 1 = nI 1 ∧ I (20 + l) 0 = nI 2)) : ¬ kdK I l := fun z => g (z.elim Or.inl (fun z => Or.inr ⟨rfl, z⟩))
set_option maxHeartbeats 4000000 in
set_option maxRecDepth 100000 in
theorem l_reading {G : am_G} {d : Nat} {I : am_I} {J : am_J} {K : Int32 → am_I → am_J → Prop} {x y z : Int32} {n : Nat} (hn : I 1 1 = nI n) (hn12 : n ≤ 12) (h1 : ∀ l h, l < n → x = nI l → (0 ≤ z ∨ z = -9) → kdK I l → h < 24 → y = nI h → K (I (32 + l) h) (am_up I (32 + l) h (kpC I l z)) J) (h3 : ∀ l, l < n → x = nI l → (0 ≤ z ∨ z = -9) → ¬ kdK I l → K (-3) (mFou I 3) J) (h2 : ∀ l, l < n → x = nI l → (0 ≤ z ∨ z = -9) → kdK I l → ¬ (nI 0 ≤ y ∧ y ≤ nI 23) → K (-3) (mFou I 2) J) (h0 : ¬ (isLn n x ∧ (0 ≤ z ∨ z = -9)) → K (-1) I J) : CMi G (d + 3) yX11_reading [.ref 0, .int x, .int y, .int z] I J K := by
  refine CM.of (L0 := [_, _, _, _, _, _]) cX11_reading 6 (some .int) (by decide) (by decide) kcX11_reading (Nat.le_of_ble_eq_true rfl) rfl ?_
  refine a_aload_n dX11_reading_0 rfl ?_
  refine a_getr dX11_reading_1 kf_X11_10 ⟨by decide, _, rfl, rfl⟩ ?_
  refine a_iload_n dX11_reading_4 rfl ?_
  refine a_callVi (As := [_]) dX11_reading_5 km_X11_116 ⟨by decide, _, _, _, rfl, rfl⟩ rfl rfl (Nat.le_of_ble_eq_true rfl) ?_
  refine n_isLine hn (by omega) (fun l hl el => ?_) (fun e0 => ?_)
  · subst el
    have hl12 : l < 12 := by omega
    refine a_if_eq (tgt := 21) dX11_reading_8 (by decide) (fun h8 => ?_) (fun h8 => ?_)
    · exact absurd h8 (by decide)
    · refine a_iload_n dX11_reading_11 rfl ?_
      refine a_if_ge (tgt := 23) dX11_reading_12 (by decide) (fun a => ?_) (fun a => ?_)
      · have hz : 0 ≤ z ∨ z = -9 := Or.inl a
        refine a_aload_n dX11_reading_23 rfl ?_
        refine a_getr dX11_reading_24 kf_X11_10 ⟨by decide, _, rfl, rfl⟩ ?_
        refine a_getr dX11_reading_27 kf_X11_120 ⟨by decide, _, rfl, rfl⟩ ?_
        refine a_iload_n dX11_reading_30 rfl ?_
        refine a_aald dX11_reading_31 ⟨by decide, rfl⟩ (by decide) (by omega) rfl ?_
        refine a_astore (L' := [_, _, _, _, _, _]) dX11_reading_32 (Nat.le_of_ble_eq_true rfl) rfl ?_
        refine a_aload dX11_reading_34 rfl ?_
        refine a_iconst (v := nI 1) dX11_reading_36 (by decide) ?_
        refine a_callVi (As := [_]) dX11_reading_37 km_X11_144 (sh_ob (by omega)) rfl rfl (Nat.le_of_ble_eq_true rfl) ?_
        refine k_isOf (by omega) (fun g => ?_) (fun g => ?_)
        · have hkd := kd_of g
          refine a_if_ne (tgt := 49) dX11_reading_40 (by decide) (fun h40 => ?_) (fun h40 => ?_)
          · refine a_iload_n dX11_reading_49 rfl ?_
            refine a_callSi (As := [_]) dX11_reading_50 km_X11_162 rfl rfl (Nat.le_of_ble_eq_true rfl) ?_
            refine l_isHour (fun h hh eh => ?_) (fun eh => ?_)
            · subst eh
              refine a_if_ne (tgt := 62) dX11_reading_53 (by decide) (fun h53 => ?_) (fun h53 => ?_)
              · refine a_aload dX11_reading_62 rfl ?_
                refine a_getr dX11_reading_64 kf_X11_165 (sh_at (by omega) rfl) ?_
                refine a_iload_n dX11_reading_67 rfl ?_
                refine a_iald dX11_reading_68 (sh_read (by omega)) (by omega) rfl ?_
                refine a_istore (L' := [_, _, _, _, _, _]) dX11_reading_69 (Nat.le_of_ble_eq_true rfl) rfl ?_
                refine a_aload dX11_reading_71 rfl ?_
                refine a_iload_n dX11_reading_73 rfl ?_
                refine a_iload_n dX11_reading_74 rfl ?_
                refine a_callVv (As := [_, _]) dX11_reading_75 km_X11_168 (sh_ob (by omega)) rfl rfl (Nat.le_of_ble_eq_true rfl) ?_
                refine k_keepReading (by omega) hh ?_
                refine a_iload dX11_reading_78 rfl ?_
                exact a_ireturn dX11_reading_80 ⟨_, rfl, (h1 l h hl rfl hz hkd hh rfl)⟩
              · exact absurd h53 (by decide)
            · refine a_if_ne (tgt := 62) dX11_reading_53 (by decide) (fun h53 => ?_) (fun h53 => ?_)
              · exact absurd h53 (by decide)
              · refine a_aload_n dX11_reading_56 rfl ?_
                refine a_iconst (v := nI 2) dX11_reading_57 (by decide) ?_
                refine a_callVi (As := [_]) dX11_reading_58 km_X11_147 ⟨by decide, _, _, _, rfl, rfl⟩ rfl rfl (Nat.le_of_ble_eq_true rfl) ?_
                refine l_found (by decide) ?_
                exact a_ireturn dX11_reading_61 ⟨_, rfl, (h2 l hl rfl hz hkd eh)⟩
          · exact absurd h40 (by decide)
        · have hkd := kd_no g
          refine a_if_ne (tgt := 49) dX11_reading_40 (by decide) (fun h40 => ?_) (fun h40 => ?_)
          · exact absurd h40 (by decide)
          · refine a_aload_n dX11_reading_43 rfl ?_
            refine a_iconst (v := nI 3) dX11_reading_44 (by decide) ?_
            refine a_callVi (As := [_]) dX11_reading_45 km_X11_147 ⟨by decide, _, _, _, rfl, rfl⟩ rfl rfl (Nat.le_of_ble_eq_true rfl) ?_
            refine l_found (by decide) ?_
            exact a_ireturn dX11_reading_48 ⟨_, rfl, (h3 l hl rfl hz hkd)⟩
      · refine a_iload_n dX11_reading_15 rfl ?_
        refine a_bipush (v := (-9)) dX11_reading_16 (by decide) ?_
        refine a_icmp_eq (tgt := 23) dX11_reading_18 (by decide) (fun b => ?_) (fun b => ?_)
        · have hz : 0 ≤ z ∨ z = -9 := Or.inr b
          refine a_aload_n dX11_reading_23 rfl ?_
          refine a_getr dX11_reading_24 kf_X11_10 ⟨by decide, _, rfl, rfl⟩ ?_
          refine a_getr dX11_reading_27 kf_X11_120 ⟨by decide, _, rfl, rfl⟩ ?_
          refine a_iload_n dX11_reading_30 rfl ?_
          refine a_aald dX11_reading_31 ⟨by decide, rfl⟩ (by decide) (by omega) rfl ?_
          refine a_astore (L' := [_, _, _, _, _, _]) dX11_reading_32 (Nat.le_of_ble_eq_true rfl) rfl ?_
          refine a_aload dX11_reading_34 rfl ?_
          refine a_iconst (v := nI 1) dX11_reading_36 (by decide) ?_
          refine a_callVi (As := [_]) dX11_reading_37 km_X11_144 (sh_ob (by omega)) rfl rfl (Nat.le_of_ble_eq_true rfl) ?_
          refine k_isOf (by omega) (fun g => ?_) (fun g => ?_)
          · have hkd := kd_of g
            refine a_if_ne (tgt := 49) dX11_reading_40 (by decide) (fun h40 => ?_) (fun h40 => ?_)
            · refine a_iload_n dX11_reading_49 rfl ?_
              refine a_callSi (As := [_]) dX11_reading_50 km_X11_162 rfl rfl (Nat.le_of_ble_eq_true rfl) ?_
              refine l_isHour (fun h hh eh => ?_) (fun eh => ?_)
              · subst eh
                refine a_if_ne (tgt := 62) dX11_reading_53 (by decide) (fun h53 => ?_) (fun h53 => ?_)
                · refine a_aload dX11_reading_62 rfl ?_
                  refine a_getr dX11_reading_64 kf_X11_165 (sh_at (by omega) rfl) ?_
                  refine a_iload_n dX11_reading_67 rfl ?_
                  refine a_iald dX11_reading_68 (sh_read (by omega)) (by omega) rfl ?_
                  refine a_istore (L' := [_, _, _, _, _, _]) dX11_reading_69 (Nat.le_of_ble_eq_true rfl) rfl ?_
                  refine a_aload dX11_reading_71 rfl ?_
                  refine a_iload_n dX11_reading_73 rfl ?_
                  refine a_iload_n dX11_reading_74 rfl ?_
                  refine a_callVv (As := [_, _]) dX11_reading_75 km_X11_168 (sh_ob (by omega)) rfl rfl (Nat.le_of_ble_eq_true rfl) ?_
                  refine k_keepReading (by omega) hh ?_
                  refine a_iload dX11_reading_78 rfl ?_
                  exact a_ireturn dX11_reading_80 ⟨_, rfl, (h1 l h hl rfl hz hkd hh rfl)⟩
                · exact absurd h53 (by decide)
              · refine a_if_ne (tgt := 62) dX11_reading_53 (by decide) (fun h53 => ?_) (fun h53 => ?_)
                · exact absurd h53 (by decide)
                · refine a_aload_n dX11_reading_56 rfl ?_
                  refine a_iconst (v := nI 2) dX11_reading_57 (by decide) ?_
                  refine a_callVi (As := [_]) dX11_reading_58 km_X11_147 ⟨by decide, _, _, _, rfl, rfl⟩ rfl rfl (Nat.le_of_ble_eq_true rfl) ?_
                  refine l_found (by decide) ?_
                  exact a_ireturn dX11_reading_61 ⟨_, rfl, (h2 l hl rfl hz hkd eh)⟩
            · exact absurd h40 (by decide)
          · have hkd := kd_no g
            refine a_if_ne (tgt := 49) dX11_reading_40 (by decide) (fun h40 => ?_) (fun h40 => ?_)
            · exact absurd h40 (by decide)
            · refine a_aload_n dX11_reading_43 rfl ?_
              refine a_iconst (v := nI 3) dX11_reading_44 (by decide) ?_
              refine a_callVi (As := [_]) dX11_reading_45 km_X11_147 ⟨by decide, _, _, _, rfl, rfl⟩ rfl rfl (Nat.le_of_ble_eq_true rfl) ?_
              refine l_found (by decide) ?_
              exact a_ireturn dX11_reading_48 ⟨_, rfl, (h3 l hl rfl hz hkd)⟩
        · refine a_iconst (v := (-1)) dX11_reading_21 (by decide) ?_
          exact a_ireturn dX11_reading_22 ⟨_, rfl, (h0 (fun q => q.2.elim a b))⟩
  · refine a_if_eq (tgt := 21) dX11_reading_8 (by decide) (fun h8 => ?_) (fun h8 => ?_)
    · refine a_iconst (v := (-1)) dX11_reading_21 (by decide) ?_
      exact a_ireturn dX11_reading_22 ⟨_, rfl, (h0 (fun z => e0 z.1))⟩
    · exact absurd h8 (by decide)

set_option maxHeartbeats 4000000 in
set_option maxRecDepth 100000 in
theorem l_load {G : am_G} {d : Nat} {I : am_I} {J : am_J} {K : Int32 → am_I → am_J → Prop} {x y z : Int32} {n : Nat} (hn : I 1 1 = nI n) (hn12 : n ≤ 12) (h1 : ∀ l i j, l < n → x = nI l → kdK I l → i < j → j < 24 → y = nI i → z = nI j → I (32 + l) i ≠ -9 → I (32 + l) j ≠ -9 → K (if ctC I l ≤ I (20 + l) 4 * nI (j - i) then 0 else 1) I (am_upJ J 0 12 (lbC I l i j).toInt64)) (h4 : ∀ l i j, l < n → x = nI l → kdK I l → i < j → j < 24 → y = nI i → z = nI j → (I (32 + l) i = -9 ∨ I (32 + l) j = -9) → K (-3) (mFou I 1) J) (h3 : ∀ l, l < n → x = nI l → ¬ kdK I l → K (-3) (mFou I 3) J) (h2 : ∀ l, l < n → x = nI l → kdK I l → ¬ ((nI 0 ≤ y ∧ y ≤ nI 23) ∧ (nI 0 ≤ z ∧ z ≤ nI 23) ∧ y < z) → K (-3) (mFou I 2) J) (h0 : ¬ isLn n x → K (-1) I J) : CMi G (d + 3) yX11_load [.ref 0, .int x, .int y, .int z] I J K := by
  refine CM.of (L0 := [_, _, _, _, _]) cX11_load 5 (some .int) (by decide) (by decide) kcX11_load (Nat.le_of_ble_eq_true rfl) rfl ?_
  refine a_aload_n dX11_load_0 rfl ?_
  refine a_getr dX11_load_1 kf_X11_10 ⟨by decide, _, rfl, rfl⟩ ?_
  refine a_iload_n dX11_load_4 rfl ?_
  refine a_callVi (As := [_]) dX11_load_5 km_X11_116 ⟨by decide, _, _, _, rfl, rfl⟩ rfl rfl (Nat.le_of_ble_eq_true rfl) ?_
  refine n_isLine hn (by omega) (fun l hl el => ?_) (fun e0 => ?_)
  · subst el
    have hl12 : l < 12 := by omega
    refine a_if_ne (tgt := 13) dX11_load_8 (by decide) (fun h8 => ?_) (fun h8 => ?_)
    · refine a_aload_n dX11_load_13 rfl ?_
      refine a_getr dX11_load_14 kf_X11_10 ⟨by decide, _, rfl, rfl⟩ ?_
      refine a_getr dX11_load_17 kf_X11_120 ⟨by decide, _, rfl, rfl⟩ ?_
      refine a_iload_n dX11_load_20 rfl ?_
      refine a_aald dX11_load_21 ⟨by decide, rfl⟩ (by decide) (by omega) rfl ?_
      refine a_astore (L' := [_, _, _, _, _]) dX11_load_22 (Nat.le_of_ble_eq_true rfl) rfl ?_
      refine a_aload dX11_load_24 rfl ?_
      refine a_iconst (v := nI 1) dX11_load_26 (by decide) ?_
      refine a_callVi (As := [_]) dX11_load_27 km_X11_144 (sh_ob (by omega)) rfl rfl (Nat.le_of_ble_eq_true rfl) ?_
      refine k_isOf (by omega) (fun g => ?_) (fun g => ?_)
      · have hkd := kd_of g
        refine a_if_ne (tgt := 39) dX11_load_30 (by decide) (fun h30 => ?_) (fun h30 => ?_)
        · refine a_iload_n dX11_load_39 rfl ?_
          refine a_callSi (As := [_]) dX11_load_40 km_X11_162 rfl rfl (Nat.le_of_ble_eq_true rfl) ?_
          refine l_isHour (fun i hi ei => ?_) (fun ei => ?_)
          · subst ei
            refine a_if_eq (tgt := 58) dX11_load_43 (by decide) (fun h43 => ?_) (fun h43 => ?_)
            · exact absurd h43 (by decide)
            · refine a_iload_n dX11_load_46 rfl ?_
              refine a_callSi (As := [_]) dX11_load_47 km_X11_162 rfl rfl (Nat.le_of_ble_eq_true rfl) ?_
              refine l_isHour (fun j hj ej => ?_) (fun ej => ?_)
              · subst ej
                refine a_if_eq (tgt := 58) dX11_load_50 (by decide) (fun h50 => ?_) (fun h50 => ?_)
                · exact absurd h50 (by decide)
                · refine a_iload_n dX11_load_53 rfl ?_
                  refine a_iload_n dX11_load_54 rfl ?_
                  refine a_icmp_lt (tgt := 64) dX11_load_55 (by decide) (fun c => ?_) (fun c => ?_)
                  · have hij : i < j := (nI_ltI (by omega) (by omega)).mp c
                    refine a_aload dX11_load_64 rfl ?_
                    refine a_getr dX11_load_66 kf_X11_165 (sh_at (by omega) rfl) ?_
                    refine a_iload_n dX11_load_69 rfl ?_
                    refine a_iald dX11_load_70 (sh_read (by omega)) (by omega) rfl ?_
                    refine a_bipush (v := (-9)) dX11_load_71 (by decide) ?_
                    refine a_icmp_eq (tgt := 88) dX11_load_73 (by decide) (fun e => ?_) (fun e => ?_)
                    · refine a_aload_n dX11_load_88 rfl ?_
                      refine a_iconst (v := nI 1) dX11_load_89 (by decide) ?_
                      refine a_callVi (As := [_]) dX11_load_90 km_X11_147 ⟨by decide, _, _, _, rfl, rfl⟩ rfl rfl (Nat.le_of_ble_eq_true rfl) ?_
                      refine l_found (by decide) ?_
                      exact a_ireturn dX11_load_93 ⟨_, rfl, (h4 l i j hl rfl hkd hij hj rfl rfl (Or.inl e))⟩
                    · refine a_aload dX11_load_76 rfl ?_
                      refine a_getr dX11_load_78 kf_X11_165 (sh_at (by omega) rfl) ?_
                      refine a_iload_n dX11_load_81 rfl ?_
                      refine a_iald dX11_load_82 (sh_read (by omega)) (by omega) rfl ?_
                      refine a_bipush (v := (-9)) dX11_load_83 (by decide) ?_
                      refine a_icmp_ne (tgt := 94) dX11_load_85 (by decide) (fun f => ?_) (fun f => ?_)
                      · refine a_aload_n dX11_load_94 rfl ?_
                        refine a_aload dX11_load_95 rfl ?_
                        refine a_iload_n dX11_load_97 rfl ?_
                        refine a_iload_n dX11_load_98 rfl ?_
                        refine a_callVi (As := [_, _]) dX11_load_99 km_X11_172 (sh_ob (by omega)) rfl rfl (Nat.le_of_ble_eq_true rfl) ?_
                        refine k_loadBetween (by omega) hi hj ?_
                        refine a_i2l dX11_load_102 rfl ?_
                        refine a_putl dX11_load_103 kp_X11_87 ⟨by decide, _, rfl, rfl⟩ ?_
                        refine a_aload dX11_load_106 rfl ?_
                        refine a_iload_n dX11_load_108 rfl ?_
                        refine a_iload_n dX11_load_109 rfl ?_
                        refine a_callVi (As := [_, _]) dX11_load_110 km_X11_176 (sh_ob (by omega)) rfl rfl (Nat.le_of_ble_eq_true rfl) ?_
                        refine k_isSure (by omega) (by omega) hj ?_
                        refine a_tif_eq (tgt := 120) (pj := 121) (a := (nI 0)) (b := (nI 1)) dX11_load_113 (by decide) (fun kj => ?_) (fun kj => ?_) ?_
                        · refine a_iconst (v := nI 0) dX11_load_120 (by decide) ?_
                          exact kj
                        · refine a_iconst (v := nI 1) dX11_load_116 (by decide) ?_
                          refine a_goto (tgt := 121) dX11_load_117 (by decide) ?_
                          exact kj
                        refine a_topi (v := if ctC I l ≤ I (20 + l) 4 * nI (j - i) then 0 else 1) (by split <;> decide) ?_
                        exact a_ireturn dX11_load_121 ⟨_, rfl, (h1 l i j hl rfl hkd hij hj rfl rfl e f)⟩
                      · refine a_aload_n dX11_load_88 rfl ?_
                        refine a_iconst (v := nI 1) dX11_load_89 (by decide) ?_
                        refine a_callVi (As := [_]) dX11_load_90 km_X11_147 ⟨by decide, _, _, _, rfl, rfl⟩ rfl rfl (Nat.le_of_ble_eq_true rfl) ?_
                        refine l_found (by decide) ?_
                        exact a_ireturn dX11_load_93 ⟨_, rfl, (h4 l i j hl rfl hkd hij hj rfl rfl (Or.inr f))⟩
                  · refine a_aload_n dX11_load_58 rfl ?_
                    refine a_iconst (v := nI 2) dX11_load_59 (by decide) ?_
                    refine a_callVi (As := [_]) dX11_load_60 km_X11_147 ⟨by decide, _, _, _, rfl, rfl⟩ rfl rfl (Nat.le_of_ble_eq_true rfl) ?_
                    refine l_found (by decide) ?_
                    exact a_ireturn dX11_load_63 ⟨_, rfl, (h2 l hl rfl hkd (fun z => c z.2.2))⟩
              · refine a_if_eq (tgt := 58) dX11_load_50 (by decide) (fun h50 => ?_) (fun h50 => ?_)
                · refine a_aload_n dX11_load_58 rfl ?_
                  refine a_iconst (v := nI 2) dX11_load_59 (by decide) ?_
                  refine a_callVi (As := [_]) dX11_load_60 km_X11_147 ⟨by decide, _, _, _, rfl, rfl⟩ rfl rfl (Nat.le_of_ble_eq_true rfl) ?_
                  refine l_found (by decide) ?_
                  exact a_ireturn dX11_load_63 ⟨_, rfl, (h2 l hl rfl hkd (fun z => ej z.2.1))⟩
                · exact absurd h50 (by decide)
          · refine a_if_eq (tgt := 58) dX11_load_43 (by decide) (fun h43 => ?_) (fun h43 => ?_)
            · refine a_aload_n dX11_load_58 rfl ?_
              refine a_iconst (v := nI 2) dX11_load_59 (by decide) ?_
              refine a_callVi (As := [_]) dX11_load_60 km_X11_147 ⟨by decide, _, _, _, rfl, rfl⟩ rfl rfl (Nat.le_of_ble_eq_true rfl) ?_
              refine l_found (by decide) ?_
              exact a_ireturn dX11_load_63 ⟨_, rfl, (h2 l hl rfl hkd (fun z => ei z.1))⟩
            · exact absurd h43 (by decide)
        · exact absurd h30 (by decide)
      · have hkd := kd_no g
        refine a_if_ne (tgt := 39) dX11_load_30 (by decide) (fun h30 => ?_) (fun h30 => ?_)
        · exact absurd h30 (by decide)
        · refine a_aload_n dX11_load_33 rfl ?_
          refine a_iconst (v := nI 3) dX11_load_34 (by decide) ?_
          refine a_callVi (As := [_]) dX11_load_35 km_X11_147 ⟨by decide, _, _, _, rfl, rfl⟩ rfl rfl (Nat.le_of_ble_eq_true rfl) ?_
          refine l_found (by decide) ?_
          exact a_ireturn dX11_load_38 ⟨_, rfl, (h3 l hl rfl hkd)⟩
    · exact absurd h8 (by decide)
  · refine a_if_ne (tgt := 13) dX11_load_8 (by decide) (fun h8 => ?_) (fun h8 => ?_)
    · exact absurd h8 (by decide)
    · refine a_iconst (v := (-1)) dX11_load_11 (by decide) ?_
      exact a_ireturn dX11_load_12 ⟨_, rfl, (h0 e0)⟩

set_option maxHeartbeats 4000000 in
set_option maxRecDepth 100000 in
theorem l_mean {G : am_G} {d : Nat} {I : am_I} {J : am_J} {K : Int32 → am_I → am_J → Prop} {x : Int32} {n : Nat} (hn : I 1 1 = nI n) (hn12 : n ≤ 12) (h1 : ∀ l, l < n → x = nI l → kdK I l → 2 ≤ cN (rkC I l) 24 → K (mcR (mcS I l 24)) I J) (h4 : ∀ l, l < n → x = nI l → kdK I l → cN (rkC I l) 24 < 2 → K (-3) (mFou I 4) J) (h3 : ∀ l, l < n → x = nI l → ¬ kdK I l → K (-3) (mFou I 3) J) (h0 : ¬ isLn n x → K (-1) I J) : CMi G (d + 4) yX11_mean [.ref 0, .int x] I J K := by
  refine CM.of (L0 := [_, _, _]) cX11_mean 3 (some .int) (by decide) (by decide) kcX11_mean (Nat.le_of_ble_eq_true rfl) rfl ?_
  refine a_aload_n dX11_mean_0 rfl ?_
  refine a_getr dX11_mean_1 kf_X11_10 ⟨by decide, _, rfl, rfl⟩ ?_
  refine a_iload_n dX11_mean_4 rfl ?_
  refine a_callVi (As := [_]) dX11_mean_5 km_X11_116 ⟨by decide, _, _, _, rfl, rfl⟩ rfl rfl (Nat.le_of_ble_eq_true rfl) ?_
  refine n_isLine hn (by omega) (fun l hl el => ?_) (fun e0 => ?_)
  · subst el
    have hl12 : l < 12 := by omega
    refine a_if_ne (tgt := 13) dX11_mean_8 (by decide) (fun h8 => ?_) (fun h8 => ?_)
    · refine a_aload_n dX11_mean_13 rfl ?_
      refine a_getr dX11_mean_14 kf_X11_10 ⟨by decide, _, rfl, rfl⟩ ?_
      refine a_getr dX11_mean_17 kf_X11_120 ⟨by decide, _, rfl, rfl⟩ ?_
      refine a_iload_n dX11_mean_20 rfl ?_
      refine a_aald dX11_mean_21 ⟨by decide, rfl⟩ (by decide) (by omega) rfl ?_
      refine a_astore_n (L' := [_, _, _]) dX11_mean_22 (Nat.le_of_ble_eq_true rfl) rfl ?_
      refine a_aload_n dX11_mean_23 rfl ?_
      refine a_iconst (v := nI 1) dX11_mean_24 (by decide) ?_
      refine a_callVi (As := [_]) dX11_mean_25 km_X11_144 (sh_ob (by omega)) rfl rfl (Nat.le_of_ble_eq_true rfl) ?_
      refine k_isOf (by omega) (fun g => ?_) (fun g => ?_)
      · have hkd := kd_of g
        refine a_if_ne (tgt := 37) dX11_mean_28 (by decide) (fun h28 => ?_) (fun h28 => ?_)
        · refine a_aload_n dX11_mean_37 rfl ?_
          refine a_callVi (As := []) dX11_mean_38 km_X11_155 (sh_ob (by omega)) rfl rfl (Nat.le_of_ble_eq_true rfl) ?_
          refine k_readingsKept (by omega) ?_
          have hc24 := cN_le (rkC I l) 24
          refine a_iconst (v := nI 2) dX11_mean_41 (by decide) ?_
          refine a_icmp_geN (tgt := 51) dX11_mean_42 (by decide) (by omega) (by omega) (fun c => ?_) (fun c => ?_)
          · refine a_aload_n dX11_mean_51 rfl ?_
            refine a_callVi (As := []) dX11_mean_52 km_X11_179 (sh_ob (by omega)) rfl rfl (Nat.le_of_ble_eq_true rfl) ?_
            refine k_meanLoad (by omega) ?_
            exact a_ireturn dX11_mean_55 ⟨_, rfl, (h1 l hl rfl hkd c)⟩
          · refine a_aload_n dX11_mean_45 rfl ?_
            refine a_iconst (v := nI 4) dX11_mean_46 (by decide) ?_
            refine a_callVi (As := [_]) dX11_mean_47 km_X11_147 ⟨by decide, _, _, _, rfl, rfl⟩ rfl rfl (Nat.le_of_ble_eq_true rfl) ?_
            refine l_found (by decide) ?_
            exact a_ireturn dX11_mean_50 ⟨_, rfl, (h4 l hl rfl hkd (by omega))⟩
        · exact absurd h28 (by decide)
      · have hkd := kd_no g
        refine a_if_ne (tgt := 37) dX11_mean_28 (by decide) (fun h28 => ?_) (fun h28 => ?_)
        · exact absurd h28 (by decide)
        · refine a_aload_n dX11_mean_31 rfl ?_
          refine a_iconst (v := nI 3) dX11_mean_32 (by decide) ?_
          refine a_callVi (As := [_]) dX11_mean_33 km_X11_147 ⟨by decide, _, _, _, rfl, rfl⟩ rfl rfl (Nat.le_of_ble_eq_true rfl) ?_
          refine l_found (by decide) ?_
          exact a_ireturn dX11_mean_36 ⟨_, rfl, (h3 l hl rfl hkd)⟩
    · exact absurd h8 (by decide)
  · refine a_if_ne (tgt := 13) dX11_mean_8 (by decide) (fun h8 => ?_) (fun h8 => ?_)
    · exact absurd h8 (by decide)
    · refine a_iconst (v := (-1)) dX11_mean_11 (by decide) ?_
      exact a_ireturn dX11_mean_12 ⟨_, rfl, (h0 e0)⟩

theorem lnAt_out {z : Int32} : ∀ (ls : List Nat) (k : Nat) (r : Int32), (∀ j, j < ls.length → nI (k + j) ≠ z) → lnAt z ls k r = r
  | [], _, _, _ => rfl
  | x :: xs, k, r, h => by
    rw [lnAt, if_neg (show ¬ nI k = z from h 0 (by simp))]
    exact lnAt_out xs (k + 1) r (fun j hj => by rw [show k + 1 + j = k + (j + 1) by omega]; exact h (j + 1) (by simpa using hj))
theorem lnAt_in {x : Nat} : ∀ (ls : List Nat) (k i : Nat) (r : Int32), ls[i]? = some x → k + ls.length < 2 ^ 31 → lnAt (nI (k + i)) ls k r = nI x
  | [], _, _, _, h, _ => by simp at h
  | y :: ys, k, 0, r, h, hl => by
    simp at h
    subst h
    rw [lnAt, Nat.add_zero, if_pos rfl]
    exact lnAt_out ys (k + 1) _ (fun j hj z => by
      simp only [List.length_cons] at hl
      have := nI_inj (by omega) (by omega) z
      omega)
  | y :: ys, k, i + 1, r, h, hl => by
    have := lnAt_in ys (k + 1) i (if nI k = nI (k + (i + 1)) then nI y else r) (by simpa using h) (by simp only [List.length_cons] at hl; omega)
    rw [show k + 1 + i = k + (i + 1) by omega] at this
    rw [lnAt]
    exact this
set_option maxHeartbeats 4000000 in
set_option maxRecDepth 100000 in
theorem l_route {G : am_G} {d : Nat} {I : am_I} {J : am_J} {K : Int32 → am_I → am_J → Prop} {x y z : Int32} {N n : Nat} {F T : Nat → Nat} {S : Nat → Bool} (hN : I 1 0 = nI N) (hN6 : N ≤ 6) (hT : ∀ l, l < n → T l < N) (hrv : rvC 2 44 45 F T S n N I) (hrl : rlP 44 45 n (N * N) (RoC F T S n N) I) (h1 : ∀ p q, p < N → q < N → p ≠ q → x = nI p → y = nI q → wyR F T S n q N p < 100 → K (if z = -1 then nI (rtO F T S n N p q).length else lnAt z (rtO F T S n N p q) 0 (-9)) I J) (h2 : ∀ p q, p < N → q < N → p ≠ q → x = nI p → y = nI q → 100 ≤ wyR F T S n q N p → K (-9) I J) (h0 : ¬ isPr N x y → K (-1) I J) : CMi G (d + 1) yX11_route [.ref 0, .int x, .int y, .int z] I J K := by
  refine CM.of (L0 := [_, _, _, _, _, _]) cX11_route 6 (some .int) (by decide) (by decide) kcX11_route (Nat.le_of_ble_eq_true rfl) rfl ?_
  have hN2 : 0 < N ∨ N = 0 := by omega
  refine a_aload_n dX11_route_0 rfl ?_
  refine a_getr dX11_route_1 kf_X11_10 ⟨by decide, _, rfl, rfl⟩ ?_
  refine a_iload_n dX11_route_4 rfl ?_
  refine a_iload_n dX11_route_5 rfl ?_
  refine a_callVi (As := [_, _]) dX11_route_6 km_X11_105 ⟨by decide, _, _, _, rfl, rfl⟩ rfl rfl (Nat.le_of_ble_eq_true rfl) ?_
  refine n_isPair hN (by omega) (fun p q hp hq hpq ep eq => ?_) (fun e0 => ?_)
  · subst ep eq
    refine a_if_ne (tgt := 14) dX11_route_9 (by decide) (fun h9 => ?_) (fun h9 => ?_)
    · refine a_aload_n dX11_route_14 rfl ?_
      refine a_getr dX11_route_15 kf_X11_10 ⟨by decide, _, rfl, rfl⟩ ?_
      refine a_iload_n dX11_route_18 rfl ?_
      refine a_iload_n dX11_route_19 rfl ?_
      refine a_callVi (As := [_, _]) dX11_route_20 km_X11_182 ⟨by decide, _, _, _, rfl, rfl⟩ rfl rfl (Nat.le_of_ble_eq_true rfl) ?_
      refine n_pairNumber hN ?_
      have hv := hrv.2 p q hp hq
      have hix := ix_lt hN6 hp hq
      by_cases hw : wyR F T S n q N p < 100
      · rw [if_pos hw] at hv
        obtain ⟨hlen, hlen5, hmem⟩ := rtO_len hN6 hp hq hT hw
        have hk := h1 p q hp hq hpq rfl rfl hw
        refine a_istore (L' := [_, _, _, _, _, _]) dX11_route_23 (Nat.le_of_ble_eq_true rfl) rfl ?_
        refine a_aload_n dX11_route_25 rfl ?_
        refine a_getr dX11_route_26 kf_X11_19 ⟨by decide, _, rfl, rfl⟩ ?_
        refine a_getr dX11_route_29 kf_X11_185 ⟨by decide, _, rfl, rfl⟩ ?_
        refine a_iload dX11_route_32 rfl ?_
        refine a_iald dX11_route_34 ⟨by decide, rfl⟩ (by omega) hv.1 ?_
        refine a_istore (L' := [_, _, _, _, _, _]) dX11_route_35 (Nat.le_of_ble_eq_true rfl) rfl ?_
        refine a_iload dX11_route_37 rfl ?_
        refine a_iconst (v := (-1)) dX11_route_39 (by decide) ?_
        refine a_icmp_ne (tgt := 46) dX11_route_40 (by decide) (fun c => ?_) (fun c => ?_)
        · refine a_iload_n dX11_route_46 rfl ?_
          refine a_iconst (v := (-1)) dX11_route_47 (by decide) ?_
          refine a_icmp_ne (tgt := 54) dX11_route_48 (by decide) (fun e => ?_) (fun e => ?_)
          · rw [if_neg e] at hk
            refine a_iload_n dX11_route_54 rfl ?_
            refine a_if_lt (tgt := 77) dX11_route_55 (by decide) (fun a => ?_) (fun a => ?_)
            · refine a_bipush (v := (-9)) dX11_route_77 (by decide) ?_
              exact a_ireturn dX11_route_79 ⟨_, rfl, (by rw [lnAt_out _ _ _ (fun j hj z => by rw [← z, Nat.zero_add] at a; exact nI_pos (by omega) a)] at hk; exact hk)⟩
            · obtain ⟨i, hi, rfl⟩ := nI_of a
              refine a_iload_n dX11_route_58 rfl ?_
              refine a_iload dX11_route_59 rfl ?_
              refine a_icmp_geN (tgt := 77) dX11_route_61 (by decide) (by omega) (by omega) (fun b => ?_) (fun b => ?_)
              · refine a_bipush (v := (-9)) dX11_route_77 (by decide) ?_
                exact a_ireturn dX11_route_79 ⟨_, rfl, (by rw [lnAt_out _ _ _ (fun j hj z => by rw [Nat.zero_add] at z; have := nI_inj (by omega) (by omega) z; omega)] at hk; exact hk)⟩
              · have hil : i < (rtO F T S n N p q).length := by omega
                have hx := hv.2 hw i _ (List.getElem?_eq_getElem hil)
                have hln := lnAt_in (rtO F T S n N p q) 0 i (-9) (List.getElem?_eq_getElem hil) (by omega)
                rw [Nat.zero_add] at hln
                rw [hln] at hk
                refine a_aload_n dX11_route_64 rfl ?_
                refine a_getr dX11_route_65 kf_X11_19 ⟨by decide, _, rfl, rfl⟩ ?_
                refine a_iload dX11_route_68 rfl ?_
                refine a_iload_n dX11_route_70 rfl ?_
                refine a_callVi (As := [_, _]) dX11_route_71 km_X11_188 ⟨by decide, _, _, _, rfl, rfl⟩ rfl rfl (Nat.le_of_ble_eq_true rfl) ?_
                refine r_lineAta (n := n) (m := N * N) (R := RoC F T S n N) (l := rtO F T S n N p q) (x := (rtO F T S n N p q)[i]) hrl (ix_lt2 hp hq) (sq_le hN6) (by unfold RoC; rw [Nat.mul_add_div (by omega), Nat.div_eq_of_lt hq, Nat.add_zero, Nat.mul_add_mod, Nat.mod_eq_of_lt hq, if_pos hw]) (List.getElem?_eq_getElem hil) ?_
                refine a_goto (tgt := 79) dX11_route_74 (by decide) ?_
                exact a_ireturn dX11_route_79 ⟨_, rfl, hk⟩
          · refine a_iload dX11_route_51 rfl ?_
            exact a_ireturn dX11_route_53 ⟨_, rfl, (by rw [if_pos e, hlen] at hk; exact hk)⟩
        · exact absurd c (nI_ne_neg (by omega) (by decide))
      · rw [if_neg hw] at hv
        refine a_istore (L' := [_, _, _, _, _, _]) dX11_route_23 (Nat.le_of_ble_eq_true rfl) rfl ?_
        refine a_aload_n dX11_route_25 rfl ?_
        refine a_getr dX11_route_26 kf_X11_19 ⟨by decide, _, rfl, rfl⟩ ?_
        refine a_getr dX11_route_29 kf_X11_185 ⟨by decide, _, rfl, rfl⟩ ?_
        refine a_iload dX11_route_32 rfl ?_
        refine a_iald dX11_route_34 ⟨by decide, rfl⟩ (by omega) hv.1 ?_
        refine a_istore (L' := [_, _, _, _, _, _]) dX11_route_35 (Nat.le_of_ble_eq_true rfl) rfl ?_
        refine a_iload dX11_route_37 rfl ?_
        refine a_iconst (v := (-1)) dX11_route_39 (by decide) ?_
        refine a_icmp_ne (tgt := 46) dX11_route_40 (by decide) (fun c => ?_) (fun c => ?_)
        · exact absurd rfl c
        · refine a_bipush (v := (-9)) dX11_route_43 (by decide) ?_
          exact a_ireturn dX11_route_45 ⟨_, rfl, (h2 p q hp hq hpq rfl rfl (by omega))⟩
    · exact absurd h9 (by decide)
  · refine a_if_ne (tgt := 14) dX11_route_9 (by decide) (fun h9 => ?_) (fun h9 => ?_)
    · exact absurd h9 (by decide)
    · refine a_iconst (v := (-1)) dX11_route_12 (by decide) ?_
      exact a_ireturn dX11_route_13 ⟨_, rfl, (h0 e0)⟩

set_option maxHeartbeats 4000000 in
set_option maxRecDepth 100000 in
theorem l_carried {G : am_G} {d : Nat} {I : am_I} {J : am_J} {K : Int32 → am_I → am_J → Prop} {x y : Int32} {n : Nat} (hn : I 1 1 = nI n) (hn12 : n ≤ 12) (h1 : ∀ l, l < n → x = nI l → (y = -9 ∨ nI 0 ≤ y ∧ y ≤ nI 200) → I (20 + l) 0 ≠ nI 3 → K (I (20 + l) 5) (am_up I (20 + l) 5 y) J) (h3 : ∀ l, l < n → x = nI l → (y = -9 ∨ nI 0 ≤ y ∧ y ≤ nI 200) → I (20 + l) 0 = nI 3 → K (-3) (mFou I 3) J) (h0 : ¬ (isLn n x ∧ (y = -9 ∨ nI 0 ≤ y ∧ y ≤ nI 200)) → K (-1) I J) : CMi G (d + 1) yX11_carried [.ref 0, .int x, .int y] I J K := by
  refine CM.of (L0 := [_, _, _, _, _]) cX11_carried 5 (some .int) (by decide) (by decide) kcX11_carried (Nat.le_of_ble_eq_true rfl) rfl ?_
  refine a_aload_n dX11_carried_0 rfl ?_
  refine a_getr dX11_carried_1 kf_X11_10 ⟨by decide, _, rfl, rfl⟩ ?_
  refine a_iload_n dX11_carried_4 rfl ?_
  refine a_callVi (As := [_]) dX11_carried_5 km_X11_116 ⟨by decide, _, _, _, rfl, rfl⟩ rfl rfl (Nat.le_of_ble_eq_true rfl) ?_
  refine n_isLine hn (by omega) (fun l hl el => ?_) (fun e0 => ?_)
  · subst el
    have hl12 : l < 12 := by omega
    refine a_if_eq (tgt := 18) dX11_carried_8 (by decide) (fun h8 => ?_) (fun h8 => ?_)
    · exact absurd h8 (by decide)
    · refine a_iload_n dX11_carried_11 rfl ?_
      refine a_callSi (As := [_]) dX11_carried_12 km_X11_191 rfl rfl (Nat.le_of_ble_eq_true rfl) ?_
      refine l_isLoad (fun hv => ?_) (fun hv => ?_)
      · refine a_if_ne (tgt := 20) dX11_carried_15 (by decide) (fun h15 => ?_) (fun h15 => ?_)
        · refine a_aload_n dX11_carried_20 rfl ?_
          refine a_getr dX11_carried_21 kf_X11_10 ⟨by decide, _, rfl, rfl⟩ ?_
          refine a_getr dX11_carried_24 kf_X11_120 ⟨by decide, _, rfl, rfl⟩ ?_
          refine a_iload_n dX11_carried_27 rfl ?_
          refine a_aald dX11_carried_28 ⟨by decide, rfl⟩ (by decide) (by omega) rfl ?_
          refine a_astore_n (L' := [_, _, _, _, _]) dX11_carried_29 (Nat.le_of_ble_eq_true rfl) rfl ?_
          refine a_aload_n dX11_carried_30 rfl ?_
          refine a_iconst (v := nI 3) dX11_carried_31 (by decide) ?_
          refine a_callVi (As := [_]) dX11_carried_32 km_X11_144 (sh_ob (by omega)) rfl rfl (Nat.le_of_ble_eq_true rfl) ?_
          refine k_isOf (by omega) (fun g => ?_) (fun g => ?_)
          · refine a_if_eq (tgt := 44) dX11_carried_35 (by decide) (fun h35 => ?_) (fun h35 => ?_)
            · exact absurd h35 (by decide)
            · refine a_aload_n dX11_carried_38 rfl ?_
              refine a_iconst (v := nI 3) dX11_carried_39 (by decide) ?_
              refine a_callVi (As := [_]) dX11_carried_40 km_X11_147 ⟨by decide, _, _, _, rfl, rfl⟩ rfl rfl (Nat.le_of_ble_eq_true rfl) ?_
              refine l_found (by decide) ?_
              exact a_ireturn dX11_carried_43 ⟨_, rfl, (h3 l hl rfl hv (g.elim id (fun z => absurd z.1 (by decide))))⟩
          · refine a_if_eq (tgt := 44) dX11_carried_35 (by decide) (fun h35 => ?_) (fun h35 => ?_)
            · refine a_aload_n dX11_carried_44 rfl ?_
              refine a_geti dX11_carried_45 kf_X11_138 (sh_at (by omega) rfl) rfl ?_
              refine a_istore (L' := [_, _, _, _, _]) dX11_carried_48 (Nat.le_of_ble_eq_true rfl) rfl ?_
              refine a_aload_n dX11_carried_50 rfl ?_
              refine a_iload_n dX11_carried_51 rfl ?_
              refine a_puti dX11_carried_52 kp_X11_138 (sh_at (by omega) rfl) ?_
              refine a_iload dX11_carried_55 rfl ?_
              exact a_ireturn dX11_carried_57 ⟨_, rfl, (h1 l hl rfl hv (fun z => g (Or.inl z)))⟩
            · exact absurd h35 (by decide)
        · exact absurd h15 (by decide)
      · refine a_if_ne (tgt := 20) dX11_carried_15 (by decide) (fun h15 => ?_) (fun h15 => ?_)
        · exact absurd h15 (by decide)
        · refine a_iconst (v := (-1)) dX11_carried_18 (by decide) ?_
          exact a_ireturn dX11_carried_19 ⟨_, rfl, (h0 (fun z => hv z.2))⟩
  · refine a_if_eq (tgt := 18) dX11_carried_8 (by decide) (fun h8 => ?_) (fun h8 => ?_)
    · refine a_iconst (v := (-1)) dX11_carried_18 (by decide) ?_
      exact a_ireturn dX11_carried_19 ⟨_, rfl, (h0 (fun z => e0 z.1))⟩
    · exact absurd h8 (by decide)

set_option maxHeartbeats 4000000 in
set_option maxRecDepth 100000 in
theorem l_meter {G : am_G} {d : Nat} {I : am_I} {J : am_J} {K : Int32 → am_I → am_J → Prop} {x y z : Int32} {N : Nat} (hN : I 1 0 = nI N) (hb : N ≤ 6) (h1 : ∀ p q, p < N → q < N → p ≠ q → x = nI p → y = nI q → (z = -9 ∨ nI 0 ≤ z ∧ z ≤ nI 200) → K (I 13 (N * p + q)) (am_up I 13 (N * p + q) z) J) (h0 : ¬ (isPr N x y ∧ (z = -9 ∨ nI 0 ≤ z ∧ z ≤ nI 200)) → K (-1) I J) : CMi G (d + 1) yX11_meter [.ref 0, .int x, .int y, .int z] I J K := by
  refine CM.of (L0 := [_, _, _, _, _, _]) cX11_meter 6 (some .int) (by decide) (by decide) kcX11_meter (Nat.le_of_ble_eq_true rfl) rfl ?_
  refine a_aload_n dX11_meter_0 rfl ?_
  refine a_getr dX11_meter_1 kf_X11_10 ⟨by decide, _, rfl, rfl⟩ ?_
  refine a_iload_n dX11_meter_4 rfl ?_
  refine a_iload_n dX11_meter_5 rfl ?_
  refine a_callVi (As := [_, _]) dX11_meter_6 km_X11_105 ⟨by decide, _, _, _, rfl, rfl⟩ rfl rfl (Nat.le_of_ble_eq_true rfl) ?_
  refine n_isPair hN (by omega) (fun p q hp hq hpq ep eq => ?_) (fun e0 => ?_)
  · subst ep eq
    refine a_if_eq (tgt := 19) dX11_meter_9 (by decide) (fun h9 => ?_) (fun h9 => ?_)
    · exact absurd h9 (by decide)
    · refine a_iload_n dX11_meter_12 rfl ?_
      refine a_callSi (As := [_]) dX11_meter_13 km_X11_191 rfl rfl (Nat.le_of_ble_eq_true rfl) ?_
      refine l_isLoad (fun hv => ?_) (fun hv => ?_)
      · refine a_if_ne (tgt := 21) dX11_meter_16 (by decide) (fun h16 => ?_) (fun h16 => ?_)
        · refine a_aload_n dX11_meter_21 rfl ?_
          refine a_getr dX11_meter_22 kf_X11_10 ⟨by decide, _, rfl, rfl⟩ ?_
          refine a_iload_n dX11_meter_25 rfl ?_
          refine a_iload_n dX11_meter_26 rfl ?_
          refine a_callVi (As := [_, _]) dX11_meter_27 km_X11_182 ⟨by decide, _, _, _, rfl, rfl⟩ rfl rfl (Nat.le_of_ble_eq_true rfl) ?_
          refine n_pairNumber hN ?_
          refine a_istore (L' := [_, _, _, _, _, _]) dX11_meter_30 (Nat.le_of_ble_eq_true rfl) rfl ?_
          refine a_aload_n dX11_meter_32 rfl ?_
          refine a_getr dX11_meter_33 kf_X11_10 ⟨by decide, _, rfl, rfl⟩ ?_
          refine a_getr dX11_meter_36 kf_X11_194 ⟨by decide, _, rfl, rfl⟩ ?_
          refine a_iload dX11_meter_39 rfl ?_
          refine a_iald dX11_meter_41 ⟨by decide, rfl⟩ (ix_lt hb hp hq) rfl ?_
          refine a_istore (L' := [_, _, _, _, _, _]) dX11_meter_42 (Nat.le_of_ble_eq_true rfl) rfl ?_
          refine a_aload_n dX11_meter_44 rfl ?_
          refine a_getr dX11_meter_45 kf_X11_10 ⟨by decide, _, rfl, rfl⟩ ?_
          refine a_getr dX11_meter_48 kf_X11_194 ⟨by decide, _, rfl, rfl⟩ ?_
          refine a_iload dX11_meter_51 rfl ?_
          refine a_iload_n dX11_meter_53 rfl ?_
          refine a_iast dX11_meter_54 ⟨by decide, rfl⟩ (ix_lt hb hp hq) ?_
          refine a_iload dX11_meter_55 rfl ?_
          exact a_ireturn dX11_meter_57 ⟨_, rfl, (h1 p q hp hq hpq rfl rfl hv)⟩
        · exact absurd h16 (by decide)
      · refine a_if_ne (tgt := 21) dX11_meter_16 (by decide) (fun h16 => ?_) (fun h16 => ?_)
        · exact absurd h16 (by decide)
        · refine a_iconst (v := (-1)) dX11_meter_19 (by decide) ?_
          exact a_ireturn dX11_meter_20 ⟨_, rfl, (h0 (fun z => hv z.2))⟩
  · refine a_if_eq (tgt := 19) dX11_meter_9 (by decide) (fun h9 => ?_) (fun h9 => ?_)
    · refine a_iconst (v := (-1)) dX11_meter_19 (by decide) ?_
      exact a_ireturn dX11_meter_20 ⟨_, rfl, (h0 (fun z => e0 z.1))⟩
    · exact absurd h9 (by decide)

set_option maxHeartbeats 4000000 in
set_option maxRecDepth 100000 in
theorem l_base {G : am_G} {d : Nat} {I : am_I} {J : am_J} {K : Int32 → am_I → am_J → Prop} {x y z : Int32} {N : Nat} (hN : I 1 0 = nI N) (hb : N ≤ 6) (h1 : ∀ p q v, p < N → q < N → p ≠ q → x = nI p → y = nI q → v ≤ 200 → z = nI v → K (I 14 (N * p + q)) (am_up I 14 (N * p + q) z) J) (h0 : ¬ (isPr N x y ∧ nI 0 ≤ z ∧ z ≤ nI 200) → K (-1) I J) : CMi G (d + 1) yX11_base [.ref 0, .int x, .int y, .int z] I J K := by
  refine CM.of (L0 := [_, _, _, _, _, _]) cX11_base 6 (some .int) (by decide) (by decide) kcX11_base (Nat.le_of_ble_eq_true rfl) rfl ?_
  refine a_aload_n dX11_base_0 rfl ?_
  refine a_getr dX11_base_1 kf_X11_10 ⟨by decide, _, rfl, rfl⟩ ?_
  refine a_iload_n dX11_base_4 rfl ?_
  refine a_iload_n dX11_base_5 rfl ?_
  refine a_callVi (As := [_, _]) dX11_base_6 km_X11_105 ⟨by decide, _, _, _, rfl, rfl⟩ rfl rfl (Nat.le_of_ble_eq_true rfl) ?_
  refine n_isPair hN (by omega) (fun p q hp hq hpq ep eq => ?_) (fun e0 => ?_)
  · subst ep eq
    refine a_if_eq (tgt := 23) dX11_base_9 (by decide) (fun h9 => ?_) (fun h9 => ?_)
    · exact absurd h9 (by decide)
    · refine a_iload_n dX11_base_12 rfl ?_
      refine a_if_lt (tgt := 23) dX11_base_13 (by decide) (fun a => ?_) (fun a => ?_)
      · refine a_iconst (v := (-1)) dX11_base_23 (by decide) ?_
        exact a_ireturn dX11_base_24 ⟨_, rfl, (h0 (fun z => absurd z.2.1 (Int32.not_le.mpr a)))⟩
      · refine a_iload_n dX11_base_16 rfl ?_
        refine a_sipush (v := nI 200) dX11_base_17 (by decide) ?_
        refine a_icmp_le (tgt := 25) dX11_base_20 (by decide) (fun b => ?_) (fun b => ?_)
        · obtain ⟨v, hv, ev⟩ := (rg_iff1 (n := 200) (by decide)).mp ⟨Int32.not_lt.mp a, b⟩
          refine a_aload_n dX11_base_25 rfl ?_
          refine a_getr dX11_base_26 kf_X11_10 ⟨by decide, _, rfl, rfl⟩ ?_
          refine a_iload_n dX11_base_29 rfl ?_
          refine a_iload_n dX11_base_30 rfl ?_
          refine a_callVi (As := [_, _]) dX11_base_31 km_X11_182 ⟨by decide, _, _, _, rfl, rfl⟩ rfl rfl (Nat.le_of_ble_eq_true rfl) ?_
          refine n_pairNumber hN ?_
          refine a_istore (L' := [_, _, _, _, _, _]) dX11_base_34 (Nat.le_of_ble_eq_true rfl) rfl ?_
          refine a_aload_n dX11_base_36 rfl ?_
          refine a_getr dX11_base_37 kf_X11_10 ⟨by decide, _, rfl, rfl⟩ ?_
          refine a_getr dX11_base_40 kf_X11_51 ⟨by decide, _, rfl, rfl⟩ ?_
          refine a_iload dX11_base_43 rfl ?_
          refine a_iald dX11_base_45 ⟨by decide, rfl⟩ (ix_lt hb hp hq) rfl ?_
          refine a_istore (L' := [_, _, _, _, _, _]) dX11_base_46 (Nat.le_of_ble_eq_true rfl) rfl ?_
          refine a_aload_n dX11_base_48 rfl ?_
          refine a_getr dX11_base_49 kf_X11_10 ⟨by decide, _, rfl, rfl⟩ ?_
          refine a_getr dX11_base_52 kf_X11_51 ⟨by decide, _, rfl, rfl⟩ ?_
          refine a_iload dX11_base_55 rfl ?_
          refine a_iload_n dX11_base_57 rfl ?_
          refine a_iast dX11_base_58 ⟨by decide, rfl⟩ (ix_lt hb hp hq) ?_
          refine a_iload dX11_base_59 rfl ?_
          exact a_ireturn dX11_base_61 ⟨_, rfl, (h1 p q v hp hq hpq rfl rfl hv ev)⟩
        · refine a_iconst (v := (-1)) dX11_base_23 (by decide) ?_
          exact a_ireturn dX11_base_24 ⟨_, rfl, (h0 (fun z => b z.2.2))⟩
  · refine a_if_eq (tgt := 23) dX11_base_9 (by decide) (fun h9 => ?_) (fun h9 => ?_)
    · refine a_iconst (v := (-1)) dX11_base_23 (by decide) ?_
      exact a_ireturn dX11_base_24 ⟨_, rfl, (h0 (fun z => e0 z.1))⟩
    · exact absurd h9 (by decide)

set_option maxHeartbeats 4000000 in
set_option maxRecDepth 100000 in
theorem l_fit {G : am_G} {d : Nat} {I : am_I} {J : am_J} {K : Int32 → am_I → am_J → Prop} {x y : Int32} {N : Nat} (hN : I 1 0 = nI N) (hb : N ≤ 6) (h1 : ∀ p q, p < N → q < N → p ≠ q → x = nI p → y = nI q → I 0 10 ≠ 0 → K (I 10 (N * p + q)) I J) (h2 : isPr N x y → I 0 10 = 0 → K (-9) I J) (h0 : ¬ isPr N x y → K (-1) I J) : CMi G (d + 1) yX11_fit [.ref 0, .int x, .int y] I J K := by
  refine CM.of (L0 := [_, _, _]) cX11_fit 3 (some .int) (by decide) (by decide) kcX11_fit (Nat.le_of_ble_eq_true rfl) rfl ?_
  refine a_aload_n dX11_fit_0 rfl ?_
  refine a_getr dX11_fit_1 kf_X11_10 ⟨by decide, _, rfl, rfl⟩ ?_
  refine a_iload_n dX11_fit_4 rfl ?_
  refine a_iload_n dX11_fit_5 rfl ?_
  refine a_callVi (As := [_, _]) dX11_fit_6 km_X11_105 ⟨by decide, _, _, _, rfl, rfl⟩ rfl rfl (Nat.le_of_ble_eq_true rfl) ?_
  refine n_isPair hN (by omega) (fun p q hp hq hpq ep eq => ?_) (fun e0 => ?_)
  · subst ep eq
    refine a_if_ne (tgt := 14) dX11_fit_9 (by decide) (fun h9 => ?_) (fun h9 => ?_)
    · refine a_aload_n dX11_fit_14 rfl ?_
      refine a_geti dX11_fit_15 kf_X11_79 ⟨by decide, _, rfl, rfl⟩ rfl ?_
      refine a_if_eq (tgt := 38) dX11_fit_18 (by decide) (fun c => ?_) (fun c => ?_)
      · refine a_bipush (v := (-9)) dX11_fit_38 (by decide) ?_
        exact a_ireturn dX11_fit_40 ⟨_, rfl, (h2 ⟨p, q, hp, hq, hpq, rfl, rfl⟩ c)⟩
      · refine a_aload_n dX11_fit_21 rfl ?_
        refine a_getr dX11_fit_22 kf_X11_76 ⟨by decide, _, rfl, rfl⟩ ?_
        refine a_aload_n dX11_fit_25 rfl ?_
        refine a_getr dX11_fit_26 kf_X11_10 ⟨by decide, _, rfl, rfl⟩ ?_
        refine a_iload_n dX11_fit_29 rfl ?_
        refine a_iload_n dX11_fit_30 rfl ?_
        refine a_callVi (As := [_, _]) dX11_fit_31 km_X11_182 ⟨by decide, _, _, _, rfl, rfl⟩ rfl rfl (Nat.le_of_ble_eq_true rfl) ?_
        refine n_pairNumber hN ?_
        refine a_iald dX11_fit_34 ⟨by decide, rfl⟩ (ix_lt hb hp hq) rfl ?_
        refine a_goto (tgt := 40) dX11_fit_35 (by decide) ?_
        exact a_ireturn dX11_fit_40 ⟨_, rfl, (h1 p q hp hq hpq rfl rfl c)⟩
    · exact absurd h9 (by decide)
  · refine a_if_ne (tgt := 14) dX11_fit_9 (by decide) (fun h9 => ?_) (fun h9 => ?_)
    · exact absurd h9 (by decide)
    · refine a_iconst (v := (-1)) dX11_fit_12 (by decide) ?_
      exact a_ireturn dX11_fit_13 ⟨_, rfl, (h0 e0)⟩

set_option maxHeartbeats 4000000 in
set_option maxRecDepth 100000 in
theorem l_guess {G : am_G} {d : Nat} {I : am_I} {J : am_J} {K : Int32 → am_I → am_J → Prop} {x y : Int32} {N n : Nat} (hN : I 1 0 = nI N) (hb : N ≤ 6) (hn : I 1 1 = nI n) (hn12 : n ≤ 12) (h1 : ∀ p q, p < N → q < N → p ≠ q → x = nI p → y = nI q → sI (fun a => sI (cfC I 1 (nI a)) n) N ≠ 0 → K (sI (cfC I 1 x) n * sI (cfC I 2 y) n / sI (fun a => sI (cfC I 1 (nI a)) n) N) I J) (h4 : isPr N x y → sI (fun a => sI (cfC I 1 (nI a)) n) N = 0 → K (-3) (mFou I 4) J) (h0 : ¬ isPr N x y → K (-1) I J) : CMi G (d + 2) yX11_guess [.ref 0, .int x, .int y] I J K := by
  refine CM.of (L0 := [_, _, _, _]) cX11_guess 4 (some .int) (by decide) (by decide) kcX11_guess (Nat.le_of_ble_eq_true rfl) rfl ?_
  refine a_aload_n dX11_guess_0 rfl ?_
  refine a_getr dX11_guess_1 kf_X11_10 ⟨by decide, _, rfl, rfl⟩ ?_
  refine a_iload_n dX11_guess_4 rfl ?_
  refine a_iload_n dX11_guess_5 rfl ?_
  refine a_callVi (As := [_, _]) dX11_guess_6 km_X11_105 ⟨by decide, _, _, _, rfl, rfl⟩ rfl rfl (Nat.le_of_ble_eq_true rfl) ?_
  refine n_isPair hN (by omega) (fun p q hp hq hpq ep eq => ?_) (fun e0 => ?_)
  · subst ep eq
    refine a_if_ne (tgt := 14) dX11_guess_9 (by decide) (fun h9 => ?_) (fun h9 => ?_)
    · refine a_aload_n dX11_guess_14 rfl ?_
      refine a_getr dX11_guess_15 kf_X11_10 ⟨by decide, _, rfl, rfl⟩ ?_
      refine a_callVi (As := []) dX11_guess_18 km_X11_230 ⟨by decide, _, _, _, rfl, rfl⟩ rfl rfl (Nat.le_of_ble_eq_true rfl) ?_
      refine n_allCarried hN hb hn hn12 ?_
      refine a_istore_n (L' := [_, _, _, _]) dX11_guess_21 (Nat.le_of_ble_eq_true rfl) rfl ?_
      refine a_iload_n dX11_guess_22 rfl ?_
      refine a_if_ne (tgt := 32) dX11_guess_23 (by decide) (fun c => ?_) (fun c => ?_)
      · refine a_aload_n dX11_guess_32 rfl ?_
        refine a_getr dX11_guess_33 kf_X11_10 ⟨by decide, _, rfl, rfl⟩ ?_
        refine a_iload_n dX11_guess_36 rfl ?_
        refine a_callVi (As := [_]) dX11_guess_37 km_X11_233 ⟨by decide, _, _, _, rfl, rfl⟩ rfl rfl (Nat.le_of_ble_eq_true rfl) ?_
        refine n_carriedFrom hn hn12 ?_
        refine a_aload_n dX11_guess_40 rfl ?_
        refine a_getr dX11_guess_41 kf_X11_10 ⟨by decide, _, rfl, rfl⟩ ?_
        refine a_iload_n dX11_guess_44 rfl ?_
        refine a_callVi (As := [_]) dX11_guess_45 km_X11_236 ⟨by decide, _, _, _, rfl, rfl⟩ rfl rfl (Nat.le_of_ble_eq_true rfl) ?_
        refine n_carriedTo hn hn12 ?_
        refine a_imul dX11_guess_48 rfl ?_
        refine a_iload_n dX11_guess_49 rfl ?_
        refine a_idiv dX11_guess_50 c rfl ?_
        exact a_ireturn dX11_guess_51 ⟨_, rfl, (h1 p q hp hq hpq rfl rfl c)⟩
      · refine a_aload_n dX11_guess_26 rfl ?_
        refine a_iconst (v := nI 4) dX11_guess_27 (by decide) ?_
        refine a_callVi (As := [_]) dX11_guess_28 km_X11_147 ⟨by decide, _, _, _, rfl, rfl⟩ rfl rfl (Nat.le_of_ble_eq_true rfl) ?_
        refine l_found (by decide) ?_
        exact a_ireturn dX11_guess_31 ⟨_, rfl, (h4 ⟨p, q, hp, hq, hpq, rfl, rfl⟩ c)⟩
    · exact absurd h9 (by decide)
  · refine a_if_ne (tgt := 14) dX11_guess_9 (by decide) (fun h9 => ?_) (fun h9 => ?_)
    · exact absurd h9 (by decide)
    · refine a_iconst (v := (-1)) dX11_guess_12 (by decide) ?_
      exact a_ireturn dX11_guess_13 ⟨_, rfl, (h0 e0)⟩

set_option maxHeartbeats 4000000 in
set_option maxRecDepth 100000 in
theorem l_tries {G : am_G} {d : Nat} {I : am_I} {J : am_J} {K : Int32 → am_I → am_J → Prop}  (hK : K (I 0 11) I J) : CMi G d yX11_tries [.ref 0] I J K := by
  refine CM.of (L0 := [_]) cX11_tries 1 (some .int) (by decide) (by decide) kcX11_tries (Nat.le_of_ble_eq_true rfl) rfl ?_
  refine a_aload_n dX11_tries_0 rfl ?_
  refine a_geti dX11_tries_1 kf_X11_83 ⟨by decide, _, rfl, rfl⟩ rfl ?_
  exact a_ireturn dX11_tries_4 ⟨_, rfl, hK⟩

set_option maxHeartbeats 4000000 in
set_option maxRecDepth 100000 in
theorem l_asked {G : am_G} {d : Nat} {I : am_I} {J : am_J} {K : Int64 → am_I → am_J → Prop}  (hK : K (J 0 12) I J) : CMl G d yX11_asked [.ref 0] I J K := by
  refine CM.of (L0 := [_]) cX11_asked 1 (some .long) (by decide) (by decide) kcX11_asked (Nat.le_of_ble_eq_true rfl) rfl ?_
  refine a_aload_n dX11_asked_0 rfl ?_
  refine a_getl dX11_asked_1 kf_X11_87 ⟨by decide, _, rfl, rfl⟩ rfl ?_
  exact a_lreturn dX11_asked_4 ⟨_, rfl, hK⟩

set_option maxHeartbeats 4000000 in
set_option maxRecDepth 100000 in
theorem l_finding {G : am_G} {d : Nat} {I : am_I} {J : am_J} {K : Int32 → am_I → am_J → Prop}  (hK : K (I 0 13) I J) : CMi G d yX11_finding [.ref 0] I J K := by
  refine CM.of (L0 := [_]) cX11_finding 1 (some .int) (by decide) (by decide) kcX11_finding (Nat.le_of_ble_eq_true rfl) rfl ?_
  refine a_aload_n dX11_finding_0 rfl ?_
  refine a_geti dX11_finding_1 kf_X11_91 ⟨by decide, _, rfl, rfl⟩ rfl ?_
  exact a_ireturn dX11_finding_4 ⟨_, rfl, hK⟩

set_option maxHeartbeats 4000000 in
set_option maxRecDepth 100000 in
theorem l_findings {G : am_G} {d : Nat} {I : am_I} {J : am_J} {K : Int32 → am_I → am_J → Prop} {x : Int32} (h1 : ∀ f, 1 ≤ f → f ≤ 5 → x = nI f → K (I 11 f) I J) (h0 : ¬ (nI 1 ≤ x ∧ x ≤ nI 5) → K (-1) I J) : CMi G d yX11_findings [.ref 0, .int x] I J K := by
  refine CM.of (L0 := [_, _]) cX11_findings 2 (some .int) (by decide) (by decide) kcX11_findings (Nat.le_of_ble_eq_true rfl) rfl ?_
  refine a_iload_n dX11_findings_0 rfl ?_
  refine a_iconst (v := nI 1) dX11_findings_1 (by decide) ?_
  refine a_icmp_lt (tgt := 19) dX11_findings_2 (by decide) (fun a => ?_) (fun a => ?_)
  · refine a_iconst (v := (-1)) dX11_findings_19 (by decide) ?_
    exact a_ireturn dX11_findings_20 ⟨_, rfl, (h0 (fun z => absurd z.1 (Int32.not_le.mpr a)))⟩
  · refine a_iload_n dX11_findings_5 rfl ?_
    refine a_iconst (v := nI 5) dX11_findings_6 (by decide) ?_
    refine a_icmp_gt (tgt := 19) dX11_findings_7 (by decide) (fun b => ?_) (fun b => ?_)
    · refine a_iconst (v := (-1)) dX11_findings_19 (by decide) ?_
      exact a_ireturn dX11_findings_20 ⟨_, rfl, (h0 (fun z => absurd z.2 (Int32.not_le.mpr b)))⟩
    · obtain ⟨f, hf, rfl⟩ := (rg_iff1 (n := 5) (by decide)).mp ⟨Int32.le_trans (by decide) (Int32.not_lt.mp a), Int32.not_lt.mp b⟩
      have hf1 : 1 ≤ f := (nI_leI (by decide) (by omega)).mp (Int32.not_lt.mp a)
      refine a_aload_n dX11_findings_10 rfl ?_
      refine a_getr dX11_findings_11 kf_X11_94 ⟨by decide, _, rfl, rfl⟩ ?_
      refine a_iload_n dX11_findings_14 rfl ?_
      refine a_iald dX11_findings_15 ⟨by decide, rfl⟩ (by omega) rfl ?_
      refine a_goto (tgt := 20) dX11_findings_16 (by decide) ?_
      exact a_ireturn dX11_findings_20 ⟨_, rfl, (h1 f hf1 hf rfl)⟩

def tcK (I : am_I) (R : Nat → Option (List Nat)) (N n w : Nat) : Int32 := if w = 0 then nI N else if w = 1 then nI n else if w = 2 then nI (cN (tlC I) n) else if w = 3 then nI (cN (mtQ (I 13)) 36) else nI (cN (cuQ R) (N * N))
set_option maxHeartbeats 4000000 in
set_option maxRecDepth 100000 in
theorem l_count {G : am_G} {d : Nat} {I : am_I} {J : am_J} {K : Int32 → am_I → am_J → Prop} {x : Int32} {N n : Nat} {R : Nat → Option (List Nat)} (hN : I 1 0 = nI N) (hN6 : N ≤ 6) (hn : I 1 1 = nI n) (hn12 : n ≤ 12) (hrl : rlP 44 45 n (N * N) R I) (hpl : I 2 0 = nI (N * N)) (h1 : ∀ w, w ≤ 4 → x = nI w → K (tcK I R N n w) I J) (h0 : ¬ (nI 0 ≤ x ∧ x ≤ nI 4) → K (-1) I J) : CMi G (d + 1) yX11_count [.ref 0, .int x] I J K := by
  refine CM.of (L0 := [_, _]) cX11_count 2 (some .int) (by decide) (by decide) kcX11_count (Nat.le_of_ble_eq_true rfl) rfl ?_
  refine a_iload_n dX11_count_0 rfl ?_
  by_cases hy : nI 0 ≤ x ∧ x ≤ nI 4
  · obtain ⟨j, hj, rfl⟩ := (rg_iff1 (n := 4) (by decide)).mp hy
    have hc : j = 0 ∨ j = 1 ∨ j = 2 ∨ j = 3 ∨ j = 4 := by omega
    have hk := h1 j hj rfl
    rcases hc with rfl | rfl | rfl | rfl | rfl
    · refine a_tabIn (off := 35) (tgt := 36) dX11_count_1 (by decide) (by decide) (by decide) (by decide) ?_
      refine a_aload_n dX11_count_36 rfl ?_
      refine a_getr dX11_count_37 kf_X11_10 ⟨by decide, _, rfl, rfl⟩ ?_
      refine a_geti dX11_count_40 kf_X11_293 ⟨by decide, _, rfl, rfl⟩ hN ?_
      exact a_ireturn dX11_count_43 ⟨_, rfl, hk⟩
    · refine a_tabIn (off := 43) (tgt := 44) dX11_count_1 (by decide) (by decide) (by decide) (by decide) ?_
      refine a_aload_n dX11_count_44 rfl ?_
      refine a_getr dX11_count_45 kf_X11_10 ⟨by decide, _, rfl, rfl⟩ ?_
      refine a_geti dX11_count_48 kf_X11_109 ⟨by decide, _, rfl, rfl⟩ hn ?_
      exact a_ireturn dX11_count_51 ⟨_, rfl, hk⟩
    · refine a_tabIn (off := 51) (tgt := 52) dX11_count_1 (by decide) (by decide) (by decide) (by decide) ?_
      refine a_aload_n dX11_count_52 rfl ?_
      refine a_getr dX11_count_53 kf_X11_10 ⟨by decide, _, rfl, rfl⟩ ?_
      refine a_callVi (As := []) dX11_count_56 km_X11_296 ⟨by decide, _, _, _, rfl, rfl⟩ rfl rfl (Nat.le_of_ble_eq_true rfl) ?_
      refine n_linesTold hn hn12 ?_
      exact a_ireturn dX11_count_59 ⟨_, rfl, hk⟩
    · refine a_tabIn (off := 59) (tgt := 60) dX11_count_1 (by decide) (by decide) (by decide) (by decide) ?_
      refine a_aload_n dX11_count_60 rfl ?_
      refine a_getr dX11_count_61 kf_X11_10 ⟨by decide, _, rfl, rfl⟩ ?_
      refine a_callVi (As := []) dX11_count_64 km_X11_299 ⟨by decide, _, _, _, rfl, rfl⟩ rfl rfl (Nat.le_of_ble_eq_true rfl) ?_
      refine n_pairsMetered ?_
      exact a_ireturn dX11_count_67 ⟨_, rfl, hk⟩
    · refine a_tabIn (off := 67) (tgt := 68) dX11_count_1 (by decide) (by decide) (by decide) (by decide) ?_
      refine a_aload_n dX11_count_68 rfl ?_
      refine a_getr dX11_count_69 kf_X11_19 ⟨by decide, _, rfl, rfl⟩ ?_
      refine a_callVi (As := []) dX11_count_72 km_X11_302 ⟨by decide, _, _, _, rfl, rfl⟩ rfl rfl (Nat.le_of_ble_eq_true rfl) ?_
      refine r_pairsCut hrl (sq_le hN6) hpl ?_
      exact a_ireturn dX11_count_75 ⟨_, rfl, hk⟩
  · refine a_tabOut (tgt := 76) dX11_count_1 (tab_out (by decide) hy) (by decide) ?_
    refine a_iconst (v := (-1)) dX11_count_76 (by decide) ?_
    exact a_ireturn dX11_count_77 ⟨_, rfl, (h0 hy)⟩

