/-! ===== the reference: tells, READINGS, CARRIED ===== -/
/-- what tells(l, j) answers -/
def tlR (I : am_I) (l j : Nat) : Int32 := if j = 0 then I 65 l else if j = 1 then I 66 l else if j = 2 then I 67 l else if j = 3 then I 68 l else if j = 4 then I 70 l else I 69 l
set_option maxHeartbeats 4000000 in
set_option maxRecDepth 100000 in
theorem c_tells {G : am_G} {d : Nat} {I : am_I} {J : am_J} {K : Int32 → am_I → am_J → Prop} {l j : Nat} (hl : l < 12) (hj : j ≤ 5) (hd : I 68 l = 0 ∨ I 68 l = 1) (hK : K (tlR I l j) I J) : CMi G d yX12_tells [.ref 63, .int (nI l), .int (nI j)] I J K := by
  refine CM.of (L0 := [_, _, _]) cX12_tells 3 (some .int) (by decide) (by decide) kcX12_tells (Nat.le_of_ble_eq_true rfl) rfl ?_
  refine a_iload_n dX12_tells_0 rfl ?_
  match j, hj, hK with
  | 0, _, hK =>
    refine a_tabIn (off := 35) (tgt := 36) dX12_tells_1 (by decide) (by decide) (by decide) (by decide) ?_
    refine a_aload_n dX12_tells_36 rfl ?_
    refine a_getr dX12_tells_37 kf_X12_17 ⟨by decide, _, rfl, rfl⟩ ?_
    refine a_iload_n dX12_tells_40 rfl ?_
    refine a_iald dX12_tells_41 ⟨by decide, rfl⟩ (by omega) rfl ?_
    exact a_ireturn dX12_tells_42 ⟨_, rfl, hK⟩
  | 1, _, hK =>
    refine a_tabIn (off := 42) (tgt := 43) dX12_tells_1 (by decide) (by decide) (by decide) (by decide) ?_
    refine a_aload_n dX12_tells_43 rfl ?_
    refine a_getr dX12_tells_44 kf_X12_20 ⟨by decide, _, rfl, rfl⟩ ?_
    refine a_iload_n dX12_tells_47 rfl ?_
    refine a_iald dX12_tells_48 ⟨by decide, rfl⟩ (by omega) rfl ?_
    exact a_ireturn dX12_tells_49 ⟨_, rfl, hK⟩
  | 2, _, hK =>
    refine a_tabIn (off := 49) (tgt := 50) dX12_tells_1 (by decide) (by decide) (by decide) (by decide) ?_
    refine a_aload_n dX12_tells_50 rfl ?_
    refine a_getr dX12_tells_51 kf_X12_23 ⟨by decide, _, rfl, rfl⟩ ?_
    refine a_iload_n dX12_tells_54 rfl ?_
    refine a_iald dX12_tells_55 ⟨by decide, rfl⟩ (by omega) rfl ?_
    exact a_ireturn dX12_tells_56 ⟨_, rfl, hK⟩
  | 3, _, hK =>
    refine a_tabIn (off := 56) (tgt := 57) dX12_tells_1 (by decide) (by decide) (by decide) (by decide) ?_
    refine a_aload_n dX12_tells_57 rfl ?_
    refine a_getr dX12_tells_58 kf_X12_26 ⟨by decide, _, rfl, rfl⟩ ?_
    refine a_iload_n dX12_tells_61 rfl ?_
    refine a_zald dX12_tells_62 ⟨by decide, rfl⟩ (by omega) rfl ?_
    refine a_tif_eq (tgt := 70) (pj := 71) (a := (nI 0)) (b := (nI 1)) dX12_tells_63 (by decide) (fun kj => ?_) (fun kj => ?_) ?_
    · refine a_iconst (v := nI 0) dX12_tells_70 (by decide) ?_
      exact kj
    · refine a_iconst (v := nI 1) dX12_tells_66 (by decide) ?_
      refine a_goto (tgt := 71) dX12_tells_67 (by decide) ?_
      exact kj
    refine a_topi (v := I 68 l) (by rcases hd with e | e <;> rw [e] <;> decide) ?_
    exact a_ireturn dX12_tells_71 ⟨_, rfl, hK⟩
  | 4, _, hK =>
    refine a_tabIn (off := 71) (tgt := 72) dX12_tells_1 (by decide) (by decide) (by decide) (by decide) ?_
    refine a_aload_n dX12_tells_72 rfl ?_
    refine a_getr dX12_tells_73 kf_X12_33 ⟨by decide, _, rfl, rfl⟩ ?_
    refine a_iload_n dX12_tells_76 rfl ?_
    refine a_iald dX12_tells_77 ⟨by decide, rfl⟩ (by omega) rfl ?_
    exact a_ireturn dX12_tells_78 ⟨_, rfl, hK⟩
  | 5, _, hK =>
    refine a_tabOut (tgt := 79) dX12_tells_1 (by decide) (by decide) ?_
    refine a_aload_n dX12_tells_79 rfl ?_
    refine a_getr dX12_tells_80 kf_X12_30 ⟨by decide, _, rfl, rfl⟩ ?_
    refine a_iload_n dX12_tells_83 rfl ?_
    refine a_iald dX12_tells_84 ⟨by decide, rfl⟩ (by omega) rfl ?_
    exact a_ireturn dX12_tells_85 ⟨_, rfl, hK⟩
  | j + 6, h, _ => exact absurd h (by omega)

set_option maxHeartbeats 4000000 in
set_option maxRecDepth 100000 in
theorem c_told {G : am_G} {d : Nat} {I : am_I} {J : am_J} {K : Int32 → am_I → am_J → Prop} {x y : Int32} {n : Nat} (hn : I 63 4 = nI n) (hn12 : n ≤ 12) (hd : ∀ l, l < n → I 68 l = 0 ∨ I 68 l = 1) (h1 : ∀ l j, l < n → x = nI l → j ≤ 5 → y = nI j → K (tlR I l j) I J) (h0 : ¬ (isLn n x ∧ nI 0 ≤ y ∧ y ≤ nI 5) → K (-1) I J) : CMi G (d + 2) yX12_told [.ref 63, .int x, .int y] I J K := by
  refine CM.of (L0 := [_, _, _]) cX12_told 3 (some .int) (by decide) (by decide) kcX12_told (Nat.le_of_ble_eq_true rfl) rfl ?_
  refine a_aload_n dX12_told_0 rfl ?_
  refine a_iload_n dX12_told_1 rfl ?_
  refine a_callVi (As := [_]) dX12_told_2 km_X12_130 ⟨by decide, _, _, _, rfl, rfl⟩ rfl rfl (Nat.le_of_ble_eq_true rfl) ?_
  refine c_isLine hn (by omega) (fun l hl e1 => ?_) (fun e1 => ?_)
  · subst e1
    have hl12 : l < 12 := by omega
    refine a_if_eq (tgt := 26) dX12_told_5 (by decide) (fun h5 => ?_) (fun h5 => ?_)
    · exact absurd h5 (by decide)
    · refine a_iload_n dX12_told_8 rfl ?_
      refine a_iconst (v := nI 0) dX12_told_9 (by decide) ?_
      refine a_iconst (v := nI 5) dX12_told_10 (by decide) ?_
      refine a_callSi (As := [_, _, _]) dX12_told_11 km_X12_122 rfl rfl (Nat.le_of_ble_eq_true rfl) ?_
      refine c_in (fun e1 e2 => ?_) (fun e1 => ?_)
      · obtain ⟨j, hj, ej⟩ := (rg_iff1 (n := 5) (by decide)).mp ⟨e1, e2⟩
        subst ej
        refine a_if_eq (tgt := 26) dX12_told_14 (by decide) (fun h14 => ?_) (fun h14 => ?_)
        · exact absurd h14 (by decide)
        · refine a_aload_n dX12_told_17 rfl ?_
          refine a_iload_n dX12_told_18 rfl ?_
          refine a_iload_n dX12_told_19 rfl ?_
          refine a_callVi (As := [_, _]) dX12_told_20 km_X12_133 ⟨by decide, _, _, _, rfl, rfl⟩ rfl rfl (Nat.le_of_ble_eq_true rfl) ?_
          refine c_tells hl12 hj (hd l hl) ?_
          refine a_goto (tgt := 27) dX12_told_23 (by decide) ?_
          exact a_ireturn dX12_told_27 ⟨_, rfl, (h1 l j hl rfl hj rfl)⟩
      · refine a_if_eq (tgt := 26) dX12_told_14 (by decide) (fun h14 => ?_) (fun h14 => ?_)
        · refine a_iconst (v := (-1)) dX12_told_26 (by decide) ?_
          exact a_ireturn dX12_told_27 ⟨_, rfl, (h0 (fun q => e1 q.2))⟩
        · exact absurd h14 (by decide)
  · refine a_if_eq (tgt := 26) dX12_told_5 (by decide) (fun h5 => ?_) (fun h5 => ?_)
    · refine a_iconst (v := (-1)) dX12_told_26 (by decide) ?_
      exact a_ireturn dX12_told_27 ⟨_, rfl, (h0 (fun q => e1 q.1))⟩
    · exact absurd h5 (by decide)

def ctR (I : am_I) (l : Nat) : Int32 := if I 65 l = nI 1 then nI 256 else nI 65536
def kdC (I : am_I) (l : Nat) : Prop := I 65 l = nI 1 ∨ I 65 l = nI 2
def mMeet (I : am_I) (f : Nat) : am_I := am_up (am_up I 63 0 (nI f)) 64 f (I 64 f + 1)
theorem ctR_ne (I : am_I) (l : Nat) : ¬ ctR I l = 0 := by
  unfold ctR
  split <;> decide
set_option maxHeartbeats 4000000 in
set_option maxRecDepth 100000 in
theorem c_reading {G : am_G} {d : Nat} {I : am_I} {J : am_J} {K : Int32 → am_I → am_J → Prop} {x y z : Int32} {n : Nat} (hn : I 63 4 = nI n) (hn12 : n ≤ 12) (h1 : ∀ l h, l < n → x = nI l → (0 ≤ z ∨ z = -9) → kdC I l → h < 24 → y = nI h → K (I 71 (24 * l + h)) (am_up I 71 (24 * l + h) (if z = -9 then -9 else z - z / ctR I l * ctR I l)) J)
  (h3 : ∀ l, l < n → x = nI l → (0 ≤ z ∨ z = -9) → ¬ kdC I l → K (-3) (mMeet I 3) J) (h2 : ∀ l, l < n → x = nI l → (0 ≤ z ∨ z = -9) → kdC I l → ¬ (nI 0 ≤ y ∧ y ≤ nI 23) → K (-3) (mMeet I 2) J) (h0 : ¬ (isLn n x ∧ (0 ≤ z ∨ z = -9)) → K (-1) I J) : CMi G (d + 2) yX12_reading [.ref 63, .int x, .int y, .int z] I J K := by
  refine CM.of (L0 := [_, _, _, _, _]) cX12_reading 5 (some .int) (by decide) (by decide) kcX12_reading (Nat.le_of_ble_eq_true rfl) rfl ?_
  refine a_aload_n dX12_reading_0 rfl ?_
  refine a_iload_n dX12_reading_1 rfl ?_
  refine a_callVi (As := [_]) dX12_reading_2 km_X12_130 ⟨by decide, _, _, _, rfl, rfl⟩ rfl rfl (Nat.le_of_ble_eq_true rfl) ?_
  refine c_isLine hn (by omega) (fun l hl e1 => ?_) (fun e1 => ?_)
  · subst e1
    have hl12 : l < 12 := by omega
    refine a_if_eq (tgt := 18) dX12_reading_5 (by decide) (fun h5 => ?_) (fun h5 => ?_)
    · exact absurd h5 (by decide)
    · refine a_iload_n dX12_reading_8 rfl ?_
      refine a_if_ge (tgt := 20) dX12_reading_9 (by decide) (fun h9 => ?_) (fun h9 => ?_)
      · have hz : 0 ≤ z ∨ z = -9 := Or.inl h9
        refine a_aload_n dX12_reading_20 rfl ?_
        refine a_iload_n dX12_reading_21 rfl ?_
        refine a_callVi (As := [_]) dX12_reading_22 km_X12_153 ⟨by decide, _, _, _, rfl, rfl⟩ rfl rfl (Nat.le_of_ble_eq_true rfl) ?_
        refine c_counts hl12 (fun ec => ?_) (fun ec => ?_)
        · refine a_if_ne (tgt := 34) dX12_reading_25 (by decide) (fun h25 => ?_) (fun h25 => ?_)
          · refine a_iload_n dX12_reading_34 rfl ?_
            refine a_iconst (v := nI 0) dX12_reading_35 (by decide) ?_
            refine a_bipush (v := nI 23) dX12_reading_36 (by decide) ?_
            refine a_callSi (As := [_, _, _]) dX12_reading_38 km_X12_122 rfl rfl (Nat.le_of_ble_eq_true rfl) ?_
            refine c_in (fun e1 e2 => ?_) (fun e1 => ?_)
            · obtain ⟨h, hh, eh⟩ := (rg_iff1 (n := 23) (by decide)).mp ⟨e1, e2⟩
              subst eh
              refine a_if_ne (tgt := 50) dX12_reading_41 (by decide) (fun h41 => ?_) (fun h41 => ?_)
              · refine a_aload_n dX12_reading_50 rfl ?_
                refine a_getr dX12_reading_51 kf_X12_36 ⟨by decide, _, rfl, rfl⟩ ?_
                refine a_bipush (v := nI 24) dX12_reading_54 (by decide) ?_
                refine a_iload_n dX12_reading_56 rfl ?_
                refine a_imul dX12_reading_57 (by first | exact pk_mul _ _ | rfl) ?_
                refine a_iload_n dX12_reading_58 rfl ?_
                refine a_iadd dX12_reading_59 (by first | exact nI_add _ _ | rfl) ?_
                refine a_iald dX12_reading_60 ⟨by decide, rfl⟩ (by omega) rfl ?_
                refine a_istore (L' := [_, _, _, _, _]) dX12_reading_61 (Nat.le_of_ble_eq_true rfl) rfl ?_
                refine a_aload_n dX12_reading_63 rfl ?_
                refine a_getr dX12_reading_64 kf_X12_36 ⟨by decide, _, rfl, rfl⟩ ?_
                refine a_bipush (v := nI 24) dX12_reading_67 (by decide) ?_
                refine a_iload_n dX12_reading_69 rfl ?_
                refine a_imul dX12_reading_70 (by first | exact pk_mul _ _ | rfl) ?_
                refine a_iload_n dX12_reading_71 rfl ?_
                refine a_iadd dX12_reading_72 (by first | exact nI_add _ _ | rfl) ?_
                refine a_iload_n dX12_reading_73 rfl ?_
                refine a_bipush (v := (-9)) dX12_reading_74 (by decide) ?_
                refine a_ticmp_ne (tgt := 84) (pj := 91) (a := (z - z / ctR I l * ctR I l)) (b := (-9)) dX12_reading_76 (by decide) (fun kj => ?_) (fun kj => ?_) ?_
                · refine a_iload_n dX12_reading_84 rfl ?_
                  refine a_aload_n dX12_reading_85 rfl ?_
                  refine a_iload_n dX12_reading_86 rfl ?_
                  refine a_callVi (As := [_]) dX12_reading_87 km_X12_142 ⟨by decide, _, _, _, rfl, rfl⟩ rfl rfl (Nat.le_of_ble_eq_true rfl) ?_
                  refine c_counterOf hl12 ?_
                  refine a_irem dX12_reading_90 (ctR_ne I l) rfl ?_
                  exact kj
                · refine a_bipush (v := (-9)) dX12_reading_79 (by decide) ?_
                  refine a_goto (tgt := 91) dX12_reading_81 (by decide) ?_
                  exact kj
                refine a_iast dX12_reading_91 ⟨by decide, rfl⟩ (by omega) ?_
                refine a_iload dX12_reading_92 rfl ?_
                exact a_ireturn dX12_reading_94 ⟨_, rfl, (h1 l h hl rfl hz ec (by omega) rfl)⟩
              · exact absurd h41 (by decide)
            · refine a_if_ne (tgt := 50) dX12_reading_41 (by decide) (fun h41 => ?_) (fun h41 => ?_)
              · exact absurd h41 (by decide)
              · refine a_aload_n dX12_reading_44 rfl ?_
                refine a_iconst (v := nI 2) dX12_reading_45 (by decide) ?_
                refine a_callVi (As := [_]) dX12_reading_46 km_X12_138 ⟨by decide, _, _, _, rfl, rfl⟩ rfl rfl (Nat.le_of_ble_eq_true rfl) ?_
                refine c_meets (by decide) ?_
                exact a_ireturn dX12_reading_49 ⟨_, rfl, (h2 l hl rfl hz ec e1)⟩
          · exact absurd h25 (by decide)
        · refine a_if_ne (tgt := 34) dX12_reading_25 (by decide) (fun h25 => ?_) (fun h25 => ?_)
          · exact absurd h25 (by decide)
          · refine a_aload_n dX12_reading_28 rfl ?_
            refine a_iconst (v := nI 3) dX12_reading_29 (by decide) ?_
            refine a_callVi (As := [_]) dX12_reading_30 km_X12_138 ⟨by decide, _, _, _, rfl, rfl⟩ rfl rfl (Nat.le_of_ble_eq_true rfl) ?_
            refine c_meets (by decide) ?_
            exact a_ireturn dX12_reading_33 ⟨_, rfl, (h3 l hl rfl hz ec)⟩
      · refine a_iload_n dX12_reading_12 rfl ?_
        refine a_bipush (v := (-9)) dX12_reading_13 (by decide) ?_
        refine a_icmp_eq (tgt := 20) dX12_reading_15 (by decide) (fun h15 => ?_) (fun h15 => ?_)
        · have hz : 0 ≤ z ∨ z = -9 := Or.inr h15
          refine a_aload_n dX12_reading_20 rfl ?_
          refine a_iload_n dX12_reading_21 rfl ?_
          refine a_callVi (As := [_]) dX12_reading_22 km_X12_153 ⟨by decide, _, _, _, rfl, rfl⟩ rfl rfl (Nat.le_of_ble_eq_true rfl) ?_
          refine c_counts hl12 (fun ec => ?_) (fun ec => ?_)
          · refine a_if_ne (tgt := 34) dX12_reading_25 (by decide) (fun h25 => ?_) (fun h25 => ?_)
            · refine a_iload_n dX12_reading_34 rfl ?_
              refine a_iconst (v := nI 0) dX12_reading_35 (by decide) ?_
              refine a_bipush (v := nI 23) dX12_reading_36 (by decide) ?_
              refine a_callSi (As := [_, _, _]) dX12_reading_38 km_X12_122 rfl rfl (Nat.le_of_ble_eq_true rfl) ?_
              refine c_in (fun e1 e2 => ?_) (fun e1 => ?_)
              · obtain ⟨h, hh, eh⟩ := (rg_iff1 (n := 23) (by decide)).mp ⟨e1, e2⟩
                subst eh
                refine a_if_ne (tgt := 50) dX12_reading_41 (by decide) (fun h41 => ?_) (fun h41 => ?_)
                · refine a_aload_n dX12_reading_50 rfl ?_
                  refine a_getr dX12_reading_51 kf_X12_36 ⟨by decide, _, rfl, rfl⟩ ?_
                  refine a_bipush (v := nI 24) dX12_reading_54 (by decide) ?_
                  refine a_iload_n dX12_reading_56 rfl ?_
                  refine a_imul dX12_reading_57 (by first | exact pk_mul _ _ | rfl) ?_
                  refine a_iload_n dX12_reading_58 rfl ?_
                  refine a_iadd dX12_reading_59 (by first | exact nI_add _ _ | rfl) ?_
                  refine a_iald dX12_reading_60 ⟨by decide, rfl⟩ (by omega) rfl ?_
                  refine a_istore (L' := [_, _, _, _, _]) dX12_reading_61 (Nat.le_of_ble_eq_true rfl) rfl ?_
                  refine a_aload_n dX12_reading_63 rfl ?_
                  refine a_getr dX12_reading_64 kf_X12_36 ⟨by decide, _, rfl, rfl⟩ ?_
                  refine a_bipush (v := nI 24) dX12_reading_67 (by decide) ?_
                  refine a_iload_n dX12_reading_69 rfl ?_
                  refine a_imul dX12_reading_70 (by first | exact pk_mul _ _ | rfl) ?_
                  refine a_iload_n dX12_reading_71 rfl ?_
                  refine a_iadd dX12_reading_72 (by first | exact nI_add _ _ | rfl) ?_
                  refine a_iload_n dX12_reading_73 rfl ?_
                  refine a_bipush (v := (-9)) dX12_reading_74 (by decide) ?_
                  refine a_ticmp_ne (tgt := 84) (pj := 91) (a := (z - z / ctR I l * ctR I l)) (b := (-9)) dX12_reading_76 (by decide) (fun kj => ?_) (fun kj => ?_) ?_
                  · refine a_iload_n dX12_reading_84 rfl ?_
                    refine a_aload_n dX12_reading_85 rfl ?_
                    refine a_iload_n dX12_reading_86 rfl ?_
                    refine a_callVi (As := [_]) dX12_reading_87 km_X12_142 ⟨by decide, _, _, _, rfl, rfl⟩ rfl rfl (Nat.le_of_ble_eq_true rfl) ?_
                    refine c_counterOf hl12 ?_
                    refine a_irem dX12_reading_90 (ctR_ne I l) rfl ?_
                    exact kj
                  · refine a_bipush (v := (-9)) dX12_reading_79 (by decide) ?_
                    refine a_goto (tgt := 91) dX12_reading_81 (by decide) ?_
                    exact kj
                  refine a_iast dX12_reading_91 ⟨by decide, rfl⟩ (by omega) ?_
                  refine a_iload dX12_reading_92 rfl ?_
                  exact a_ireturn dX12_reading_94 ⟨_, rfl, (h1 l h hl rfl hz ec (by omega) rfl)⟩
                · exact absurd h41 (by decide)
              · refine a_if_ne (tgt := 50) dX12_reading_41 (by decide) (fun h41 => ?_) (fun h41 => ?_)
                · exact absurd h41 (by decide)
                · refine a_aload_n dX12_reading_44 rfl ?_
                  refine a_iconst (v := nI 2) dX12_reading_45 (by decide) ?_
                  refine a_callVi (As := [_]) dX12_reading_46 km_X12_138 ⟨by decide, _, _, _, rfl, rfl⟩ rfl rfl (Nat.le_of_ble_eq_true rfl) ?_
                  refine c_meets (by decide) ?_
                  exact a_ireturn dX12_reading_49 ⟨_, rfl, (h2 l hl rfl hz ec e1)⟩
            · exact absurd h25 (by decide)
          · refine a_if_ne (tgt := 34) dX12_reading_25 (by decide) (fun h25 => ?_) (fun h25 => ?_)
            · exact absurd h25 (by decide)
            · refine a_aload_n dX12_reading_28 rfl ?_
              refine a_iconst (v := nI 3) dX12_reading_29 (by decide) ?_
              refine a_callVi (As := [_]) dX12_reading_30 km_X12_138 ⟨by decide, _, _, _, rfl, rfl⟩ rfl rfl (Nat.le_of_ble_eq_true rfl) ?_
              refine c_meets (by decide) ?_
              exact a_ireturn dX12_reading_33 ⟨_, rfl, (h3 l hl rfl hz ec)⟩
        · refine a_iconst (v := (-1)) dX12_reading_18 (by decide) ?_
          exact a_ireturn dX12_reading_19 ⟨_, rfl, (h0 (fun q => q.2.elim h9 h15))⟩
  · refine a_if_eq (tgt := 18) dX12_reading_5 (by decide) (fun h5 => ?_) (fun h5 => ?_)
    · refine a_iconst (v := (-1)) dX12_reading_18 (by decide) ?_
      exact a_ireturn dX12_reading_19 ⟨_, rfl, (h0 (fun q => e1 q.1))⟩
    · exact absurd h5 (by decide)

def ldR (I : am_I) (l i j : Nat) : Int32 := if 0 ≤ I 71 (24 * l + j) - I 71 (24 * l + i) then I 71 (24 * l + j) - I 71 (24 * l + i) else I 71 (24 * l + j) - I 71 (24 * l + i) + ctR I l
set_option maxHeartbeats 4000000 in
set_option maxRecDepth 100000 in
theorem c_loadOf {G : am_G} {d : Nat} {I : am_I} {J : am_J} {K : Int32 → am_I → am_J → Prop} {l i j : Nat} (hl : l < 12) (hi : i < 24) (hj : j < 24) (hK : K (ldR I l i j) I J) : CMi G (d + 1) yX12_loadOf [.ref 63, .int (nI l), .int (nI i), .int (nI j)] I J K := by
  refine CM.of (L0 := [_, _, _, _, _]) cX12_loadOf 5 (some .int) (by decide) (by decide) kcX12_loadOf (Nat.le_of_ble_eq_true rfl) rfl ?_
  refine a_aload_n dX12_loadOf_0 rfl ?_
  refine a_getr dX12_loadOf_1 kf_X12_36 ⟨by decide, _, rfl, rfl⟩ ?_
  refine a_bipush (v := nI 24) dX12_loadOf_4 (by decide) ?_
  refine a_iload_n dX12_loadOf_6 rfl ?_
  refine a_imul dX12_loadOf_7 (by first | exact pk_mul _ _ | rfl) ?_
  refine a_iload_n dX12_loadOf_8 rfl ?_
  refine a_iadd dX12_loadOf_9 (by first | exact nI_add _ _ | rfl) ?_
  refine a_iald dX12_loadOf_10 ⟨by decide, rfl⟩ (by omega) rfl ?_
  refine a_aload_n dX12_loadOf_11 rfl ?_
  refine a_getr dX12_loadOf_12 kf_X12_36 ⟨by decide, _, rfl, rfl⟩ ?_
  refine a_bipush (v := nI 24) dX12_loadOf_15 (by decide) ?_
  refine a_iload_n dX12_loadOf_17 rfl ?_
  refine a_imul dX12_loadOf_18 (by first | exact pk_mul _ _ | rfl) ?_
  refine a_iload_n dX12_loadOf_19 rfl ?_
  refine a_iadd dX12_loadOf_20 (by first | exact nI_add _ _ | rfl) ?_
  refine a_iald dX12_loadOf_21 ⟨by decide, rfl⟩ (by omega) rfl ?_
  refine a_isub dX12_loadOf_22 rfl ?_
  refine a_istore (L' := [_, _, _, _, _]) dX12_loadOf_23 (Nat.le_of_ble_eq_true rfl) rfl ?_
  refine a_iload dX12_loadOf_25 rfl ?_
  refine a_tif_ge (tgt := 41) (pj := 43) (a := (I 71 (24 * l + j) - I 71 (24 * l + i))) (b := (I 71 (24 * l + j) - I 71 (24 * l + i) + ctR I l)) dX12_loadOf_27 (by decide) (fun kj => ?_) (fun kj => ?_) ?_
  · refine a_iload dX12_loadOf_41 rfl ?_
    exact kj
  · refine a_iload dX12_loadOf_30 rfl ?_
    refine a_aload_n dX12_loadOf_32 rfl ?_
    refine a_iload_n dX12_loadOf_33 rfl ?_
    refine a_callVi (As := [_]) dX12_loadOf_34 km_X12_142 ⟨by decide, _, _, _, rfl, rfl⟩ rfl rfl (Nat.le_of_ble_eq_true rfl) ?_
    refine c_counterOf hl ?_
    refine a_iadd dX12_loadOf_37 rfl ?_
    refine a_goto (tgt := 43) dX12_loadOf_38 (by decide) ?_
    exact kj
  exact a_ireturn dX12_loadOf_43 ⟨_, rfl, hK⟩

set_option maxHeartbeats 4000000 in
set_option maxRecDepth 100000 in
theorem c_load {G : am_G} {d : Nat} {I : am_I} {J : am_J} {K : Int32 → am_I → am_J → Prop} {x y z : Int32} {n : Nat} (hn : I 63 4 = nI n) (hn12 : n ≤ 12) (h1 : ∀ l i j, l < n → x = nI l → kdC I l → i < j → j < 24 → y = nI i → z = nI j → I 71 (24 * l + i) ≠ -9 → I 71 (24 * l + j) ≠ -9 → K (if ctR I l ≤ I 69 l * nI (j - i) then 0 else 1) I (am_upJ J 63 2 (ldR I l i j).toInt64))
  (h4 : ∀ l i j, l < n → x = nI l → kdC I l → i < j → j < 24 → y = nI i → z = nI j → (I 71 (24 * l + i) = -9 ∨ I 71 (24 * l + j) = -9) → K (-3) (mMeet I 1) J)
  (h3 : ∀ l, l < n → x = nI l → ¬ kdC I l → K (-3) (mMeet I 3) J) (h2 : ∀ l, l < n → x = nI l → kdC I l → ¬ ((nI 0 ≤ y ∧ y ≤ nI 23) ∧ (nI 0 ≤ z ∧ z ≤ nI 23) ∧ y < z) → K (-3) (mMeet I 2) J) (h0 : ¬ isLn n x → K (-1) I J) : CMi G (d + 2) yX12_load [.ref 63, .int x, .int y, .int z] I J K := by
  refine CM.of (L0 := [_, _, _, _]) cX12_load 4 (some .int) (by decide) (by decide) kcX12_load (Nat.le_of_ble_eq_true rfl) rfl ?_
  refine a_aload_n dX12_load_0 rfl ?_
  refine a_iload_n dX12_load_1 rfl ?_
  refine a_callVi (As := [_]) dX12_load_2 km_X12_130 ⟨by decide, _, _, _, rfl, rfl⟩ rfl rfl (Nat.le_of_ble_eq_true rfl) ?_
  refine c_isLine hn (by omega) (fun l hl e1 => ?_) (fun e1 => ?_)
  · subst e1
    have hl12 : l < 12 := by omega
    refine a_if_ne (tgt := 10) dX12_load_5 (by decide) (fun h5 => ?_) (fun h5 => ?_)
    · refine a_aload_n dX12_load_10 rfl ?_
      refine a_iload_n dX12_load_11 rfl ?_
      refine a_callVi (As := [_]) dX12_load_12 km_X12_153 ⟨by decide, _, _, _, rfl, rfl⟩ rfl rfl (Nat.le_of_ble_eq_true rfl) ?_
      refine c_counts hl12 (fun ec => ?_) (fun ec => ?_)
      · refine a_if_ne (tgt := 24) dX12_load_15 (by decide) (fun h15 => ?_) (fun h15 => ?_)
        · refine a_iload_n dX12_load_24 rfl ?_
          refine a_iconst (v := nI 0) dX12_load_25 (by decide) ?_
          refine a_bipush (v := nI 23) dX12_load_26 (by decide) ?_
          refine a_callSi (As := [_, _, _]) dX12_load_28 km_X12_122 rfl rfl (Nat.le_of_ble_eq_true rfl) ?_
          refine c_in (fun e1 e2 => ?_) (fun e1 => ?_)
          · refine a_if_eq (tgt := 49) dX12_load_31 (by decide) (fun h31 => ?_) (fun h31 => ?_)
            · exact absurd h31 (by decide)
            · refine a_iload_n dX12_load_34 rfl ?_
              refine a_iconst (v := nI 0) dX12_load_35 (by decide) ?_
              refine a_bipush (v := nI 23) dX12_load_36 (by decide) ?_
              refine a_callSi (As := [_, _, _]) dX12_load_38 km_X12_122 rfl rfl (Nat.le_of_ble_eq_true rfl) ?_
              refine c_in (fun e3 e4 => ?_) (fun e3 => ?_)
              · refine a_if_eq (tgt := 49) dX12_load_41 (by decide) (fun h41 => ?_) (fun h41 => ?_)
                · exact absurd h41 (by decide)
                · refine a_iload_n dX12_load_44 rfl ?_
                  refine a_iload_n dX12_load_45 rfl ?_
                  refine a_icmp_lt (tgt := 55) dX12_load_46 (by decide) (fun h46 => ?_) (fun h46 => ?_)
                  · obtain ⟨i, hi, ei⟩ := (rg_iff1 (n := 23) (by decide)).mp ⟨e1, e2⟩
                    obtain ⟨j, hj, ej⟩ := (rg_iff1 (n := 23) (by decide)).mp ⟨e3, e4⟩
                    subst ei ej
                    have hij : i < j := (nI_ltI (by omega) (by omega)).mp h46
                    refine a_aload_n dX12_load_55 rfl ?_
                    refine a_getr dX12_load_56 kf_X12_36 ⟨by decide, _, rfl, rfl⟩ ?_
                    refine a_bipush (v := nI 24) dX12_load_59 (by decide) ?_
                    refine a_iload_n dX12_load_61 rfl ?_
                    refine a_imul dX12_load_62 (by first | exact pk_mul _ _ | rfl) ?_
                    refine a_iload_n dX12_load_63 rfl ?_
                    refine a_iadd dX12_load_64 (by first | exact nI_add _ _ | rfl) ?_
                    refine a_iald dX12_load_65 ⟨by decide, rfl⟩ (by omega) rfl ?_
                    refine a_bipush (v := (-9)) dX12_load_66 (by decide) ?_
                    refine a_icmp_eq (tgt := 87) dX12_load_68 (by decide) (fun h68 => ?_) (fun h68 => ?_)
                    · refine a_aload_n dX12_load_87 rfl ?_
                      refine a_iconst (v := nI 1) dX12_load_88 (by decide) ?_
                      refine a_callVi (As := [_]) dX12_load_89 km_X12_138 ⟨by decide, _, _, _, rfl, rfl⟩ rfl rfl (Nat.le_of_ble_eq_true rfl) ?_
                      refine c_meets (by decide) ?_
                      exact a_ireturn dX12_load_92 ⟨_, rfl, (h4 l i j hl rfl ec hij (by omega) rfl rfl (Or.inl h68))⟩
                    · refine a_aload_n dX12_load_71 rfl ?_
                      refine a_getr dX12_load_72 kf_X12_36 ⟨by decide, _, rfl, rfl⟩ ?_
                      refine a_bipush (v := nI 24) dX12_load_75 (by decide) ?_
                      refine a_iload_n dX12_load_77 rfl ?_
                      refine a_imul dX12_load_78 (by first | exact pk_mul _ _ | rfl) ?_
                      refine a_iload_n dX12_load_79 rfl ?_
                      refine a_iadd dX12_load_80 (by first | exact nI_add _ _ | rfl) ?_
                      refine a_iald dX12_load_81 ⟨by decide, rfl⟩ (by omega) rfl ?_
                      refine a_bipush (v := (-9)) dX12_load_82 (by decide) ?_
                      refine a_icmp_ne (tgt := 93) dX12_load_84 (by decide) (fun h84 => ?_) (fun h84 => ?_)
                      · refine a_aload_n dX12_load_93 rfl ?_
                        refine a_aload_n dX12_load_94 rfl ?_
                        refine a_iload_n dX12_load_95 rfl ?_
                        refine a_iload_n dX12_load_96 rfl ?_
                        refine a_iload_n dX12_load_97 rfl ?_
                        refine a_callVi (As := [_, _, _]) dX12_load_98 km_X12_156 ⟨by decide, _, _, _, rfl, rfl⟩ rfl rfl (Nat.le_of_ble_eq_true rfl) ?_
                        refine c_loadOf hl12 (by omega) (by omega) ?_
                        refine a_i2l dX12_load_101 rfl ?_
                        refine a_aload_n dX12_load_102 rfl ?_
                        refine a_getr dX12_load_103 kf_X12_30 ⟨by decide, _, rfl, rfl⟩ ?_
                        refine a_iload_n dX12_load_106 rfl ?_
                        refine a_iald dX12_load_107 ⟨by decide, rfl⟩ (by omega) rfl ?_
                        refine a_iload_n dX12_load_108 rfl ?_
                        refine a_iload_n dX12_load_109 rfl ?_
                        refine a_isub dX12_load_110 (pk_sub (by omega)) ?_
                        refine a_imul dX12_load_111 rfl ?_
                        refine a_aload_n dX12_load_112 rfl ?_
                        refine a_iload_n dX12_load_113 rfl ?_
                        refine a_callVi (As := [_]) dX12_load_114 km_X12_142 ⟨by decide, _, _, _, rfl, rfl⟩ rfl rfl (Nat.le_of_ble_eq_true rfl) ?_
                        refine c_counterOf hl12 ?_
                        refine a_topi (v := ctR I l) rfl ?_
                        refine a_ticmp_ge (tgt := 124) (pj := 125) (a := (nI 0)) (b := (nI 1)) dX12_load_117 (by decide) (fun kj => ?_) (fun kj => ?_) ?_
                        · refine a_iconst (v := nI 0) dX12_load_124 (by decide) ?_
                          exact kj
                        · refine a_iconst (v := nI 1) dX12_load_120 (by decide) ?_
                          refine a_goto (tgt := 125) dX12_load_121 (by decide) ?_
                          exact kj
                        refine a_callVi (As := [_, _]) dX12_load_125 km_X12_160 ⟨by decide, _, _, _, rfl, rfl⟩ rfl rfl (Nat.le_of_ble_eq_true rfl) ?_
                        refine c_tell ?_
                        exact a_ireturn dX12_load_128 ⟨_, rfl, (h1 l i j hl rfl ec hij (by omega) rfl rfl h68 h84)⟩
                      · refine a_aload_n dX12_load_87 rfl ?_
                        refine a_iconst (v := nI 1) dX12_load_88 (by decide) ?_
                        refine a_callVi (As := [_]) dX12_load_89 km_X12_138 ⟨by decide, _, _, _, rfl, rfl⟩ rfl rfl (Nat.le_of_ble_eq_true rfl) ?_
                        refine c_meets (by decide) ?_
                        exact a_ireturn dX12_load_92 ⟨_, rfl, (h4 l i j hl rfl ec hij (by omega) rfl rfl (Or.inr h84))⟩
                  · refine a_aload_n dX12_load_49 rfl ?_
                    refine a_iconst (v := nI 2) dX12_load_50 (by decide) ?_
                    refine a_callVi (As := [_]) dX12_load_51 km_X12_138 ⟨by decide, _, _, _, rfl, rfl⟩ rfl rfl (Nat.le_of_ble_eq_true rfl) ?_
                    refine c_meets (by decide) ?_
                    exact a_ireturn dX12_load_54 ⟨_, rfl, (h2 l hl rfl ec (fun q => h46 q.2.2))⟩
              · refine a_if_eq (tgt := 49) dX12_load_41 (by decide) (fun h41 => ?_) (fun h41 => ?_)
                · refine a_aload_n dX12_load_49 rfl ?_
                  refine a_iconst (v := nI 2) dX12_load_50 (by decide) ?_
                  refine a_callVi (As := [_]) dX12_load_51 km_X12_138 ⟨by decide, _, _, _, rfl, rfl⟩ rfl rfl (Nat.le_of_ble_eq_true rfl) ?_
                  refine c_meets (by decide) ?_
                  exact a_ireturn dX12_load_54 ⟨_, rfl, (h2 l hl rfl ec (fun q => e3 q.2.1))⟩
                · exact absurd h41 (by decide)
          · refine a_if_eq (tgt := 49) dX12_load_31 (by decide) (fun h31 => ?_) (fun h31 => ?_)
            · refine a_aload_n dX12_load_49 rfl ?_
              refine a_iconst (v := nI 2) dX12_load_50 (by decide) ?_
              refine a_callVi (As := [_]) dX12_load_51 km_X12_138 ⟨by decide, _, _, _, rfl, rfl⟩ rfl rfl (Nat.le_of_ble_eq_true rfl) ?_
              refine c_meets (by decide) ?_
              exact a_ireturn dX12_load_54 ⟨_, rfl, (h2 l hl rfl ec (fun q => e1 q.1))⟩
            · exact absurd h31 (by decide)
        · exact absurd h15 (by decide)
      · refine a_if_ne (tgt := 24) dX12_load_15 (by decide) (fun h15 => ?_) (fun h15 => ?_)
        · exact absurd h15 (by decide)
        · refine a_aload_n dX12_load_18 rfl ?_
          refine a_iconst (v := nI 3) dX12_load_19 (by decide) ?_
          refine a_callVi (As := [_]) dX12_load_20 km_X12_138 ⟨by decide, _, _, _, rfl, rfl⟩ rfl rfl (Nat.le_of_ble_eq_true rfl) ?_
          refine c_meets (by decide) ?_
          exact a_ireturn dX12_load_23 ⟨_, rfl, (h3 l hl rfl ec)⟩
    · exact absurd h5 (by decide)
  · refine a_if_ne (tgt := 10) dX12_load_5 (by decide) (fun h5 => ?_) (fun h5 => ?_)
    · exact absurd h5 (by decide)
    · refine a_iconst (v := (-1)) dX12_load_8 (by decide) ?_
      exact a_ireturn dX12_load_9 ⟨_, rfl, (h0 e1)⟩

set_option maxHeartbeats 4000000 in
set_option maxRecDepth 100000 in
theorem c_carried {G : am_G} {d : Nat} {I : am_I} {J : am_J} {K : Int32 → am_I → am_J → Prop} {x y : Int32} {n : Nat} (hn : I 63 4 = nI n) (hn12 : n ≤ 12) (h1 : ∀ l, l < n → x = nI l → (y = -9 ∨ nI 0 ≤ y ∧ y ≤ nI 200) → I 65 l ≠ nI 3 → K (I 70 l) (am_up I 70 l y) J)
  (h3 : ∀ l, l < n → x = nI l → (y = -9 ∨ nI 0 ≤ y ∧ y ≤ nI 200) → I 65 l = nI 3 → K (-3) (mMeet I 3) J) (h0 : ¬ (isLn n x ∧ (y = -9 ∨ nI 0 ≤ y ∧ y ≤ nI 200)) → K (-1) I J) : CMi G (d + 2) yX12_carried [.ref 63, .int x, .int y] I J K := by
  refine CM.of (L0 := [_, _, _, _]) cX12_carried 4 (some .int) (by decide) (by decide) kcX12_carried (Nat.le_of_ble_eq_true rfl) rfl ?_
  refine a_aload_n dX12_carried_0 rfl ?_
  refine a_iload_n dX12_carried_1 rfl ?_
  refine a_callVi (As := [_]) dX12_carried_2 km_X12_130 ⟨by decide, _, _, _, rfl, rfl⟩ rfl rfl (Nat.le_of_ble_eq_true rfl) ?_
  refine c_isLine hn (by omega) (fun l hl e1 => ?_) (fun e1 => ?_)
  · subst e1
    have hl12 : l < 12 := by omega
    refine a_if_eq (tgt := 25) dX12_carried_5 (by decide) (fun h5 => ?_) (fun h5 => ?_)
    · exact absurd h5 (by decide)
    · refine a_iload_n dX12_carried_8 rfl ?_
      refine a_bipush (v := (-9)) dX12_carried_9 (by decide) ?_
      refine a_icmp_eq (tgt := 27) dX12_carried_11 (by decide) (fun h11 => ?_) (fun h11 => ?_)
      · have hy : y = -9 ∨ nI 0 ≤ y ∧ y ≤ nI 200 := Or.inl h11
        refine a_aload_n dX12_carried_27 rfl ?_
        refine a_getr dX12_carried_28 kf_X12_17 ⟨by decide, _, rfl, rfl⟩ ?_
        refine a_iload_n dX12_carried_31 rfl ?_
        refine a_iald dX12_carried_32 ⟨by decide, rfl⟩ (by omega) rfl ?_
        refine a_iconst (v := nI 3) dX12_carried_33 (by decide) ?_
        refine a_icmp_ne (tgt := 43) dX12_carried_34 (by decide) (fun h34 => ?_) (fun h34 => ?_)
        · refine a_aload_n dX12_carried_43 rfl ?_
          refine a_getr dX12_carried_44 kf_X12_33 ⟨by decide, _, rfl, rfl⟩ ?_
          refine a_iload_n dX12_carried_47 rfl ?_
          refine a_iald dX12_carried_48 ⟨by decide, rfl⟩ (by omega) rfl ?_
          refine a_istore_n (L' := [_, _, _, _]) dX12_carried_49 (Nat.le_of_ble_eq_true rfl) rfl ?_
          refine a_aload_n dX12_carried_50 rfl ?_
          refine a_getr dX12_carried_51 kf_X12_33 ⟨by decide, _, rfl, rfl⟩ ?_
          refine a_iload_n dX12_carried_54 rfl ?_
          refine a_iload_n dX12_carried_55 rfl ?_
          refine a_iast dX12_carried_56 ⟨by decide, rfl⟩ (by omega) ?_
          refine a_iload_n dX12_carried_57 rfl ?_
          exact a_ireturn dX12_carried_58 ⟨_, rfl, (h1 l hl rfl hy h34)⟩
        · refine a_aload_n dX12_carried_37 rfl ?_
          refine a_iconst (v := nI 3) dX12_carried_38 (by decide) ?_
          refine a_callVi (As := [_]) dX12_carried_39 km_X12_138 ⟨by decide, _, _, _, rfl, rfl⟩ rfl rfl (Nat.le_of_ble_eq_true rfl) ?_
          refine c_meets (by decide) ?_
          exact a_ireturn dX12_carried_42 ⟨_, rfl, (h3 l hl rfl hy h34)⟩
      · refine a_iload_n dX12_carried_14 rfl ?_
        refine a_iconst (v := nI 0) dX12_carried_15 (by decide) ?_
        refine a_sipush (v := nI 200) dX12_carried_16 (by decide) ?_
        refine a_callSi (As := [_, _, _]) dX12_carried_19 km_X12_122 rfl rfl (Nat.le_of_ble_eq_true rfl) ?_
        refine c_in (fun e1 e2 => ?_) (fun e1 => ?_)
        · have hy : y = -9 ∨ nI 0 ≤ y ∧ y ≤ nI 200 := Or.inr ⟨e1, e2⟩
          refine a_if_ne (tgt := 27) dX12_carried_22 (by decide) (fun h22 => ?_) (fun h22 => ?_)
          · refine a_aload_n dX12_carried_27 rfl ?_
            refine a_getr dX12_carried_28 kf_X12_17 ⟨by decide, _, rfl, rfl⟩ ?_
            refine a_iload_n dX12_carried_31 rfl ?_
            refine a_iald dX12_carried_32 ⟨by decide, rfl⟩ (by omega) rfl ?_
            refine a_iconst (v := nI 3) dX12_carried_33 (by decide) ?_
            refine a_icmp_ne (tgt := 43) dX12_carried_34 (by decide) (fun h34 => ?_) (fun h34 => ?_)
            · refine a_aload_n dX12_carried_43 rfl ?_
              refine a_getr dX12_carried_44 kf_X12_33 ⟨by decide, _, rfl, rfl⟩ ?_
              refine a_iload_n dX12_carried_47 rfl ?_
              refine a_iald dX12_carried_48 ⟨by decide, rfl⟩ (by omega) rfl ?_
              refine a_istore_n (L' := [_, _, _, _]) dX12_carried_49 (Nat.le_of_ble_eq_true rfl) rfl ?_
              refine a_aload_n dX12_carried_50 rfl ?_
              refine a_getr dX12_carried_51 kf_X12_33 ⟨by decide, _, rfl, rfl⟩ ?_
              refine a_iload_n dX12_carried_54 rfl ?_
              refine a_iload_n dX12_carried_55 rfl ?_
              refine a_iast dX12_carried_56 ⟨by decide, rfl⟩ (by omega) ?_
              refine a_iload_n dX12_carried_57 rfl ?_
              exact a_ireturn dX12_carried_58 ⟨_, rfl, (h1 l hl rfl hy h34)⟩
            · refine a_aload_n dX12_carried_37 rfl ?_
              refine a_iconst (v := nI 3) dX12_carried_38 (by decide) ?_
              refine a_callVi (As := [_]) dX12_carried_39 km_X12_138 ⟨by decide, _, _, _, rfl, rfl⟩ rfl rfl (Nat.le_of_ble_eq_true rfl) ?_
              refine c_meets (by decide) ?_
              exact a_ireturn dX12_carried_42 ⟨_, rfl, (h3 l hl rfl hy h34)⟩
          · exact absurd h22 (by decide)
        · refine a_if_ne (tgt := 27) dX12_carried_22 (by decide) (fun h22 => ?_) (fun h22 => ?_)
          · exact absurd h22 (by decide)
          · refine a_iconst (v := (-1)) dX12_carried_25 (by decide) ?_
            exact a_ireturn dX12_carried_26 ⟨_, rfl, (h0 (fun q => q.2.elim h11 e1))⟩
  · refine a_if_eq (tgt := 25) dX12_carried_5 (by decide) (fun h5 => ?_) (fun h5 => ?_)
    · refine a_iconst (v := (-1)) dX12_carried_25 (by decide) ?_
      exact a_ireturn dX12_carried_26 ⟨_, rfl, (h0 (fun q => e1 q.1))⟩
    · exact absurd h5 (by decide)

set_option maxHeartbeats 4000000 in
set_option maxRecDepth 100000 in
theorem c_meter {G : am_G} {d : Nat} {I : am_I} {J : am_J} {K : Int32 → am_I → am_J → Prop} {x y z : Int32} {N : Nat} (hN : I 63 3 = nI N) (hb : N ≤ 6) (h1 : ∀ p q, p < N → q < N → p ≠ q → x = nI p → y = nI q → (z = -9 ∨ nI 0 ≤ z ∧ z ≤ nI 200) → K (I 72 (N * p + q)) (am_up I 72 (N * p + q) z) J) (h0 : ¬ (isPr N x y ∧ (z = -9 ∨ nI 0 ≤ z ∧ z ≤ nI 200)) → K (-1) I J) : CMi G (d + 3) yX12_meter [.ref 63, .int x, .int y, .int z] I J K := by
  refine CM.of (L0 := [_, _, _, _, _]) cX12_meter 5 (some .int) (by decide) (by decide) kcX12_meter (Nat.le_of_ble_eq_true rfl) rfl ?_
  refine a_aload_n dX12_meter_0 rfl ?_
  refine a_iload_n dX12_meter_1 rfl ?_
  refine a_iload_n dX12_meter_2 rfl ?_
  refine a_callVi (As := [_, _]) dX12_meter_3 km_X12_174 ⟨by decide, _, _, _, rfl, rfl⟩ rfl rfl (Nat.le_of_ble_eq_true rfl) ?_
  refine c_isPair hN (by omega) (fun p q hp hq hpq e1 e2 => ?_) (fun e1 => ?_)
  · subst e1 e2
    refine a_if_eq (tgt := 26) dX12_meter_6 (by decide) (fun h6 => ?_) (fun h6 => ?_)
    · exact absurd h6 (by decide)
    · refine a_iload_n dX12_meter_9 rfl ?_
      refine a_bipush (v := (-9)) dX12_meter_10 (by decide) ?_
      refine a_icmp_eq (tgt := 28) dX12_meter_12 (by decide) (fun h12 => ?_) (fun h12 => ?_)
      · have hz : z = -9 ∨ nI 0 ≤ z ∧ z ≤ nI 200 := Or.inl h12
        refine a_aload_n dX12_meter_28 rfl ?_
        refine a_getr dX12_meter_29 kf_X12_39 ⟨by decide, _, rfl, rfl⟩ ?_
        refine a_aload_n dX12_meter_32 rfl ?_
        refine a_geti dX12_meter_33 kf_X12_13 ⟨by decide, _, rfl, rfl⟩ hN ?_
        refine a_iload_n dX12_meter_36 rfl ?_
        refine a_imul dX12_meter_37 (by first | exact pk_mul _ _ | rfl) ?_
        refine a_iload_n dX12_meter_38 rfl ?_
        refine a_iadd dX12_meter_39 (by first | exact nI_add _ _ | rfl) ?_
        refine a_iald dX12_meter_40 ⟨by decide, rfl⟩ (ix_lt hb hp hq) rfl ?_
        refine a_istore (L' := [_, _, _, _, _]) dX12_meter_41 (Nat.le_of_ble_eq_true rfl) rfl ?_
        refine a_aload_n dX12_meter_43 rfl ?_
        refine a_getr dX12_meter_44 kf_X12_39 ⟨by decide, _, rfl, rfl⟩ ?_
        refine a_aload_n dX12_meter_47 rfl ?_
        refine a_geti dX12_meter_48 kf_X12_13 ⟨by decide, _, rfl, rfl⟩ hN ?_
        refine a_iload_n dX12_meter_51 rfl ?_
        refine a_imul dX12_meter_52 (by first | exact pk_mul _ _ | rfl) ?_
        refine a_iload_n dX12_meter_53 rfl ?_
        refine a_iadd dX12_meter_54 (by first | exact nI_add _ _ | rfl) ?_
        refine a_iload_n dX12_meter_55 rfl ?_
        refine a_iast dX12_meter_56 ⟨by decide, rfl⟩ (ix_lt hb hp hq) ?_
        refine a_iload dX12_meter_57 rfl ?_
        exact a_ireturn dX12_meter_59 ⟨_, rfl, (h1 p q hp hq hpq rfl rfl hz)⟩
      · refine a_iload_n dX12_meter_15 rfl ?_
        refine a_iconst (v := nI 0) dX12_meter_16 (by decide) ?_
        refine a_sipush (v := nI 200) dX12_meter_17 (by decide) ?_
        refine a_callSi (As := [_, _, _]) dX12_meter_20 km_X12_122 rfl rfl (Nat.le_of_ble_eq_true rfl) ?_
        refine c_in (fun e1 e2 => ?_) (fun e1 => ?_)
        · have hz : z = -9 ∨ nI 0 ≤ z ∧ z ≤ nI 200 := Or.inr ⟨e1, e2⟩
          refine a_if_ne (tgt := 28) dX12_meter_23 (by decide) (fun h23 => ?_) (fun h23 => ?_)
          · refine a_aload_n dX12_meter_28 rfl ?_
            refine a_getr dX12_meter_29 kf_X12_39 ⟨by decide, _, rfl, rfl⟩ ?_
            refine a_aload_n dX12_meter_32 rfl ?_
            refine a_geti dX12_meter_33 kf_X12_13 ⟨by decide, _, rfl, rfl⟩ hN ?_
            refine a_iload_n dX12_meter_36 rfl ?_
            refine a_imul dX12_meter_37 (by first | exact pk_mul _ _ | rfl) ?_
            refine a_iload_n dX12_meter_38 rfl ?_
            refine a_iadd dX12_meter_39 (by first | exact nI_add _ _ | rfl) ?_
            refine a_iald dX12_meter_40 ⟨by decide, rfl⟩ (ix_lt hb hp hq) rfl ?_
            refine a_istore (L' := [_, _, _, _, _]) dX12_meter_41 (Nat.le_of_ble_eq_true rfl) rfl ?_
            refine a_aload_n dX12_meter_43 rfl ?_
            refine a_getr dX12_meter_44 kf_X12_39 ⟨by decide, _, rfl, rfl⟩ ?_
            refine a_aload_n dX12_meter_47 rfl ?_
            refine a_geti dX12_meter_48 kf_X12_13 ⟨by decide, _, rfl, rfl⟩ hN ?_
            refine a_iload_n dX12_meter_51 rfl ?_
            refine a_imul dX12_meter_52 (by first | exact pk_mul _ _ | rfl) ?_
            refine a_iload_n dX12_meter_53 rfl ?_
            refine a_iadd dX12_meter_54 (by first | exact nI_add _ _ | rfl) ?_
            refine a_iload_n dX12_meter_55 rfl ?_
            refine a_iast dX12_meter_56 ⟨by decide, rfl⟩ (ix_lt hb hp hq) ?_
            refine a_iload dX12_meter_57 rfl ?_
            exact a_ireturn dX12_meter_59 ⟨_, rfl, (h1 p q hp hq hpq rfl rfl hz)⟩
          · exact absurd h23 (by decide)
        · refine a_if_ne (tgt := 28) dX12_meter_23 (by decide) (fun h23 => ?_) (fun h23 => ?_)
          · exact absurd h23 (by decide)
          · refine a_iconst (v := (-1)) dX12_meter_26 (by decide) ?_
            exact a_ireturn dX12_meter_27 ⟨_, rfl, (h0 (fun q => q.2.elim h12 e1))⟩
  · refine a_if_eq (tgt := 26) dX12_meter_6 (by decide) (fun h6 => ?_) (fun h6 => ?_)
    · refine a_iconst (v := (-1)) dX12_meter_26 (by decide) ?_
      exact a_ireturn dX12_meter_27 ⟨_, rfl, (h0 (fun q => e1 q.1))⟩
    · exact absurd h6 (by decide)

set_option maxHeartbeats 4000000 in
set_option maxRecDepth 100000 in
theorem c_base {G : am_G} {d : Nat} {I : am_I} {J : am_J} {K : Int32 → am_I → am_J → Prop} {x y z : Int32} {N : Nat} (hN : I 63 3 = nI N) (hb : N ≤ 6) (h1 : ∀ p q v, p < N → q < N → p ≠ q → x = nI p → y = nI q → v ≤ 200 → z = nI v → K (I 73 (N * p + q)) (am_up I 73 (N * p + q) z) J) (h0 : ¬ (isPr N x y ∧ nI 0 ≤ z ∧ z ≤ nI 200) → K (-1) I J) : CMi G (d + 3) yX12_base [.ref 63, .int x, .int y, .int z] I J K := by
  refine CM.of (L0 := [_, _, _, _, _]) cX12_base 5 (some .int) (by decide) (by decide) kcX12_base (Nat.le_of_ble_eq_true rfl) rfl ?_
  refine a_aload_n dX12_base_0 rfl ?_
  refine a_iload_n dX12_base_1 rfl ?_
  refine a_iload_n dX12_base_2 rfl ?_
  refine a_callVi (As := [_, _]) dX12_base_3 km_X12_174 ⟨by decide, _, _, _, rfl, rfl⟩ rfl rfl (Nat.le_of_ble_eq_true rfl) ?_
  refine c_isPair hN (by omega) (fun p q hp hq hpq e1 e2 => ?_) (fun e1 => ?_)
  · subst e1 e2
    refine a_if_eq (tgt := 20) dX12_base_6 (by decide) (fun h6 => ?_) (fun h6 => ?_)
    · exact absurd h6 (by decide)
    · refine a_iload_n dX12_base_9 rfl ?_
      refine a_iconst (v := nI 0) dX12_base_10 (by decide) ?_
      refine a_sipush (v := nI 200) dX12_base_11 (by decide) ?_
      refine a_callSi (As := [_, _, _]) dX12_base_14 km_X12_122 rfl rfl (Nat.le_of_ble_eq_true rfl) ?_
      refine c_in (fun e1 e2 => ?_) (fun e1 => ?_)
      · obtain ⟨v, hv, ev⟩ := (rg_iff1 (n := 200) (by decide)).mp ⟨e1, e2⟩
        refine a_if_ne (tgt := 22) dX12_base_17 (by decide) (fun h17 => ?_) (fun h17 => ?_)
        · refine a_aload_n dX12_base_22 rfl ?_
          refine a_getr dX12_base_23 kf_X12_42 ⟨by decide, _, rfl, rfl⟩ ?_
          refine a_aload_n dX12_base_26 rfl ?_
          refine a_geti dX12_base_27 kf_X12_13 ⟨by decide, _, rfl, rfl⟩ hN ?_
          refine a_iload_n dX12_base_30 rfl ?_
          refine a_imul dX12_base_31 (by first | exact pk_mul _ _ | rfl) ?_
          refine a_iload_n dX12_base_32 rfl ?_
          refine a_iadd dX12_base_33 (by first | exact nI_add _ _ | rfl) ?_
          refine a_iald dX12_base_34 ⟨by decide, rfl⟩ (ix_lt hb hp hq) rfl ?_
          refine a_istore (L' := [_, _, _, _, _]) dX12_base_35 (Nat.le_of_ble_eq_true rfl) rfl ?_
          refine a_aload_n dX12_base_37 rfl ?_
          refine a_getr dX12_base_38 kf_X12_42 ⟨by decide, _, rfl, rfl⟩ ?_
          refine a_aload_n dX12_base_41 rfl ?_
          refine a_geti dX12_base_42 kf_X12_13 ⟨by decide, _, rfl, rfl⟩ hN ?_
          refine a_iload_n dX12_base_45 rfl ?_
          refine a_imul dX12_base_46 (by first | exact pk_mul _ _ | rfl) ?_
          refine a_iload_n dX12_base_47 rfl ?_
          refine a_iadd dX12_base_48 (by first | exact nI_add _ _ | rfl) ?_
          refine a_iload_n dX12_base_49 rfl ?_
          refine a_iast dX12_base_50 ⟨by decide, rfl⟩ (ix_lt hb hp hq) ?_
          refine a_iload dX12_base_51 rfl ?_
          exact a_ireturn dX12_base_53 ⟨_, rfl, (h1 p q v hp hq hpq rfl rfl hv ev)⟩
        · exact absurd h17 (by decide)
      · refine a_if_ne (tgt := 22) dX12_base_17 (by decide) (fun h17 => ?_) (fun h17 => ?_)
        · exact absurd h17 (by decide)
        · refine a_iconst (v := (-1)) dX12_base_20 (by decide) ?_
          exact a_ireturn dX12_base_21 ⟨_, rfl, (h0 (fun q => e1 q.2))⟩
  · refine a_if_eq (tgt := 20) dX12_base_6 (by decide) (fun h6 => ?_) (fun h6 => ?_)
    · refine a_iconst (v := (-1)) dX12_base_20 (by decide) ?_
      exact a_ireturn dX12_base_21 ⟨_, rfl, (h0 (fun q => e1 q.1))⟩
    · exact absurd h6 (by decide)

