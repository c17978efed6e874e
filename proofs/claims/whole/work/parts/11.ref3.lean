/-! ===== the reference: mean, guess, SHEETS, what is told ===== -/
theorem i32_sub_ne {a b : Int32} (h : ¬ a = b) : ¬ b - a = 0 := fun e => h (by
  have h1 := congrArg (· + a) e
  simp at h1
  exact h1.symm)
/-- first, last and sum of mean(), behind h HOURS -/
def mnS (I : am_I) (l : Nat) : Nat → Int32 × Int32 × Int32
  | 0 => (-9, -9, 0)
  | h + 1 => if I 71 (24 * l + h) = -9 then mnS I l h else (if 0 ≤ (mnS I l h).1 then (mnS I l h).1 else nI h, nI h, (mnS I l h).2.2 + (if (mnS I l h).2.1 < 0 then nI 0 else ldR I l (mnS I l h).2.1.toNatClampNeg h))
theorem mnS_lost {I : am_I} {l h : Nat} (e : I 71 (24 * l + h) = -9) : mnS I l (h + 1) = mnS I l h := by
  rw [mnS, if_pos e]
theorem mnS_kept {I : am_I} {l h : Nat} (e : ¬ I 71 (24 * l + h) = -9) : mnS I l (h + 1) = (if 0 ≤ (mnS I l h).1 then (mnS I l h).1 else nI h, nI h, (mnS I l h).2.2 + (if (mnS I l h).2.1 < 0 then nI 0 else ldR I l (mnS I l h).2.1.toNatClampNeg h)) := by
  rw [mnS, if_neg e]

set_option maxHeartbeats 4000000 in
set_option maxRecDepth 100000 in
theorem lp_mean {G : am_G} {d : Nat} {I0 : am_I} {J : am_J} {K : Int32 → am_I → am_J → Prop} {l : Nat} (hl : l < 12) (h1 : (mnS I0 l 24).1 ≠ (mnS I0 l 24).2.1 → K ((mnS I0 l 24).2.2 / ((mnS I0 l 24).2.1 - (mnS I0 l 24).1)) I0 J) (h4 : (mnS I0 l 24).1 = (mnS I0 l 24).2.1 → K (-3) (mMeet I0 4) J) : ∀ i, i ≤ 24 → ∀ (f la s : Int32), (f, la, s) = mnS I0 l i → (la = -9 ∨ ∃ j, j < i ∧ la = nI j) → AW G cX12_mean 6 RX12 (d + 2) (am_ex G (some .int) (fun r I J => ∃ x, r = some (.int x) ∧ K x I J)) 36 [some (.ref 63), some (.int (nI l)), some (.int f), some (.int la), some (.int s), some (.int (nI i))] [] I0 J := by
  refine am_dn 24 (fun i hi ih => ?_)
  intro f la s hI hla
  refine a_iload dX12_mean_36 rfl ?_
  refine a_bipush (v := nI 24) dX12_mean_38 (by decide) ?_
  refine a_icmp_geN (tgt := 101) dX12_mean_40 (by decide) (by omega) (by omega) (fun h => ?_) (fun h => ?_)
  · obtain rfl : i = 24 := by omega
    rw [← hI] at h1 h4
    refine a_iload_n dX12_mean_101 rfl ?_
    refine a_iload_n dX12_mean_102 rfl ?_
    refine a_icmp_ne (tgt := 114) dX12_mean_103 (by decide) (fun h103 => ?_) (fun h103 => ?_)
    · refine a_iload dX12_mean_114 rfl ?_
      refine a_iload_n dX12_mean_116 rfl ?_
      refine a_iload_n dX12_mean_117 rfl ?_
      refine a_isub dX12_mean_118 rfl ?_
      refine a_idiv dX12_mean_119 (i32_sub_ne h103) rfl ?_
      exact a_ireturn dX12_mean_120 ⟨_, rfl, (h1 h103)⟩
    · refine a_aload_n dX12_mean_106 rfl ?_
      refine a_iconst (v := nI 4) dX12_mean_107 (by decide) ?_
      refine a_callVi (As := [_]) dX12_mean_108 km_X12_138 ⟨by decide, _, _, _, rfl, rfl⟩ rfl rfl (Nat.le_of_ble_eq_true rfl) ?_
      refine c_meets (by decide) ?_
      refine a_goto (tgt := 120) dX12_mean_111 (by decide) ?_
      exact a_ireturn dX12_mean_120 ⟨_, rfl, (h4 h103)⟩
  · refine a_aload_n dX12_mean_43 rfl ?_
    refine a_getr dX12_mean_44 kf_X12_36 ⟨by decide, _, rfl, rfl⟩ ?_
    refine a_bipush (v := nI 24) dX12_mean_47 (by decide) ?_
    refine a_iload_n dX12_mean_49 rfl ?_
    refine a_imul dX12_mean_50 (by first | exact pk_mul _ _ | rfl) ?_
    refine a_iload dX12_mean_51 rfl ?_
    refine a_iadd dX12_mean_53 (by first | exact nI_add _ _ | rfl) ?_
    refine a_iald dX12_mean_54 ⟨by decide, rfl⟩ (by omega) rfl ?_
    refine a_bipush (v := (-9)) dX12_mean_55 (by decide) ?_
    refine a_icmp_eq (tgt := 95) dX12_mean_57 (by decide) (fun h57 => ?_) (fun h57 => ?_)
    · refine a_iinc (L' := [_, _, _, _, _, _]) dX12_mean_95 rfl (nI_inc _) rfl ?_
      refine a_goto (tgt := 36) dX12_mean_98 (by decide) ?_
      exact ih (i + 1) (by omega) (by omega) f la s (by rw [mnS_lost h57]; exact hI) (hla.imp id (fun ⟨j, a, b⟩ => ⟨j, by omega, b⟩))
    · rcases hla with rfl | ⟨j, hj, rfl⟩
      · refine a_iload dX12_mean_60 rfl ?_
        refine a_iload_n dX12_mean_62 rfl ?_
        refine a_if_lt (tgt := 77) dX12_mean_63 (by decide) (fun h63 => ?_) (fun h63 => ?_)
        · refine a_iconst (v := nI 0) dX12_mean_77 (by decide) ?_
          refine a_iadd dX12_mean_78 rfl ?_
          refine a_istore (L' := [_, _, _, _, _, _]) dX12_mean_79 (Nat.le_of_ble_eq_true rfl) rfl ?_
          refine a_iload_n dX12_mean_81 rfl ?_
          refine a_tif_ge (tgt := 90) (pj := 91) (a := f) (b := (nI i)) dX12_mean_82 (by decide) (fun kj => ?_) (fun kj => ?_) ?_
          · refine a_iload_n dX12_mean_90 rfl ?_
            exact kj
          · refine a_iload dX12_mean_85 rfl ?_
            refine a_goto (tgt := 91) dX12_mean_87 (by decide) ?_
            exact kj
          refine a_istore_n (L' := [_, _, _, _, _, _]) dX12_mean_91 (Nat.le_of_ble_eq_true rfl) rfl ?_
          refine a_iload dX12_mean_92 rfl ?_
          refine a_istore_n (L' := [_, _, _, _, _, _]) dX12_mean_94 (Nat.le_of_ble_eq_true rfl) rfl ?_
          refine a_iinc (L' := [_, _, _, _, _, _]) dX12_mean_95 rfl (nI_inc _) rfl ?_
          refine a_goto (tgt := 36) dX12_mean_98 (by decide) ?_
          exact ih (i + 1) (by omega) (by omega) _ _ _ (by rw [mnS_kept h57, ← hI]; try rfl) (Or.inr ⟨i, by omega, rfl⟩)
        · exact absurd (show (-9 : Int32) < 0 by decide) h63
      · refine a_iload dX12_mean_60 rfl ?_
        refine a_iload_n dX12_mean_62 rfl ?_
        refine a_if_lt (tgt := 77) dX12_mean_63 (by decide) (fun h63 => ?_) (fun h63 => ?_)
        · exact absurd h63 (nI_pos (by omega))
        · refine a_aload_n dX12_mean_66 rfl ?_
          refine a_iload_n dX12_mean_67 rfl ?_
          refine a_iload_n dX12_mean_68 rfl ?_
          refine a_iload dX12_mean_69 rfl ?_
          refine a_callVi (As := [_, _, _]) dX12_mean_71 km_X12_156 ⟨by decide, _, _, _, rfl, rfl⟩ rfl rfl (Nat.le_of_ble_eq_true rfl) ?_
          refine c_loadOf hl (by omega) (by omega) ?_
          refine a_goto (tgt := 78) dX12_mean_74 (by decide) ?_
          refine a_iadd dX12_mean_78 (show _ = s + (if nI j < 0 then nI 0 else ldR I0 l (nI j).toNatClampNeg i) by rw [if_neg (nI_pos (by omega)), nI_clamp (by omega)]) ?_
          refine a_istore (L' := [_, _, _, _, _, _]) dX12_mean_79 (Nat.le_of_ble_eq_true rfl) rfl ?_
          refine a_iload_n dX12_mean_81 rfl ?_
          refine a_tif_ge (tgt := 90) (pj := 91) (a := f) (b := (nI i)) dX12_mean_82 (by decide) (fun kj => ?_) (fun kj => ?_) ?_
          · refine a_iload_n dX12_mean_90 rfl ?_
            exact kj
          · refine a_iload dX12_mean_85 rfl ?_
            refine a_goto (tgt := 91) dX12_mean_87 (by decide) ?_
            exact kj
          refine a_istore_n (L' := [_, _, _, _, _, _]) dX12_mean_91 (Nat.le_of_ble_eq_true rfl) rfl ?_
          refine a_iload dX12_mean_92 rfl ?_
          refine a_istore_n (L' := [_, _, _, _, _, _]) dX12_mean_94 (Nat.le_of_ble_eq_true rfl) rfl ?_
          refine a_iinc (L' := [_, _, _, _, _, _]) dX12_mean_95 rfl (nI_inc _) rfl ?_
          refine a_goto (tgt := 36) dX12_mean_98 (by decide) ?_
          exact ih (i + 1) (by omega) (by omega) _ _ _ (by rw [mnS_kept h57, ← hI]; try rfl) (Or.inr ⟨i, by omega, rfl⟩)

set_option maxHeartbeats 4000000 in
set_option maxRecDepth 100000 in
theorem c_mean {G : am_G} {d : Nat} {I : am_I} {J : am_J} {K : Int32 → am_I → am_J → Prop} {x : Int32} {n : Nat} (hn : I 63 4 = nI n) (hn12 : n ≤ 12) (h1 : ∀ l, l < n → x = nI l → kdC I l → (mnS I l 24).1 ≠ (mnS I l 24).2.1 → K ((mnS I l 24).2.2 / ((mnS I l 24).2.1 - (mnS I l 24).1)) I J) (h4 : ∀ l, l < n → x = nI l → kdC I l → (mnS I l 24).1 = (mnS I l 24).2.1 → K (-3) (mMeet I 4) J)
  (h3 : ∀ l, l < n → x = nI l → ¬ kdC I l → K (-3) (mMeet I 3) J) (h0 : ¬ isLn n x → K (-1) I J) : CMi G (d + 2) yX12_mean [.ref 63, .int x] I J K := by
  refine CM.of (L0 := [_, _, _, _, _, _]) cX12_mean 6 (some .int) (by decide) (by decide) kcX12_mean (Nat.le_of_ble_eq_true rfl) rfl ?_
  refine a_aload_n dX12_mean_0 rfl ?_
  refine a_iload_n dX12_mean_1 rfl ?_
  refine a_callVi (As := [_]) dX12_mean_2 km_X12_130 ⟨by decide, _, _, _, rfl, rfl⟩ rfl rfl (Nat.le_of_ble_eq_true rfl) ?_
  refine c_isLine hn (by omega) (fun l hl e1 => ?_) (fun e1 => ?_)
  · subst e1
    have hl12 : l < 12 := by omega
    refine a_if_ne (tgt := 10) dX12_mean_5 (by decide) (fun h5 => ?_) (fun h5 => ?_)
    · refine a_aload_n dX12_mean_10 rfl ?_
      refine a_iload_n dX12_mean_11 rfl ?_
      refine a_callVi (As := [_]) dX12_mean_12 km_X12_153 ⟨by decide, _, _, _, rfl, rfl⟩ rfl rfl (Nat.le_of_ble_eq_true rfl) ?_
      refine c_counts hl12 (fun ec => ?_) (fun ec => ?_)
      · refine a_if_ne (tgt := 24) dX12_mean_15 (by decide) (fun h15 => ?_) (fun h15 => ?_)
        · refine a_bipush (v := (-9)) dX12_mean_24 (by decide) ?_
          refine a_istore_n (L' := [_, _, _, _, _, _]) dX12_mean_26 (Nat.le_of_ble_eq_true rfl) rfl ?_
          refine a_bipush (v := (-9)) dX12_mean_27 (by decide) ?_
          refine a_istore_n (L' := [_, _, _, _, _, _]) dX12_mean_29 (Nat.le_of_ble_eq_true rfl) rfl ?_
          refine a_iconst (v := nI 0) dX12_mean_30 (by decide) ?_
          refine a_istore (L' := [_, _, _, _, _, _]) dX12_mean_31 (Nat.le_of_ble_eq_true rfl) rfl ?_
          refine a_iconst (v := nI 0) dX12_mean_33 (by decide) ?_
          refine a_istore (L' := [_, _, _, _, _, _]) dX12_mean_34 (Nat.le_of_ble_eq_true rfl) rfl ?_
          exact lp_mean hl12 (h1 l hl rfl ec) (h4 l hl rfl ec) 0 (by omega) _ _ _ rfl (Or.inl rfl)
        · exact absurd h15 (by decide)
      · refine a_if_ne (tgt := 24) dX12_mean_15 (by decide) (fun h15 => ?_) (fun h15 => ?_)
        · exact absurd h15 (by decide)
        · refine a_aload_n dX12_mean_18 rfl ?_
          refine a_iconst (v := nI 3) dX12_mean_19 (by decide) ?_
          refine a_callVi (As := [_]) dX12_mean_20 km_X12_138 ⟨by decide, _, _, _, rfl, rfl⟩ rfl rfl (Nat.le_of_ble_eq_true rfl) ?_
          refine c_meets (by decide) ?_
          exact a_ireturn dX12_mean_23 ⟨_, rfl, (h3 l hl rfl ec)⟩
    · exact absurd h5 (by decide)
  · refine a_if_ne (tgt := 10) dX12_mean_5 (by decide) (fun h5 => ?_) (fun h5 => ?_)
    · exact absurd h5 (by decide)
    · refine a_iconst (v := (-1)) dX12_mean_8 (by decide) ?_
      exact a_ireturn dX12_mean_9 ⟨_, rfl, (h0 e1)⟩

def sI (f : Nat → Int32) : Nat → Int32
  | 0 => nI 0
  | n + 1 => sI f n + f n
def cvR (I : am_I) (l : Nat) : Int32 := if I 70 l = -9 then nI 0 else I 70 l
def goR (I : am_I) (x : Int32) (l : Nat) : Int32 := if I 66 l = x then cvR I l else nI 0
def giR (I : am_I) (x : Int32) (l : Nat) : Int32 := if I 67 l = x then cvR I l else nI 0
set_option maxHeartbeats 4000000 in
set_option maxRecDepth 100000 in
theorem lp_guess {G : am_G} {d : Nat} {I0 : am_I} {J : am_J} {K : Int32 → am_I → am_J → Prop} {x y : Int32} {n : Nat} {v7 : Option Value} (hn : I0 63 4 = nI n) (hn12 : n ≤ 12) (h1 : sI (cvR I0) n ≠ 0 → K (sI (goR I0 x) n * sI (giR I0 y) n / sI (cvR I0) n) I0 J) (h4 : sI (cvR I0) n = 0 → K (-3) (mMeet I0 4) J) : ∀ i, i ≤ n → ∀ (v7 : Option Value), AW G cX12_guess 8 RX12 (d + 1) (am_ex G (some .int) (fun r I J => ∃ x, r = some (.int x) ∧ K x I J)) 22 [some (.ref 63), some (.int x), some (.int y), some (.int (sI (goR I0 x) i)), some (.int (sI (giR I0 y) i)), some (.int (sI (cvR I0) i)), some (.int (nI i)), v7] [] I0 J := by
  refine am_dn (n) (fun i hi ih => ?_)
  intro v7
  refine a_iload dX12_guess_22 rfl ?_
  refine a_aload_n dX12_guess_24 rfl ?_
  refine a_geti dX12_guess_25 kf_X12_115 ⟨by decide, _, rfl, rfl⟩ hn ?_
  refine a_icmp_geN (tgt := 111) dX12_guess_28 (by decide) (by omega) (by omega) (fun h => ?_) (fun h => ?_)
  · obtain rfl : i = n := by omega
    refine a_iload dX12_guess_111 rfl ?_
    refine a_if_ne (tgt := 124) dX12_guess_113 (by decide) (fun h113 => ?_) (fun h113 => ?_)
    · refine a_iload_n dX12_guess_124 rfl ?_
      refine a_iload dX12_guess_125 rfl ?_
      refine a_imul dX12_guess_127 rfl ?_
      refine a_iload dX12_guess_128 rfl ?_
      refine a_idiv dX12_guess_130 h113 rfl ?_
      exact a_ireturn dX12_guess_131 ⟨_, rfl, (h1 h113)⟩
    · refine a_aload_n dX12_guess_116 rfl ?_
      refine a_iconst (v := nI 4) dX12_guess_117 (by decide) ?_
      refine a_callVi (As := [_]) dX12_guess_118 km_X12_138 ⟨by decide, _, _, _, rfl, rfl⟩ rfl rfl (Nat.le_of_ble_eq_true rfl) ?_
      refine c_meets (by decide) ?_
      refine a_goto (tgt := 131) dX12_guess_121 (by decide) ?_
      exact a_ireturn dX12_guess_131 ⟨_, rfl, (h4 h113)⟩
  · refine a_aload_n dX12_guess_31 rfl ?_
    refine a_getr dX12_guess_32 kf_X12_33 ⟨by decide, _, rfl, rfl⟩ ?_
    refine a_iload dX12_guess_35 rfl ?_
    refine a_iald dX12_guess_37 ⟨by decide, rfl⟩ (by omega) rfl ?_
    refine a_bipush (v := (-9)) dX12_guess_38 (by decide) ?_
    refine a_ticmp_ne (tgt := 47) (pj := 54) (a := (I0 70 i)) (b := (nI 0)) dX12_guess_40 (by decide) (fun kj => ?_) (fun kj => ?_) ?_
    · refine a_aload_n dX12_guess_47 rfl ?_
      refine a_getr dX12_guess_48 kf_X12_33 ⟨by decide, _, rfl, rfl⟩ ?_
      refine a_iload dX12_guess_51 rfl ?_
      refine a_iald dX12_guess_53 ⟨by decide, rfl⟩ (by omega) rfl ?_
      exact kj
    · refine a_iconst (v := nI 0) dX12_guess_43 (by decide) ?_
      refine a_goto (tgt := 54) dX12_guess_44 (by decide) ?_
      exact kj
    refine a_topi (v := cvR I0 i) rfl ?_
    refine a_istore (L' := [_, _, _, _, _, _, _, _]) dX12_guess_54 (Nat.le_of_ble_eq_true rfl) rfl ?_
    refine a_iload_n dX12_guess_56 rfl ?_
    refine a_aload_n dX12_guess_57 rfl ?_
    refine a_getr dX12_guess_58 kf_X12_20 ⟨by decide, _, rfl, rfl⟩ ?_
    refine a_iload dX12_guess_61 rfl ?_
    refine a_iald dX12_guess_63 ⟨by decide, rfl⟩ (by omega) rfl ?_
    refine a_iload_n dX12_guess_64 rfl ?_
    refine a_ticmp_ne (tgt := 73) (pj := 74) (a := (nI 0)) (b := (cvR I0 i)) dX12_guess_65 (by decide) (fun kj => ?_) (fun kj => ?_) ?_
    · refine a_iconst (v := nI 0) dX12_guess_73 (by decide) ?_
      exact kj
    · refine a_iload dX12_guess_68 rfl ?_
      refine a_goto (tgt := 74) dX12_guess_70 (by decide) ?_
      exact kj
    refine a_iadd dX12_guess_74 (show _ = sI (goR I0 x) (i + 1) from rfl) ?_
    refine a_istore_n (L' := [_, _, _, _, _, _, _, _]) dX12_guess_75 (Nat.le_of_ble_eq_true rfl) rfl ?_
    refine a_iload dX12_guess_76 rfl ?_
    refine a_aload_n dX12_guess_78 rfl ?_
    refine a_getr dX12_guess_79 kf_X12_23 ⟨by decide, _, rfl, rfl⟩ ?_
    refine a_iload dX12_guess_82 rfl ?_
    refine a_iald dX12_guess_84 ⟨by decide, rfl⟩ (by omega) rfl ?_
    refine a_iload_n dX12_guess_85 rfl ?_
    refine a_ticmp_ne (tgt := 94) (pj := 95) (a := (nI 0)) (b := (cvR I0 i)) dX12_guess_86 (by decide) (fun kj => ?_) (fun kj => ?_) ?_
    · refine a_iconst (v := nI 0) dX12_guess_94 (by decide) ?_
      exact kj
    · refine a_iload dX12_guess_89 rfl ?_
      refine a_goto (tgt := 95) dX12_guess_91 (by decide) ?_
      exact kj
    refine a_iadd dX12_guess_95 (show _ = sI (giR I0 y) (i + 1) from rfl) ?_
    refine a_istore (L' := [_, _, _, _, _, _, _, _]) dX12_guess_96 (Nat.le_of_ble_eq_true rfl) rfl ?_
    refine a_iload dX12_guess_98 rfl ?_
    refine a_iload dX12_guess_100 rfl ?_
    refine a_iadd dX12_guess_102 (show _ = sI (cvR I0) (i + 1) from rfl) ?_
    refine a_istore (L' := [_, _, _, _, _, _, _, _]) dX12_guess_103 (Nat.le_of_ble_eq_true rfl) rfl ?_
    refine a_iinc (L' := [_, _, _, _, _, _, _, _]) dX12_guess_105 rfl (nI_inc _) rfl ?_
    refine a_goto (tgt := 22) dX12_guess_108 (by decide) ?_
    exact ih (i + 1) (by omega) (by omega) _

set_option maxHeartbeats 4000000 in
set_option maxRecDepth 100000 in
theorem c_guess {G : am_G} {d : Nat} {I : am_I} {J : am_J} {K : Int32 → am_I → am_J → Prop} {x y : Int32} {N n : Nat} (hN : I 63 3 = nI N) (hb : N ≤ 6) (hn : I 63 4 = nI n) (hn12 : n ≤ 12) (h1 : isPr N x y → sI (cvR I) n ≠ 0 → K (sI (goR I x) n * sI (giR I y) n / sI (cvR I) n) I J) (h4 : isPr N x y → sI (cvR I) n = 0 → K (-3) (mMeet I 4) J) (h0 : ¬ isPr N x y → K (-1) I J) : CMi G (d + 3) yX12_guess [.ref 63, .int x, .int y] I J K := by
  refine CM.of (L0 := [_, _, _, _, _, _, _, _]) cX12_guess 8 (some .int) (by decide) (by decide) kcX12_guess (Nat.le_of_ble_eq_true rfl) rfl ?_
  refine a_aload_n dX12_guess_0 rfl ?_
  refine a_iload_n dX12_guess_1 rfl ?_
  refine a_iload_n dX12_guess_2 rfl ?_
  refine a_callVi (As := [_, _]) dX12_guess_3 km_X12_174 ⟨by decide, _, _, _, rfl, rfl⟩ rfl rfl (Nat.le_of_ble_eq_true rfl) ?_
  refine c_isPair hN (by omega) (fun p q hp hq hpq e1 e2 => ?_) (fun e1 => ?_)
  · have hpr : isPr N x y := ⟨p, q, hp, hq, hpq, e1, e2⟩
    refine a_if_ne (tgt := 11) dX12_guess_6 (by decide) (fun h6 => ?_) (fun h6 => ?_)
    · refine a_iconst (v := nI 0) dX12_guess_11 (by decide) ?_
      refine a_istore_n (L' := [_, _, _, _, _, _, _, _]) dX12_guess_12 (Nat.le_of_ble_eq_true rfl) rfl ?_
      refine a_iconst (v := nI 0) dX12_guess_13 (by decide) ?_
      refine a_istore (L' := [_, _, _, _, _, _, _, _]) dX12_guess_14 (Nat.le_of_ble_eq_true rfl) rfl ?_
      refine a_iconst (v := nI 0) dX12_guess_16 (by decide) ?_
      refine a_istore (L' := [_, _, _, _, _, _, _, _]) dX12_guess_17 (Nat.le_of_ble_eq_true rfl) rfl ?_
      refine a_iconst (v := nI 0) dX12_guess_19 (by decide) ?_
      refine a_istore (L' := [_, _, _, _, _, _, _, _]) dX12_guess_20 (Nat.le_of_ble_eq_true rfl) rfl ?_
      exact lp_guess (d := d + 2) (v7 := none) hn hn12 (h1 hpr) (h4 hpr) 0 (by omega) _
    · exact absurd h6 (by decide)
  · refine a_if_ne (tgt := 11) dX12_guess_6 (by decide) (fun h6 => ?_) (fun h6 => ?_)
    · exact absurd h6 (by decide)
    · refine a_iconst (v := (-1)) dX12_guess_9 (by decide) ?_
      exact a_ireturn dX12_guess_10 ⟨_, rfl, (h0 e1)⟩

set_option maxHeartbeats 4000000 in
set_option maxRecDepth 100000 in
theorem c_tries {G : am_G} {d : Nat} {I : am_I} {J : am_J} {K : Int32 → am_I → am_J → Prop}  (hK : K (I 63 29) I J) : CMi G d yX12_tries [.ref 63] I J K := by
  refine CM.of (L0 := [_]) cX12_tries 1 (some .int) (by decide) (by decide) kcX12_tries (Nat.le_of_ble_eq_true rfl) rfl ?_
  refine a_aload_n dX12_tries_0 rfl ?_
  refine a_geti dX12_tries_1 kf_X12_197 ⟨by decide, _, rfl, rfl⟩ rfl ?_
  exact a_ireturn dX12_tries_4 ⟨_, rfl, hK⟩

set_option maxHeartbeats 4000000 in
set_option maxRecDepth 100000 in
theorem c_asked {G : am_G} {d : Nat} {I : am_I} {J : am_J} {K : Int64 → am_I → am_J → Prop}  (hK : K (J 63 2) I J) : CMl G d yX12_asked [.ref 63] I J K := by
  refine CM.of (L0 := [_]) cX12_asked 1 (some .long) (by decide) (by decide) kcX12_asked (Nat.le_of_ble_eq_true rfl) rfl ?_
  refine a_aload_n dX12_asked_0 rfl ?_
  refine a_getl dX12_asked_1 kf_X12_111 ⟨by decide, _, rfl, rfl⟩ rfl ?_
  exact a_lreturn dX12_asked_4 ⟨_, rfl, hK⟩

set_option maxHeartbeats 4000000 in
set_option maxRecDepth 100000 in
theorem c_finding {G : am_G} {d : Nat} {I : am_I} {J : am_J} {K : Int32 → am_I → am_J → Prop}  (hK : K (I 63 0) I J) : CMi G d yX12_finding [.ref 63] I J K := by
  refine CM.of (L0 := [_]) cX12_finding 1 (some .int) (by decide) (by decide) kcX12_finding (Nat.le_of_ble_eq_true rfl) rfl ?_
  refine a_aload_n dX12_finding_0 rfl ?_
  refine a_geti dX12_finding_1 kf_X12_108 ⟨by decide, _, rfl, rfl⟩ rfl ?_
  exact a_ireturn dX12_finding_4 ⟨_, rfl, hK⟩

set_option maxHeartbeats 4000000 in
set_option maxRecDepth 100000 in
theorem c_findings {G : am_G} {d : Nat} {I : am_I} {J : am_J} {K : Int32 → am_I → am_J → Prop} {x : Int32} (h1 : ∀ f, 1 ≤ f → f ≤ 5 → x = nI f → K (I 64 f) I J) (h0 : ¬ (nI 1 ≤ x ∧ x ≤ nI 5) → K (-1) I J) : CMi G (d + 1) yX12_findings [.ref 63, .int x] I J K := by
  refine CM.of (L0 := [_, _]) cX12_findings 2 (some .int) (by decide) (by decide) kcX12_findings (Nat.le_of_ble_eq_true rfl) rfl ?_
  refine a_iload_n dX12_findings_0 rfl ?_
  refine a_iconst (v := nI 1) dX12_findings_1 (by decide) ?_
  refine a_iconst (v := nI 5) dX12_findings_2 (by decide) ?_
  refine a_callSi (As := [_, _, _]) dX12_findings_3 km_X12_122 rfl rfl (Nat.le_of_ble_eq_true rfl) ?_
  refine c_in (fun e1 e2 => ?_) (fun e1 => ?_)
  · obtain ⟨f, hf, rfl⟩ := (rg_iff1 (n := 5) (by decide)).mp ⟨Int32.le_trans (by decide) e1, e2⟩
    have e1 := (nI_leI (by omega) (by omega)).mp e1
    refine a_if_eq (tgt := 18) dX12_findings_6 (by decide) (fun h6 => ?_) (fun h6 => ?_)
    · exact absurd h6 (by decide)
    · refine a_aload_n dX12_findings_9 rfl ?_
      refine a_getr dX12_findings_10 kf_X12_7 ⟨by decide, _, rfl, rfl⟩ ?_
      refine a_iload_n dX12_findings_13 rfl ?_
      refine a_iald dX12_findings_14 ⟨by decide, rfl⟩ (by omega) rfl ?_
      refine a_goto (tgt := 19) dX12_findings_15 (by decide) ?_
      exact a_ireturn dX12_findings_19 ⟨_, rfl, (h1 f e1 hf rfl)⟩
  · refine a_if_eq (tgt := 18) dX12_findings_6 (by decide) (fun h6 => ?_) (fun h6 => ?_)
    · refine a_iconst (v := (-1)) dX12_findings_18 (by decide) ?_
      exact a_ireturn dX12_findings_19 ⟨_, rfl, (h0 e1)⟩
    · exact absurd h6 (by decide)

set_option maxHeartbeats 4000000 in
set_option maxRecDepth 100000 in
theorem c_areTries {G : am_G} {d : Nat} {I : am_I} {J : am_J} {K : Int32 → am_I → am_J → Prop} {x : Int32} (h1 : ∀ n, 1 ≤ n → n ≤ 20000 → x = nI n → K 1 I J) (h0 : ¬ (nI 1 ≤ x ∧ x ≤ nI 20000) → K 0 I J) : CMi G (d + 1) yX12_areTries [.int x] I J K := by
  refine CM.of (L0 := [_]) cX12_areTries 1 (some .boolean) (by decide) (by decide) kcX12_areTries (Nat.le_of_ble_eq_true rfl) rfl ?_
  refine a_iload_n dX12_areTries_0 rfl ?_
  refine a_iconst (v := nI 1) dX12_areTries_1 (by decide) ?_
  refine a_sipush (v := nI 20000) dX12_areTries_2 (by decide) ?_
  refine a_callSi (As := [_, _, _]) dX12_areTries_5 km_X12_122 rfl rfl (Nat.le_of_ble_eq_true rfl) ?_
  refine c_in (fun e1 e2 => ?_) (fun e1 => ?_)
  · obtain ⟨n, hn, rfl⟩ := (rg_iff1 (n := 20000) (by decide)).mp ⟨Int32.le_trans (by decide) e1, e2⟩
    have e1 := (nI_leI (by omega) (by omega)).mp e1
    exact a_zreturn dX12_areTries_8 (by first | exact Or.inl rfl | exact Or.inr rfl) ⟨_, rfl, (h1 n e1 hn rfl)⟩
  · exact a_zreturn dX12_areTries_8 (by first | exact Or.inl rfl | exact Or.inr rfl) ⟨_, rfl, (h0 e1)⟩

set_option maxHeartbeats 4000000 in
set_option maxRecDepth 100000 in
theorem c_fit {G : am_G} {d : Nat} {I : am_I} {J : am_J} {K : Int32 → am_I → am_J → Prop} {x y : Int32} {N : Nat} (hN : I 63 3 = nI N) (hb : N ≤ 6) (h1 : ∀ p q, p < N → q < N → p ≠ q → x = nI p → y = nI q → I 63 15 ≠ 0 → K (I 74 (N * p + q)) I J) (h2 : isPr N x y → I 63 15 = 0 → K (-9) I J) (h0 : ¬ isPr N x y → K (-1) I J) : CMi G (d + 3) yX12_fit [.ref 63, .int x, .int y] I J K := by
  refine CM.of (L0 := [_, _, _]) cX12_fit 3 (some .int) (by decide) (by decide) kcX12_fit (Nat.le_of_ble_eq_true rfl) rfl ?_
  refine a_aload_n dX12_fit_0 rfl ?_
  refine a_iload_n dX12_fit_1 rfl ?_
  refine a_iload_n dX12_fit_2 rfl ?_
  refine a_callVi (As := [_, _]) dX12_fit_3 km_X12_174 ⟨by decide, _, _, _, rfl, rfl⟩ rfl rfl (Nat.le_of_ble_eq_true rfl) ?_
  refine c_isPair hN (by omega) (fun p q hp hq hpq e1 e2 => ?_) (fun e1 => ?_)
  · subst e1 e2
    refine a_if_ne (tgt := 13) dX12_fit_6 (by decide) (fun h6 => ?_) (fun h6 => ?_)
    · refine a_aload_n dX12_fit_13 rfl ?_
      refine a_geti dX12_fit_14 kf_X12_118 ⟨by decide, _, rfl, rfl⟩ rfl ?_
      refine a_if_eq (tgt := 36) dX12_fit_17 (by decide) (fun h17 => ?_) (fun h17 => ?_)
      · refine a_bipush (v := (-9)) dX12_fit_36 (by decide) ?_
        exact a_ireturn dX12_fit_38 ⟨_, rfl, (h2 ⟨p, q, hp, hq, hpq, rfl, rfl⟩ h17)⟩
      · refine a_aload_n dX12_fit_20 rfl ?_
        refine a_getr dX12_fit_21 kf_X12_45 ⟨by decide, _, rfl, rfl⟩ ?_
        refine a_aload_n dX12_fit_24 rfl ?_
        refine a_geti dX12_fit_25 kf_X12_13 ⟨by decide, _, rfl, rfl⟩ hN ?_
        refine a_iload_n dX12_fit_28 rfl ?_
        refine a_imul dX12_fit_29 (by first | exact pk_mul _ _ | rfl) ?_
        refine a_iload_n dX12_fit_30 rfl ?_
        refine a_iadd dX12_fit_31 (by first | exact nI_add _ _ | rfl) ?_
        refine a_iald dX12_fit_32 ⟨by decide, rfl⟩ (ix_lt hb hp hq) rfl ?_
        refine a_goto (tgt := 38) dX12_fit_33 (by decide) ?_
        exact a_ireturn dX12_fit_38 ⟨_, rfl, (h1 p q hp hq hpq rfl rfl h17)⟩
    · exact absurd h6 (by decide)
  · refine a_if_ne (tgt := 13) dX12_fit_6 (by decide) (fun h6 => ?_) (fun h6 => ?_)
    · exact absurd h6 (by decide)
    · refine a_iconst (v := (-1)) dX12_fit_9 (by decide) ?_
      refine a_goto (tgt := 38) dX12_fit_10 (by decide) ?_
      exact a_ireturn dX12_fit_38 ⟨_, rfl, (h0 e1)⟩

set_option maxHeartbeats 4000000 in
set_option maxRecDepth 100000 in
theorem c_isSheet {G : am_G} {d : Nat} {I : am_I} {J : am_J} {K : Int32 → am_I → am_J → Prop} {x : Int32} (h1 : ∀ s, s < 4 → x = nI s → K 1 I J) (h0 : ¬ (∃ s, s < 4 ∧ x = nI s) → K 0 I J) : CMi G (d + 1) yX12_isSheet [.int x] I J K := by
  refine CM.of (L0 := [_]) cX12_isSheet 1 (some .boolean) (by decide) (by decide) kcX12_isSheet (Nat.le_of_ble_eq_true rfl) rfl ?_
  refine a_iload_n dX12_isSheet_0 rfl ?_
  refine a_iconst (v := nI 0) dX12_isSheet_1 (by decide) ?_
  refine a_iconst (v := nI 3) dX12_isSheet_2 (by decide) ?_
  refine a_callSi (As := [_, _, _]) dX12_isSheet_3 km_X12_122 rfl rfl (Nat.le_of_ble_eq_true rfl) ?_
  refine c_in (fun e1 e2 => ?_) (fun e1 => ?_)
  · obtain ⟨s, hs, rfl⟩ := (rg_iff1 (n := 3) (by decide)).mp ⟨e1, e2⟩
    exact a_zreturn dX12_isSheet_6 (by first | exact Or.inl rfl | exact Or.inr rfl) ⟨_, rfl, (h1 s (by omega) rfl)⟩
  · exact a_zreturn dX12_isSheet_6 (by first | exact Or.inl rfl | exact Or.inr rfl) ⟨_, rfl, (h0 (fun ⟨s, a, b⟩ => e1 ((rg_iff1 (n := 3) (by decide)).mpr ⟨s, by omega, b⟩)))⟩

set_option maxHeartbeats 4000000 in
set_option maxRecDepth 100000 in
theorem c_looked {G : am_G} {d : Nat} {I : am_I} {J : am_J} {K : Int32 → am_I → am_J → Prop} {x : Int32} (h1 : ∀ s, s < 4 → x = nI s → 0 ≤ I 91 s → K 0 I J) (h2 : ∀ s, s < 4 → x = nI s → ¬ 0 ≤ I 91 s → K (-3) (mMeet I 1) J) (h0 : ¬ (∃ s, s < 4 ∧ x = nI s) → K (-1) I J) : CMi G (d + 2) yX12_looked [.ref 63, .int x] I J K := by
  refine CM.of (L0 := [_, _]) cX12_looked 2 (some .int) (by decide) (by decide) kcX12_looked (Nat.le_of_ble_eq_true rfl) rfl ?_
  refine a_iload_n dX12_looked_0 rfl ?_
  refine a_callSi (As := [_]) dX12_looked_1 km_X12_233 rfl rfl (Nat.le_of_ble_eq_true rfl) ?_
  refine c_isSheet (fun s hs e1 => ?_) (fun e1 => ?_)
  · subst e1
    refine a_if_ne (tgt := 11) dX12_looked_4 (by decide) (fun h4 => ?_) (fun h4 => ?_)
    · refine a_aload_n dX12_looked_11 rfl ?_
      refine a_getr dX12_looked_12 kf_X12_96 ⟨by decide, _, rfl, rfl⟩ ?_
      refine a_iload_n dX12_looked_15 rfl ?_
      refine a_iald dX12_looked_16 ⟨by decide, rfl⟩ (by omega) rfl ?_
      refine a_if_ge (tgt := 28) dX12_looked_17 (by decide) (fun h17 => ?_) (fun h17 => ?_)
      · refine a_iconst (v := nI 0) dX12_looked_28 (by decide) ?_
        exact a_ireturn dX12_looked_29 ⟨_, rfl, (h1 s hs rfl h17)⟩
      · refine a_aload_n dX12_looked_20 rfl ?_
        refine a_iconst (v := nI 1) dX12_looked_21 (by decide) ?_
        refine a_callVi (As := [_]) dX12_looked_22 km_X12_138 ⟨by decide, _, _, _, rfl, rfl⟩ rfl rfl (Nat.le_of_ble_eq_true rfl) ?_
        refine c_meets (by decide) ?_
        refine a_goto (tgt := 29) dX12_looked_25 (by decide) ?_
        exact a_ireturn dX12_looked_29 ⟨_, rfl, (h2 s hs rfl h17)⟩
    · exact absurd h4 (by decide)
  · refine a_if_ne (tgt := 11) dX12_looked_4 (by decide) (fun h4 => ?_) (fun h4 => ?_)
    · exact absurd h4 (by decide)
    · refine a_iconst (v := (-1)) dX12_looked_7 (by decide) ?_
      refine a_goto (tgt := 29) dX12_looked_8 (by decide) ?_
      exact a_ireturn dX12_looked_29 ⟨_, rfl, (h0 e1)⟩

def mZero (I : am_I) (s i : Nat) : am_I := fun p j => if p = 92 ∧ 24 * s ≤ j ∧ j < 24 * s + i then nI 0 else I p j
theorem mZero_s (I : am_I) (n i : Nat) : am_up (mZero I n i) 92 (24 * n + i) (nI 0) = mZero I n (i + 1) := by
  funext a b
  simp only [am_up, mZero]
  by_cases h1 : a = 92
  · subst h1
    by_cases h2 : b = 24 * n + i
    · subst h2
      simp
    · by_cases h3 : 24 * n ≤ b ∧ b < 24 * n + i
      · simp [h2, h3, show b < 24 * n + (i + 1) by omega]
      · simp [h2, h3, show ¬ (24 * n ≤ b ∧ b < 24 * n + (i + 1)) by omega]
  · simp [h1]
set_option maxHeartbeats 4000000 in
set_option maxRecDepth 100000 in
theorem lp_sheet {G : am_G} {d : Nat} {I0 : am_I} {J : am_J} {K : Int32 → am_I → am_J → Prop} {s : Nat} {y : Int32} (hs : s < 4) (hK : K y (mZero I0 s 24) J) : ∀ i, i ≤ 24 → AW G cX12_sheet 4 RX12 (d + 2) (am_ex G (some .int) (fun r I J => ∃ x, r = some (.int x) ∧ K x I J)) 34 [some (.ref 63), some (.int (nI s)), some (.int y), some (.int (nI i))] [] (mZero I0 s i) J := by
  refine am_dn (24) (fun i hi ih => ?_)
  refine a_iload_n dX12_sheet_34 rfl ?_
  refine a_bipush (v := nI 24) dX12_sheet_35 (by decide) ?_
  refine a_icmp_geN (tgt := 58) dX12_sheet_37 (by decide) (by omega) (by omega) (fun h => ?_) (fun h => ?_)
  · obtain rfl : i = 24 := by omega
    refine a_iload_n dX12_sheet_58 rfl ?_
    exact a_ireturn dX12_sheet_59 ⟨_, rfl, hK⟩
  · refine a_aload_n dX12_sheet_40 rfl ?_
    refine a_getr dX12_sheet_41 kf_X12_99 ⟨by decide, _, rfl, rfl⟩ ?_
    refine a_bipush (v := nI 24) dX12_sheet_44 (by decide) ?_
    refine a_iload_n dX12_sheet_46 rfl ?_
    refine a_imul dX12_sheet_47 (by first | exact pk_mul _ _ | rfl) ?_
    refine a_iload_n dX12_sheet_48 rfl ?_
    refine a_iadd dX12_sheet_49 (by first | exact nI_add _ _ | rfl) ?_
    refine a_iconst (v := nI 0) dX12_sheet_50 (by decide) ?_
    refine a_iast dX12_sheet_51 ⟨by decide, rfl⟩ (by omega) ?_
    refine a_mem (mZero_s I0 s i) ?_
    refine a_iinc (L' := [_, _, _, _]) dX12_sheet_52 rfl (nI_inc _) rfl ?_
    refine a_goto (tgt := 34) dX12_sheet_55 (by decide) ?_
    exact ih (i + 1) (by omega) (by omega)

set_option maxHeartbeats 4000000 in
set_option maxRecDepth 100000 in
theorem c_sheet {G : am_G} {d : Nat} {I : am_I} {J : am_J} {K : Int32 → am_I → am_J → Prop} {x y : Int32} (h1 : ∀ s n, s < 4 → x = nI s → n ≤ 24 → y = nI n → K y (mZero (am_up I 91 s y) s 24) J) (h5 : ∀ s, s < 4 → x = nI s → ¬ 0 ≤ y → K (-3) (mMeet I 5) J) (h0 : ¬ ((∃ s, s < 4 ∧ x = nI s) ∧ y ≤ nI 24) → K (-1) I J) : CMi G (d + 2) yX12_sheet [.ref 63, .int x, .int y] I J K := by
  refine CM.of (L0 := [_, _, _, _]) cX12_sheet 4 (some .int) (by decide) (by decide) kcX12_sheet (Nat.le_of_ble_eq_true rfl) rfl ?_
  refine a_iload_n dX12_sheet_0 rfl ?_
  refine a_callSi (As := [_]) dX12_sheet_1 km_X12_233 rfl rfl (Nat.le_of_ble_eq_true rfl) ?_
  refine c_isSheet (fun s hs e1 => ?_) (fun e1 => ?_)
  · subst e1
    refine a_if_eq (tgt := 13) dX12_sheet_4 (by decide) (fun h4 => ?_) (fun h4 => ?_)
    · exact absurd h4 (by decide)
    · refine a_iload_n dX12_sheet_7 rfl ?_
      refine a_bipush (v := nI 24) dX12_sheet_8 (by decide) ?_
      refine a_icmp_le (tgt := 15) dX12_sheet_10 (by decide) (fun h10 => ?_) (fun h10 => ?_)
      · refine a_iload_n dX12_sheet_15 rfl ?_
        refine a_if_ge (tgt := 25) dX12_sheet_16 (by decide) (fun h16 => ?_) (fun h16 => ?_)
        · obtain ⟨n, hn, rfl⟩ := (rg_iff1 (n := 24) (by decide)).mp ⟨h16, h10⟩
          refine a_aload_n dX12_sheet_25 rfl ?_
          refine a_getr dX12_sheet_26 kf_X12_96 ⟨by decide, _, rfl, rfl⟩ ?_
          refine a_iload_n dX12_sheet_29 rfl ?_
          refine a_iload_n dX12_sheet_30 rfl ?_
          refine a_iast dX12_sheet_31 ⟨by decide, rfl⟩ (by omega) ?_
          refine a_iconst (v := nI 0) dX12_sheet_32 (by decide) ?_
          refine a_istore_n (L' := [_, _, _, _]) dX12_sheet_33 (Nat.le_of_ble_eq_true rfl) rfl ?_
          refine a_mem (I' := mZero (am_up I 91 s (nI n)) s 0) (by funext a b; simp only [mZero]; rw [if_neg (fun h => by omega)]) ?_
          exact lp_sheet hs (h1 s n hs rfl hn rfl) 0 (by omega)
        · refine a_aload_n dX12_sheet_19 rfl ?_
          refine a_iconst (v := nI 5) dX12_sheet_20 (by decide) ?_
          refine a_callVi (As := [_]) dX12_sheet_21 km_X12_138 ⟨by decide, _, _, _, rfl, rfl⟩ rfl rfl (Nat.le_of_ble_eq_true rfl) ?_
          refine c_meets (by decide) ?_
          exact a_ireturn dX12_sheet_24 ⟨_, rfl, (h5 s hs rfl h16)⟩
      · refine a_iconst (v := (-1)) dX12_sheet_13 (by decide) ?_
        exact a_ireturn dX12_sheet_14 ⟨_, rfl, (h0 (fun q => h10 q.2))⟩
  · refine a_if_eq (tgt := 13) dX12_sheet_4 (by decide) (fun h4 => ?_) (fun h4 => ?_)
    · refine a_iconst (v := (-1)) dX12_sheet_13 (by decide) ?_
      exact a_ireturn dX12_sheet_14 ⟨_, rfl, (h0 (fun q => e1 q.1))⟩
    · exact absurd h4 (by decide)

set_option maxHeartbeats 4000000 in
set_option maxRecDepth 100000 in
theorem c_lay {G : am_G} {d : Nat} {I : am_I} {J : am_J} {K : Int32 → am_I → am_J → Prop} {x y z : Int32} (hsz : ∀ s, s < 4 → I 91 s = -9 ∨ ∃ n, n ≤ 24 ∧ I 91 s = nI n) (h1 : ∀ s n i, s < 4 → x = nI s → I 91 s = nI n → n ≤ 24 → i < n → y = nI i → K (I 92 (24 * s + i) + nI 1000) (am_up I 92 (24 * s + i) z.toInt8.toInt32) J)
  (h2 : ∀ s n, s < 4 → x = nI s → I 91 s = nI n → n ≤ 24 → ¬ (∃ i, i < n ∧ y = nI i) → K (-3) (mMeet I 2) J) (h4 : ∀ s, s < 4 → x = nI s → I 91 s = -9 → K (-3) (mMeet I 1) J) (h0 : ¬ (∃ s, s < 4 ∧ x = nI s) → K (-1) I J) : CMi G (d + 3) yX12_lay [.ref 63, .int x, .int y, .int z] I J K := by
  refine CM.of (L0 := [_, _, _, _, _, _]) cX12_lay 6 (some .int) (by decide) (by decide) kcX12_lay (Nat.le_of_ble_eq_true rfl) rfl ?_
  refine a_aload_n dX12_lay_0 rfl ?_
  refine a_iload_n dX12_lay_1 rfl ?_
  refine a_callVi (As := [_]) dX12_lay_2 km_X12_236 ⟨by decide, _, _, _, rfl, rfl⟩ rfl rfl (Nat.le_of_ble_eq_true rfl) ?_
  refine c_looked (fun s hs e1 e2 => ?_) (fun s hs e1 e2 => ?_) (fun e1 => ?_)
  · subst e1
    obtain ⟨n, hn, en⟩ := (hsz s hs).resolve_left (fun e => by rw [e] at e2; exact absurd e2 (by decide))
    refine a_istore (L' := [_, _, _, _, _, _]) dX12_lay_5 (Nat.le_of_ble_eq_true rfl) rfl ?_
    refine a_iload dX12_lay_7 rfl ?_
    refine a_if_ge (tgt := 15) dX12_lay_9 (by decide) (fun h9 => ?_) (fun h9 => ?_)
    · refine a_iload_n dX12_lay_15 rfl ?_
      refine a_iconst (v := nI 0) dX12_lay_16 (by decide) ?_
      refine a_aload_n dX12_lay_17 rfl ?_
      refine a_getr dX12_lay_18 kf_X12_96 ⟨by decide, _, rfl, rfl⟩ ?_
      refine a_iload_n dX12_lay_21 rfl ?_
      refine a_iald dX12_lay_22 ⟨by decide, rfl⟩ (by omega) en ?_
      refine a_iconst (v := nI 1) dX12_lay_23 (by decide) ?_
      refine a_isub dX12_lay_24 rfl ?_
      refine a_callSi (As := [_, _, _]) dX12_lay_25 km_X12_122 rfl rfl (Nat.le_of_ble_eq_true rfl) ?_
      refine c_in (fun e3 e4 => ?_) (fun e3 => ?_)
      · obtain ⟨i, hi, rfl⟩ := (rg_sub (n := n) (by omega)).mp ⟨e3, e4⟩
        refine a_if_ne (tgt := 37) dX12_lay_28 (by decide) (fun h28 => ?_) (fun h28 => ?_)
        · refine a_aload_n dX12_lay_37 rfl ?_
          refine a_getr dX12_lay_38 kf_X12_99 ⟨by decide, _, rfl, rfl⟩ ?_
          refine a_bipush (v := nI 24) dX12_lay_41 (by decide) ?_
          refine a_iload_n dX12_lay_43 rfl ?_
          refine a_imul dX12_lay_44 (by first | exact pk_mul _ _ | rfl) ?_
          refine a_iload_n dX12_lay_45 rfl ?_
          refine a_iadd dX12_lay_46 (by first | exact nI_add _ _ | rfl) ?_
          refine a_iald dX12_lay_47 ⟨by decide, rfl⟩ (by omega) rfl ?_
          refine a_istore (L' := [_, _, _, _, _, _]) dX12_lay_48 (Nat.le_of_ble_eq_true rfl) rfl ?_
          refine a_aload_n dX12_lay_50 rfl ?_
          refine a_getr dX12_lay_51 kf_X12_99 ⟨by decide, _, rfl, rfl⟩ ?_
          refine a_bipush (v := nI 24) dX12_lay_54 (by decide) ?_
          refine a_iload_n dX12_lay_56 rfl ?_
          refine a_imul dX12_lay_57 (by first | exact pk_mul _ _ | rfl) ?_
          refine a_iload_n dX12_lay_58 rfl ?_
          refine a_iadd dX12_lay_59 (by first | exact nI_add _ _ | rfl) ?_
          refine a_iload_n dX12_lay_60 rfl ?_
          refine a_i2b dX12_lay_61 rfl ?_
          refine a_iast dX12_lay_62 ⟨by decide, rfl⟩ (by omega) ?_
          refine a_iload dX12_lay_63 rfl ?_
          refine a_sipush (v := nI 1000) dX12_lay_65 (by decide) ?_
          refine a_iadd dX12_lay_68 rfl ?_
          exact a_ireturn dX12_lay_69 ⟨_, rfl, (h1 s n i hs rfl en hn hi rfl)⟩
        · exact absurd h28 (by decide)
      · refine a_if_ne (tgt := 37) dX12_lay_28 (by decide) (fun h28 => ?_) (fun h28 => ?_)
        · exact absurd h28 (by decide)
        · refine a_aload_n dX12_lay_31 rfl ?_
          refine a_iconst (v := nI 2) dX12_lay_32 (by decide) ?_
          refine a_callVi (As := [_]) dX12_lay_33 km_X12_138 ⟨by decide, _, _, _, rfl, rfl⟩ rfl rfl (Nat.le_of_ble_eq_true rfl) ?_
          refine c_meets (by decide) ?_
          exact a_ireturn dX12_lay_36 ⟨_, rfl, (h2 s n hs rfl en hn (fun q => e3 ((rg_sub (by omega)).mpr q)))⟩
    · exact absurd (show (0 : Int32) ≤ 0 by decide) h9
  · subst e1
    refine a_istore (L' := [_, _, _, _, _, _]) dX12_lay_5 (Nat.le_of_ble_eq_true rfl) rfl ?_
    refine a_iload dX12_lay_7 rfl ?_
    refine a_if_ge (tgt := 15) dX12_lay_9 (by decide) (fun h9 => ?_) (fun h9 => ?_)
    · exact absurd h9 (by decide)
    · refine a_iload dX12_lay_12 rfl ?_
      exact a_ireturn dX12_lay_14 ⟨_, rfl, (h4 s hs rfl ((hsz s hs).resolve_right (fun ⟨n, a, b⟩ => e2 (by rw [b]; exact nI_pos' (by omega)))))⟩
  · refine a_istore (L' := [_, _, _, _, _, _]) dX12_lay_5 (Nat.le_of_ble_eq_true rfl) rfl ?_
    refine a_iload dX12_lay_7 rfl ?_
    refine a_if_ge (tgt := 15) dX12_lay_9 (by decide) (fun h9 => ?_) (fun h9 => ?_)
    · exact absurd h9 (by decide)
    · refine a_iload dX12_lay_12 rfl ?_
      exact a_ireturn dX12_lay_14 ⟨_, rfl, (h0 e1)⟩

set_option maxHeartbeats 4000000 in
set_option maxRecDepth 100000 in
theorem c_tear {G : am_G} {d : Nat} {I : am_I} {J : am_J} {K : Int32 → am_I → am_J → Prop} {x : Int32} (hsz : ∀ s, s < 4 → I 91 s = -9 ∨ ∃ n, n ≤ 24 ∧ I 91 s = nI n) (h1 : ∀ s n, s < 4 → x = nI s → I 91 s = nI n → n ≤ 24 → K (nI 1) (am_up I 91 s (-9)) J) (h4 : ∀ s, s < 4 → x = nI s → I 91 s = -9 → K (-3) (mMeet I 1) J) (h0 : ¬ (∃ s, s < 4 ∧ x = nI s) → K (-1) I J) : CMi G (d + 3) yX12_tear [.ref 63, .int x] I J K := by
  refine CM.of (L0 := [_, _, _]) cX12_tear 3 (some .int) (by decide) (by decide) kcX12_tear (Nat.le_of_ble_eq_true rfl) rfl ?_
  refine a_aload_n dX12_tear_0 rfl ?_
  refine a_iload_n dX12_tear_1 rfl ?_
  refine a_callVi (As := [_]) dX12_tear_2 km_X12_236 ⟨by decide, _, _, _, rfl, rfl⟩ rfl rfl (Nat.le_of_ble_eq_true rfl) ?_
  refine c_looked (fun s hs e1 e2 => ?_) (fun s hs e1 e2 => ?_) (fun e1 => ?_)
  · subst e1
    obtain ⟨n, hn, en⟩ := (hsz s hs).resolve_left (fun e => by rw [e] at e2; exact absurd e2 (by decide))
    refine a_istore_n (L' := [_, _, _]) dX12_tear_5 (Nat.le_of_ble_eq_true rfl) rfl ?_
    refine a_iload_n dX12_tear_6 rfl ?_
    refine a_if_ge (tgt := 12) dX12_tear_7 (by decide) (fun h7 => ?_) (fun h7 => ?_)
    · refine a_aload_n dX12_tear_12 rfl ?_
      refine a_getr dX12_tear_13 kf_X12_96 ⟨by decide, _, rfl, rfl⟩ ?_
      refine a_iload_n dX12_tear_16 rfl ?_
      refine a_bipush (v := (-9)) dX12_tear_17 (by decide) ?_
      refine a_iast dX12_tear_19 ⟨by decide, rfl⟩ (by omega) ?_
      refine a_iconst (v := nI 1) dX12_tear_20 (by decide) ?_
      exact a_ireturn dX12_tear_21 ⟨_, rfl, (h1 s n hs rfl en hn)⟩
    · exact absurd (show (0 : Int32) ≤ 0 by decide) h7
  · subst e1
    refine a_istore_n (L' := [_, _, _]) dX12_tear_5 (Nat.le_of_ble_eq_true rfl) rfl ?_
    refine a_iload_n dX12_tear_6 rfl ?_
    refine a_if_ge (tgt := 12) dX12_tear_7 (by decide) (fun h7 => ?_) (fun h7 => ?_)
    · exact absurd h7 (by decide)
    · refine a_iload_n dX12_tear_10 rfl ?_
      exact a_ireturn dX12_tear_11 ⟨_, rfl, (h4 s hs rfl ((hsz s hs).resolve_right (fun ⟨n, a, b⟩ => e2 (by rw [b]; exact nI_pos' (by omega)))))⟩
  · refine a_istore_n (L' := [_, _, _]) dX12_tear_5 (Nat.le_of_ble_eq_true rfl) rfl ?_
    refine a_iload_n dX12_tear_6 rfl ?_
    refine a_if_ge (tgt := 12) dX12_tear_7 (by decide) (fun h7 => ?_) (fun h7 => ?_)
    · exact absurd h7 (by decide)
    · refine a_iload_n dX12_tear_10 rfl ?_
      exact a_ireturn dX12_tear_11 ⟨_, rfl, (h0 e1)⟩

def mPlay (I : am_I) (s l i : Nat) : am_I := fun p j => if p = 71 ∧ 24 * l ≤ j ∧ j < 24 * l + i then I 92 (24 * s + (j - 24 * l)) &&& nI 255 else I p j
theorem mPlay_s (I : am_I) (s l i : Nat) : am_up (mPlay I s l i) 71 (24 * l + i) (mPlay I s l i 92 (24 * s + i) &&& nI 255) = mPlay I s l (i + 1) := by
  funext a b
  simp only [am_up, mPlay]
  by_cases h1 : a = 71
  · subst h1
    by_cases h2 : b = 24 * l + i
    · subst h2
      simp
    · by_cases h3 : 24 * l ≤ b ∧ b < 24 * l + i
      · simp [h2, h3, show b < 24 * l + (i + 1) by omega]
      · simp [h2, h3, show ¬ (24 * l ≤ b ∧ b < 24 * l + (i + 1)) by omega]
  · simp [h1]
set_option maxHeartbeats 4000000 in
set_option maxRecDepth 100000 in
theorem lp_play {G : am_G} {d : Nat} {I0 : am_I} {J : am_J} {K : Int32 → am_I → am_J → Prop} {s l n : Nat} (hs : s < 4) (hl : l < 12) (hn : n ≤ 24) (en : I0 91 s = nI n) (hK : K (nI n) (mPlay I0 s l n) J) : ∀ i, i ≤ n → AW G cX12_play 4 RX12 (d + 3) (am_ex G (some .int) (fun r I J => ∃ x, r = some (.int x) ∧ K x I J)) 48 [some (.ref 63), some (.int (nI s)), some (.int (nI l)), some (.int (nI i))] [] (mPlay I0 s l i) J := by
  refine am_dn (n) (fun i hi ih => ?_)
  refine a_iload_n dX12_play_48 rfl ?_
  refine a_aload_n dX12_play_49 rfl ?_
  refine a_getr dX12_play_50 kf_X12_96 ⟨by decide, _, rfl, rfl⟩ ?_
  refine a_iload_n dX12_play_53 rfl ?_
  refine a_iald dX12_play_54 ⟨by decide, rfl⟩ (by omega) en ?_
  refine a_icmp_geN (tgt := 90) dX12_play_55 (by decide) (by omega) (by omega) (fun h => ?_) (fun h => ?_)
  · obtain rfl : i = n := by omega
    refine a_aload_n dX12_play_90 rfl ?_
    refine a_getr dX12_play_91 kf_X12_96 ⟨by decide, _, rfl, rfl⟩ ?_
    refine a_iload_n dX12_play_94 rfl ?_
    refine a_iald dX12_play_95 ⟨by decide, rfl⟩ (by omega) en ?_
    exact a_ireturn dX12_play_96 ⟨_, rfl, hK⟩
  · refine a_aload_n dX12_play_58 rfl ?_
    refine a_getr dX12_play_59 kf_X12_36 ⟨by decide, _, rfl, rfl⟩ ?_
    refine a_bipush (v := nI 24) dX12_play_62 (by decide) ?_
    refine a_iload_n dX12_play_64 rfl ?_
    refine a_imul dX12_play_65 (by first | exact pk_mul _ _ | rfl) ?_
    refine a_iload_n dX12_play_66 rfl ?_
    refine a_iadd dX12_play_67 (by first | exact nI_add _ _ | rfl) ?_
    refine a_aload_n dX12_play_68 rfl ?_
    refine a_getr dX12_play_69 kf_X12_99 ⟨by decide, _, rfl, rfl⟩ ?_
    refine a_bipush (v := nI 24) dX12_play_72 (by decide) ?_
    refine a_iload_n dX12_play_74 rfl ?_
    refine a_imul dX12_play_75 (by first | exact pk_mul _ _ | rfl) ?_
    refine a_iload_n dX12_play_76 rfl ?_
    refine a_iadd dX12_play_77 (by first | exact nI_add _ _ | rfl) ?_
    refine a_iald dX12_play_78 ⟨by decide, rfl⟩ (by omega) rfl ?_
    refine a_sipush (v := nI 255) dX12_play_79 (by decide) ?_
    refine a_iand dX12_play_82 rfl ?_
    refine a_iast dX12_play_83 ⟨by decide, rfl⟩ (by omega) ?_
    refine a_mem (mPlay_s I0 s l i) ?_
    refine a_iinc (L' := [_, _, _, _]) dX12_play_84 rfl (nI_inc _) rfl ?_
    refine a_goto (tgt := 48) dX12_play_87 (by decide) ?_
    exact ih (i + 1) (by omega) (by omega)

set_option maxHeartbeats 4000000 in
set_option maxRecDepth 100000 in
theorem c_play {G : am_G} {d : Nat} {I : am_I} {J : am_J} {K : Int32 → am_I → am_J → Prop} {x y : Int32} {n : Nat} (hn : I 63 4 = nI n) (hn12 : n ≤ 12) (hsz : ∀ s, s < 4 → I 91 s = -9 ∨ ∃ n, n ≤ 24 ∧ I 91 s = nI n) (h1 : ∀ s z l, s < 4 → x = nI s → l < n → y = nI l → kdC I l → I 91 s = nI z → z ≤ 24 → K (nI z) (mPlay I s l z) J)
  (h3 : ∀ s l, s < 4 → x = nI s → l < n → y = nI l → ¬ kdC I l → K (-3) (mMeet I 3) J) (h4 : ∀ s l, s < 4 → x = nI s → l < n → y = nI l → kdC I l → I 91 s = -9 → K (-3) (mMeet I 1) J) (h0 : ¬ ((∃ s, s < 4 ∧ x = nI s) ∧ isLn n y) → K (-1) I J) : CMi G (d + 3) yX12_play [.ref 63, .int x, .int y] I J K := by
  refine CM.of (L0 := [_, _, _, _]) cX12_play 4 (some .int) (by decide) (by decide) kcX12_play (Nat.le_of_ble_eq_true rfl) rfl ?_
  refine a_iload_n dX12_play_0 rfl ?_
  refine a_callSi (As := [_]) dX12_play_1 km_X12_233 rfl rfl (Nat.le_of_ble_eq_true rfl) ?_
  refine c_isSheet (fun s hs e1 => ?_) (fun e1 => ?_)
  · subst e1
    refine a_if_eq (tgt := 15) dX12_play_4 (by decide) (fun h4 => ?_) (fun h4 => ?_)
    · exact absurd h4 (by decide)
    · refine a_aload_n dX12_play_7 rfl ?_
      refine a_iload_n dX12_play_8 rfl ?_
      refine a_callVi (As := [_]) dX12_play_9 km_X12_130 ⟨by decide, _, _, _, rfl, rfl⟩ rfl rfl (Nat.le_of_ble_eq_true rfl) ?_
      refine c_isLine hn (by omega) (fun l hl e1 => ?_) (fun e1 => ?_)
      · subst e1
        have hl12 : l < 12 := by omega
        refine a_if_ne (tgt := 17) dX12_play_12 (by decide) (fun h12 => ?_) (fun h12 => ?_)
        · refine a_aload_n dX12_play_17 rfl ?_
          refine a_iload_n dX12_play_18 rfl ?_
          refine a_callVi (As := [_]) dX12_play_19 km_X12_153 ⟨by decide, _, _, _, rfl, rfl⟩ rfl rfl (Nat.le_of_ble_eq_true rfl) ?_
          refine c_counts hl12 (fun ec => ?_) (fun ec => ?_)
          · refine a_if_ne (tgt := 31) dX12_play_22 (by decide) (fun h22 => ?_) (fun h22 => ?_)
            · refine a_aload_n dX12_play_31 rfl ?_
              refine a_getr dX12_play_32 kf_X12_96 ⟨by decide, _, rfl, rfl⟩ ?_
              refine a_iload_n dX12_play_35 rfl ?_
              refine a_iald dX12_play_36 ⟨by decide, rfl⟩ (by omega) rfl ?_
              refine a_if_ge (tgt := 46) dX12_play_37 (by decide) (fun h37 => ?_) (fun h37 => ?_)
              · obtain ⟨z, hz, ez⟩ := (hsz s hs).resolve_left (fun e => by rw [e] at h37; exact absurd h37 (by decide))
                refine a_iconst (v := nI 0) dX12_play_46 (by decide) ?_
                refine a_istore_n (L' := [_, _, _, _]) dX12_play_47 (Nat.le_of_ble_eq_true rfl) rfl ?_
                refine a_mem (I' := mPlay I s l 0) (by funext a b; simp only [mPlay]; rw [if_neg (fun h => by omega)]) ?_
                exact lp_play hs hl12 hz ez (h1 s z l hs rfl hl rfl ec ez hz) 0 (by omega)
              · refine a_aload_n dX12_play_40 rfl ?_
                refine a_iconst (v := nI 1) dX12_play_41 (by decide) ?_
                refine a_callVi (As := [_]) dX12_play_42 km_X12_138 ⟨by decide, _, _, _, rfl, rfl⟩ rfl rfl (Nat.le_of_ble_eq_true rfl) ?_
                refine c_meets (by decide) ?_
                exact a_ireturn dX12_play_45 ⟨_, rfl, (h4 s l hs rfl hl rfl ec ((hsz s hs).resolve_right (fun ⟨n, a, b⟩ => h37 (by rw [b]; exact nI_pos' (by omega)))))⟩
            · exact absurd h22 (by decide)
          · refine a_if_ne (tgt := 31) dX12_play_22 (by decide) (fun h22 => ?_) (fun h22 => ?_)
            · exact absurd h22 (by decide)
            · refine a_aload_n dX12_play_25 rfl ?_
              refine a_iconst (v := nI 3) dX12_play_26 (by decide) ?_
              refine a_callVi (As := [_]) dX12_play_27 km_X12_138 ⟨by decide, _, _, _, rfl, rfl⟩ rfl rfl (Nat.le_of_ble_eq_true rfl) ?_
              refine c_meets (by decide) ?_
              exact a_ireturn dX12_play_30 ⟨_, rfl, (h3 s l hs rfl hl rfl ec)⟩
        · exact absurd h12 (by decide)
      · refine a_if_ne (tgt := 17) dX12_play_12 (by decide) (fun h12 => ?_) (fun h12 => ?_)
        · exact absurd h12 (by decide)
        · refine a_iconst (v := (-1)) dX12_play_15 (by decide) ?_
          exact a_ireturn dX12_play_16 ⟨_, rfl, (h0 (fun q => e1 q.2))⟩
  · refine a_if_eq (tgt := 15) dX12_play_4 (by decide) (fun h4 => ?_) (fun h4 => ?_)
    · refine a_iconst (v := (-1)) dX12_play_15 (by decide) ?_
      exact a_ireturn dX12_play_16 ⟨_, rfl, (h0 (fun q => e1 q.1))⟩
    · exact absurd h4 (by decide)

