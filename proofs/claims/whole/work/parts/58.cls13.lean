/-! ===== the system: the public calls, the net ===== -/
set_option maxHeartbeats 4000000 in
set_option maxRecDepth 100000 in
theorem l_isHour {G : am_G} {d : Nat} {I : am_I} {J : am_J} {K : Int32 → am_I → am_J → Prop} {x : Int32} (h1 : ∀ h, h < 24 → x = nI h → K 1 I J) (h0 : ¬ (nI 0 ≤ x ∧ x ≤ nI 23) → K 0 I J) : CMi G d yX11_isHour [.int x] I J K := by
  refine CM.of (L0 := [_]) cX11_isHour 1 (some .boolean) (by decide) (by decide) kcX11_isHour (Nat.le_of_ble_eq_true rfl) rfl ?_
  refine a_iload_n dX11_isHour_0 rfl ?_
  refine a_if_lt (tgt := 14) dX11_isHour_1 (by decide) (fun a => ?_) (fun a => ?_)
  · refine a_iconst (v := nI 0) dX11_isHour_14 (by decide) ?_
    exact a_zreturn dX11_isHour_15 (by first | exact Or.inl rfl | exact Or.inr rfl) ⟨_, rfl, (h0 (fun z => absurd z.1 (Int32.not_le.mpr a)))⟩
  · refine a_iload_n dX11_isHour_4 rfl ?_
    refine a_bipush (v := nI 24) dX11_isHour_5 (by decide) ?_
    refine a_icmp_ge (tgt := 14) dX11_isHour_7 (by decide) (fun b => ?_) (fun b => ?_)
    · refine a_iconst (v := nI 0) dX11_isHour_14 (by decide) ?_
      exact a_zreturn dX11_isHour_15 (by first | exact Or.inl rfl | exact Or.inr rfl) ⟨_, rfl, (h0 (fun z => absurd (Int32.le_trans b z.2) (by decide)))⟩
    · refine a_iconst (v := nI 1) dX11_isHour_10 (by decide) ?_
      refine a_goto (tgt := 15) dX11_isHour_11 (by decide) ?_
      exact a_zreturn dX11_isHour_15 (by first | exact Or.inl rfl | exact Or.inr rfl) ⟨_, rfl, (by obtain ⟨h, p, q⟩ := (rg_iff (n := 24) (by decide)).mp ⟨Int32.not_lt.mp a, Int32.not_le.mp b⟩; exact h1 h p q)⟩

set_option maxHeartbeats 4000000 in
set_option maxRecDepth 100000 in
theorem l_isLoad {G : am_G} {d : Nat} {I : am_I} {J : am_J} {K : Int32 → am_I → am_J → Prop} {x : Int32} (h1 : (x = -9 ∨ nI 0 ≤ x ∧ x ≤ nI 200) → K 1 I J) (h0 : ¬ (x = -9 ∨ nI 0 ≤ x ∧ x ≤ nI 200) → K 0 I J) : CMi G d yX11_isLoadOrNone [.int x] I J K := by
  refine CM.of (L0 := [_]) cX11_isLoadOrNone 1 (some .boolean) (by decide) (by decide) kcX11_isLoadOrNone (Nat.le_of_ble_eq_true rfl) rfl ?_
  refine a_iload_n dX11_isLoadOrNone_0 rfl ?_
  refine a_bipush (v := (-9)) dX11_isLoadOrNone_1 (by decide) ?_
  refine a_icmp_eq (tgt := 17) dX11_isLoadOrNone_3 (by decide) (fun a => ?_) (fun a => ?_)
  · refine a_iconst (v := nI 1) dX11_isLoadOrNone_17 (by decide) ?_
    refine a_goto (tgt := 22) dX11_isLoadOrNone_18 (by decide) ?_
    exact a_zreturn dX11_isLoadOrNone_22 (by first | exact Or.inl rfl | exact Or.inr rfl) ⟨_, rfl, (h1 (Or.inl a))⟩
  · refine a_iload_n dX11_isLoadOrNone_6 rfl ?_
    refine a_if_lt (tgt := 21) dX11_isLoadOrNone_7 (by decide) (fun b => ?_) (fun b => ?_)
    · refine a_iconst (v := nI 0) dX11_isLoadOrNone_21 (by decide) ?_
      exact a_zreturn dX11_isLoadOrNone_22 (by first | exact Or.inl rfl | exact Or.inr rfl) ⟨_, rfl, (h0 (fun z => z.elim a (fun z => absurd z.1 (Int32.not_le.mpr b))))⟩
    · refine a_iload_n dX11_isLoadOrNone_10 rfl ?_
      refine a_sipush (v := nI 200) dX11_isLoadOrNone_11 (by decide) ?_
      refine a_icmp_gt (tgt := 21) dX11_isLoadOrNone_14 (by decide) (fun c => ?_) (fun c => ?_)
      · refine a_iconst (v := nI 0) dX11_isLoadOrNone_21 (by decide) ?_
        exact a_zreturn dX11_isLoadOrNone_22 (by first | exact Or.inl rfl | exact Or.inr rfl) ⟨_, rfl, (h0 (fun z => z.elim a (fun z => absurd z.2 (Int32.not_le.mpr c))))⟩
      · refine a_iconst (v := nI 1) dX11_isLoadOrNone_17 (by decide) ?_
        refine a_goto (tgt := 22) dX11_isLoadOrNone_18 (by decide) ?_
        exact a_zreturn dX11_isLoadOrNone_22 (by first | exact Or.inl rfl | exact Or.inr rfl) ⟨_, rfl, (h1 (Or.inr ⟨Int32.not_lt.mp b, Int32.not_lt.mp c⟩))⟩

set_option maxHeartbeats 4000000 in
set_option maxRecDepth 100000 in
theorem l_isTries {G : am_G} {d : Nat} {I : am_I} {J : am_J} {K : Int32 → am_I → am_J → Prop} {x : Int32} (h1 : ∀ n, 1 ≤ n → n ≤ 20000 → x = nI n → K 1 I J) (h0 : ¬ (nI 1 ≤ x ∧ x ≤ nI 20000) → K 0 I J) : CMi G d yX11_isTries [.int x] I J K := by
  refine CM.of (L0 := [_]) cX11_isTries 1 (some .boolean) (by decide) (by decide) kcX11_isTries (Nat.le_of_ble_eq_true rfl) rfl ?_
  refine a_iload_n dX11_isTries_0 rfl ?_
  refine a_iconst (v := nI 1) dX11_isTries_1 (by decide) ?_
  refine a_icmp_lt (tgt := 16) dX11_isTries_2 (by decide) (fun a => ?_) (fun a => ?_)
  · refine a_iconst (v := nI 0) dX11_isTries_16 (by decide) ?_
    exact a_zreturn dX11_isTries_17 (by first | exact Or.inl rfl | exact Or.inr rfl) ⟨_, rfl, (h0 (fun z => absurd z.1 (Int32.not_le.mpr a)))⟩
  · refine a_iload_n dX11_isTries_5 rfl ?_
    refine a_sipush (v := nI 20000) dX11_isTries_6 (by decide) ?_
    refine a_icmp_gt (tgt := 16) dX11_isTries_9 (by decide) (fun b => ?_) (fun b => ?_)
    · refine a_iconst (v := nI 0) dX11_isTries_16 (by decide) ?_
      exact a_zreturn dX11_isTries_17 (by first | exact Or.inl rfl | exact Or.inr rfl) ⟨_, rfl, (h0 (fun z => absurd z.2 (Int32.not_le.mpr b)))⟩
    · refine a_iconst (v := nI 1) dX11_isTries_12 (by decide) ?_
      refine a_goto (tgt := 17) dX11_isTries_13 (by decide) ?_
      exact a_zreturn dX11_isTries_17 (by first | exact Or.inl rfl | exact Or.inr rfl) ⟨_, rfl, (by obtain ⟨n, p, q⟩ := (rg_iff1 (n := 20000) (by decide)).mp ⟨Int32.le_trans (by decide) (Int32.not_lt.mp a), Int32.not_lt.mp b⟩; subst q; exact h1 n ((nI_leI (by decide) (by omega)).mp (Int32.not_lt.mp a)) p rfl)⟩

set_option maxHeartbeats 4000000 in
set_option maxRecDepth 100000 in
theorem l_isSheet {G : am_G} {d : Nat} {I : am_I} {J : am_J} {K : Int32 → am_I → am_J → Prop} {x : Int32} (h1 : ∀ s, s < 4 → x = nI s → K 1 I J) (h0 : ¬ (∃ s, s < 4 ∧ x = nI s) → K 0 I J) : CMi G d yX11_isSheet [.int x] I J K := by
  refine CM.of (L0 := [_]) cX11_isSheet 1 (some .boolean) (by decide) (by decide) kcX11_isSheet (Nat.le_of_ble_eq_true rfl) rfl ?_
  refine a_iload_n dX11_isSheet_0 rfl ?_
  refine a_if_lt (tgt := 13) dX11_isSheet_1 (by decide) (fun a => ?_) (fun a => ?_)
  · refine a_iconst (v := nI 0) dX11_isSheet_13 (by decide) ?_
    exact a_zreturn dX11_isSheet_14 (by first | exact Or.inl rfl | exact Or.inr rfl) ⟨_, rfl, (h0 (fun ⟨l, p, q⟩ => by rw [q] at a; exact nI_pos (by omega) a))⟩
  · refine a_iload_n dX11_isSheet_4 rfl ?_
    refine a_iconst (v := nI 4) dX11_isSheet_5 (by decide) ?_
    refine a_icmp_ge (tgt := 13) dX11_isSheet_6 (by decide) (fun b => ?_) (fun b => ?_)
    · refine a_iconst (v := nI 0) dX11_isSheet_13 (by decide) ?_
      exact a_zreturn dX11_isSheet_14 (by first | exact Or.inl rfl | exact Or.inr rfl) ⟨_, rfl, (h0 (fun ⟨l, p, q⟩ => by rw [q] at b; exact nI_ge p (by decide) b))⟩
    · refine a_iconst (v := nI 1) dX11_isSheet_9 (by decide) ?_
      refine a_goto (tgt := 14) dX11_isSheet_10 (by decide) ?_
      exact a_zreturn dX11_isSheet_14 (by first | exact Or.inl rfl | exact Or.inr rfl) ⟨_, rfl, (by obtain ⟨h, p, q⟩ := (rg_iff (n := 4) (by decide)).mp ⟨Int32.not_lt.mp a, Int32.not_le.mp b⟩; exact h1 h p q)⟩

theorem mNB_10 {I : am_I} {x : Int32} : mNB I x 1 0 = x := by simp [mNB, mFill, am_up]
theorem mNB_11 {I : am_I} {x : Int32} : mNB I x 1 1 = nI 0 := by simp [mNB, mFill, am_up]
set_option maxHeartbeats 4000000 in
set_option maxRecDepth 100000 in
theorem l_net {G : am_G} {d : Nat} {I : am_I} {J : am_J} {K : Int32 → am_I → am_J → Prop} {x : Int32} {F T : Nat → Nat} {S : Nat → Bool} (h1 : ∀ k, 2 ≤ k → k ≤ 6 → x = nI k → ∀ I1, (∀ a, a ≠ 2 → a ≠ 44 → a ≠ 45 → a ≠ 46 → I1 a = mNB I x a) → rvC 2 44 45 F T S 0 k I1 → K x (am_up I1 0 10 (nI 0)) J) (h0 : ¬ (nI 2 ≤ x ∧ x ≤ nI 6) → K (-1) I J) : CMi G (d + 3) yX11_net [.ref 0, .int x] I J K := by
  refine CM.of (L0 := [_, _]) cX11_net 2 (some .int) (by decide) (by decide) kcX11_net (Nat.le_of_ble_eq_true rfl) rfl ?_
  refine a_iload_n dX11_net_0 rfl ?_
  refine a_iconst (v := nI 2) dX11_net_1 (by decide) ?_
  refine a_icmp_lt (tgt := 11) dX11_net_2 (by decide) (fun a => ?_) (fun a => ?_)
  · refine a_iconst (v := (-1)) dX11_net_11 (by decide) ?_
    exact a_ireturn dX11_net_12 ⟨_, rfl, (h0 (fun z => absurd z.1 (Int32.not_le.mpr a)))⟩
  · refine a_iload_n dX11_net_5 rfl ?_
    refine a_bipush (v := nI 6) dX11_net_6 (by decide) ?_
    refine a_icmp_le (tgt := 13) dX11_net_8 (by decide) (fun b => ?_) (fun b => ?_)
    · obtain ⟨k, p, q⟩ := (rg_iff1 (n := 6) (by decide)).mp ⟨Int32.le_trans (by decide) (Int32.not_lt.mp a), b⟩
      have hk2 : 2 ≤ k := by subst q; exact (nI_leI (by decide) (by omega)).mp (Int32.not_lt.mp a)
      refine a_aload_n dX11_net_13 rfl ?_
      refine a_getr dX11_net_14 kf_X11_10 ⟨by decide, _, rfl, rfl⟩ ?_
      refine a_iload_n dX11_net_17 rfl ?_
      refine a_callVv (As := [_]) dX11_net_18 km_X11_101 ⟨by decide, _, _, _, rfl, rfl⟩ rfl rfl (Nat.le_of_ble_eq_true rfl) ?_
      refine n_begin ?_
      refine a_aload_n dX11_net_21 rfl ?_
      refine a_getr dX11_net_22 kf_X11_19 ⟨by decide, _, rfl, rfl⟩ ?_
      refine a_aload_n dX11_net_25 rfl ?_
      refine a_getr dX11_net_26 kf_X11_10 ⟨by decide, _, rfl, rfl⟩ ?_
      refine a_bipush (v := (-9)) dX11_net_29 (by decide) ?_
      refine a_callVv (As := [_, _]) dX11_net_31 km_X11_97 ⟨by decide, _, _, _, rfl, rfl⟩ rfl rfl (Nat.le_of_ble_eq_true rfl) ?_
      refine r_finda (N := k) (n := 0) (F := F) (T := T) (S := S) ⟨by rw [mNB_10]; exact q, hk2, p, mNB_11, by omega, fun l hl => by omega, fun l hl => by omega⟩ (fun I1 hf hv => ?_)
      refine a_aload_n dX11_net_34 rfl ?_
      refine a_iconst (v := nI 0) dX11_net_35 (by decide) ?_
      refine a_putz dX11_net_36 kp_X11_79 ⟨by decide, _, rfl, rfl⟩ (by first | exact Or.inl rfl | exact Or.inr rfl) ?_
      refine a_iload_n dX11_net_39 rfl ?_
      exact a_ireturn dX11_net_40 ⟨_, rfl, (h1 k hk2 p q I1 hf hv)⟩
    · refine a_iconst (v := (-1)) dX11_net_11 (by decide) ?_
      exact a_ireturn dX11_net_12 ⟨_, rfl, (h0 (fun z => b z.2))⟩

def sNo (S : Nat → Bool) (n : Nat) : Nat → Bool := fun l => if l = n then false else S l
theorem mLB_row {I : am_I} {n a : Nat} {x y z : Int32} (h1 : a ≠ 20 + n) (h2 : a ≠ 32 + n) : mLB I n x y z a = I a := by
  funext b
  simp [mLB, mFill, h1, h2, am_up_ne h1]
theorem mLB_at {I : am_I} {n : Nat} {x y z : Int32} : mLB I n x y z (20 + n) 0 = x ∧ mLB I n x y z (20 + n) 1 = y ∧ mLB I n x y z (20 + n) 2 = z ∧ mLB I n x y z (20 + n) 3 = nI 0 ∧ mLB I n x y z (20 + n) 4 = nI 100 ∧ mLB I n x y z (20 + n) 5 = -9 := by
  have h : ¬ 20 + n = 32 + n := by omega
  simp [mLB, mFill, h, am_up]
theorem mLB_rd {I : am_I} {n h : Nat} {x y z : Int32} (hh : h < 24) : mLB I n x y z (32 + n) h = -9 := by
  simp [mLB, mFill, hh]
theorem rwC_add {I : am_I} {N n p q : Nat} {F T : Nat → Nat} {S : Nat → Bool} {x : Int32} (hR : rwC I (-9) N n F T S) (hp : p < N) (hq : q < N) (hn : n < 12) : rwC (am_up (mLB I n x (nI p) (nI q)) 1 1 (nI (n + 1))) (-9) N (n + 1) (upN F n p) (upN T n q) (sNo S n) := by
  obtain ⟨a1, a2, a3, a4, a5, a6, a7⟩ := hR
  refine ⟨?_, a2, a3, by rw [am_up_same], by omega, fun l hl => ?_, fun l hl => ?_⟩
  · rw [am_up_slot (by decide), mLB_row (by omega) (by omega)]; exact a1
  · rw [am_up_ne (by omega)]
    by_cases e : l = n
    · subst e
      obtain ⟨b0, b1, b2, b3⟩ := mLB_at (I := I) (n := l) (x := x) (y := nI p) (z := nI q)
      rw [b1, b2, upN_same, upN_same]
      exact ⟨rfl, hp, rfl, hq⟩
    · rw [mLB_row (by omega) (by omega), upN_ne e, upN_ne e]
      exact a6 l (by omega)
  · rw [am_up_ne (by omega)]
    unfold sNo
    by_cases e : l = n
    · subst e
      obtain ⟨b0, b1, b2, b3, _⟩ := mLB_at (I := I) (n := l) (x := x) (y := nI p) (z := nI q)
      rw [b3, if_pos rfl]
      have : ¬ nI l = -9 := nI_ne_neg (by omega) (by decide)
      simp [this, nI_0]
    · rw [mLB_row (by omega) (by omega), if_neg e]
      exact a7 l (by omega)
set_option maxHeartbeats 4000000 in
set_option maxRecDepth 100000 in
theorem l_line {G : am_G} {d : Nat} {I : am_I} {J : am_J} {K : Int32 → am_I → am_J → Prop} {x y z : Int32} {N n : Nat} {F T : Nat → Nat} {S : Nat → Bool} (hR : rwC I (-9) N n F T S) (h1 : ∀ k p q, k ≤ 3 → p < N → q < N → p ≠ q → x = nI k → y = nI p → z = nI q → n < 12 → ∀ I1, (∀ a, a ≠ 2 → a ≠ 44 → a ≠ 45 → a ≠ 46 → I1 a = am_up (mLB I n x y z) 1 1 (nI (n + 1)) a) → rvC 2 44 45 (upN F n p) (upN T n q) (sNo S n) (n + 1) N I1 → K (nI n) I1 J) (h2 : ∀ k, k ≤ 3 → x = nI k → isPr N y z → n = 12 → K (-2) I J) (h0 : ¬ ((nI 0 ≤ x ∧ x ≤ nI 3) ∧ isPr N y z) → K (-1) I J) : CMi G (d + 3) yX11_line [.ref 0, .int x, .int y, .int z] I J K := by
  refine CM.of (L0 := [_, _, _, _, _]) cX11_line 5 (some .int) (by decide) (by decide) kcX11_line (Nat.le_of_ble_eq_true rfl) rfl ?_
  obtain ⟨hN, hN2, hb, hn, hn12, r6, r7⟩ := id hR
  refine a_iload_n dX11_line_0 rfl ?_
  refine a_if_lt (tgt := 21) dX11_line_1 (by decide) (fun a => ?_) (fun a => ?_)
  · refine a_iconst (v := (-1)) dX11_line_21 (by decide) ?_
    exact a_ireturn dX11_line_22 ⟨_, rfl, (h0 (fun z => absurd z.1.1 (Int32.not_le.mpr a)))⟩
  · refine a_iload_n dX11_line_4 rfl ?_
    refine a_iconst (v := nI 3) dX11_line_5 (by decide) ?_
    refine a_icmp_gt (tgt := 21) dX11_line_6 (by decide) (fun b => ?_) (fun b => ?_)
    · refine a_iconst (v := (-1)) dX11_line_21 (by decide) ?_
      exact a_ireturn dX11_line_22 ⟨_, rfl, (h0 (fun z => absurd z.1.2 (Int32.not_le.mpr b)))⟩
    · obtain ⟨k, hk, ek⟩ := (rg_iff1 (n := 3) (by decide)).mp ⟨Int32.not_lt.mp a, Int32.not_lt.mp b⟩
      refine a_aload_n dX11_line_9 rfl ?_
      refine a_getr dX11_line_10 kf_X11_10 ⟨by decide, _, rfl, rfl⟩ ?_
      refine a_iload_n dX11_line_13 rfl ?_
      refine a_iload_n dX11_line_14 rfl ?_
      refine a_callVi (As := [_, _]) dX11_line_15 km_X11_105 ⟨by decide, _, _, _, rfl, rfl⟩ rfl rfl (Nat.le_of_ble_eq_true rfl) ?_
      refine n_isPair hN (by omega) (fun p q hp hq hpq ep eq => ?_) (fun e0 => ?_)
      · refine a_if_ne (tgt := 23) dX11_line_18 (by decide) (fun h18 => ?_) (fun h18 => ?_)
        · refine a_aload_n dX11_line_23 rfl ?_
          refine a_getr dX11_line_24 kf_X11_10 ⟨by decide, _, rfl, rfl⟩ ?_
          refine a_geti dX11_line_27 kf_X11_109 ⟨by decide, _, rfl, rfl⟩ hn ?_
          refine a_bipush (v := nI 12) dX11_line_30 (by decide) ?_
          refine a_icmp_ltN (tgt := 38) dX11_line_32 (by decide) (by omega) (by omega) (fun c => ?_) (fun c => ?_)
          · refine a_aload_n dX11_line_38 rfl ?_
            refine a_getr dX11_line_39 kf_X11_10 ⟨by decide, _, rfl, rfl⟩ ?_
            refine a_iload_n dX11_line_42 rfl ?_
            refine a_iload_n dX11_line_43 rfl ?_
            refine a_iload_n dX11_line_44 rfl ?_
            refine a_callVi (As := [_, _, _]) dX11_line_45 km_X11_112 ⟨by decide, _, _, _, rfl, rfl⟩ rfl rfl (Nat.le_of_ble_eq_true rfl) ?_
            refine n_addLine hn c ?_
            refine a_istore (L' := [_, _, _, _, _]) dX11_line_48 (Nat.le_of_ble_eq_true rfl) rfl ?_
            refine a_aload_n dX11_line_50 rfl ?_
            refine a_getr dX11_line_51 kf_X11_19 ⟨by decide, _, rfl, rfl⟩ ?_
            refine a_aload_n dX11_line_54 rfl ?_
            refine a_getr dX11_line_55 kf_X11_10 ⟨by decide, _, rfl, rfl⟩ ?_
            refine a_bipush (v := (-9)) dX11_line_58 (by decide) ?_
            refine a_callVv (As := [_, _]) dX11_line_60 km_X11_97 ⟨by decide, _, _, _, rfl, rfl⟩ rfl rfl (Nat.le_of_ble_eq_true rfl) ?_
            refine r_finda (by subst ep eq; exact rwC_add hR hp hq c) (fun I1 hf hv => ?_)
            refine a_iload dX11_line_63 rfl ?_
            exact a_ireturn dX11_line_65 ⟨_, rfl, (h1 k p q hk hp hq hpq ek ep eq c I1 hf hv)⟩
          · refine a_bipush (v := (-2)) dX11_line_35 (by decide) ?_
            exact a_ireturn dX11_line_37 ⟨_, rfl, (h2 k hk ek ⟨p, q, hp, hq, hpq, ep, eq⟩ (by omega))⟩
        · exact absurd h18 (by decide)
      · refine a_if_ne (tgt := 23) dX11_line_18 (by decide) (fun h18 => ?_) (fun h18 => ?_)
        · exact absurd h18 (by decide)
        · refine a_iconst (v := (-1)) dX11_line_21 (by decide) ?_
          exact a_ireturn dX11_line_22 ⟨_, rfl, (h0 (fun z => e0 z.2))⟩

def tlK (I : am_I) (l j : Nat) : Int32 := if j = 0 then I (20 + l) 0 else if j = 1 then I (20 + l) 1 else if j = 2 then I (20 + l) 2 else if j = 3 then I (20 + l) 3 else if j = 4 then I (20 + l) 5 else I (20 + l) 4
theorem tab_out {x : Int32} {m : Nat} (hm : m < 2 ^ 31) (h : ¬ (nI 0 ≤ x ∧ x ≤ nI m)) : x.toInt < (0 : Int) ∨ (m : Int) < x.toInt := by
  rw [Int32.le_iff_toInt_le, Int32.le_iff_toInt_le, nI_toInt hm, nI_toInt (by decide)] at h
  omega
set_option maxHeartbeats 4000000 in
set_option maxRecDepth 100000 in
theorem l_told {G : am_G} {d : Nat} {I : am_I} {J : am_J} {K : Int32 → am_I → am_J → Prop} {x y : Int32} {n : Nat} (hn : I 1 1 = nI n) (hn12 : n ≤ 12) (hd : ∀ l, l < n → I (20 + l) 3 = 0 ∨ I (20 + l) 3 = 1) (h1 : ∀ l j, l < n → x = nI l → j ≤ 5 → y = nI j → K (tlK I l j) I J) (h0 : ¬ (isLn n x ∧ nI 0 ≤ y ∧ y ≤ nI 5) → K (-1) I J) : CMi G (d + 1) yX11_told [.ref 0, .int x, .int y] I J K := by
  refine CM.of (L0 := [_, _, _, _]) cX11_told 4 (some .int) (by decide) (by decide) kcX11_told (Nat.le_of_ble_eq_true rfl) rfl ?_
  refine a_aload_n dX11_told_0 rfl ?_
  refine a_getr dX11_told_1 kf_X11_10 ⟨by decide, _, rfl, rfl⟩ ?_
  refine a_iload_n dX11_told_4 rfl ?_
  refine a_callVi (As := [_]) dX11_told_5 km_X11_116 ⟨by decide, _, _, _, rfl, rfl⟩ rfl rfl (Nat.le_of_ble_eq_true rfl) ?_
  refine n_isLine hn (by omega) (fun l hl el => ?_) (fun e0 => ?_)
  · subst el
    have hl12 : l < 12 := by omega
    refine a_if_ne (tgt := 13) dX11_told_8 (by decide) (fun h8 => ?_) (fun h8 => ?_)
    · refine a_aload_n dX11_told_13 rfl ?_
      refine a_getr dX11_told_14 kf_X11_10 ⟨by decide, _, rfl, rfl⟩ ?_
      refine a_getr dX11_told_17 kf_X11_120 ⟨by decide, _, rfl, rfl⟩ ?_
      refine a_iload_n dX11_told_20 rfl ?_
      refine a_aald dX11_told_21 ⟨by decide, rfl⟩ (by decide) (by omega) rfl ?_
      refine a_astore_n (L' := [_, _, _, _]) dX11_told_22 (Nat.le_of_ble_eq_true rfl) rfl ?_
      refine a_iload_n dX11_told_23 rfl ?_
      by_cases hy : nI 0 ≤ y ∧ y ≤ nI 5
      · obtain ⟨j, hj, rfl⟩ := (rg_iff1 (n := 5) (by decide)).mp hy
        have hc : j = 0 ∨ j = 1 ∨ j = 2 ∨ j = 3 ∨ j = 4 ∨ j = 5 := by omega
        have hk := h1 l j hl rfl hj rfl
        rcases hc with rfl | rfl | rfl | rfl | rfl | rfl
        · refine a_tabIn (off := 40) (tgt := 64) dX11_told_24 (by decide) (by decide) (by decide) (by decide) ?_
          refine a_aload_n dX11_told_64 rfl ?_
          refine a_geti dX11_told_65 kf_X11_124 (sh_at (by omega) rfl) rfl ?_
          exact a_ireturn dX11_told_68 ⟨_, rfl, hk⟩
        · refine a_tabIn (off := 45) (tgt := 69) dX11_told_24 (by decide) (by decide) (by decide) (by decide) ?_
          refine a_aload_n dX11_told_69 rfl ?_
          refine a_geti dX11_told_70 kf_X11_129 (sh_at (by omega) rfl) rfl ?_
          exact a_ireturn dX11_told_73 ⟨_, rfl, hk⟩
        · refine a_tabIn (off := 50) (tgt := 74) dX11_told_24 (by decide) (by decide) (by decide) (by decide) ?_
          refine a_aload_n dX11_told_74 rfl ?_
          refine a_geti dX11_told_75 kf_X11_132 (sh_at (by omega) rfl) rfl ?_
          exact a_ireturn dX11_told_78 ⟨_, rfl, hk⟩
        · refine a_tabIn (off := 55) (tgt := 79) dX11_told_24 (by decide) (by decide) (by decide) (by decide) ?_
          refine a_aload_n dX11_told_79 rfl ?_
          refine a_geti dX11_told_80 kf_X11_135 (sh_at (by omega) rfl) rfl ?_
          refine a_tif_eq (tgt := 90) (pj := 91) (a := (nI 0)) (b := (nI 1)) dX11_told_83 (by decide) (fun kj => ?_) (fun kj => ?_) ?_
          · refine a_iconst (v := nI 0) dX11_told_90 (by decide) ?_
            exact kj
          · refine a_iconst (v := nI 1) dX11_told_86 (by decide) ?_
            refine a_goto (tgt := 91) dX11_told_87 (by decide) ?_
            exact kj
          refine a_topi (v := I (20 + l) 3) (by rcases hd l hl with e | e <;> rw [e] <;> decide) ?_
          exact a_ireturn dX11_told_91 ⟨_, rfl, hk⟩
        · refine a_tabIn (off := 68) (tgt := 92) dX11_told_24 (by decide) (by decide) (by decide) (by decide) ?_
          refine a_aload_n dX11_told_92 rfl ?_
          refine a_geti dX11_told_93 kf_X11_138 (sh_at (by omega) rfl) rfl ?_
          exact a_ireturn dX11_told_96 ⟨_, rfl, hk⟩
        · refine a_tabIn (off := 73) (tgt := 97) dX11_told_24 (by decide) (by decide) (by decide) (by decide) ?_
          refine a_aload_n dX11_told_97 rfl ?_
          refine a_geti dX11_told_98 kf_X11_141 (sh_at (by omega) rfl) rfl ?_
          exact a_ireturn dX11_told_101 ⟨_, rfl, hk⟩
      · refine a_tabOut (tgt := 102) dX11_told_24 (tab_out (by decide) hy) (by decide) ?_
        refine a_iconst (v := (-1)) dX11_told_102 (by decide) ?_
        exact a_ireturn dX11_told_103 ⟨_, rfl, (h0 (fun z => hy z.2))⟩
    · exact absurd h8 (by decide)
  · refine a_if_ne (tgt := 13) dX11_told_8 (by decide) (fun h8 => ?_) (fun h8 => ?_)
    · exact absurd h8 (by decide)
    · refine a_iconst (v := (-1)) dX11_told_11 (by decide) ?_
      exact a_ireturn dX11_told_12 ⟨_, rfl, (h0 (fun z => e0 z.1))⟩

set_option maxHeartbeats 4000000 in
set_option maxRecDepth 100000 in
theorem l_mark {G : am_G} {d : Nat} {I : am_I} {J : am_J} {K : Int32 → am_I → am_J → Prop} {x y : Int32} {N n : Nat} {F T : Nat → Nat} {S : Nat → Bool} (hn : I 1 1 = nI n) (hn12 : n ≤ 12) (hN6 : N ≤ 6) (hrl : rlP 44 45 n (N * N) (RoC F T S n N) I) (hpl : I 2 0 = nI (N * N)) (h1 : ∀ l, l < n → x = nI l → y = nI 1 → (I (20 + l) 0 = nI 1 ∨ I (20 + l) 0 = nI 2) → K (ctC I l) I J) (h2 : ∀ l, l < n → x = nI l → y = nI 2 → I (20 + l) 0 = nI 2 → K (nI (cN (rkC I l) 24)) I J) (h3 : ∀ l, l < n → x = nI l → y = nI 3 → I (20 + l) 0 = nI 3 → K (nI (cN (gbQ (RoC F T S n N) l) (N * N))) I J) (h4 : ∀ l q, l < n → x = nI l → 1 ≤ q → q ≤ 3 → y = nI q → ¬ (I (20 + l) 0 = nI q ∨ q = 1 ∧ I (20 + l) 0 = nI 2) → K (-3) (mFou I 3) J) (h0 : ¬ (isLn n x ∧ nI 1 ≤ y ∧ y ≤ nI 3) → K (-1) I J) : CMi G (d + 3) yX11_mark [.ref 0, .int x, .int y] I J K := by
  refine CM.of (L0 := [_, _, _, _]) cX11_mark 4 (some .int) (by decide) (by decide) kcX11_mark (Nat.le_of_ble_eq_true rfl) rfl ?_
  refine a_aload_n dX11_mark_0 rfl ?_
  refine a_getr dX11_mark_1 kf_X11_10 ⟨by decide, _, rfl, rfl⟩ ?_
  refine a_iload_n dX11_mark_4 rfl ?_
  refine a_callVi (As := [_]) dX11_mark_5 km_X11_116 ⟨by decide, _, _, _, rfl, rfl⟩ rfl rfl (Nat.le_of_ble_eq_true rfl) ?_
  refine n_isLine hn (by omega) (fun l hl el => ?_) (fun e0 => ?_)
  · subst el
    have hl12 : l < 12 := by omega
    refine a_if_eq (tgt := 21) dX11_mark_8 (by decide) (fun h8 => ?_) (fun h8 => ?_)
    · exact absurd h8 (by decide)
    · refine a_iload_n dX11_mark_11 rfl ?_
      refine a_iconst (v := nI 1) dX11_mark_12 (by decide) ?_
      refine a_icmp_lt (tgt := 21) dX11_mark_13 (by decide) (fun a => ?_) (fun a => ?_)
      · refine a_iconst (v := (-1)) dX11_mark_21 (by decide) ?_
        exact a_ireturn dX11_mark_22 ⟨_, rfl, (h0 (fun z => absurd z.2.1 (Int32.not_le.mpr a)))⟩
      · refine a_iload_n dX11_mark_16 rfl ?_
        refine a_iconst (v := nI 3) dX11_mark_17 (by decide) ?_
        refine a_icmp_le (tgt := 23) dX11_mark_18 (by decide) (fun b => ?_) (fun b => ?_)
        · obtain ⟨q, hq, rfl⟩ := (rg_iff1 (n := 3) (by decide)).mp ⟨Int32.le_trans (by decide) (Int32.not_lt.mp a), b⟩
          have hq1 : 1 ≤ q := (nI_leI (by decide) (by omega)).mp (Int32.not_lt.mp a)
          refine a_aload_n dX11_mark_23 rfl ?_
          refine a_getr dX11_mark_24 kf_X11_10 ⟨by decide, _, rfl, rfl⟩ ?_
          refine a_getr dX11_mark_27 kf_X11_120 ⟨by decide, _, rfl, rfl⟩ ?_
          refine a_iload_n dX11_mark_30 rfl ?_
          refine a_aald dX11_mark_31 ⟨by decide, rfl⟩ (by decide) (by omega) rfl ?_
          refine a_astore_n (L' := [_, _, _, _]) dX11_mark_32 (Nat.le_of_ble_eq_true rfl) rfl ?_
          refine a_aload_n dX11_mark_33 rfl ?_
          refine a_iload_n dX11_mark_34 rfl ?_
          refine a_callVi (As := [_]) dX11_mark_35 km_X11_144 (sh_ob (by omega)) rfl rfl (Nat.le_of_ble_eq_true rfl) ?_
          refine k_isOf (by omega) (fun g => ?_) (fun g => ?_)
          · refine a_if_ne (tgt := 47) dX11_mark_38 (by decide) (fun h38 => ?_) (fun h38 => ?_)
            · refine a_iload_n dX11_mark_47 rfl ?_
              refine a_iconst (v := nI 1) dX11_mark_48 (by decide) ?_
              refine a_icmp_neN (tgt := 57) dX11_mark_49 (by decide) (by omega) (by omega) (fun c => ?_) (fun c => ?_)
              · refine a_iload_n dX11_mark_57 rfl ?_
                refine a_iconst (v := nI 2) dX11_mark_58 (by decide) ?_
                refine a_icmp_neN (tgt := 67) dX11_mark_59 (by decide) (by omega) (by omega) (fun e => ?_) (fun e => ?_)
                · obtain rfl : q = 3 := by omega
                  refine a_aload_n dX11_mark_67 rfl ?_
                  refine a_getr dX11_mark_68 kf_X11_19 ⟨by decide, _, rfl, rfl⟩ ?_
                  refine a_iload_n dX11_mark_71 rfl ?_
                  refine a_callVi (As := [_]) dX11_mark_72 km_X11_158 ⟨by decide, _, _, _, rfl, rfl⟩ rfl rfl (Nat.le_of_ble_eq_true rfl) ?_
                  refine r_pairsOn hrl (sq_le hN6) hpl hn12 (by omega) ?_
                  exact a_ireturn dX11_mark_75 ⟨_, rfl, (h3 l hl rfl rfl (g.elim id (fun z => absurd z.1 (by decide))))⟩
                · obtain rfl : q = 2 := e
                  refine a_aload_n dX11_mark_62 rfl ?_
                  refine a_callVi (As := []) dX11_mark_63 km_X11_155 (sh_ob (by omega)) rfl rfl (Nat.le_of_ble_eq_true rfl) ?_
                  refine k_readingsKept (by omega) ?_
                  exact a_ireturn dX11_mark_66 ⟨_, rfl, (h2 l hl rfl rfl (g.elim id (fun z => absurd z.1 (by decide))))⟩
              · obtain rfl : q = 1 := c
                refine a_aload_n dX11_mark_52 rfl ?_
                refine a_callVi (As := []) dX11_mark_53 km_X11_151 (sh_ob (by omega)) rfl rfl (Nat.le_of_ble_eq_true rfl) ?_
                refine k_counterSize (by omega) ?_
                exact a_ireturn dX11_mark_56 ⟨_, rfl, (h1 l hl rfl rfl (g.elim Or.inl (fun z => Or.inr z.2)))⟩
            · exact absurd h38 (by decide)
          · refine a_if_ne (tgt := 47) dX11_mark_38 (by decide) (fun h38 => ?_) (fun h38 => ?_)
            · exact absurd h38 (by decide)
            · refine a_aload_n dX11_mark_41 rfl ?_
              refine a_iconst (v := nI 3) dX11_mark_42 (by decide) ?_
              refine a_callVi (As := [_]) dX11_mark_43 km_X11_147 ⟨by decide, _, _, _, rfl, rfl⟩ rfl rfl (Nat.le_of_ble_eq_true rfl) ?_
              refine l_found (by decide) ?_
              exact a_ireturn dX11_mark_46 ⟨_, rfl, (h4 l q hl rfl hq1 hq rfl (fun z => g (z.elim Or.inl (fun z => Or.inr ⟨by rw [z.1], z.2⟩))))⟩
        · refine a_iconst (v := (-1)) dX11_mark_21 (by decide) ?_
          exact a_ireturn dX11_mark_22 ⟨_, rfl, (h0 (fun z => b z.2.2))⟩
  · refine a_if_eq (tgt := 21) dX11_mark_8 (by decide) (fun h8 => ?_) (fun h8 => ?_)
    · refine a_iconst (v := (-1)) dX11_mark_21 (by decide) ?_
      exact a_ireturn dX11_mark_22 ⟨_, rfl, (h0 (fun z => e0 z.1))⟩
    · exact absurd h8 (by decide)

theorem rwC_dn {I : am_I} {N n l : Nat} {F T : Nat → Nat} {S : Nat → Bool} {y : Int32} (hR : rwC I (-9) N n F T S) (hl : l < n) : rwC (am_up I (20 + l) 3 y) (-9) N n F T (fun k => if k = l then decide (y ≠ 0 ∨ nI l = -9) else S k) := by
  obtain ⟨a1, a2, a3, a4, a5, a6, a7⟩ := hR
  refine ⟨by rw [am_up_ne (by omega)]; exact a1, a2, a3, by rw [am_up_ne (by omega)]; exact a4, a5, fun k hk => ?_, fun k hk => ?_⟩
  · by_cases e : k = l
    · subst e
      rw [am_up_slot (by decide), am_up_slot (by decide)]
      exact a6 k hk
    · rw [am_up_ne (by omega)]; exact a6 k hk
  · show (if k = l then decide (y ≠ 0 ∨ nI l = -9) else S k) = _
    by_cases e : k = l
    · subst e
      rw [am_up_same, if_pos rfl]
    · rw [am_up_ne (by omega), if_neg e]; exact a7 k hk
set_option maxHeartbeats 4000000 in
set_option maxRecDepth 100000 in
theorem l_down {G : am_G} {d : Nat} {I : am_I} {J : am_J} {K : Int32 → am_I → am_J → Prop} {x y : Int32} {N n : Nat} {F T : Nat → Nat} {S : Nat → Bool} (hR : rwC I (-9) N n F T S) (hy : y = 0 ∨ y = 1) (hd : ∀ l, l < n → I (20 + l) 3 = 0 ∨ I (20 + l) 3 = 1) (h1 : ∀ l, l < n → x = nI l → ∀ I1, (∀ a, a ≠ 2 → a ≠ 44 → a ≠ 45 → a ≠ 46 → I1 a = am_up I (20 + l) 3 y a) → rvC 2 44 45 F T (fun k => if k = l then decide (y ≠ 0 ∨ nI l = -9) else S k) n N I1 → K (I (20 + l) 3) I1 J) (h0 : ¬ isLn n x → K (-1) I J) : CMi G (d + 3) yX11_down [.ref 0, .int x, .int y] I J K := by
  refine CM.of (L0 := [_, _, _, _]) cX11_down 4 (some .int) (by decide) (by decide) kcX11_down (Nat.le_of_ble_eq_true rfl) rfl ?_
  obtain ⟨hN, hN2, hb, hn, hn12, r6, r7⟩ := id hR
  refine a_aload_n dX11_down_0 rfl ?_
  refine a_getr dX11_down_1 kf_X11_10 ⟨by decide, _, rfl, rfl⟩ ?_
  refine a_iload_n dX11_down_4 rfl ?_
  refine a_callVi (As := [_]) dX11_down_5 km_X11_116 ⟨by decide, _, _, _, rfl, rfl⟩ rfl rfl (Nat.le_of_ble_eq_true rfl) ?_
  refine n_isLine hn (by omega) (fun l hl el => ?_) (fun e0 => ?_)
  · subst el
    have hl12 : l < 12 := by omega
    refine a_if_ne (tgt := 13) dX11_down_8 (by decide) (fun h8 => ?_) (fun h8 => ?_)
    · refine a_aload_n dX11_down_13 rfl ?_
      refine a_getr dX11_down_14 kf_X11_10 ⟨by decide, _, rfl, rfl⟩ ?_
      refine a_getr dX11_down_17 kf_X11_120 ⟨by decide, _, rfl, rfl⟩ ?_
      refine a_iload_n dX11_down_20 rfl ?_
      refine a_aald dX11_down_21 ⟨by decide, rfl⟩ (by decide) (by omega) rfl ?_
      refine a_geti dX11_down_22 kf_X11_135 (sh_at (by omega) rfl) rfl ?_
      refine a_istore_n (L' := [_, _, _, _]) dX11_down_25 (Nat.le_of_ble_eq_true rfl) rfl ?_
      refine a_aload_n dX11_down_26 rfl ?_
      refine a_getr dX11_down_27 kf_X11_10 ⟨by decide, _, rfl, rfl⟩ ?_
      refine a_getr dX11_down_30 kf_X11_120 ⟨by decide, _, rfl, rfl⟩ ?_
      refine a_iload_n dX11_down_33 rfl ?_
      refine a_aald dX11_down_34 ⟨by decide, rfl⟩ (by decide) (by omega) rfl ?_
      refine a_iload_n dX11_down_35 rfl ?_
      refine a_putz dX11_down_36 kp_X11_135 (sh_at (by omega) rfl) hy ?_
      refine a_aload_n dX11_down_39 rfl ?_
      refine a_getr dX11_down_40 kf_X11_19 ⟨by decide, _, rfl, rfl⟩ ?_
      refine a_aload_n dX11_down_43 rfl ?_
      refine a_getr dX11_down_44 kf_X11_10 ⟨by decide, _, rfl, rfl⟩ ?_
      refine a_bipush (v := (-9)) dX11_down_47 (by decide) ?_
      refine a_callVv (As := [_, _]) dX11_down_49 km_X11_97 ⟨by decide, _, _, _, rfl, rfl⟩ rfl rfl (Nat.le_of_ble_eq_true rfl) ?_
      refine r_finda (rwC_dn hR hl) (fun I1 hf hv => ?_)
      refine a_iload_n dX11_down_52 rfl ?_
      refine a_tif_eq (tgt := 60) (pj := 61) (a := (nI 0)) (b := (nI 1)) dX11_down_53 (by decide) (fun kj => ?_) (fun kj => ?_) ?_
      · refine a_iconst (v := nI 0) dX11_down_60 (by decide) ?_
        exact kj
      · refine a_iconst (v := nI 1) dX11_down_56 (by decide) ?_
        refine a_goto (tgt := 61) dX11_down_57 (by decide) ?_
        exact kj
      refine a_topi (v := I (20 + l) 3) (by rcases hd l hl with e | e <;> rw [e] <;> decide) ?_
      exact a_ireturn dX11_down_61 ⟨_, rfl, (h1 l hl rfl I1 hf hv)⟩
    · exact absurd h8 (by decide)
  · refine a_if_ne (tgt := 13) dX11_down_8 (by decide) (fun h8 => ?_) (fun h8 => ?_)
    · exact absurd h8 (by decide)
    · refine a_iconst (v := (-1)) dX11_down_11 (by decide) ?_
      exact a_ireturn dX11_down_12 ⟨_, rfl, (h0 e0)⟩

set_option maxHeartbeats 4000000 in
set_option maxRecDepth 100000 in
theorem l_rate {G : am_G} {d : Nat} {I : am_I} {J : am_J} {K : Int32 → am_I → am_J → Prop} {x y : Int32} {n : Nat} (hn : I 1 1 = nI n) (hn12 : n ≤ 12) (h1 : ∀ l r, l < n → x = nI l → r ≤ 60000 → y = nI r → K (I (20 + l) 4) (am_up I (20 + l) 4 y) J) (h0 : ¬ (isLn n x ∧ nI 0 ≤ y ∧ y ≤ nI 60000) → K (-1) I J) : CMi G (d + 1) yX11_rate [.ref 0, .int x, .int y] I J K := by
  refine CM.of (L0 := [_, _, _, _]) cX11_rate 4 (some .int) (by decide) (by decide) kcX11_rate (Nat.le_of_ble_eq_true rfl) rfl ?_
  refine a_aload_n dX11_rate_0 rfl ?_
  refine a_getr dX11_rate_1 kf_X11_10 ⟨by decide, _, rfl, rfl⟩ ?_
  refine a_iload_n dX11_rate_4 rfl ?_
  refine a_callVi (As := [_]) dX11_rate_5 km_X11_116 ⟨by decide, _, _, _, rfl, rfl⟩ rfl rfl (Nat.le_of_ble_eq_true rfl) ?_
  refine n_isLine hn (by omega) (fun l hl el => ?_) (fun e0 => ?_)
  · subst el
    have hl12 : l < 12 := by omega
    refine a_if_eq (tgt := 21) dX11_rate_8 (by decide) (fun h8 => ?_) (fun h8 => ?_)
    · exact absurd h8 (by decide)
    · refine a_iload_n dX11_rate_11 rfl ?_
      refine a_if_lt (tgt := 21) dX11_rate_12 (by decide) (fun a => ?_) (fun a => ?_)
      · refine a_iconst (v := (-1)) dX11_rate_21 (by decide) ?_
        exact a_ireturn dX11_rate_22 ⟨_, rfl, (h0 (fun z => absurd z.2.1 (Int32.not_le.mpr a)))⟩
      · refine a_iload_n dX11_rate_15 rfl ?_
        refine a_ldc dX11_rate_16 kk_X11_161 (show (60000 : Int32) = nI 60000 by decide) ?_
        refine a_icmp_le (tgt := 23) dX11_rate_18 (by decide) (fun b => ?_) (fun b => ?_)
        · obtain ⟨r, hr, er⟩ := (rg_iff1 (n := 60000) (by decide)).mp ⟨Int32.not_lt.mp a, b⟩
          refine a_aload_n dX11_rate_23 rfl ?_
          refine a_getr dX11_rate_24 kf_X11_10 ⟨by decide, _, rfl, rfl⟩ ?_
          refine a_getr dX11_rate_27 kf_X11_120 ⟨by decide, _, rfl, rfl⟩ ?_
          refine a_iload_n dX11_rate_30 rfl ?_
          refine a_aald dX11_rate_31 ⟨by decide, rfl⟩ (by decide) (by omega) rfl ?_
          refine a_geti dX11_rate_32 kf_X11_141 (sh_at (by omega) rfl) rfl ?_
          refine a_istore_n (L' := [_, _, _, _]) dX11_rate_35 (Nat.le_of_ble_eq_true rfl) rfl ?_
          refine a_aload_n dX11_rate_36 rfl ?_
          refine a_getr dX11_rate_37 kf_X11_10 ⟨by decide, _, rfl, rfl⟩ ?_
          refine a_getr dX11_rate_40 kf_X11_120 ⟨by decide, _, rfl, rfl⟩ ?_
          refine a_iload_n dX11_rate_43 rfl ?_
          refine a_aald dX11_rate_44 ⟨by decide, rfl⟩ (by decide) (by omega) rfl ?_
          refine a_iload_n dX11_rate_45 rfl ?_
          refine a_puti dX11_rate_46 kp_X11_141 (sh_at (by omega) rfl) ?_
          refine a_iload_n dX11_rate_49 rfl ?_
          exact a_ireturn dX11_rate_50 ⟨_, rfl, (h1 l r hl rfl hr er)⟩
        · refine a_iconst (v := (-1)) dX11_rate_21 (by decide) ?_
          exact a_ireturn dX11_rate_22 ⟨_, rfl, (h0 (fun z => b z.2.2))⟩
  · refine a_if_eq (tgt := 21) dX11_rate_8 (by decide) (fun h8 => ?_) (fun h8 => ?_)
    · refine a_iconst (v := (-1)) dX11_rate_21 (by decide) ?_
      exact a_ireturn dX11_rate_22 ⟨_, rfl, (h0 (fun z => e0 z.1))⟩
    · exact absurd h8 (by decide)

