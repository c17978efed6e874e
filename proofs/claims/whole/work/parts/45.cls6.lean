/-! ===== the system: the goals ===== -/
set_option maxHeartbeats 4000000 in
set_option maxRecDepth 100000 in
theorem t_begin {G : am_G} {d : Nat} {I : am_I} {J : am_J} {K : am_I → am_J → Prop} {x : Int32} (hK : K (am_up (am_up I 5 1 (nI 0)) 5 2 x) J) : CMv G d yX10_begin [.ref 5, .int x] I J K := by
  refine CM.of (L0 := [_, _]) cX10_begin 2 none (by decide) (by decide) kcX10_begin (Nat.le_of_ble_eq_true rfl) rfl ?_
  refine a_aload_n dX10_begin_0 rfl ?_
  refine a_iconst (v := nI 0) dX10_begin_1 (by decide) ?_
  refine a_puti dX10_begin_2 kp_X10_15 ⟨by decide, _, rfl, rfl⟩ ?_
  refine a_aload_n dX10_begin_5 rfl ?_
  refine a_iload_n dX10_begin_6 rfl ?_
  refine a_puti dX10_begin_7 kp_X10_19 ⟨by decide, _, rfl, rfl⟩ ?_
  exact a_vreturn dX10_begin_10 ⟨rfl, hK⟩

def mTa (I : am_I) (c : Nat) : am_I := am_up (if c = 0 then am_cp I 56 (I 55) 0 0 36 else I) 5 1 (nI (c + 1))
set_option maxHeartbeats 4000000 in
set_option maxRecDepth 100000 in
theorem t_hasEnough {G : am_G} {d : Nat} {I : am_I} {J : am_J} {K : Int32 → am_I → am_J → Prop} {c e : Nat} (hF : I 5 1 = nI c) (hc1 : c + 1 < 2 ^ 31) (hE : I 5 2 = nI e) (he : e < 2 ^ 31) (hK : K (if e ≤ c + 1 then 1 else 0) (mTa I c) J) : CMi G (d + 1) yX10_hasEnough [.ref 5, .ref 55] I J K := by
  refine CM.of (L0 := [_, _]) cX10_hasEnough 2 (some .boolean) (by decide) (by decide) kcX10_hasEnough (Nat.le_of_ble_eq_true rfl) rfl ?_
  refine a_aload_n dX10_hasEnough_0 rfl ?_
  refine a_geti dX10_hasEnough_1 kf_X10_15 ⟨by decide, _, rfl, rfl⟩ hF ?_
  refine a_if_ne (tgt := 19) dX10_hasEnough_4 (by decide) (fun h4 => ?_) (fun h4 => ?_)
  · have hc : ¬ c = 0 := fun e => h4 (by rw [e]; rfl)
    unfold mTa at hK
    rw [if_neg hc] at hK
    refine a_aload_n dX10_hasEnough_19 rfl ?_
    refine a_dup dX10_hasEnough_20 rfl ?_
    refine a_geti dX10_hasEnough_21 kf_X10_15 ⟨by decide, _, rfl, rfl⟩ hF ?_
    refine a_iconst (v := nI 1) dX10_hasEnough_24 (by decide) ?_
    refine a_iadd dX10_hasEnough_25 (by first | exact nI_add _ _ | rfl) ?_
    refine a_puti dX10_hasEnough_26 kp_X10_15 ⟨by decide, _, rfl, rfl⟩ ?_
    refine a_aload_n dX10_hasEnough_29 rfl ?_
    refine a_geti dX10_hasEnough_30 kf_X10_15 ⟨by decide, _, rfl, rfl⟩ am_up_same ?_
    refine a_aload_n dX10_hasEnough_33 rfl ?_
    refine a_geti dX10_hasEnough_34 kf_X10_19 ⟨by decide, _, rfl, rfl⟩ (show am_up _ _ _ _ 5 2 = nI e by rw [am_up_slot (by decide)]; exact hE) ?_
    refine a_icmp_ltN (tgt := 44) dX10_hasEnough_37 (by decide) (by omega) (by omega) (fun g => ?_) (fun g => ?_)
    · refine a_iconst (v := nI 0) dX10_hasEnough_44 (by decide) ?_
      exact a_zreturn dX10_hasEnough_45 (by first | exact Or.inl rfl | exact Or.inr rfl) ⟨_, rfl, (by rw [if_neg (by omega)] at hK; exact hK)⟩
    · refine a_iconst (v := nI 1) dX10_hasEnough_40 (by decide) ?_
      refine a_goto (tgt := 45) dX10_hasEnough_41 (by decide) ?_
      exact a_zreturn dX10_hasEnough_45 (by first | exact Or.inl rfl | exact Or.inr rfl) ⟨_, rfl, (by rw [if_pos (by omega)] at hK; exact hK)⟩
  · have hc : c = 0 := nI_inj (by omega) (by decide) (by rw [nI_0]; exact h4)
    subst hc
    unfold mTa at hK
    rw [if_pos rfl] at hK
    refine a_aload_n dX10_hasEnough_7 rfl ?_
    refine a_iconst (v := nI 0) dX10_hasEnough_8 (by decide) ?_
    refine a_aload_n dX10_hasEnough_9 rfl ?_
    refine a_getr dX10_hasEnough_10 kf_X10_9 ⟨by decide, _, rfl, rfl⟩ ?_
    refine a_iconst (v := nI 0) dX10_hasEnough_13 (by decide) ?_
    refine a_bipush (v := nI 36) dX10_hasEnough_14 (by decide) ?_
    refine a_copy dX10_hasEnough_16 kl_X10_22 kn_copy ks_copy ki_System ⟨by decide, rfl⟩ ⟨by decide, rfl⟩ (by decide) (by decide) (by decide) (fun e => absurd e (by decide)) (Nat.le_of_ble_eq_true rfl) ?_
    refine a_aload_n dX10_hasEnough_19 rfl ?_
    refine a_dup dX10_hasEnough_20 rfl ?_
    refine a_geti dX10_hasEnough_21 kf_X10_15 ⟨by decide, _, rfl, rfl⟩ (show am_cp _ _ _ _ _ _ 5 1 = nI 0 by rw [am_cp_ne (by decide)]; exact hF) ?_
    refine a_iconst (v := nI 1) dX10_hasEnough_24 (by decide) ?_
    refine a_iadd dX10_hasEnough_25 (by first | exact nI_add _ _ | rfl) ?_
    refine a_puti dX10_hasEnough_26 kp_X10_15 ⟨by decide, _, rfl, rfl⟩ ?_
    refine a_aload_n dX10_hasEnough_29 rfl ?_
    refine a_geti dX10_hasEnough_30 kf_X10_15 ⟨by decide, _, rfl, rfl⟩ am_up_same ?_
    refine a_aload_n dX10_hasEnough_33 rfl ?_
    refine a_geti dX10_hasEnough_34 kf_X10_19 ⟨by decide, _, rfl, rfl⟩ (show am_up _ _ _ _ 5 2 = nI e by rw [am_up_slot (by decide), am_cp_ne (by decide)]; exact hE) ?_
    refine a_icmp_ltN (tgt := 44) dX10_hasEnough_37 (by decide) (by omega) (by omega) (fun g => ?_) (fun g => ?_)
    · refine a_iconst (v := nI 0) dX10_hasEnough_44 (by decide) ?_
      exact a_zreturn dX10_hasEnough_45 (by first | exact Or.inl rfl | exact Or.inr rfl) ⟨_, rfl, (by rw [if_neg (by omega)] at hK; exact hK)⟩
    · refine a_iconst (v := nI 1) dX10_hasEnough_40 (by decide) ?_
      refine a_goto (tgt := 45) dX10_hasEnough_41 (by decide) ?_
      exact a_zreturn dX10_hasEnough_45 (by first | exact Or.inl rfl | exact Or.inr rfl) ⟨_, rfl, (by rw [if_pos (by omega)] at hK; exact hK)⟩

set_option maxHeartbeats 4000000 in
set_option maxRecDepth 100000 in
theorem g_begin {G : am_G} {d : Nat} {I : am_I} {J : am_J} {K : am_I → am_J → Prop}  (hK : K (mFill (mFill (am_up I 6 2 (nI 0)) 57 36 (nI 200)) 58 36 (nI 0)) J) : CMv G (d + 1) yX6_begin [.ref 6] I J K := by
  refine CM.of (L0 := [_]) cX6_begin 1 none (by decide) (by decide) kcX6_begin (Nat.le_of_ble_eq_true rfl) rfl ?_
  refine a_aload_n dX6_begin_0 rfl ?_
  refine a_iconst (v := nI 0) dX6_begin_1 (by decide) ?_
  refine a_putz dX6_begin_2 kp_X6_18 ⟨by decide, _, rfl, rfl⟩ (by first | exact Or.inl rfl | exact Or.inr rfl) ?_
  refine a_aload_n dX6_begin_5 rfl ?_
  refine a_getr dX6_begin_6 kf_X6_9 ⟨by decide, _, rfl, rfl⟩ ?_
  refine a_sipush (v := nI 200) dX6_begin_9 (by decide) ?_
  refine a_callSv (As := [_, _]) dX6_begin_12 km_X6_22 rfl rfl (Nat.le_of_ble_eq_true rfl) ?_
  refine c_fill ⟨by decide, rfl⟩ ?_
  refine a_aload_n dX6_begin_15 rfl ?_
  refine a_getr dX6_begin_16 kf_X6_15 ⟨by decide, _, rfl, rfl⟩ ?_
  refine a_iconst (v := nI 0) dX6_begin_19 (by decide) ?_
  refine a_callSv (As := [_, _]) dX6_begin_20 km_X6_22 rfl rfl (Nat.le_of_ble_eq_true rfl) ?_
  refine c_fill ⟨by decide, rfl⟩ ?_
  exact a_vreturn dX6_begin_23 ⟨rfl, hK⟩

def iMn (x y : Int32) : Int32 := if y < x then y else x
def iMx (x y : Int32) : Int32 := if x < y then y else x
def mRg (I : am_I) (i : Nat) : am_I := fun a b => if a = 57 ∧ b < i then iMn (I 57 b) (I 55 b) else if a = 58 ∧ b < i then iMx (I 58 b) (I 55 b) else I a b
theorem mRg_0 (I : am_I) : I = mRg I 0 := by
  funext a b; simp [mRg]
theorem mRg_ne {I : am_I} {i a : Nat} (h : a ≠ 57) (h' : a ≠ 58) : mRg I i a = I a := by
  funext b; simp [mRg, h, h']
theorem mRg_7 (I : am_I) (i : Nat) : mRg I i 57 i = I 57 i := by simp [mRg]
theorem mRg_8 (I : am_I) (i : Nat) : mRg I i 58 i = I 58 i := by simp [mRg]
theorem mRg_s (I : am_I) (i : Nat) : am_up (am_up (mRg I i) 57 i (iMn (I 57 i) (I 55 i))) 58 i (iMx (I 58 i) (I 55 i)) = mRg I (i + 1) := by
  funext a b
  simp only [am_up, mRg]
  by_cases h1 : a = 57
  · subst h1
    by_cases h2 : b = i
    · subst h2; simp
    · by_cases h3 : b < i
      · simp [h2, h3, show b < i + 1 by omega]
      · simp [h2, h3, show ¬ b < i + 1 by omega]
  · by_cases h4 : a = 58
    · subst h4
      by_cases h2 : b = i
      · subst h2; simp
      · by_cases h3 : b < i
        · simp [h2, h3, show b < i + 1 by omega]
        · simp [h2, h3, show ¬ b < i + 1 by omega]
    · simp [h1, h4]
set_option maxHeartbeats 4000000 in
set_option maxRecDepth 100000 in
theorem lp_gh {G : am_G} {d : Nat} {I : am_I} {J : am_J} {K : Int32 → am_I → am_J → Prop} (hK : K 0 (mRg I 36) J) : ∀ i, i ≤ 36 → AW G cX6_hasEnough 3 RX6 (d + 1) (am_ex G (some .boolean) (fun r I J => ∃ x, r = some (.int x) ∧ K x I J)) 7 [some (.ref 6), some (.ref 55), some (.int (nI i))] [] (mRg I i) J := by
  refine am_dn 36 (fun i hi ih => ?_)
  refine a_iload_n dX6_hasEnough_7 rfl ?_
  refine a_bipush (v := nI 36) dX6_hasEnough_8 (by decide) ?_
  refine a_icmp_geN (tgt := 55) dX6_hasEnough_10 (by decide) (by omega) (by omega) (fun h => ?_) (fun h => ?_)
  · obtain rfl : i = 36 := by omega
    refine a_iconst (v := nI 0) dX6_hasEnough_55 (by decide) ?_
    exact a_zreturn dX6_hasEnough_56 (by first | exact Or.inl rfl | exact Or.inr rfl) ⟨_, rfl, hK⟩
  · refine a_aload_n dX6_hasEnough_13 rfl ?_
    refine a_getr dX6_hasEnough_14 kf_X6_9 ⟨by decide, _, rfl, rfl⟩ ?_
    refine a_iload_n dX6_hasEnough_17 rfl ?_
    refine a_aload_n dX6_hasEnough_18 rfl ?_
    refine a_getr dX6_hasEnough_19 kf_X6_9 ⟨by decide, _, rfl, rfl⟩ ?_
    refine a_iload_n dX6_hasEnough_22 rfl ?_
    refine a_iald dX6_hasEnough_23 ⟨by decide, rfl⟩ (by omega) (mRg_7 I i) ?_
    refine a_aload_n dX6_hasEnough_24 rfl ?_
    refine a_iload_n dX6_hasEnough_25 rfl ?_
    refine a_iald dX6_hasEnough_26 ⟨by decide, rfl⟩ (by omega) (show mRg I i 55 i = I 55 i by rw [mRg_ne (by decide) (by decide)]) ?_
    refine a_mmin dX6_hasEnough_27 kl_X6_28 ks_min ki_Math kc_min (Nat.le_of_ble_eq_true rfl) (show _ = iMn (I 57 i) (I 55 i) from rfl) ?_
    refine a_iast dX6_hasEnough_30 ⟨by decide, rfl⟩ (by omega) ?_
    refine a_aload_n dX6_hasEnough_31 rfl ?_
    refine a_getr dX6_hasEnough_32 kf_X6_15 ⟨by decide, _, rfl, rfl⟩ ?_
    refine a_iload_n dX6_hasEnough_35 rfl ?_
    refine a_aload_n dX6_hasEnough_36 rfl ?_
    refine a_getr dX6_hasEnough_37 kf_X6_15 ⟨by decide, _, rfl, rfl⟩ ?_
    refine a_iload_n dX6_hasEnough_40 rfl ?_
    refine a_iald dX6_hasEnough_41 ⟨by decide, rfl⟩ (by omega) (show am_up _ _ _ _ 58 i = I 58 i by rw [am_up_ne (by decide)]; exact mRg_8 I i) ?_
    refine a_aload_n dX6_hasEnough_42 rfl ?_
    refine a_iload_n dX6_hasEnough_43 rfl ?_
    refine a_iald dX6_hasEnough_44 ⟨by decide, rfl⟩ (by omega) (show am_up _ _ _ _ 55 i = I 55 i by rw [am_up_ne (by decide), mRg_ne (by decide) (by decide)]) ?_
    refine a_mmax dX6_hasEnough_45 kl_X6_34 ks_max ki_Math kc_max (Nat.le_of_ble_eq_true rfl) (show _ = iMx (I 58 i) (I 55 i) from rfl) ?_
    refine a_iast dX6_hasEnough_48 ⟨by decide, rfl⟩ (by omega) ?_
    refine a_mem (mRg_s I i) ?_
    refine a_iinc (L' := [_, _, _]) dX6_hasEnough_49 rfl (nI_inc _) rfl ?_
    refine a_goto (tgt := 7) dX6_hasEnough_52 (by decide) ?_
    exact ih (i + 1) (by omega) (by omega)

set_option maxHeartbeats 4000000 in
set_option maxRecDepth 100000 in
theorem g_hasEnough {G : am_G} {d : Nat} {I : am_I} {J : am_J} {K : Int32 → am_I → am_J → Prop}  (hK : K 0 (mRg (am_up I 6 2 (nI 1)) 36) J) : CMi G (d + 1) yX6_hasEnough [.ref 6, .ref 55] I J K := by
  refine CM.of (L0 := [_, _, _]) cX6_hasEnough 3 (some .boolean) (by decide) (by decide) kcX6_hasEnough (Nat.le_of_ble_eq_true rfl) rfl ?_
  refine a_aload_n dX6_hasEnough_0 rfl ?_
  refine a_iconst (v := nI 1) dX6_hasEnough_1 (by decide) ?_
  refine a_putz dX6_hasEnough_2 kp_X6_18 ⟨by decide, _, rfl, rfl⟩ (by first | exact Or.inl rfl | exact Or.inr rfl) ?_
  refine a_iconst (v := nI 0) dX6_hasEnough_5 (by decide) ?_
  refine a_istore_n (L' := [_, _, _]) dX6_hasEnough_6 (Nat.le_of_ble_eq_true rfl) rfl ?_
  refine a_mem (mRg_0 _) ?_
  exact lp_gh hK 0 (by omega)

def coF (I : am_I) : Nat → Bool := fun p => decide (I 55 p ≠ I 14 p)
set_option maxHeartbeats 4000000 in
set_option maxRecDepth 100000 in
theorem lp_cf7 {G : am_G} {d : Nat} {I : am_I} {J : am_J} {K : Int32 → am_I → am_J → Prop} (hK : K (nI (cN (coF I) 36)) I J) : ∀ i, i ≤ 36 → AW G cX1_costOf 4 RX1 d (am_ex G (some .int) (fun r I J => ∃ x, r = some (.int x) ∧ K x I J)) 4 [some (.ref 7), some (.ref 55), some (.int (nI (cN (coF I) i))), some (.int (nI i))] [] I J := by
  refine am_dn 36 (fun i hi ih => ?_)
  refine a_iload_n dX1_costOf_4 rfl ?_
  refine a_bipush (v := nI 36) dX1_costOf_5 (by decide) ?_
  refine a_icmp_geN (tgt := 31) dX1_costOf_7 (by decide) (by omega) (by omega) (fun h => ?_) (fun h => ?_)
  · obtain rfl : i = 36 := by omega
    refine a_iload_n dX1_costOf_31 rfl ?_
    exact a_ireturn dX1_costOf_32 ⟨_, rfl, hK⟩
  · refine a_aload_n dX1_costOf_10 rfl ?_
    refine a_iload_n dX1_costOf_11 rfl ?_
    refine a_iald dX1_costOf_12 ⟨by decide, rfl⟩ (by omega) rfl ?_
    refine a_aload_n dX1_costOf_13 rfl ?_
    refine a_getr dX1_costOf_14 kf_X1_9 ⟨by decide, _, rfl, rfl⟩ ?_
    refine a_iload_n dX1_costOf_17 rfl ?_
    refine a_iald dX1_costOf_18 ⟨by decide, rfl⟩ (by omega) rfl ?_
    refine a_icmp_eq (tgt := 25) dX1_costOf_19 (by decide) (fun h19 => ?_) (fun h19 => ?_)
    · refine a_iinc (L' := [_, _, _, _]) dX1_costOf_25 rfl (nI_inc _) rfl ?_
      refine a_goto (tgt := 4) dX1_costOf_28 (by decide) ?_
      have z := ih (i + 1) (by omega) (by omega)
      rw [cN_s, if_neg (by simp [coF, h19]), Nat.add_zero] at z
      exact z
    · refine a_iinc (L' := [_, _, _, _]) dX1_costOf_22 rfl (nI_inc _) rfl ?_
      refine a_iinc (L' := [_, _, _, _]) dX1_costOf_25 rfl (nI_inc _) rfl ?_
      refine a_goto (tgt := 4) dX1_costOf_28 (by decide) ?_
      have z := ih (i + 1) (by omega) (by omega)
      rw [cN_s, if_pos (by simp [coF, h19])] at z
      exact z

set_option maxHeartbeats 4000000 in
set_option maxRecDepth 100000 in
theorem f_costOf {G : am_G} {d : Nat} {I : am_I} {J : am_J} {K : Int32 → am_I → am_J → Prop}  (hK : K (nI (cN (coF I) 36)) I J) : CMi G d yX1_costOf [.ref 7, .ref 55] I J K := by
  refine CM.of (L0 := [_, _, _, _]) cX1_costOf 4 (some .int) (by decide) (by decide) kcX1_costOf (Nat.le_of_ble_eq_true rfl) rfl ?_
  refine a_iconst (v := nI 0) dX1_costOf_0 (by decide) ?_
  refine a_istore_n (L' := [_, _, _, _]) dX1_costOf_1 (Nat.le_of_ble_eq_true rfl) rfl ?_
  refine a_iconst (v := nI 0) dX1_costOf_2 (by decide) ?_
  refine a_istore_n (L' := [_, _, _, _]) dX1_costOf_3 (Nat.le_of_ble_eq_true rfl) rfl ?_
  exact lp_cf7 hK 0 (by omega)

def coH (I : am_I) : Nat → Int32 := fun p => if I 61 p = 0 then nI 0 else I 55 p
set_option maxHeartbeats 4000000 in
set_option maxRecDepth 100000 in
theorem lp_ch8 {G : am_G} {d : Nat} {I : am_I} {J : am_J} {K : Int32 → am_I → am_J → Prop} (hK : K (-(sI (coH I) 36)) I J) : ∀ i, i ≤ 36 → AW G cX3_costOf 4 RX3 d (am_ex G (some .int) (fun r I J => ∃ x, r = some (.int x) ∧ K x I J)) 4 [some (.ref 8), some (.ref 55), some (.int (sI (coH I) i)), some (.int (nI i))] [] I J := by
  refine am_dn 36 (fun i hi ih => ?_)
  refine a_iload_n dX3_costOf_4 rfl ?_
  refine a_bipush (v := nI 36) dX3_costOf_5 (by decide) ?_
  refine a_icmp_geN (tgt := 31) dX3_costOf_7 (by decide) (by omega) (by omega) (fun h => ?_) (fun h => ?_)
  · obtain rfl : i = 36 := by omega
    refine a_iload_n dX3_costOf_31 rfl ?_
    refine a_ineg dX3_costOf_32 rfl ?_
    exact a_ireturn dX3_costOf_33 ⟨_, rfl, hK⟩
  · refine a_aload_n dX3_costOf_10 rfl ?_
    refine a_getr dX3_costOf_11 kf_X3_9 ⟨by decide, _, rfl, rfl⟩ ?_
    refine a_iload_n dX3_costOf_14 rfl ?_
    refine a_zald dX3_costOf_15 ⟨by decide, rfl⟩ (by omega) rfl ?_
    refine a_if_eq (tgt := 25) dX3_costOf_16 (by decide) (fun h16 => ?_) (fun h16 => ?_)
    · refine a_iinc (L' := [_, _, _, _]) dX3_costOf_25 rfl (nI_inc _) rfl ?_
      refine a_goto (tgt := 4) dX3_costOf_28 (by decide) ?_
      have z := ih (i + 1) (by omega) (by omega)
      rw [sI_0 (by simp [coH, h16])] at z
      exact z
    · refine a_iload_n dX3_costOf_19 rfl ?_
      refine a_aload_n dX3_costOf_20 rfl ?_
      refine a_iload_n dX3_costOf_21 rfl ?_
      refine a_iald dX3_costOf_22 ⟨by decide, rfl⟩ (by omega) rfl ?_
      refine a_iadd dX3_costOf_23 rfl ?_
      refine a_istore_n (L' := [_, _, _, _]) dX3_costOf_24 (Nat.le_of_ble_eq_true rfl) rfl ?_
      refine a_iinc (L' := [_, _, _, _]) dX3_costOf_25 rfl (nI_inc _) rfl ?_
      refine a_goto (tgt := 4) dX3_costOf_28 (by decide) ?_
      have z := ih (i + 1) (by omega) (by omega)
      rw [sI_1 (show coH I i = I 55 i by simp [coH, h16])] at z
      exact z

set_option maxHeartbeats 4000000 in
set_option maxRecDepth 100000 in
theorem h_costOf {G : am_G} {d : Nat} {I : am_I} {J : am_J} {K : Int32 → am_I → am_J → Prop}  (hK : K (-(sI (coH I) 36)) I J) : CMi G d yX3_costOf [.ref 8, .ref 55] I J K := by
  refine CM.of (L0 := [_, _, _, _]) cX3_costOf 4 (some .int) (by decide) (by decide) kcX3_costOf (Nat.le_of_ble_eq_true rfl) rfl ?_
  refine a_iconst (v := nI 0) dX3_costOf_0 (by decide) ?_
  refine a_istore_n (L' := [_, _, _, _]) dX3_costOf_1 (Nat.le_of_ble_eq_true rfl) rfl ?_
  refine a_iconst (v := nI 0) dX3_costOf_2 (by decide) ?_
  refine a_istore_n (L' := [_, _, _, _]) dX3_costOf_3 (Nat.le_of_ble_eq_true rfl) rfl ?_
  exact lp_ch8 hK 0 (by omega)

set_option maxHeartbeats 4000000 in
set_option maxRecDepth 100000 in
theorem f_begin {G : am_G} {d : Nat} {I : am_I} {J : am_J} {K : am_I → am_J → Prop}  (hK : K (am_up (am_up I 7 1 (nI 0)) 7 2 (nI 0)) J) : CMv G d yX0_begin [.ref 7] I J K := by
  refine CM.of (L0 := [_]) cX0_begin 1 none (by decide) (by decide) kcX0_begin (Nat.le_of_ble_eq_true rfl) rfl ?_
  refine a_aload_n dX0_begin_0 rfl ?_
  refine a_iconst (v := nI 0) dX0_begin_1 (by decide) ?_
  refine a_putz dX0_begin_2 kp_X0_15_c0 ⟨by decide, _, rfl, rfl⟩ (by first | exact Or.inl rfl | exact Or.inr rfl) ?_
  refine a_aload_n dX0_begin_5 rfl ?_
  refine a_iconst (v := nI 0) dX0_begin_6 (by decide) ?_
  refine a_puti dX0_begin_7 kp_X0_19_c0 ⟨by decide, _, rfl, rfl⟩ ?_
  exact a_vreturn dX0_begin_10 ⟨rfl, hK⟩

set_option maxHeartbeats 4000000 in
set_option maxRecDepth 100000 in
theorem f_hasEnough {G : am_G} {d : Nat} {I : am_I} {J : am_J} {K : Int32 → am_I → am_J → Prop}  (h0 : I 7 1 ≠ 0 → I 7 2 ≤ (nI (cN (coF I) 36)) → K 0 I J) (h1 : (I 7 1 = 0 ∨ (nI (cN (coF I) 36)) < I 7 2) → K 0 (am_cp (am_up (am_up I 7 1 (nI 1)) 7 2 (nI (cN (coF I) 36))) 59 (I 55) 0 0 36) J) : CMi G (d + 1) yX0_hasEnough [.ref 7, .ref 55] I J K := by
  refine CM.of (L0 := [_, _, _]) cX0_hasEnough 3 (some .boolean) (by decide) (by decide) kcX0_hasEnough (Nat.le_of_ble_eq_true rfl) rfl ?_
  refine a_aload_n dX0_hasEnough_0 rfl ?_
  refine a_aload_n dX0_hasEnough_1 rfl ?_
  refine a_callUi (As := [_]) dX0_hasEnough_2 ku_X0_23_X1 ⟨by decide, _, _, _, rfl, rfl⟩ rfl rfl (Nat.le_of_ble_eq_true rfl) ?_
  refine f_costOf ?_
  refine a_istore_n (L' := [_, _, _]) dX0_hasEnough_5 (Nat.le_of_ble_eq_true rfl) rfl ?_
  refine a_aload_n dX0_hasEnough_6 rfl ?_
  refine a_geti dX0_hasEnough_7 kf_X0_15_c0 ⟨by decide, _, rfl, rfl⟩ rfl ?_
  refine a_if_eq (tgt := 23) dX0_hasEnough_10 (by decide) (fun h10 => ?_) (fun h10 => ?_)
  · refine a_aload_n dX0_hasEnough_23 rfl ?_
    refine a_iconst (v := nI 1) dX0_hasEnough_24 (by decide) ?_
    refine a_putz dX0_hasEnough_25 kp_X0_15_c0 ⟨by decide, _, rfl, rfl⟩ (by first | exact Or.inl rfl | exact Or.inr rfl) ?_
    refine a_aload_n dX0_hasEnough_28 rfl ?_
    refine a_iload_n dX0_hasEnough_29 rfl ?_
    refine a_puti dX0_hasEnough_30 kp_X0_19_c0 ⟨by decide, _, rfl, rfl⟩ ?_
    refine a_aload_n dX0_hasEnough_33 rfl ?_
    refine a_iconst (v := nI 0) dX0_hasEnough_34 (by decide) ?_
    refine a_aload_n dX0_hasEnough_35 rfl ?_
    refine a_getr dX0_hasEnough_36 kf_X0_9_c0 ⟨by decide, _, rfl, rfl⟩ ?_
    refine a_iconst (v := nI 0) dX0_hasEnough_39 (by decide) ?_
    refine a_bipush (v := nI 36) dX0_hasEnough_40 (by decide) ?_
    refine a_copy dX0_hasEnough_42 kl_X0_27 kn_copy ks_copy ki_System ⟨by decide, rfl⟩ ⟨by decide, rfl⟩ (by decide) (by decide) (by decide) (fun e => absurd e (by decide)) (Nat.le_of_ble_eq_true rfl) ?_
    refine a_iconst (v := nI 0) dX0_hasEnough_45 (by decide) ?_
    exact a_zreturn dX0_hasEnough_46 (by first | exact Or.inl rfl | exact Or.inr rfl) ⟨_, rfl, (h1 (Or.inl h10))⟩
  · refine a_iload_n dX0_hasEnough_13 rfl ?_
    refine a_aload_n dX0_hasEnough_14 rfl ?_
    refine a_geti dX0_hasEnough_15 kf_X0_19_c0 ⟨by decide, _, rfl, rfl⟩ rfl ?_
    refine a_icmp_lt (tgt := 23) dX0_hasEnough_18 (by decide) (fun h18 => ?_) (fun h18 => ?_)
    · refine a_aload_n dX0_hasEnough_23 rfl ?_
      refine a_iconst (v := nI 1) dX0_hasEnough_24 (by decide) ?_
      refine a_putz dX0_hasEnough_25 kp_X0_15_c0 ⟨by decide, _, rfl, rfl⟩ (by first | exact Or.inl rfl | exact Or.inr rfl) ?_
      refine a_aload_n dX0_hasEnough_28 rfl ?_
      refine a_iload_n dX0_hasEnough_29 rfl ?_
      refine a_puti dX0_hasEnough_30 kp_X0_19_c0 ⟨by decide, _, rfl, rfl⟩ ?_
      refine a_aload_n dX0_hasEnough_33 rfl ?_
      refine a_iconst (v := nI 0) dX0_hasEnough_34 (by decide) ?_
      refine a_aload_n dX0_hasEnough_35 rfl ?_
      refine a_getr dX0_hasEnough_36 kf_X0_9_c0 ⟨by decide, _, rfl, rfl⟩ ?_
      refine a_iconst (v := nI 0) dX0_hasEnough_39 (by decide) ?_
      refine a_bipush (v := nI 36) dX0_hasEnough_40 (by decide) ?_
      refine a_copy dX0_hasEnough_42 kl_X0_27 kn_copy ks_copy ki_System ⟨by decide, rfl⟩ ⟨by decide, rfl⟩ (by decide) (by decide) (by decide) (fun e => absurd e (by decide)) (Nat.le_of_ble_eq_true rfl) ?_
      refine a_iconst (v := nI 0) dX0_hasEnough_45 (by decide) ?_
      exact a_zreturn dX0_hasEnough_46 (by first | exact Or.inl rfl | exact Or.inr rfl) ⟨_, rfl, (h1 (Or.inr h18))⟩
    · refine a_iconst (v := nI 0) dX0_hasEnough_21 (by decide) ?_
      exact a_zreturn dX0_hasEnough_22 (by first | exact Or.inl rfl | exact Or.inr rfl) ⟨_, rfl, (h0 h10 (Int32.not_lt.mp h18))⟩

set_option maxHeartbeats 4000000 in
set_option maxRecDepth 100000 in
theorem h_begin {G : am_G} {d : Nat} {I : am_I} {J : am_J} {K : am_I → am_J → Prop}  (hK : K (am_up (am_up I 8 1 (nI 0)) 8 2 (nI 0)) J) : CMv G d yX0_begin [.ref 8] I J K := by
  refine CM.of (L0 := [_]) cX0_begin 1 none (by decide) (by decide) kcX0_begin (Nat.le_of_ble_eq_true rfl) rfl ?_
  refine a_aload_n dX0_begin_0 rfl ?_
  refine a_iconst (v := nI 0) dX0_begin_1 (by decide) ?_
  refine a_putz dX0_begin_2 kp_X0_15_c1 ⟨by decide, _, rfl, rfl⟩ (by first | exact Or.inl rfl | exact Or.inr rfl) ?_
  refine a_aload_n dX0_begin_5 rfl ?_
  refine a_iconst (v := nI 0) dX0_begin_6 (by decide) ?_
  refine a_puti dX0_begin_7 kp_X0_19_c1 ⟨by decide, _, rfl, rfl⟩ ?_
  exact a_vreturn dX0_begin_10 ⟨rfl, hK⟩

set_option maxHeartbeats 4000000 in
set_option maxRecDepth 100000 in
theorem h_hasEnough {G : am_G} {d : Nat} {I : am_I} {J : am_J} {K : Int32 → am_I → am_J → Prop}  (h0 : I 8 1 ≠ 0 → I 8 2 ≤ (-(sI (coH I) 36)) → K 0 I J) (h1 : (I 8 1 = 0 ∨ (-(sI (coH I) 36)) < I 8 2) → K 0 (am_cp (am_up (am_up I 8 1 (nI 1)) 8 2 (-(sI (coH I) 36))) 60 (I 55) 0 0 36) J) : CMi G (d + 1) yX0_hasEnough [.ref 8, .ref 55] I J K := by
  refine CM.of (L0 := [_, _, _]) cX0_hasEnough 3 (some .boolean) (by decide) (by decide) kcX0_hasEnough (Nat.le_of_ble_eq_true rfl) rfl ?_
  refine a_aload_n dX0_hasEnough_0 rfl ?_
  refine a_aload_n dX0_hasEnough_1 rfl ?_
  refine a_callUi (As := [_]) dX0_hasEnough_2 ku_X0_23_X3 ⟨by decide, _, _, _, rfl, rfl⟩ rfl rfl (Nat.le_of_ble_eq_true rfl) ?_
  refine h_costOf ?_
  refine a_istore_n (L' := [_, _, _]) dX0_hasEnough_5 (Nat.le_of_ble_eq_true rfl) rfl ?_
  refine a_aload_n dX0_hasEnough_6 rfl ?_
  refine a_geti dX0_hasEnough_7 kf_X0_15_c1 ⟨by decide, _, rfl, rfl⟩ rfl ?_
  refine a_if_eq (tgt := 23) dX0_hasEnough_10 (by decide) (fun h10 => ?_) (fun h10 => ?_)
  · refine a_aload_n dX0_hasEnough_23 rfl ?_
    refine a_iconst (v := nI 1) dX0_hasEnough_24 (by decide) ?_
    refine a_putz dX0_hasEnough_25 kp_X0_15_c1 ⟨by decide, _, rfl, rfl⟩ (by first | exact Or.inl rfl | exact Or.inr rfl) ?_
    refine a_aload_n dX0_hasEnough_28 rfl ?_
    refine a_iload_n dX0_hasEnough_29 rfl ?_
    refine a_puti dX0_hasEnough_30 kp_X0_19_c1 ⟨by decide, _, rfl, rfl⟩ ?_
    refine a_aload_n dX0_hasEnough_33 rfl ?_
    refine a_iconst (v := nI 0) dX0_hasEnough_34 (by decide) ?_
    refine a_aload_n dX0_hasEnough_35 rfl ?_
    refine a_getr dX0_hasEnough_36 kf_X0_9_c1 ⟨by decide, _, rfl, rfl⟩ ?_
    refine a_iconst (v := nI 0) dX0_hasEnough_39 (by decide) ?_
    refine a_bipush (v := nI 36) dX0_hasEnough_40 (by decide) ?_
    refine a_copy dX0_hasEnough_42 kl_X0_27 kn_copy ks_copy ki_System ⟨by decide, rfl⟩ ⟨by decide, rfl⟩ (by decide) (by decide) (by decide) (fun e => absurd e (by decide)) (Nat.le_of_ble_eq_true rfl) ?_
    refine a_iconst (v := nI 0) dX0_hasEnough_45 (by decide) ?_
    exact a_zreturn dX0_hasEnough_46 (by first | exact Or.inl rfl | exact Or.inr rfl) ⟨_, rfl, (h1 (Or.inl h10))⟩
  · refine a_iload_n dX0_hasEnough_13 rfl ?_
    refine a_aload_n dX0_hasEnough_14 rfl ?_
    refine a_geti dX0_hasEnough_15 kf_X0_19_c1 ⟨by decide, _, rfl, rfl⟩ rfl ?_
    refine a_icmp_lt (tgt := 23) dX0_hasEnough_18 (by decide) (fun h18 => ?_) (fun h18 => ?_)
    · refine a_aload_n dX0_hasEnough_23 rfl ?_
      refine a_iconst (v := nI 1) dX0_hasEnough_24 (by decide) ?_
      refine a_putz dX0_hasEnough_25 kp_X0_15_c1 ⟨by decide, _, rfl, rfl⟩ (by first | exact Or.inl rfl | exact Or.inr rfl) ?_
      refine a_aload_n dX0_hasEnough_28 rfl ?_
      refine a_iload_n dX0_hasEnough_29 rfl ?_
      refine a_puti dX0_hasEnough_30 kp_X0_19_c1 ⟨by decide, _, rfl, rfl⟩ ?_
      refine a_aload_n dX0_hasEnough_33 rfl ?_
      refine a_iconst (v := nI 0) dX0_hasEnough_34 (by decide) ?_
      refine a_aload_n dX0_hasEnough_35 rfl ?_
      refine a_getr dX0_hasEnough_36 kf_X0_9_c1 ⟨by decide, _, rfl, rfl⟩ ?_
      refine a_iconst (v := nI 0) dX0_hasEnough_39 (by decide) ?_
      refine a_bipush (v := nI 36) dX0_hasEnough_40 (by decide) ?_
      refine a_copy dX0_hasEnough_42 kl_X0_27 kn_copy ks_copy ki_System ⟨by decide, rfl⟩ ⟨by decide, rfl⟩ (by decide) (by decide) (by decide) (fun e => absurd e (by decide)) (Nat.le_of_ble_eq_true rfl) ?_
      refine a_iconst (v := nI 0) dX0_hasEnough_45 (by decide) ?_
      exact a_zreturn dX0_hasEnough_46 (by first | exact Or.inl rfl | exact Or.inr rfl) ⟨_, rfl, (h1 (Or.inr h18))⟩
    · refine a_iconst (v := nI 0) dX0_hasEnough_21 (by decide) ?_
      exact a_zreturn dX0_hasEnough_22 (by first | exact Or.inl rfl | exact Or.inr rfl) ⟨_, rfl, (h0 h10 (Int32.not_lt.mp h18))⟩

def mGo (I : am_I) (R : Nat → Option (List Nat)) (m x i : Nat) : am_I := fun a b => if a = 61 ∧ b < i then nI (if b < m ∧ gbQ R x b = true then 1 else 0) else I a b
theorem mGo_0 (I : am_I) (R : Nat → Option (List Nat)) (m x : Nat) : I = mGo I R m x 0 := by
  funext a b; simp [mGo]
theorem mGo_ne {I : am_I} {R : Nat → Option (List Nat)} {m x i a : Nat} (h : a ≠ 61) : mGo I R m x i a = I a := by
  funext b; simp [mGo, h]
theorem mGo_s (I : am_I) (R : Nat → Option (List Nat)) (m x i : Nat) : am_up (mGo I R m x i) 61 i (nI (if i < m ∧ gbQ R x i = true then 1 else 0)) = mGo I R m x (i + 1) := by
  funext a b
  simp only [am_up, mGo]
  by_cases h1 : a = 61
  · subst h1
    by_cases h2 : b = i
    · subst h2; simp
    · by_cases h3 : b < i
      · simp [h2, h3, show b < i + 1 by omega]
      · simp [h2, h3, show ¬ b < i + 1 by omega]
  · simp [h1]
set_option maxHeartbeats 4000000 in
set_option maxRecDepth 100000 in
theorem lp_bo {G : am_G} {d : Nat} {I : am_I} {J : am_J} {K : am_I → am_J → Prop} {n m x : Nat} {R : Nat → Option (List Nat)} (hR : rlP 47 48 n m R I) (hm : m ≤ 36) (hp : I 3 0 = nI m) (hn : n ≤ 12) (hx : x < 12) (hK : K (mGo I R m x 36) J) : ∀ i, i ≤ 36 → AW G cX3_beginOn 4 RX3 (d + 2) (am_ex G none (fun r I J => r = none ∧ K I J)) 6 [some (.ref 8), some (.int (nI x)), some (.ref 3), some (.int (nI i))] [] (mGo I R m x i) J := by
  refine am_dn 36 (fun i hi ih => ?_)
  refine a_iload_n dX3_beginOn_6 rfl ?_
  refine a_bipush (v := nI 36) dX3_beginOn_7 (by decide) ?_
  refine a_icmp_geN (tgt := 46) dX3_beginOn_9 (by decide) (by omega) (by omega) (fun h => ?_) (fun h => ?_)
  · obtain rfl : i = 36 := by omega
    exact a_vreturn dX3_beginOn_46 ⟨rfl, hK⟩
  · refine a_aload_n dX3_beginOn_12 rfl ?_
    refine a_getr dX3_beginOn_13 kf_X3_9 ⟨by decide, _, rfl, rfl⟩ ?_
    refine a_iload_n dX3_beginOn_16 rfl ?_
    refine a_iload_n dX3_beginOn_17 rfl ?_
    refine a_aload_n dX3_beginOn_18 rfl ?_
    refine a_geti dX3_beginOn_19 kf_X3_18 ⟨by decide, _, rfl, rfl⟩ (show mGo I R m x i 3 0 = nI m by rw [mGo_ne (by decide)]; exact hp) ?_
    refine a_icmp_geN (tgt := 38) dX3_beginOn_22 (by decide) (by omega) (by omega) (fun g => ?_) (fun g => ?_)
    · refine a_iconst (v := nI 0) dX3_beginOn_38 (by decide) ?_
      refine a_zast dX3_beginOn_39 ⟨by decide, rfl⟩ (by omega) (by first | exact Or.inl rfl | exact Or.inr rfl) ?_
      refine a_iinc (L' := [_, _, _, _]) dX3_beginOn_40 rfl (nI_inc _) rfl ?_
      refine a_goto (tgt := 6) dX3_beginOn_43 (by decide) ?_
      refine a_mem (show am_up _ _ _ (nI 0) = mGo I R m x (i + 1) by rw [← mGo_s, if_neg (by omega)]) ?_
      exact ih (i + 1) (by omega) (by omega)
    · refine a_aload_n dX3_beginOn_25 rfl ?_
      refine a_iload_n dX3_beginOn_26 rfl ?_
      refine a_iload_n dX3_beginOn_27 rfl ?_
      refine a_callVi (As := [_, _]) dX3_beginOn_28 km_X3_24 ⟨by decide, _, _, _, rfl, rfl⟩ rfl rfl (Nat.le_of_ble_eq_true rfl) ?_
      refine r_goesByb (rl_fr hR (mGo_ne (by decide)) (mGo_ne (by decide))) g hm hn hx (fun q => ?_) (fun q => ?_)
      · refine a_if_eq (tgt := 38) dX3_beginOn_31 (by decide) (fun h31 => ?_) (fun h31 => ?_)
        · exact absurd h31 (by decide)
        · refine a_iconst (v := nI 1) dX3_beginOn_34 (by decide) ?_
          refine a_goto (tgt := 39) dX3_beginOn_35 (by decide) ?_
          refine a_zast dX3_beginOn_39 ⟨by decide, rfl⟩ (by omega) (by first | exact Or.inl rfl | exact Or.inr rfl) ?_
          refine a_iinc (L' := [_, _, _, _]) dX3_beginOn_40 rfl (nI_inc _) rfl ?_
          refine a_goto (tgt := 6) dX3_beginOn_43 (by decide) ?_
          refine a_mem (show am_up _ _ _ (nI 1) = mGo I R m x (i + 1) by rw [← mGo_s, if_pos ⟨g, q⟩]) ?_
          exact ih (i + 1) (by omega) (by omega)
      · refine a_if_eq (tgt := 38) dX3_beginOn_31 (by decide) (fun h31 => ?_) (fun h31 => ?_)
        · refine a_iconst (v := nI 0) dX3_beginOn_38 (by decide) ?_
          refine a_zast dX3_beginOn_39 ⟨by decide, rfl⟩ (by omega) (by first | exact Or.inl rfl | exact Or.inr rfl) ?_
          refine a_iinc (L' := [_, _, _, _]) dX3_beginOn_40 rfl (nI_inc _) rfl ?_
          refine a_goto (tgt := 6) dX3_beginOn_43 (by decide) ?_
          refine a_mem (show am_up _ _ _ (nI 0) = mGo I R m x (i + 1) by rw [← mGo_s, if_neg (by rw [q]; simp)]) ?_
          exact ih (i + 1) (by omega) (by omega)
        · exact absurd h31 (by decide)

set_option maxHeartbeats 4000000 in
set_option maxRecDepth 100000 in
theorem h_beginOn {G : am_G} {d : Nat} {I : am_I} {J : am_J} {K : am_I → am_J → Prop} {n m x : Nat} {R : Nat → Option (List Nat)} (hR : rlP 47 48 n m R I) (hm : m ≤ 36) (hp : I 3 0 = nI m) (hn : n ≤ 12) (hx : x < 12) (hK : K (mGo (am_up (am_up I 8 1 (nI 0)) 8 2 (nI 0)) R m x 36) J) : CMv G (d + 2) yX3_beginOn [.ref 8, .int (nI x), .ref 3] I J K := by
  refine CM.of (L0 := [_, _, _, _]) cX3_beginOn 4 none (by decide) (by decide) kcX3_beginOn (Nat.le_of_ble_eq_true rfl) rfl ?_
  refine a_aload_n dX3_beginOn_0 rfl ?_
  refine a_callUv (As := []) dX3_beginOn_1 ku_X3_15_X3 ⟨by decide, _, _, _, rfl, rfl⟩ rfl rfl (Nat.le_of_ble_eq_true rfl) ?_
  refine h_begin ?_
  refine a_iconst (v := nI 0) dX3_beginOn_4 (by decide) ?_
  refine a_istore_n (L' := [_, _, _, _]) dX3_beginOn_5 (Nat.le_of_ble_eq_true rfl) rfl ?_
  refine a_mem (mGo_0 _ R m x) ?_
  exact lp_bo (I := am_up (am_up I 8 1 (nI 0)) 8 2 (nI 0)) (rl_fr hR rfl rfl) hm hp hn hx hK 0 (by omega)

