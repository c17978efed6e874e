/-! ===== the system: Net, Sheets ===== -/
def mNB (I : am_I) (k : Int32) : am_I := mFill (mFill (am_up (am_up I 1 0 k) 1 1 (nI 0)) 13 36 (-9)) 14 36 (nI 0)
set_option maxHeartbeats 4000000 in
set_option maxRecDepth 100000 in
theorem n_begin {G : am_G} {d : Nat} {I : am_I} {J : am_J} {K : am_I → am_J → Prop} {x : Int32} (hK : K (mNB I x) J) : CMv G (d + 1) yX5_begin [.ref 1, .int x] I J K := by
  refine CM.of (L0 := [_, _]) cX5_begin 2 none (by decide) (by decide) kcX5_begin (Nat.le_of_ble_eq_true rfl) rfl ?_
  refine a_aload_n dX5_begin_0 rfl ?_
  refine a_iload_n dX5_begin_1 rfl ?_
  refine a_puti dX5_begin_2 kp_X5_9 ⟨by decide, _, rfl, rfl⟩ ?_
  refine a_aload_n dX5_begin_5 rfl ?_
  refine a_iconst (v := nI 0) dX5_begin_6 (by decide) ?_
  refine a_puti dX5_begin_7 kp_X5_15 ⟨by decide, _, rfl, rfl⟩ ?_
  refine a_aload_n dX5_begin_10 rfl ?_
  refine a_getr dX5_begin_11 kf_X5_24 ⟨by decide, _, rfl, rfl⟩ ?_
  refine a_bipush (v := (-9)) dX5_begin_14 (by decide) ?_
  refine a_callSv (As := [_, _]) dX5_begin_16 km_X5_32 rfl rfl (Nat.le_of_ble_eq_true rfl) ?_
  refine c_fill ⟨by decide, rfl⟩ ?_
  refine a_aload_n dX5_begin_19 rfl ?_
  refine a_getr dX5_begin_20 kf_X5_28 ⟨by decide, _, rfl, rfl⟩ ?_
  refine a_iconst (v := nI 0) dX5_begin_23 (by decide) ?_
  refine a_callSv (As := [_, _]) dX5_begin_24 km_X5_32 rfl rfl (Nat.le_of_ble_eq_true rfl) ?_
  refine c_fill ⟨by decide, rfl⟩ ?_
  exact a_vreturn dX5_begin_27 ⟨rfl, hK⟩

set_option maxHeartbeats 4000000 in
set_option maxRecDepth 100000 in
theorem n_addLine {G : am_G} {d : Nat} {I : am_I} {J : am_J} {K : Int32 → am_I → am_J → Prop} {n : Nat} {x y z : Int32} (hn : I 1 1 = nI n) (hn12 : n < 12) (hK : K (nI n) (am_up (mLB I n x y z) 1 1 (nI (n + 1))) J) : CMi G (d + 2) yX5_addLine [.ref 1, .int x, .int y, .int z] I J K := by
  refine CM.of (L0 := [_, _, _, _]) cX5_addLine 4 (some .int) (by decide) (by decide) kcX5_addLine (Nat.le_of_ble_eq_true rfl) rfl ?_
  refine a_aload_n dX5_addLine_0 rfl ?_
  refine a_getr dX5_addLine_1 kf_X5_20 ⟨by decide, _, rfl, rfl⟩ ?_
  refine a_aload_n dX5_addLine_4 rfl ?_
  refine a_geti dX5_addLine_5 kf_X5_15 ⟨by decide, _, rfl, rfl⟩ hn ?_
  refine a_aald dX5_addLine_8 ⟨by decide, rfl⟩ (by decide) (by omega) rfl ?_
  refine a_iload_n dX5_addLine_9 rfl ?_
  refine a_iload_n dX5_addLine_10 rfl ?_
  refine a_iload_n dX5_addLine_11 rfl ?_
  refine a_callVv (As := [_, _, _]) dX5_addLine_12 km_X5_38 (sh_ob (by omega)) rfl rfl (Nat.le_of_ble_eq_true rfl) ?_
  refine k_begin hn12 ?_
  have hn1 : mLB I n x y z 1 1 = nI n := by
    unfold mLB
    rw [mFill_ne (by omega)]
    simp only [am_up, show (1 : Nat) ≠ 20 + n by omega, if_false]
    exact hn
  refine a_aload_n dX5_addLine_15 rfl ?_
  refine a_dup dX5_addLine_16 rfl ?_
  refine a_geti dX5_addLine_17 kf_X5_15 ⟨by decide, _, rfl, rfl⟩ hn1 ?_
  refine a_iconst (v := nI 1) dX5_addLine_20 (by decide) ?_
  refine a_iadd dX5_addLine_21 (by first | exact nI_add _ _ | rfl) ?_
  refine a_puti dX5_addLine_22 kp_X5_15 ⟨by decide, _, rfl, rfl⟩ ?_
  refine a_aload_n dX5_addLine_25 rfl ?_
  refine a_geti dX5_addLine_26 kf_X5_15 ⟨by decide, _, rfl, rfl⟩ am_up_same ?_
  refine a_iconst (v := nI 1) dX5_addLine_29 (by decide) ?_
  refine a_isub dX5_addLine_30 (nI_pred n) ?_
  exact a_ireturn dX5_addLine_31 ⟨_, rfl, hK⟩

set_option maxHeartbeats 4000000 in
set_option maxRecDepth 100000 in
theorem n_isLine {G : am_G} {d : Nat} {I : am_I} {J : am_J} {K : Int32 → am_I → am_J → Prop} {n : Nat} {x : Int32} (hn : I 1 1 = nI n) (hb : n < 2 ^ 31) (h1 : ∀ l, l < n → x = nI l → K 1 I J) (h0 : ¬ isLn n x → K 0 I J) : CMi G d yX5_isLine [.ref 1, .int x] I J K := by
  refine CM.of (L0 := [_, _]) cX5_isLine 2 (some .boolean) (by decide) (by decide) kcX5_isLine (Nat.le_of_ble_eq_true rfl) rfl ?_
  refine a_iload_n dX5_isLine_0 rfl ?_
  refine a_if_lt (tgt := 16) dX5_isLine_1 (by decide) (fun h1_ => ?_) (fun h1_ => ?_)
  · refine a_iconst (v := nI 0) dX5_isLine_16 (by decide) ?_
    exact a_zreturn dX5_isLine_17 (by first | exact Or.inl rfl | exact Or.inr rfl) ⟨_, rfl, (h0 (fun ⟨l, a, b⟩ => by rw [b] at h1_; exact nI_pos (by omega) h1_))⟩
  · refine a_iload_n dX5_isLine_4 rfl ?_
    refine a_aload_n dX5_isLine_5 rfl ?_
    refine a_geti dX5_isLine_6 kf_X5_15 ⟨by decide, _, rfl, rfl⟩ hn ?_
    refine a_icmp_ge (tgt := 16) dX5_isLine_9 (by decide) (fun h9 => ?_) (fun h9 => ?_)
    · refine a_iconst (v := nI 0) dX5_isLine_16 (by decide) ?_
      exact a_zreturn dX5_isLine_17 (by first | exact Or.inl rfl | exact Or.inr rfl) ⟨_, rfl, (h0 (fun ⟨l, a, b⟩ => by rw [b] at h9; exact nI_ge a hb h9))⟩
    · refine a_iconst (v := nI 1) dX5_isLine_12 (by decide) ?_
      refine a_goto (tgt := 17) dX5_isLine_13 (by decide) ?_
      exact a_zreturn dX5_isLine_17 (by first | exact Or.inl rfl | exact Or.inr rfl) ⟨_, rfl, (by obtain ⟨l, a, b⟩ := (rg_iff hb).mp ⟨Int32.not_lt.mp h1_, Int32.not_le.mp h9⟩; exact h1 l a b)⟩

set_option maxHeartbeats 4000000 in
set_option maxRecDepth 100000 in
theorem n_isPair {G : am_G} {d : Nat} {I : am_I} {J : am_J} {K : Int32 → am_I → am_J → Prop} {N : Nat} {x y : Int32} (hn : I 1 0 = nI N) (hb : N < 2 ^ 31) (h1 : ∀ p q, p < N → q < N → p ≠ q → x = nI p → y = nI q → K 1 I J) (h0 : ¬ isPr N x y → K 0 I J) : CMi G d yX5_isPair [.ref 1, .int x, .int y] I J K := by
  refine CM.of (L0 := [_, _, _]) cX5_isPair 3 (some .boolean) (by decide) (by decide) kcX5_isPair (Nat.le_of_ble_eq_true rfl) rfl ?_
  refine a_iload_n dX5_isPair_0 rfl ?_
  refine a_if_lt (tgt := 33) dX5_isPair_1 (by decide) (fun g1 => ?_) (fun g1 => ?_)
  · refine a_iconst (v := nI 0) dX5_isPair_33 (by decide) ?_
    exact a_zreturn dX5_isPair_34 (by first | exact Or.inl rfl | exact Or.inr rfl) ⟨_, rfl, (h0 (fun ⟨p, q, a1, a2, a3, a4, a5⟩ => by rw [a4] at g1; exact nI_pos (by omega) g1))⟩
  · refine a_iload_n dX5_isPair_4 rfl ?_
    refine a_aload_n dX5_isPair_5 rfl ?_
    refine a_geti dX5_isPair_6 kf_X5_9 ⟨by decide, _, rfl, rfl⟩ hn ?_
    refine a_icmp_ge (tgt := 33) dX5_isPair_9 (by decide) (fun h9 => ?_) (fun h9 => ?_)
    · refine a_iconst (v := nI 0) dX5_isPair_33 (by decide) ?_
      exact a_zreturn dX5_isPair_34 (by first | exact Or.inl rfl | exact Or.inr rfl) ⟨_, rfl, (h0 (fun ⟨p, q, a1, a2, a3, a4, a5⟩ => by rw [a4] at h9; exact nI_ge a1 hb h9))⟩
    · obtain ⟨p, hp, ep⟩ := (rg_iff hb).mp ⟨Int32.not_lt.mp g1, Int32.not_le.mp h9⟩
      refine a_iload_n dX5_isPair_12 rfl ?_
      refine a_if_lt (tgt := 33) dX5_isPair_13 (by decide) (fun h13 => ?_) (fun h13 => ?_)
      · refine a_iconst (v := nI 0) dX5_isPair_33 (by decide) ?_
        exact a_zreturn dX5_isPair_34 (by first | exact Or.inl rfl | exact Or.inr rfl) ⟨_, rfl, (h0 (fun ⟨p, q, a1, a2, a3, a4, a5⟩ => by rw [a5] at h13; exact nI_pos (by omega) h13))⟩
      · refine a_iload_n dX5_isPair_16 rfl ?_
        refine a_aload_n dX5_isPair_17 rfl ?_
        refine a_geti dX5_isPair_18 kf_X5_9 ⟨by decide, _, rfl, rfl⟩ hn ?_
        refine a_icmp_ge (tgt := 33) dX5_isPair_21 (by decide) (fun h21 => ?_) (fun h21 => ?_)
        · refine a_iconst (v := nI 0) dX5_isPair_33 (by decide) ?_
          exact a_zreturn dX5_isPair_34 (by first | exact Or.inl rfl | exact Or.inr rfl) ⟨_, rfl, (h0 (fun ⟨p, q, a1, a2, a3, a4, a5⟩ => by rw [a5] at h21; exact nI_ge a2 hb h21))⟩
        · obtain ⟨q, hq, eq⟩ := (rg_iff hb).mp ⟨Int32.not_lt.mp h13, Int32.not_le.mp h21⟩
          refine a_iload_n dX5_isPair_24 rfl ?_
          refine a_iload_n dX5_isPair_25 rfl ?_
          refine a_icmp_eq (tgt := 33) dX5_isPair_26 (by decide) (fun h26 => ?_) (fun h26 => ?_)
          · refine a_iconst (v := nI 0) dX5_isPair_33 (by decide) ?_
            exact a_zreturn dX5_isPair_34 (by first | exact Or.inl rfl | exact Or.inr rfl) ⟨_, rfl, (h0 (fun ⟨p, q, a1, a2, a3, a4, a5⟩ => a3 (nI_inj (by omega) (by omega) (by rw [← a4, ← a5]; exact h26))))⟩
          · refine a_iconst (v := nI 1) dX5_isPair_29 (by decide) ?_
            refine a_goto (tgt := 34) dX5_isPair_30 (by decide) ?_
            exact a_zreturn dX5_isPair_34 (by first | exact Or.inl rfl | exact Or.inr rfl) ⟨_, rfl, (h1 p q hp hq (fun e => h26 (by rw [ep, eq, e])) ep eq)⟩

set_option maxHeartbeats 4000000 in
set_option maxRecDepth 100000 in
theorem n_pairNumber {G : am_G} {d : Nat} {I : am_I} {J : am_J} {K : Int32 → am_I → am_J → Prop} {N a b : Nat} (hn : I 1 0 = nI N) (hK : K (nI (N * a + b)) I J) : CMi G d yX5_pairNumber [.ref 1, .int (nI a), .int (nI b)] I J K := by
  refine CM.of (L0 := [_, _, _]) cX5_pairNumber 3 (some .int) (by decide) (by decide) kcX5_pairNumber (Nat.le_of_ble_eq_true rfl) rfl ?_
  refine a_iload_n dX5_pairNumber_0 rfl ?_
  refine a_aload_n dX5_pairNumber_1 rfl ?_
  refine a_geti dX5_pairNumber_2 kf_X5_9 ⟨by decide, _, rfl, rfl⟩ hn ?_
  refine a_imul dX5_pairNumber_5 (show _ = nI (N * a) by rw [Nat.mul_comm]; exact pk_mul _ _) ?_
  refine a_iload_n dX5_pairNumber_6 rfl ?_
  refine a_iadd dX5_pairNumber_7 (by first | exact nI_add _ _ | rfl) ?_
  exact a_ireturn dX5_pairNumber_8 ⟨_, rfl, hK⟩

def tlC (I : am_I) : Nat → Bool := fun l => decide (I (20 + l) 5 ≠ -9)
set_option maxHeartbeats 4000000 in
set_option maxRecDepth 100000 in
theorem lp_lt {G : am_G} {d : Nat} {I0 : am_I} {J : am_J} {K : Int32 → am_I → am_J → Prop} {n : Nat} (hn : I0 1 1 = nI n) (hn12 : n ≤ 12) (hK : K (nI (cN (tlC I0) n)) I0 J) : ∀ i, i ≤ n → AW G cX5_linesTold 3 RX5 d (am_ex G (some .int) (fun r I J => ∃ x, r = some (.int x) ∧ K x I J)) 4 [some (.ref 1), some (.int (nI (cN (tlC I0) i))), some (.int (nI i))] [] I0 J := by
  refine am_dn n (fun i hi ih => ?_)
  refine a_iload_n dX5_linesTold_4 rfl ?_
  refine a_aload_n dX5_linesTold_5 rfl ?_
  refine a_geti dX5_linesTold_6 kf_X5_15 ⟨by decide, _, rfl, rfl⟩ hn ?_
  refine a_icmp_geN (tgt := 35) dX5_linesTold_9 (by decide) (by omega) (by omega) (fun h => ?_) (fun h => ?_)
  · obtain rfl : i = n := by omega
    refine a_iload_n dX5_linesTold_35 rfl ?_
    exact a_ireturn dX5_linesTold_36 ⟨_, rfl, hK⟩
  · refine a_aload_n dX5_linesTold_12 rfl ?_
    refine a_getr dX5_linesTold_13 kf_X5_20 ⟨by decide, _, rfl, rfl⟩ ?_
    refine a_iload_n dX5_linesTold_16 rfl ?_
    refine a_aald dX5_linesTold_17 ⟨by decide, rfl⟩ (by decide) (by omega) rfl ?_
    refine a_geti dX5_linesTold_18 kf_X5_42 (sh_at (by omega) rfl) rfl ?_
    refine a_bipush (v := (-9)) dX5_linesTold_21 (by decide) ?_
    refine a_icmp_eq (tgt := 29) dX5_linesTold_23 (by decide) (fun h23 => ?_) (fun h23 => ?_)
    · refine a_iinc (L' := [_, _, _]) dX5_linesTold_29 rfl (nI_inc _) rfl ?_
      refine a_goto (tgt := 4) dX5_linesTold_32 (by decide) ?_
      have z := ih (i + 1) (by omega) (by omega)
      rw [cN_s, if_neg (by simp [tlC, h23]), Nat.add_zero] at z
      exact z
    · refine a_iinc (L' := [_, _, _]) dX5_linesTold_26 rfl (nI_inc _) rfl ?_
      refine a_iinc (L' := [_, _, _]) dX5_linesTold_29 rfl (nI_inc _) rfl ?_
      refine a_goto (tgt := 4) dX5_linesTold_32 (by decide) ?_
      have z := ih (i + 1) (by omega) (by omega)
      rw [cN_s, if_pos (by simp [tlC, h23])] at z
      exact z

set_option maxHeartbeats 4000000 in
set_option maxRecDepth 100000 in
theorem n_linesTold {G : am_G} {d : Nat} {I : am_I} {J : am_J} {K : Int32 → am_I → am_J → Prop} {n : Nat} (hn : I 1 1 = nI n) (hn12 : n ≤ 12) (hK : K (nI (cN (tlC I) n)) I J) : CMi G d yX5_linesTold [.ref 1] I J K := by
  refine CM.of (L0 := [_, _, _]) cX5_linesTold 3 (some .int) (by decide) (by decide) kcX5_linesTold (Nat.le_of_ble_eq_true rfl) rfl ?_
  refine a_iconst (v := nI 0) dX5_linesTold_0 (by decide) ?_
  refine a_istore_n (L' := [_, _, _]) dX5_linesTold_1 (Nat.le_of_ble_eq_true rfl) rfl ?_
  refine a_iconst (v := nI 0) dX5_linesTold_2 (by decide) ?_
  refine a_istore_n (L' := [_, _, _]) dX5_linesTold_3 (Nat.le_of_ble_eq_true rfl) rfl ?_
  exact lp_lt hn hn12 hK 0 (by omega)

def mtQ (me : Nat → Int32) : Nat → Bool := fun p => decide (me p ≠ -9)
set_option maxHeartbeats 4000000 in
set_option maxRecDepth 100000 in
theorem lp_pm {G : am_G} {d : Nat} {I0 : am_I} {J : am_J} {K : Int32 → am_I → am_J → Prop} (hK : K (nI (cN (mtQ (I0 13)) 36)) I0 J) : ∀ i, i ≤ 36 → AW G cX5_pairsMetered 3 RX5 d (am_ex G (some .int) (fun r I J => ∃ x, r = some (.int x) ∧ K x I J)) 4 [some (.ref 1), some (.int (nI (cN (mtQ (I0 13)) i))), some (.int (nI i))] [] I0 J := by
  refine am_dn 36 (fun i hi ih => ?_)
  refine a_iload_n dX5_pairsMetered_4 rfl ?_
  refine a_bipush (v := nI 36) dX5_pairsMetered_5 (by decide) ?_
  refine a_icmp_geN (tgt := 30) dX5_pairsMetered_7 (by decide) (by omega) (by omega) (fun h => ?_) (fun h => ?_)
  · obtain rfl : i = 36 := by omega
    refine a_iload_n dX5_pairsMetered_30 rfl ?_
    exact a_ireturn dX5_pairsMetered_31 ⟨_, rfl, hK⟩
  · refine a_aload_n dX5_pairsMetered_10 rfl ?_
    refine a_getr dX5_pairsMetered_11 kf_X5_24 ⟨by decide, _, rfl, rfl⟩ ?_
    refine a_iload_n dX5_pairsMetered_14 rfl ?_
    refine a_iald dX5_pairsMetered_15 ⟨by decide, rfl⟩ (by omega) rfl ?_
    refine a_bipush (v := (-9)) dX5_pairsMetered_16 (by decide) ?_
    refine a_icmp_eq (tgt := 24) dX5_pairsMetered_18 (by decide) (fun h18 => ?_) (fun h18 => ?_)
    · refine a_iinc (L' := [_, _, _]) dX5_pairsMetered_24 rfl (nI_inc _) rfl ?_
      refine a_goto (tgt := 4) dX5_pairsMetered_27 (by decide) ?_
      have z := ih (i + 1) (by omega) (by omega)
      rw [cN_s, if_neg (by simp [mtQ, h18]), Nat.add_zero] at z
      exact z
    · refine a_iinc (L' := [_, _, _]) dX5_pairsMetered_21 rfl (nI_inc _) rfl ?_
      refine a_iinc (L' := [_, _, _]) dX5_pairsMetered_24 rfl (nI_inc _) rfl ?_
      refine a_goto (tgt := 4) dX5_pairsMetered_27 (by decide) ?_
      have z := ih (i + 1) (by omega) (by omega)
      rw [cN_s, if_pos (by simp [mtQ, h18])] at z
      exact z

set_option maxHeartbeats 4000000 in
set_option maxRecDepth 100000 in
theorem n_pairsMetered {G : am_G} {d : Nat} {I : am_I} {J : am_J} {K : Int32 → am_I → am_J → Prop}  (hK : K (nI (cN (mtQ (I 13)) 36)) I J) : CMi G d yX5_pairsMetered [.ref 1] I J K := by
  refine CM.of (L0 := [_, _, _]) cX5_pairsMetered 3 (some .int) (by decide) (by decide) kcX5_pairsMetered (Nat.le_of_ble_eq_true rfl) rfl ?_
  refine a_iconst (v := nI 0) dX5_pairsMetered_0 (by decide) ?_
  refine a_istore_n (L' := [_, _, _]) dX5_pairsMetered_1 (Nat.le_of_ble_eq_true rfl) rfl ?_
  refine a_iconst (v := nI 0) dX5_pairsMetered_2 (by decide) ?_
  refine a_istore_n (L' := [_, _, _]) dX5_pairsMetered_3 (Nat.le_of_ble_eq_true rfl) rfl ?_
  exact lp_pm hK 0 (by omega)

def cfC (I : am_I) (j : Nat) (x : Int32) (l : Nat) : Int32 := if I (20 + l) j = x ∧ I (20 + l) 5 ≠ -9 then I (20 + l) 5 else nI 0
theorem sI_0 {f : Nat → Int32} {i : Nat} (h : f i = nI 0) : sI f (i + 1) = sI f i := by
  rw [sI, h, nI_0]; simp
theorem sI_1 {f : Nat → Int32} {i : Nat} {v : Int32} (h : f i = v) : sI f (i + 1) = sI f i + v := by rw [sI, h]
set_option maxHeartbeats 4000000 in
set_option maxRecDepth 100000 in
theorem lp_cf1 {G : am_G} {d : Nat} {I0 : am_I} {J : am_J} {K : Int32 → am_I → am_J → Prop} {n : Nat} {x : Int32} (hn : I0 1 1 = nI n) (hn12 : n ≤ 12) (hK : K (sI (cfC I0 1 x) n) I0 J) : ∀ i, i ≤ n → AW G cX5_carriedFrom 4 RX5 d (am_ex G (some .int) (fun r I J => ∃ x, r = some (.int x) ∧ K x I J)) 4 [some (.ref 1), some (.int x), some (.int (sI (cfC I0 1 x) i)), some (.int (nI i))] [] I0 J := by
  refine am_dn n (fun i hi ih => ?_)
  refine a_iload_n dX5_carriedFrom_4 rfl ?_
  refine a_aload_n dX5_carriedFrom_5 rfl ?_
  refine a_geti dX5_carriedFrom_6 kf_X5_15 ⟨by decide, _, rfl, rfl⟩ hn ?_
  refine a_icmp_geN (tgt := 57) dX5_carriedFrom_9 (by decide) (by omega) (by omega) (fun h => ?_) (fun h => ?_)
  · obtain rfl : i = n := by omega
    refine a_iload_n dX5_carriedFrom_57 rfl ?_
    exact a_ireturn dX5_carriedFrom_58 ⟨_, rfl, hK⟩
  · refine a_aload_n dX5_carriedFrom_12 rfl ?_
    refine a_getr dX5_carriedFrom_13 kf_X5_20 ⟨by decide, _, rfl, rfl⟩ ?_
    refine a_iload_n dX5_carriedFrom_16 rfl ?_
    refine a_aald dX5_carriedFrom_17 ⟨by decide, rfl⟩ (by decide) (by omega) rfl ?_
    refine a_geti dX5_carriedFrom_18 kf_X5_45 (sh_at (by omega) rfl) rfl ?_
    refine a_iload_n dX5_carriedFrom_21 rfl ?_
    refine a_icmp_ne (tgt := 51) dX5_carriedFrom_22 (by decide) (fun h22 => ?_) (fun h22 => ?_)
    · refine a_iinc (L' := [_, _, _, _]) dX5_carriedFrom_51 rfl (nI_inc _) rfl ?_
      refine a_goto (tgt := 4) dX5_carriedFrom_54 (by decide) ?_
      have z := ih (i + 1) (by omega) (by omega)
      rw [sI_0 (by simp [cfC, h22])] at z
      exact z
    · refine a_aload_n dX5_carriedFrom_25 rfl ?_
      refine a_getr dX5_carriedFrom_26 kf_X5_20 ⟨by decide, _, rfl, rfl⟩ ?_
      refine a_iload_n dX5_carriedFrom_29 rfl ?_
      refine a_aald dX5_carriedFrom_30 ⟨by decide, rfl⟩ (by decide) (by omega) rfl ?_
      refine a_geti dX5_carriedFrom_31 kf_X5_42 (sh_at (by omega) rfl) rfl ?_
      refine a_bipush (v := (-9)) dX5_carriedFrom_34 (by decide) ?_
      refine a_icmp_eq (tgt := 51) dX5_carriedFrom_36 (by decide) (fun h36 => ?_) (fun h36 => ?_)
      · refine a_iinc (L' := [_, _, _, _]) dX5_carriedFrom_51 rfl (nI_inc _) rfl ?_
        refine a_goto (tgt := 4) dX5_carriedFrom_54 (by decide) ?_
        have z := ih (i + 1) (by omega) (by omega)
        rw [sI_0 (by simp [cfC, h36])] at z
        exact z
      · refine a_iload_n dX5_carriedFrom_39 rfl ?_
        refine a_aload_n dX5_carriedFrom_40 rfl ?_
        refine a_getr dX5_carriedFrom_41 kf_X5_20 ⟨by decide, _, rfl, rfl⟩ ?_
        refine a_iload_n dX5_carriedFrom_44 rfl ?_
        refine a_aald dX5_carriedFrom_45 ⟨by decide, rfl⟩ (by decide) (by omega) rfl ?_
        refine a_geti dX5_carriedFrom_46 kf_X5_42 (sh_at (by omega) rfl) rfl ?_
        refine a_iadd dX5_carriedFrom_49 rfl ?_
        refine a_istore_n (L' := [_, _, _, _]) dX5_carriedFrom_50 (Nat.le_of_ble_eq_true rfl) rfl ?_
        refine a_iinc (L' := [_, _, _, _]) dX5_carriedFrom_51 rfl (nI_inc _) rfl ?_
        refine a_goto (tgt := 4) dX5_carriedFrom_54 (by decide) ?_
        have z := ih (i + 1) (by omega) (by omega)
        rw [sI_1 (show cfC I0 1 x i = I0 (20 + i) 5 by simp [cfC, h22, h36])] at z
        exact z

set_option maxHeartbeats 4000000 in
set_option maxRecDepth 100000 in
theorem n_carriedFrom {G : am_G} {d : Nat} {I : am_I} {J : am_J} {K : Int32 → am_I → am_J → Prop} {n : Nat} {x : Int32} (hn : I 1 1 = nI n) (hn12 : n ≤ 12) (hK : K (sI (cfC I 1 x) n) I J) : CMi G d yX5_carriedFrom [.ref 1, .int x] I J K := by
  refine CM.of (L0 := [_, _, _, _]) cX5_carriedFrom 4 (some .int) (by decide) (by decide) kcX5_carriedFrom (Nat.le_of_ble_eq_true rfl) rfl ?_
  refine a_iconst (v := nI 0) dX5_carriedFrom_0 (by decide) ?_
  refine a_istore_n (L' := [_, _, _, _]) dX5_carriedFrom_1 (Nat.le_of_ble_eq_true rfl) rfl ?_
  refine a_iconst (v := nI 0) dX5_carriedFrom_2 (by decide) ?_
  refine a_istore_n (L' := [_, _, _, _]) dX5_carriedFrom_3 (Nat.le_of_ble_eq_true rfl) rfl ?_
  exact lp_cf1 hn hn12 hK 0 (by omega)

set_option maxHeartbeats 4000000 in
set_option maxRecDepth 100000 in
theorem lp_cf2 {G : am_G} {d : Nat} {I0 : am_I} {J : am_J} {K : Int32 → am_I → am_J → Prop} {n : Nat} {x : Int32} (hn : I0 1 1 = nI n) (hn12 : n ≤ 12) (hK : K (sI (cfC I0 2 x) n) I0 J) : ∀ i, i ≤ n → AW G cX5_carriedTo 4 RX5 d (am_ex G (some .int) (fun r I J => ∃ x, r = some (.int x) ∧ K x I J)) 4 [some (.ref 1), some (.int x), some (.int (sI (cfC I0 2 x) i)), some (.int (nI i))] [] I0 J := by
  refine am_dn n (fun i hi ih => ?_)
  refine a_iload_n dX5_carriedTo_4 rfl ?_
  refine a_aload_n dX5_carriedTo_5 rfl ?_
  refine a_geti dX5_carriedTo_6 kf_X5_15 ⟨by decide, _, rfl, rfl⟩ hn ?_
  refine a_icmp_geN (tgt := 57) dX5_carriedTo_9 (by decide) (by omega) (by omega) (fun h => ?_) (fun h => ?_)
  · obtain rfl : i = n := by omega
    refine a_iload_n dX5_carriedTo_57 rfl ?_
    exact a_ireturn dX5_carriedTo_58 ⟨_, rfl, hK⟩
  · refine a_aload_n dX5_carriedTo_12 rfl ?_
    refine a_getr dX5_carriedTo_13 kf_X5_20 ⟨by decide, _, rfl, rfl⟩ ?_
    refine a_iload_n dX5_carriedTo_16 rfl ?_
    refine a_aald dX5_carriedTo_17 ⟨by decide, rfl⟩ (by decide) (by omega) rfl ?_
    refine a_geti dX5_carriedTo_18 kf_X5_48 (sh_at (by omega) rfl) rfl ?_
    refine a_iload_n dX5_carriedTo_21 rfl ?_
    refine a_icmp_ne (tgt := 51) dX5_carriedTo_22 (by decide) (fun h22 => ?_) (fun h22 => ?_)
    · refine a_iinc (L' := [_, _, _, _]) dX5_carriedTo_51 rfl (nI_inc _) rfl ?_
      refine a_goto (tgt := 4) dX5_carriedTo_54 (by decide) ?_
      have z := ih (i + 1) (by omega) (by omega)
      rw [sI_0 (by simp [cfC, h22])] at z
      exact z
    · refine a_aload_n dX5_carriedTo_25 rfl ?_
      refine a_getr dX5_carriedTo_26 kf_X5_20 ⟨by decide, _, rfl, rfl⟩ ?_
      refine a_iload_n dX5_carriedTo_29 rfl ?_
      refine a_aald dX5_carriedTo_30 ⟨by decide, rfl⟩ (by decide) (by omega) rfl ?_
      refine a_geti dX5_carriedTo_31 kf_X5_42 (sh_at (by omega) rfl) rfl ?_
      refine a_bipush (v := (-9)) dX5_carriedTo_34 (by decide) ?_
      refine a_icmp_eq (tgt := 51) dX5_carriedTo_36 (by decide) (fun h36 => ?_) (fun h36 => ?_)
      · refine a_iinc (L' := [_, _, _, _]) dX5_carriedTo_51 rfl (nI_inc _) rfl ?_
        refine a_goto (tgt := 4) dX5_carriedTo_54 (by decide) ?_
        have z := ih (i + 1) (by omega) (by omega)
        rw [sI_0 (by simp [cfC, h36])] at z
        exact z
      · refine a_iload_n dX5_carriedTo_39 rfl ?_
        refine a_aload_n dX5_carriedTo_40 rfl ?_
        refine a_getr dX5_carriedTo_41 kf_X5_20 ⟨by decide, _, rfl, rfl⟩ ?_
        refine a_iload_n dX5_carriedTo_44 rfl ?_
        refine a_aald dX5_carriedTo_45 ⟨by decide, rfl⟩ (by decide) (by omega) rfl ?_
        refine a_geti dX5_carriedTo_46 kf_X5_42 (sh_at (by omega) rfl) rfl ?_
        refine a_iadd dX5_carriedTo_49 rfl ?_
        refine a_istore_n (L' := [_, _, _, _]) dX5_carriedTo_50 (Nat.le_of_ble_eq_true rfl) rfl ?_
        refine a_iinc (L' := [_, _, _, _]) dX5_carriedTo_51 rfl (nI_inc _) rfl ?_
        refine a_goto (tgt := 4) dX5_carriedTo_54 (by decide) ?_
        have z := ih (i + 1) (by omega) (by omega)
        rw [sI_1 (show cfC I0 2 x i = I0 (20 + i) 5 by simp [cfC, h22, h36])] at z
        exact z

set_option maxHeartbeats 4000000 in
set_option maxRecDepth 100000 in
theorem n_carriedTo {G : am_G} {d : Nat} {I : am_I} {J : am_J} {K : Int32 → am_I → am_J → Prop} {n : Nat} {x : Int32} (hn : I 1 1 = nI n) (hn12 : n ≤ 12) (hK : K (sI (cfC I 2 x) n) I J) : CMi G d yX5_carriedTo [.ref 1, .int x] I J K := by
  refine CM.of (L0 := [_, _, _, _]) cX5_carriedTo 4 (some .int) (by decide) (by decide) kcX5_carriedTo (Nat.le_of_ble_eq_true rfl) rfl ?_
  refine a_iconst (v := nI 0) dX5_carriedTo_0 (by decide) ?_
  refine a_istore_n (L' := [_, _, _, _]) dX5_carriedTo_1 (Nat.le_of_ble_eq_true rfl) rfl ?_
  refine a_iconst (v := nI 0) dX5_carriedTo_2 (by decide) ?_
  refine a_istore_n (L' := [_, _, _, _]) dX5_carriedTo_3 (Nat.le_of_ble_eq_true rfl) rfl ?_
  exact lp_cf2 hn hn12 hK 0 (by omega)

set_option maxHeartbeats 4000000 in
set_option maxRecDepth 100000 in
theorem lp_ac {G : am_G} {d : Nat} {I0 : am_I} {J : am_J} {K : Int32 → am_I → am_J → Prop} {N n : Nat} (hN : I0 1 0 = nI N) (hN6 : N ≤ 6) (hn : I0 1 1 = nI n) (hn12 : n ≤ 12) (hK : K (sI (fun a => sI (cfC I0 1 (nI a)) n) N) I0 J) : ∀ i, i ≤ N → AW G cX5_allCarried 3 RX5 (d + 1) (am_ex G (some .int) (fun r I J => ∃ x, r = some (.int x) ∧ K x I J)) 4 [some (.ref 1), some (.int (sI (fun a => sI (cfC I0 1 (nI a)) n) i)), some (.int (nI i))] [] I0 J := by
  refine am_dn N (fun i hi ih => ?_)
  refine a_iload_n dX5_allCarried_4 rfl ?_
  refine a_aload_n dX5_allCarried_5 rfl ?_
  refine a_geti dX5_allCarried_6 kf_X5_9 ⟨by decide, _, rfl, rfl⟩ hN ?_
  refine a_icmp_geN (tgt := 26) dX5_allCarried_9 (by decide) (by omega) (by omega) (fun h => ?_) (fun h => ?_)
  · obtain rfl : i = N := by omega
    refine a_iload_n dX5_allCarried_26 rfl ?_
    exact a_ireturn dX5_allCarried_27 ⟨_, rfl, hK⟩
  · refine a_iload_n dX5_allCarried_12 rfl ?_
    refine a_aload_n dX5_allCarried_13 rfl ?_
    refine a_iload_n dX5_allCarried_14 rfl ?_
    refine a_callVi (As := [_]) dX5_allCarried_15 km_X5_51 ⟨by decide, _, _, _, rfl, rfl⟩ rfl rfl (Nat.le_of_ble_eq_true rfl) ?_
    refine n_carriedFrom hn hn12 ?_
    refine a_iadd dX5_allCarried_18 (show _ = sI (fun a => sI (cfC I0 1 (nI a)) n) (i + 1) from rfl) ?_
    refine a_istore_n (L' := [_, _, _]) dX5_allCarried_19 (Nat.le_of_ble_eq_true rfl) rfl ?_
    refine a_iinc (L' := [_, _, _]) dX5_allCarried_20 rfl (nI_inc _) rfl ?_
    refine a_goto (tgt := 4) dX5_allCarried_23 (by decide) ?_
    exact ih (i + 1) (by omega) (by omega)

set_option maxHeartbeats 4000000 in
set_option maxRecDepth 100000 in
theorem n_allCarried {G : am_G} {d : Nat} {I : am_I} {J : am_J} {K : Int32 → am_I → am_J → Prop} {N n : Nat} (hN : I 1 0 = nI N) (hN6 : N ≤ 6) (hn : I 1 1 = nI n) (hn12 : n ≤ 12) (hK : K (sI (fun a => sI (cfC I 1 (nI a)) n) N) I J) : CMi G (d + 1) yX5_allCarried [.ref 1] I J K := by
  refine CM.of (L0 := [_, _, _]) cX5_allCarried 3 (some .int) (by decide) (by decide) kcX5_allCarried (Nat.le_of_ble_eq_true rfl) rfl ?_
  refine a_iconst (v := nI 0) dX5_allCarried_0 (by decide) ?_
  refine a_istore_n (L' := [_, _, _]) dX5_allCarried_1 (Nat.le_of_ble_eq_true rfl) rfl ?_
  refine a_iconst (v := nI 0) dX5_allCarried_2 (by decide) ?_
  refine a_istore_n (L' := [_, _, _]) dX5_allCarried_3 (Nat.le_of_ble_eq_true rfl) rfl ?_
  exact lp_ac hN hN6 hn hn12 hK 0 (by omega)

set_option maxHeartbeats 4000000 in
set_option maxRecDepth 100000 in
theorem s_put {G : am_G} {d : Nat} {I : am_I} {J : am_J} {K : am_I → am_J → Prop} {s : Nat} {x : Int32} (hs : s < 4) (hK : K (mFill (am_up I 62 s x) (16 + s) 24 (nI 0)) J) : CMv G (d + 1) yX9_put [.ref 9, .int (nI s), .int x] I J K := by
  refine CM.of (L0 := [_, _, _]) cX9_put 3 none (by decide) (by decide) kcX9_put (Nat.le_of_ble_eq_true rfl) rfl ?_
  refine a_aload_n dX9_put_0 rfl ?_
  refine a_getr dX9_put_1 kf_X9_16 ⟨by decide, _, rfl, rfl⟩ ?_
  refine a_iload_n dX9_put_4 rfl ?_
  refine a_iload_n dX9_put_5 rfl ?_
  refine a_iast dX9_put_6 ⟨by decide, rfl⟩ (by omega) ?_
  refine a_aload_n dX9_put_7 rfl ?_
  refine a_getr dX9_put_8 kf_X9_11 ⟨by decide, _, rfl, rfl⟩ ?_
  refine a_iload_n dX9_put_11 rfl ?_
  refine a_aald dX9_put_12 ⟨by decide, rfl⟩ (by decide) (by omega) rfl ?_
  refine a_iconst (v := nI 0) dX9_put_13 (by decide) ?_
  refine a_callSv (As := [_, _]) dX9_put_14 km_X9_26 rfl rfl (Nat.le_of_ble_eq_true rfl) ?_
  refine c_fillB (sh_byte hs) ?_
  rw [show (nI 0).toInt8.toInt32 = nI 0 by decide]
  exact a_vreturn dX9_put_17 ⟨rfl, hK⟩

set_option maxHeartbeats 4000000 in
set_option maxRecDepth 100000 in
theorem s_hasRun {G : am_G} {d : Nat} {I : am_I} {J : am_J} {K : Int32 → am_I → am_J → Prop} {s a m : Nat} {x : Int32} (hs : s < 4) (ha : I 62 s = nI a) (ha24 : a ≤ 24) (hm : m < 2 ^ 31) (h1 : ∀ i, x = nI i → i + m ≤ a → K 1 I J) (h0 : ¬ (∃ i, x = nI i ∧ i + m ≤ a) → K 0 I J) : CMi G d yX9_hasRun [.ref 9, .int (nI s), .int x, .int (nI m)] I J K := by
  refine CM.of (L0 := [_, _, _, _]) cX9_hasRun 4 (some .boolean) (by decide) (by decide) kcX9_hasRun (Nat.le_of_ble_eq_true rfl) rfl ?_
  have key : ∀ i, i < 2 ^ 31 → (nI i ≤ nI a - nI m ↔ i + m ≤ a) := fun i hi => by
    rw [Int32.le_iff_toInt_le, nI_toInt hi, Int32.toInt_sub, nI_toInt (by omega), nI_toInt hm]
    have e : ((a : Int) - (m : Int)).bmod (2 ^ 32) = (a : Int) - m := by
      apply Int.bmod_eq_of_le <;> omega
    rw [e]; omega
  refine a_iload_n dX9_hasRun_0 rfl ?_
  refine a_if_lt (tgt := 20) dX9_hasRun_1 (by decide) (fun g1 => ?_) (fun g1 => ?_)
  · refine a_iconst (v := nI 0) dX9_hasRun_20 (by decide) ?_
    exact a_zreturn dX9_hasRun_21 (by first | exact Or.inl rfl | exact Or.inr rfl) ⟨_, rfl, (h0 (fun ⟨i, e, q⟩ => by rw [e] at g1; exact nI_pos (by omega) g1))⟩
  · obtain ⟨i, hi, rfl⟩ := nI_of g1
    refine a_iload_n dX9_hasRun_4 rfl ?_
    refine a_aload_n dX9_hasRun_5 rfl ?_
    refine a_getr dX9_hasRun_6 kf_X9_16 ⟨by decide, _, rfl, rfl⟩ ?_
    refine a_iload_n dX9_hasRun_9 rfl ?_
    refine a_iald dX9_hasRun_10 ⟨by decide, rfl⟩ (by omega) ha ?_
    refine a_iload_n dX9_hasRun_11 rfl ?_
    refine a_isub dX9_hasRun_12 rfl ?_
    refine a_icmp_gt (tgt := 20) dX9_hasRun_13 (by decide) (fun h13 => ?_) (fun h13 => ?_)
    · refine a_iconst (v := nI 0) dX9_hasRun_20 (by decide) ?_
      exact a_zreturn dX9_hasRun_21 (by first | exact Or.inl rfl | exact Or.inr rfl) ⟨_, rfl, (h0 (fun ⟨j, e, q⟩ => by have := nI_inj hi (by omega) e; subst this; exact Int32.not_le.mpr h13 ((key i hi).mpr q)))⟩
    · refine a_iconst (v := nI 1) dX9_hasRun_16 (by decide) ?_
      refine a_goto (tgt := 21) dX9_hasRun_17 (by decide) ?_
      exact a_zreturn dX9_hasRun_21 (by first | exact Or.inl rfl | exact Or.inr rfl) ⟨_, rfl, (h1 i rfl ((key i hi).mp (Int32.not_lt.mp h13)))⟩

