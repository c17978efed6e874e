/-! ===== the reference: numbers, LINES, READINGS ===== -/
set_option maxHeartbeats 4000000 in
set_option maxRecDepth 100000 in
/-- in(v, low, high) -/
theorem c_in {G : am_G} {d : Nat} {I : am_I} {J : am_J} {K : Int32 → am_I → am_J → Prop} {a b c : Int32} (h1 : b ≤ a → a ≤ c → K 1 I J) (h0 : ¬ (b ≤ a ∧ a ≤ c) → K 0 I J) : CMi G d yX12_in [.int a, .int b, .int c] I J K := by
  refine CM.of (L0 := [_, _, _]) cX12_in 3 (some .boolean) (by decide) (by decide) kcX12_in (Nat.le_of_ble_eq_true rfl) rfl ?_
  refine a_iload_n dX12_in_0 rfl ?_
  refine a_iload_n dX12_in_1 rfl ?_
  refine a_icmp_lt (tgt := 14) dX12_in_2 (by decide) (fun h2 => ?_) (fun h2 => ?_)
  · refine a_iconst (v := nI 0) dX12_in_14 (by decide) ?_
    exact a_zreturn dX12_in_15 (by first | exact Or.inl rfl | exact Or.inr rfl) ⟨_, rfl, (h0 (fun h => Int32.not_le.mpr h2 h.1))⟩
  · refine a_iload_n dX12_in_5 rfl ?_
    refine a_iload_n dX12_in_6 rfl ?_
    refine a_icmp_gt (tgt := 14) dX12_in_7 (by decide) (fun h7 => ?_) (fun h7 => ?_)
    · refine a_iconst (v := nI 0) dX12_in_14 (by decide) ?_
      exact a_zreturn dX12_in_15 (by first | exact Or.inl rfl | exact Or.inr rfl) ⟨_, rfl, (h0 (fun h => Int32.not_le.mpr h7 h.2))⟩
    · refine a_iconst (v := nI 1) dX12_in_10 (by decide) ?_
      refine a_goto (tgt := 15) dX12_in_11 (by decide) ?_
      exact a_zreturn dX12_in_15 (by first | exact Or.inl rfl | exact Or.inr rfl) ⟨_, rfl, (h1 (Int32.not_lt.mp h2) (Int32.not_lt.mp h7))⟩

set_option maxHeartbeats 4000000 in
set_option maxRecDepth 100000 in
/-- meets(what) -/
theorem c_meets {G : am_G} {d : Nat} {I : am_I} {J : am_J} {K : Int32 → am_I → am_J → Prop} {f : Nat} (hf : f < 6) (hK : K (-3) (am_up (am_up I 63 0 (nI f)) 64 f (I 64 f + 1)) J) : CMi G d yX12_meets [.ref 63, .int (nI f)] I J K := by
  refine CM.of (L0 := [_, _]) cX12_meets 2 (some .int) (by decide) (by decide) kcX12_meets (Nat.le_of_ble_eq_true rfl) rfl ?_
  refine a_aload_n dX12_meets_0 rfl ?_
  refine a_iload_n dX12_meets_1 rfl ?_
  refine a_puti dX12_meets_2 kp_X12_108 ⟨by decide, _, rfl, rfl⟩ ?_
  refine a_aload_n dX12_meets_5 rfl ?_
  refine a_getr dX12_meets_6 kf_X12_7 ⟨by decide, _, rfl, rfl⟩ ?_
  refine a_iload_n dX12_meets_9 rfl ?_
  refine a_dup2 dX12_meets_10 rfl rfl ?_
  refine a_iald dX12_meets_11 ⟨by decide, rfl⟩ (by omega) rfl ?_
  refine a_iconst (v := nI 1) dX12_meets_12 (by decide) ?_
  refine a_iadd dX12_meets_13 (by first | exact nI_add _ _ | rfl) ?_
  refine a_iast dX12_meets_14 ⟨by decide, rfl⟩ (by omega) ?_
  refine a_bipush (v := (-3)) dX12_meets_15 (by decide) ?_
  exact a_ireturn dX12_meets_17 ⟨_, rfl, hK⟩

set_option maxHeartbeats 4000000 in
set_option maxRecDepth 100000 in
/-- tell(v, answer) -/
theorem c_tell {G : am_G} {d : Nat} {I : am_I} {J : am_J} {K : Int32 → am_I → am_J → Prop} {v : Int64} {a : Int32} (hK : K a I (am_upJ J 63 2 v)) : CMi G d yX12_tell [.ref 63, .long v, .int a] I J K := by
  refine CM.of (L0 := [_, _, _, _]) cX12_tell 4 (some .int) (by decide) (by decide) kcX12_tell (Nat.le_of_ble_eq_true rfl) rfl ?_
  refine a_aload_n dX12_tell_0 rfl ?_
  refine a_lload_n dX12_tell_1 rfl ?_
  refine a_putl dX12_tell_2 kp_X12_111 ⟨by decide, _, rfl, rfl⟩ ?_
  refine a_iload_n dX12_tell_5 rfl ?_
  exact a_ireturn dX12_tell_6 ⟨_, rfl, hK⟩

/-- the memory behind forget() -/
def mForget (I : am_I) : am_I := fun a b => if a = 72 ∧ b < 36 then -9 else if a = 73 ∧ b < 36 then 0 else am_up (am_up I 63 4 0) 63 15 0 a b
def mForgetI (I : am_I) (i : Nat) : am_I := fun a b => if a = 72 ∧ b < i then -9 else if a = 73 ∧ b < i then 0 else I a b
theorem mForgetI_s (I : am_I) (i : Nat) : am_up (am_up (mForgetI I i) 72 i (-9)) 73 i (nI 0) = mForgetI I (i + 1) := by
  funext a b
  simp only [am_up, mForgetI, show nI 0 = 0 from nI_0]
  by_cases h1 : a = 73
  · subst h1
    by_cases h2 : b = i
    · subst h2; simp
    · simp [h2, show (b < i + 1) = (b < i) by simp; omega]
  · by_cases h1 : a = 72
    · subst h1
      by_cases h2 : b = i
      · subst h2; simp
      · simp [h2, show (b < i + 1) = (b < i) by simp; omega]
    · simp [*]
set_option maxHeartbeats 4000000 in
set_option maxRecDepth 100000 in
theorem lp_forget {G : am_G} {d : Nat} {I0 : am_I} {J : am_J} {K : am_I → am_J → Prop}  (hK : K (mForgetI I0 36) J) : ∀ i, i ≤ 36 → AW G cX12_forget 2 RX12 d (am_ex G none (fun r I J => r = none ∧ K I J)) 12 [some (.ref 63), some (.int (nI i))] [] (mForgetI I0 i) J := by
  refine am_dn (36) (fun i hi ih => ?_)
  refine a_iload_n dX12_forget_12 rfl ?_
  refine a_bipush (v := nI 36) dX12_forget_13 (by decide) ?_
  refine a_icmp_geN (tgt := 39) dX12_forget_15 (by decide) (by omega) (by omega) (fun h => ?_) (fun h => ?_)
  · obtain rfl : i = 36 := by omega
    exact a_vreturn dX12_forget_39 ⟨rfl, hK⟩
  · refine a_aload_n dX12_forget_18 rfl ?_
    refine a_getr dX12_forget_19 kf_X12_39 ⟨by decide, _, rfl, rfl⟩ ?_
    refine a_iload_n dX12_forget_22 rfl ?_
    refine a_bipush (v := (-9)) dX12_forget_23 (by decide) ?_
    refine a_iast dX12_forget_25 ⟨by decide, rfl⟩ (by omega) ?_
    refine a_aload_n dX12_forget_26 rfl ?_
    refine a_getr dX12_forget_27 kf_X12_42 ⟨by decide, _, rfl, rfl⟩ ?_
    refine a_iload_n dX12_forget_30 rfl ?_
    refine a_iconst (v := nI 0) dX12_forget_31 (by decide) ?_
    refine a_iast dX12_forget_32 ⟨by decide, rfl⟩ (by omega) ?_
    refine a_mem (mForgetI_s I0 i) ?_
    refine a_iinc (L' := [_, _]) dX12_forget_33 rfl (nI_inc _) rfl ?_
    refine a_goto (tgt := 12) dX12_forget_36 (by decide) ?_
    exact ih (i + 1) (by omega) (by omega)

set_option maxHeartbeats 4000000 in
set_option maxRecDepth 100000 in
/-- forget() -/
theorem c_forget {G : am_G} {d : Nat} {I : am_I} {J : am_J} {K : am_I → am_J → Prop}  (hK : K (mForget I) J) : CMv G d yX12_forget [.ref 63] I J K := by
  refine CM.of (L0 := [_, _]) cX12_forget 2 none (by decide) (by decide) kcX12_forget (Nat.le_of_ble_eq_true rfl) rfl ?_
  refine a_aload_n dX12_forget_0 rfl ?_
  refine a_iconst (v := nI 0) dX12_forget_1 (by decide) ?_
  refine a_puti dX12_forget_2 kp_X12_115 ⟨by decide, _, rfl, rfl⟩ ?_
  refine a_aload_n dX12_forget_5 rfl ?_
  refine a_iconst (v := nI 0) dX12_forget_6 (by decide) ?_
  refine a_putz dX12_forget_7 kp_X12_118 ⟨by decide, _, rfl, rfl⟩ (by first | exact Or.inl rfl | exact Or.inr rfl) ?_
  refine a_iconst (v := nI 0) dX12_forget_10 (by decide) ?_
  refine a_istore_n (L' := [_, _]) dX12_forget_11 (Nat.le_of_ble_eq_true rfl) rfl ?_
  refine a_mem (I' := mForgetI (am_up (am_up I 63 4 (nI 0)) 63 15 (nI 0)) 0) (by funext a b; simp [mForgetI]) ?_
  exact lp_forget hK 0 (by omega)

set_option maxHeartbeats 4000000 in
set_option maxRecDepth 100000 in
/-- net(k) -/
theorem c_net {G : am_G} {d : Nat} {I : am_I} {J : am_J} {K : Int32 → am_I → am_J → Prop} {x : Int32} (h1 : ∀ k, 2 ≤ k → k ≤ 6 → x = nI k → K x (mForget (am_up I 63 3 x)) J) (h0 : ¬ (nI 2 ≤ x ∧ x ≤ nI 6) → K (-1) I J) : CMi G (d + 1) yX12_net [.ref 63, .int x] I J K := by
  refine CM.of (L0 := [_, _]) cX12_net 2 (some .int) (by decide) (by decide) kcX12_net (Nat.le_of_ble_eq_true rfl) rfl ?_
  refine a_iload_n dX12_net_0 rfl ?_
  refine a_iconst (v := nI 2) dX12_net_1 (by decide) ?_
  refine a_bipush (v := nI 6) dX12_net_2 (by decide) ?_
  refine a_callSi (As := [_, _, _]) dX12_net_4 km_X12_122 rfl rfl (Nat.le_of_ble_eq_true rfl) ?_
  refine c_in (fun e1 e2 => ?_) (fun e1 => ?_)
  · obtain ⟨k, hk, rfl⟩ := nI_of2 (n := 6) (M := nI 6) (by decide) (fun q => absurd (Int32.lt_of_le_of_lt e1 q) (by decide)) e2
    have e1 := (nI_leI (by omega) (by omega)).mp e1
    refine a_if_ne (tgt := 12) dX12_net_7 (by decide) (fun h7 => ?_) (fun h7 => ?_)
    · refine a_aload_n dX12_net_12 rfl ?_
      refine a_iload_n dX12_net_13 rfl ?_
      refine a_puti dX12_net_14 kp_X12_13 ⟨by decide, _, rfl, rfl⟩ ?_
      refine a_aload_n dX12_net_17 rfl ?_
      refine a_callVv (As := []) dX12_net_18 km_X12_105 ⟨by decide, _, _, _, rfl, rfl⟩ rfl rfl (Nat.le_of_ble_eq_true rfl) ?_
      refine c_forget ?_
      refine a_iload_n dX12_net_21 rfl ?_
      exact a_ireturn dX12_net_22 ⟨_, rfl, (h1 k e1 hk rfl)⟩
    · exact absurd h7 (by decide)
  · refine a_if_ne (tgt := 12) dX12_net_7 (by decide) (fun h7 => ?_) (fun h7 => ?_)
    · exact absurd h7 (by decide)
    · refine a_iconst (v := (-1)) dX12_net_10 (by decide) ?_
      exact a_ireturn dX12_net_11 ⟨_, rfl, (h0 e1)⟩

set_option maxHeartbeats 4000000 in
set_option maxRecDepth 100000 in
theorem c_isKnot {G : am_G} {d : Nat} {I : am_I} {J : am_J} {K : Int32 → am_I → am_J → Prop} {x : Int32} {n : Nat} (hn : I 63 3 = nI n) (hb : n < 2 ^ 31) (h1 : ∀ j, j < n → x = nI j → K 1 I J) (h0 : ¬ (∃ j, j < n ∧ x = nI j) → K 0 I J) : CMi G (d + 1) yX12_isKnot [.ref 63, .int x] I J K := by
  refine CM.of (L0 := [_, _]) cX12_isKnot 2 (some .boolean) (by decide) (by decide) kcX12_isKnot (Nat.le_of_ble_eq_true rfl) rfl ?_
  refine a_iload_n dX12_isKnot_0 rfl ?_
  refine a_iconst (v := nI 0) dX12_isKnot_1 (by decide) ?_
  refine a_aload_n dX12_isKnot_2 rfl ?_
  refine a_geti dX12_isKnot_3 kf_X12_13 ⟨by decide, _, rfl, rfl⟩ hn ?_
  refine a_iconst (v := nI 1) dX12_isKnot_6 (by decide) ?_
  refine a_isub dX12_isKnot_7 rfl ?_
  refine a_callSi (As := [_, _, _]) dX12_isKnot_8 km_X12_122 rfl rfl (Nat.le_of_ble_eq_true rfl) ?_
  refine c_in (fun e1 e2 => ?_) (fun e1 => ?_)
  · exact a_zreturn dX12_isKnot_11 (by first | exact Or.inl rfl | exact Or.inr rfl) ⟨_, rfl, (by obtain ⟨j, q1, q2⟩ := (rg_sub hb).mp ⟨e1, e2⟩; exact h1 j q1 q2)⟩
  · exact a_zreturn dX12_isKnot_11 (by first | exact Or.inl rfl | exact Or.inr rfl) ⟨_, rfl, (h0 (fun q => e1 ((rg_sub hb).mpr q)))⟩

set_option maxHeartbeats 4000000 in
set_option maxRecDepth 100000 in
theorem c_isLine {G : am_G} {d : Nat} {I : am_I} {J : am_J} {K : Int32 → am_I → am_J → Prop} {x : Int32} {n : Nat} (hn : I 63 4 = nI n) (hb : n < 2 ^ 31) (h1 : ∀ j, j < n → x = nI j → K 1 I J) (h0 : ¬ (∃ j, j < n ∧ x = nI j) → K 0 I J) : CMi G (d + 1) yX12_isLine [.ref 63, .int x] I J K := by
  refine CM.of (L0 := [_, _]) cX12_isLine 2 (some .boolean) (by decide) (by decide) kcX12_isLine (Nat.le_of_ble_eq_true rfl) rfl ?_
  refine a_iload_n dX12_isLine_0 rfl ?_
  refine a_iconst (v := nI 0) dX12_isLine_1 (by decide) ?_
  refine a_aload_n dX12_isLine_2 rfl ?_
  refine a_geti dX12_isLine_3 kf_X12_115 ⟨by decide, _, rfl, rfl⟩ hn ?_
  refine a_iconst (v := nI 1) dX12_isLine_6 (by decide) ?_
  refine a_isub dX12_isLine_7 rfl ?_
  refine a_callSi (As := [_, _, _]) dX12_isLine_8 km_X12_122 rfl rfl (Nat.le_of_ble_eq_true rfl) ?_
  refine c_in (fun e1 e2 => ?_) (fun e1 => ?_)
  · exact a_zreturn dX12_isLine_11 (by first | exact Or.inl rfl | exact Or.inr rfl) ⟨_, rfl, (by obtain ⟨j, q1, q2⟩ := (rg_sub hb).mp ⟨e1, e2⟩; exact h1 j q1 q2)⟩
  · exact a_zreturn dX12_isLine_11 (by first | exact Or.inl rfl | exact Or.inr rfl) ⟨_, rfl, (h0 (fun q => e1 ((rg_sub hb).mpr q)))⟩


