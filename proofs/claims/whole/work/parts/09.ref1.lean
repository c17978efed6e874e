/-! ===== the reference: numbers, LINES, READINGS ===== -/
set_option maxHeartbeats 4000000 in
set_option maxRecDepth 100000 in
/-- in(v, low, high) -/
theorem c_in {G : am_G} {d : Nat} {I : am_I} {J : am_J} {K : Int32 → am_I → am_J → Prop} {a b c : Int32} (h1 : b ≤ a → a ≤ c → K 1 I J) (h0 : ¬ (b ≤ a ∧ a ≤ c) → K 0 I J) : CMi G d yX12_in [.int a, .int b, .int c] I J K := by
  refine CM.of (L0 := [_, _, _]) cX12_in 3 (some .boolean) (by decide) (by decide) kcX12_in (Nat.le_of_ble_eq_true rfl) rfl ?_
  refine a_iload_n dX12_in_0 rfl ?_
  refine a_iload_n dX12_in_1 rfl ?_
  refine a_icmp_lt (tgt := 14) dX12_in_2 (by decide) (fun h2 => ?_) (fun h2 => ?_)
  · refine a_iconst (v := nI 0) dX12_in_14 (by decide) ?_
    exact a_zreturn dX12_in_15 (by first | exact Or.inl rfl | exact Or.inr rfl) ⟨_, rfl, (h0 (fun h => Int32.not_le.mpr h2 h.1))⟩
  · refine a_iload_n dX12_in_5 rfl ?_
    refine a_iload_n dX12_in_6 rfl ?_
    refine a_icmp_gt (tgt := 14) dX12_in_7 (by decide) (fun h7 => ?_) (fun h7 => ?_)
    · refine a_iconst (v := nI 0) dX12_in_14 (by decide) ?_
      exact a_zreturn dX12_in_15 (by first | exact Or.inl rfl | exact Or.inr rfl) ⟨_, rfl, (h0 (fun h => Int32.not_le.mpr h7 h.2))⟩
    · refine a_iconst (v := nI 1) dX12_in_10 (by decide) ?_
      refine a_goto (tgt := 15) dX12_in_11 (by decide) ?_
      exact a_zreturn dX12_in_15 (by first | exact Or.inl rfl | exact Or.inr rfl) ⟨_, rfl, (h1 (Int32.not_lt.mp h2) (Int32.not_lt.mp h7))⟩

set_option maxHeartbeats 4000000 in
set_option maxRecDepth 100000 in
/-- meets(what) -/
theorem c_meets {G : am_G} {d : Nat} {I : am_I} {J : am_J} {K : Int32 → am_I → am_J → Prop} {f : Nat} (hf : f < 6) (hK : K (-3) (am_up (am_up I 63 0 (nI f)) 64 f (I 64 f + 1)) J) : CMi G d yX12_meets [.ref 63, .int (nI f)] I J K := by
  refine CM.of (L0 := [_, _]) cX12_meets 2 (some .int) (by decide) (by decide) kcX12_meets (Nat.le_of_ble_eq_true rfl) rfl ?_
  refine a_aload_n dX12_meets_0 rfl ?_
  refine a_iload_n dX12_meets_1 rfl ?_
  refine a_puti dX12_meets_2 kp_X12_108 ⟨by decide, _, rfl, rfl⟩ ?_
  refine a_aload_n dX12_meets_5 rfl ?_
  refine a_getr dX12_meets_6 kf_X12_7 ⟨by decide, _, rfl, rfl⟩ ?_
  refine a_iload_n dX12_meets_9 rfl ?_
  refine a_dup2 dX12_meets_10 rfl rfl ?_
  refine a_iald dX12_meets_11 ⟨by decide, rfl⟩ (by omega) rfl ?_
  refine a_iconst (v := nI 1) dX12_meets_12 (by decide) ?_
  refine a_iadd dX12_meets_13 (by first | exact nI_add _ _ | rfl) ?_
  refine a_iast dX12_meets_14 ⟨by decide, rfl⟩ (by omega) ?_
  refine a_bipush (v := (-3)) dX12_meets_15 (by decide) ?_
  exact a_ireturn dX12_meets_17 ⟨_, rfl, hK⟩

set_option maxHeartbeats 4000000 in
set_option maxRecDepth 100000 in
/-- tell(v, answer) -/
theorem c_tell {G : am_G} {d : Nat} {I : am_I} {J : am_J} {K : Int32 → am_I → am_J → Prop} {v : Int64} {a : Int32} (hK : K a I (am_upJ J 63 2 v)) : CMi G d yX12_tell [.ref 63, .long v, .int a] I J K := by
  refine CM.of (L0 := [_, _, _, _]) cX12_tell 4 (some .int) (by decide) (by decide) kcX12_tell (Nat.le_of_ble_eq_true rfl) rfl ?_
  refine a_aload_n dX12_tell_0 rfl ?_
  refine a_lload_n dX12_tell_1 rfl ?_
  refine a_putl dX12_tell_2 kp_X12_111 ⟨by decide, _, rfl, rfl⟩ ?_
  refine a_iload_n dX12_tell_5 rfl ?_
  exact a_ireturn dX12_tell_6 ⟨_, rfl, hK⟩

/-- the memory behind forget() -/
def mForget (I : am_I) : am_I := fun a b => if a = 72 ∧ b < 36 then -9 else if a = 73 ∧ b < 36 then 0 else am_up (am_up I 63 4 0) 63 15 0 a b
def mForgetI (I : am_I) (i : Nat) : am_I := fun a b => if a = 72 ∧ b < i then -9 else if a = 73 ∧ b < i then 0 else I a b
theorem mForgetI_s (I : am_I) (i : Nat) : am_up (am_up (mForgetI I i) 72 i (-9)) 73 i (nI 0) = mForgetI I (i + 1) := by
  funext a b
  simp only [am_up, mForgetI, show nI 0 = 0 from nI_0]
  by_cases h1 : a = 73
  · subst h1
    by_cases h2 : b = i
    · subst h2; simp
    · simp [h2, show (b < i + 1) = (b < i) by simp; omega]
  · by_cases h1 : a = 72
    · subst h1
      by_cases h2 : b = i
      · subst h2; simp
      · simp [h2, show (b < i + 1) = (b < i) by simp; omega]
    · simp [*]
set_option maxHeartbeats 4000000 in
set_option maxRecDepth 100000 in
theorem lp_forget {G : am_G} {d : Nat} {I0 : am_I} {J : am_J} {K : am_I → am_J → Prop}  (hK : K (mForgetI I0 36) J) : ∀ i, i ≤ 36 → AW G cX12_forget 2 RX12 d (am_ex G none (fun r I J => r = none ∧ K I J)) 12 [some (.ref 63), some (.int (nI i))] [] (mForgetI I0 i) J := by
  refine am_dn (36) (fun i hi ih => ?_)
  refine a_iload_n dX12_forget_12 rfl ?_
  refine a_bipush (v := nI 36) dX12_forget_13 (by decide) ?_
  refine a_icmp_geN (tgt := 39) dX12_forget_15 (by decide) (by omega) (by omega) (fun h => ?_) (fun h => ?_)
  · obtain rfl : i = 36 := by omega
    exact a_vreturn dX12_forget_39 ⟨rfl, hK⟩
  · refine a_aload_n dX12_forget_18 rfl ?_
    refine a_getr dX12_forget_19 kf_X12_39 ⟨by decide, _, rfl, rfl⟩ ?_
    refine a_iload_n dX12_forget_22 rfl ?_
    refine a_bipush (v := (-9)) dX12_forget_23 (by decide) ?_
    refine a_iast dX12_forget_25 ⟨by decide, rfl⟩ (by omega) ?_
    refine a_aload_n dX12_forget_26 rfl ?_
    refine a_getr dX12_forget_27 kf_X12_42 ⟨by decide, _, rfl, rfl⟩ ?_
    refine a_iload_n dX12_forget_30 rfl ?_
    refine a_iconst (v := nI 0) dX12_forget_31 (by decide) ?_
    refine a_iast dX12_forget_32 ⟨by decide, rfl⟩ (by omega) ?_
    refine a_mem (mForgetI_s I0 i) ?_
    refine a_iinc (L' := [_, _]) dX12_forget_33 rfl (nI_inc _) rfl ?_
    refine a_goto (tgt := 12) dX12_forget_36 (by decide) ?_
    exact ih (i + 1) (by omega) (by omega)

set_option maxHeartbeats 4000000 in
set_option maxRecDepth 100000 in
/-- forget() -/
theorem c_forget {G : am_G} {d : Nat} {I : am_I} {J : am_J} {K : am_I → am_J → Prop}  (hK : K (mForget I) J) : CMv G d yX12_forget [.ref 63] I J K := by
  refine CM.of (L0 := [_, _]) cX12_forget 2 none (by decide) (by decide) kcX12_forget (Nat.le_of_ble_eq_true rfl) rfl ?_
  refine a_aload_n dX12_forget_0 rfl ?_
  refine a_iconst (v := nI 0) dX12_forget_1 (by decide) ?_
  refine a_puti dX12_forget_2 kp_X12_115 ⟨by decide, _, rfl, rfl⟩ ?_
  refine a_aload_n dX12_forget_5 rfl ?_
  refine a_iconst (v := nI 0) dX12_forget_6 (by decide) ?_
  refine a_putz dX12_forget_7 kp_X12_118 ⟨by decide, _, rfl, rfl⟩ (by first | exact Or.inl rfl | exact Or.inr rfl) ?_
  refine a_iconst (v := nI 0) dX12_forget_10 (by decide) ?_
  refine a_istore_n (L' := [_, _]) dX12_forget_11 (Nat.le_of_ble_eq_true rfl) rfl ?_
  refine a_mem (I' := mForgetI (am_up (am_up I 63 4 (nI 0)) 63 15 (nI 0)) 0) (by funext a b; simp [mForgetI]) ?_
  exact lp_forget hK 0 (by omega)

set_option maxHeartbeats 4000000 in
set_option maxRecDepth 100000 in
/-- net(k) -/
theorem c_net {G : am_G} {d : Nat} {I : am_I} {J : am_J} {K : Int32 → am_I → am_J → Prop} {x : Int32} (h1 : ∀ k, 2 ≤ k → k ≤ 6 → x = nI k → K x (mForget (am_up I 63 3 x)) J) (h0 : ¬ (nI 2 ≤ x ∧ x ≤ nI 6) → K (-1) I J) : CMi G (d + 1) yX12_net [.ref 63, .int x] I J K := by
  refine CM.of (L0 := [_, _]) cX12_net 2 (some .int) (by decide) (by decide) kcX12_net (Nat.le_of_ble_eq_true rfl) rfl ?_
  refine a_iload_n dX12_net_0 rfl ?_
  refine a_iconst (v := nI 2) dX12_net_1 (by decide) ?_
  refine a_bipush (v := nI 6) dX12_net_2 (by decide) ?_
  refine a_callSi (As := [_, _, _]) dX12_net_4 km_X12_122 rfl rfl (Nat.le_of_ble_eq_true rfl) ?_
  refine c_in (fun e1 e2 => ?_) (fun e1 => ?_)
  · obtain ⟨k, hk, rfl⟩ := nI_of2 (n := 6) (M := nI 6) (by decide) (fun q => absurd (Int32.lt_of_le_of_lt e1 q) (by decide)) e2
    have e1 := (nI_leI (by omega) (by omega)).mp e1
    refine a_if_ne (tgt := 12) dX12_net_7 (by decide) (fun h7 => ?_) (fun h7 => ?_)
    · refine a_aload_n dX12_net_12 rfl ?_
      refine a_iload_n dX12_net_13 rfl ?_
      refine a_puti dX12_net_14 kp_X12_13 ⟨by decide, _, rfl, rfl⟩ ?_
      refine a_aload_n dX12_net_17 rfl ?_
      refine a_callVv (As := []) dX12_net_18 km_X12_105 ⟨by decide, _, _, _, rfl, rfl⟩ rfl rfl (Nat.le_of_ble_eq_true rfl) ?_
      refine c_forget ?_
      refine a_iload_n dX12_net_21 rfl ?_
      exact a_ireturn dX12_net_22 ⟨_, rfl, (h1 k e1 hk rfl)⟩
    · exact absurd h7 (by decide)
  · refine a_if_ne (tgt := 12) dX12_net_7 (by decide) (fun h7 => ?_) (fun h7 => ?_)
    · exact absurd h7 (by decide)
    · refine a_iconst (v := (-1)) dX12_net_10 (by decide) ?_
      exact a_ireturn dX12_net_11 ⟨_, rfl, (h0 e1)⟩

set_option maxHeartbeats 4000000 in
set_option maxRecDepth 100000 in
theorem c_isKnot {G : am_G} {d : Nat} {I : am_I} {J : am_J} {K : Int32 → am_I → am_J → Prop} {x : Int32} {n : Nat} (hn : I 63 3 = nI n) (hb : n < 2 ^ 31) (h1 : ∀ j, j < n → x = nI j → K 1 I J) (h0 : ¬ (∃ j, j < n ∧ x = nI j) → K 0 I J) : CMi G (d + 1) yX12_isKnot [.ref 63, .int x] I J K := by
  refine CM.of (L0 := [_, _]) cX12_isKnot 2 (some .boolean) (by decide) (by decide) kcX12_isKnot (Nat.le_of_ble_eq_true rfl) rfl ?_
  refine a_iload_n dX12_isKnot_0 rfl ?_
  refine a_iconst (v := nI 0) dX12_isKnot_1 (by decide) ?_
  refine a_aload_n dX12_isKnot_2 rfl ?_
  refine a_geti dX12_isKnot_3 kf_X12_13 ⟨by decide, _, rfl, rfl⟩ hn ?_
  refine a_iconst (v := nI 1) dX12_isKnot_6 (by decide) ?_
  refine a_isub dX12_isKnot_7 rfl ?_
  refine a_callSi (As := [_, _, _]) dX12_isKnot_8 km_X12_122 rfl rfl (Nat.le_of_ble_eq_true rfl) ?_
  refine c_in (fun e1 e2 => ?_) (fun e1 => ?_)
  · exact a_zreturn dX12_isKnot_11 (by first | exact Or.inl rfl | exact Or.inr rfl) ⟨_, rfl, (by obtain ⟨j, q1, q2⟩ := (rg_sub hb).mp ⟨e1, e2⟩; exact h1 j q1 q2)⟩
  · exact a_zreturn dX12_isKnot_11 (by first | exact Or.inl rfl | exact Or.inr rfl) ⟨_, rfl, (h0 (fun q => e1 ((rg_sub hb).mpr q)))⟩

set_option maxHeartbeats 4000000 in
set_option maxRecDepth 100000 in
theorem c_isLine {G : am_G} {d : Nat} {I : am_I} {J : am_J} {K : Int32 → am_I → am_J → Prop} {x : Int32} {n : Nat} (hn : I 63 4 = nI n) (hb : n < 2 ^ 31) (h1 : ∀ j, j < n → x = nI j → K 1 I J) (h0 : ¬ (∃ j, j < n ∧ x = nI j) → K 0 I J) : CMi G (d + 1) yX12_isLine [.ref 63, .int x] I J K := by
  refine CM.of (L0 := [_, _]) cX12_isLine 2 (some .boolean) (by decide) (by decide) kcX12_isLine (Nat.le_of_ble_eq_true rfl) rfl ?_
  refine a_iload_n dX12_isLine_0 rfl ?_
  refine a_iconst (v := nI 0) dX12_isLine_1 (by decide) ?_
  refine a_aload_n dX12_isLine_2 rfl ?_
  refine a_geti dX12_isLine_3 kf_X12_115 ⟨by decide, _, rfl, rfl⟩ hn ?_
  refine a_iconst (v := nI 1) dX12_isLine_6 (by decide) ?_
  refine a_isub dX12_isLine_7 rfl ?_
  refine a_callSi (As := [_, _, _]) dX12_isLine_8 km_X12_122 rfl rfl (Nat.le_of_ble_eq_true rfl) ?_
  refine c_in (fun e1 e2 => ?_) (fun e1 => ?_)
  · exact a_zreturn dX12_isLine_11 (by first | exact Or.inl rfl | exact Or.inr rfl) ⟨_, rfl, (by obtain ⟨j, q1, q2⟩ := (rg_sub hb).mp ⟨e1, e2⟩; exact h1 j q1 q2)⟩
  · exact a_zreturn dX12_isLine_11 (by first | exact Or.inl rfl | exact Or.inr rfl) ⟨_, rfl, (h0 (fun q => e1 ((rg_sub hb).mpr q)))⟩

set_option maxHeartbeats 4000000 in
set_option maxRecDepth 100000 in
theorem c_isPair {G : am_G} {d : Nat} {I : am_I} {J : am_J} {K : Int32 → am_I → am_J → Prop} {x y : Int32} {n : Nat} (hn : I 63 3 = nI n) (hb : n < 2 ^ 31) (h1 : ∀ p q, p < n → q < n → p ≠ q → x = nI p → y = nI q → K 1 I J) (h0 : ¬ isPr n x y → K 0 I J) : CMi G (d + 2) yX12_isPair [.ref 63, .int x, .int y] I J K := by
  refine CM.of (L0 := [_, _, _]) cX12_isPair 3 (some .boolean) (by decide) (by decide) kcX12_isPair (Nat.le_of_ble_eq_true rfl) rfl ?_
  refine a_aload_n dX12_isPair_0 rfl ?_
  refine a_iload_n dX12_isPair_1 rfl ?_
  refine a_callVi (As := [_]) dX12_isPair_2 km_X12_126 ⟨by decide, _, _, _, rfl, rfl⟩ rfl rfl (Nat.le_of_ble_eq_true rfl) ?_
  refine c_isKnot hn hb (fun p hp e1 => ?_) (fun e1 => ?_)
  · refine a_if_eq (tgt := 25) dX12_isPair_5 (by decide) (fun h5 => ?_) (fun h5 => ?_)
    · exact absurd h5 (by decide)
    · refine a_aload_n dX12_isPair_8 rfl ?_
      refine a_iload_n dX12_isPair_9 rfl ?_
      refine a_callVi (As := [_]) dX12_isPair_10 km_X12_126 ⟨by decide, _, _, _, rfl, rfl⟩ rfl rfl (Nat.le_of_ble_eq_true rfl) ?_
      refine c_isKnot hn hb (fun q hq e2 => ?_) (fun e2 => ?_)
      · refine a_if_eq (tgt := 25) dX12_isPair_13 (by decide) (fun h13 => ?_) (fun h13 => ?_)
        · exact absurd h13 (by decide)
        · refine a_iload_n dX12_isPair_16 rfl ?_
          refine a_iload_n dX12_isPair_17 rfl ?_
          refine a_icmp_eq (tgt := 25) dX12_isPair_18 (by decide) (fun h18 => ?_) (fun h18 => ?_)
          · refine a_iconst (v := nI 0) dX12_isPair_25 (by decide) ?_
            exact a_zreturn dX12_isPair_26 (by first | exact Or.inl rfl | exact Or.inr rfl) ⟨_, rfl, (h0 (fun ⟨p1, q1, a1, a2, a3, a4, a5⟩ => a3 (nI_inj (by omega) (by omega) (by rw [← a4, ← a5]; exact h18))))⟩
          · refine a_iconst (v := nI 1) dX12_isPair_21 (by decide) ?_
            refine a_goto (tgt := 26) dX12_isPair_22 (by decide) ?_
            exact a_zreturn dX12_isPair_26 (by first | exact Or.inl rfl | exact Or.inr rfl) ⟨_, rfl, (h1 p q hp hq (fun e => h18 (by rw [e1, e2, e])) e1 e2)⟩
      · refine a_if_eq (tgt := 25) dX12_isPair_13 (by decide) (fun h13 => ?_) (fun h13 => ?_)
        · refine a_iconst (v := nI 0) dX12_isPair_25 (by decide) ?_
          exact a_zreturn dX12_isPair_26 (by first | exact Or.inl rfl | exact Or.inr rfl) ⟨_, rfl, (h0 (fun ⟨p, q, a1, a2, a3, a4, a5⟩ => e2 ⟨q, a2, a5⟩))⟩
        · exact absurd h13 (by decide)
  · refine a_if_eq (tgt := 25) dX12_isPair_5 (by decide) (fun h5 => ?_) (fun h5 => ?_)
    · refine a_iconst (v := nI 0) dX12_isPair_25 (by decide) ?_
      exact a_zreturn dX12_isPair_26 (by first | exact Or.inl rfl | exact Or.inr rfl) ⟨_, rfl, (h0 (fun ⟨p, q, a1, a2, a3, a4, a5⟩ => e1 ⟨p, a1, a4⟩))⟩
    · exact absurd h5 (by decide)

def mLine (I : am_I) (n : Nat) (k a b : Int32) : am_I := am_up (am_up (am_up (am_up (am_up (am_up I 65 n k) 66 n a) 67 n b) 68 n 0) 69 n 100) 70 n (-9)
def mLost (I : am_I) (n i : Nat) : am_I := fun p j => if p = 71 ∧ 24 * n ≤ j ∧ j < 24 * n + i then -9 else I p j
theorem mLost_s (I : am_I) (n i : Nat) : am_up (mLost I n i) 71 (24 * n + i) (-9) = mLost I n (i + 1) := by
  funext a b
  simp only [am_up, mLost]
  by_cases h1 : a = 71
  · subst h1
    by_cases h2 : b = 24 * n + i
    · subst h2
      simp
    · by_cases h3 : 24 * n ≤ b ∧ b < 24 * n + i
      · simp [h2, h3, show b < 24 * n + (i + 1) by omega]
      · simp [h2, h3, show ¬ (24 * n ≤ b ∧ b < 24 * n + (i + 1)) by omega]
  · simp [h1]
set_option maxHeartbeats 4000000 in
set_option maxRecDepth 100000 in
theorem lp_line {G : am_G} {d : Nat} {I0 : am_I} {J : am_J} {K : Int32 → am_I → am_J → Prop} {n : Nat} {v1 v2 v3 : Int32} (hn : I0 63 4 = nI n) (hn12 : n < 12) (hK : K (nI n) (am_up (mLost I0 n 24) 63 4 (nI (n + 1))) J) : ∀ i, i ≤ 24 → AW G cX12_line 5 RX12 d (am_ex G (some .int) (fun r I J => ∃ x, r = some (.int x) ∧ K x I J)) 109 [some (.ref 63), some (.int v1), some (.int v2), some (.int v3), some (.int (nI i))] [] (mLost I0 n i) J := by
  refine am_dn (24) (fun i hi ih => ?_)
  refine a_iload dX12_line_109 rfl ?_
  refine a_bipush (v := nI 24) dX12_line_111 (by decide) ?_
  refine a_icmp_geN (tgt := 139) dX12_line_113 (by decide) (by omega) (by omega) (fun h => ?_) (fun h => ?_)
  · obtain rfl : i = 24 := by omega
    refine a_aload_n dX12_line_139 rfl ?_
    refine a_dup dX12_line_140 rfl ?_
    refine a_geti dX12_line_141 kf_X12_115 ⟨by decide, _, rfl, rfl⟩ hn ?_
    refine a_iconst (v := nI 1) dX12_line_144 (by decide) ?_
    refine a_iadd dX12_line_145 (by first | exact nI_add _ _ | rfl) ?_
    refine a_puti dX12_line_146 kp_X12_115 ⟨by decide, _, rfl, rfl⟩ ?_
    refine a_aload_n dX12_line_149 rfl ?_
    refine a_geti dX12_line_150 kf_X12_115 ⟨by decide, _, rfl, rfl⟩ rfl ?_
    refine a_iconst (v := nI 1) dX12_line_153 (by decide) ?_
    refine a_isub dX12_line_154 (show am_up (mLost I0 n 24) 63 4 (nI (n + 1)) 63 4 - nI 1 = nI n from nI_pred n) ?_
    exact a_ireturn dX12_line_155 ⟨_, rfl, hK⟩
  · refine a_aload_n dX12_line_116 rfl ?_
    refine a_getr dX12_line_117 kf_X12_36 ⟨by decide, _, rfl, rfl⟩ ?_
    refine a_bipush (v := nI 24) dX12_line_120 (by decide) ?_
    refine a_aload_n dX12_line_122 rfl ?_
    refine a_geti dX12_line_123 kf_X12_115 ⟨by decide, _, rfl, rfl⟩ hn ?_
    refine a_imul dX12_line_126 (by first | exact pk_mul _ _ | rfl) ?_
    refine a_iload dX12_line_127 rfl ?_
    refine a_iadd dX12_line_129 (by first | exact nI_add _ _ | rfl) ?_
    refine a_bipush (v := (-9)) dX12_line_130 (by decide) ?_
    refine a_iast dX12_line_132 ⟨by decide, rfl⟩ (by omega) ?_
    refine a_mem (mLost_s I0 n i) ?_
    refine a_iinc (L' := [_, _, _, _, _]) dX12_line_133 rfl (nI_inc _) rfl ?_
    refine a_goto (tgt := 109) dX12_line_136 (by decide) ?_
    exact ih (i + 1) (by omega) (by omega)

set_option maxHeartbeats 4000000 in
set_option maxRecDepth 100000 in
theorem c_line {G : am_G} {d : Nat} {I : am_I} {J : am_J} {K : Int32 → am_I → am_J → Prop} {x y z : Int32} {N n : Nat} (hN : I 63 3 = nI N) (hb : N ≤ 6) (hn : I 63 4 = nI n) (hn12 : n ≤ 12) (h1 : ∀ k p q, k ≤ 3 → p < N → q < N → p ≠ q → x = nI k → y = nI p → z = nI q → n < 12 → K (nI n) (am_up (mLost (mLine I n x y z) n 24) 63 4 (nI (n + 1))) J) (h2 : ∀ k, k ≤ 3 → x = nI k → isPr N y z → n = 12 → K (-2) I J) (h0 : ¬ ((nI 0 ≤ x ∧ x ≤ nI 3) ∧ isPr N y z) → K (-1) I J) : CMi G (d + 2) yX12_line [.ref 63, .int x, .int y, .int z] I J K := by
  refine CM.of (L0 := [_, _, _, _, _]) cX12_line 5 (some .int) (by decide) (by decide) kcX12_line (Nat.le_of_ble_eq_true rfl) rfl ?_
  refine a_iload_n dX12_line_0 rfl ?_
  refine a_iconst (v := nI 0) dX12_line_1 (by decide) ?_
  refine a_iconst (v := nI 3) dX12_line_2 (by decide) ?_
  refine a_callSi (As := [_, _, _]) dX12_line_3 km_X12_122 rfl rfl (Nat.le_of_ble_eq_true rfl) ?_
  refine c_in (fun e1 e2 => ?_) (fun e1 => ?_)
  · obtain ⟨k, hk, ek⟩ := (rg_iff1 (n := 3) (by decide)).mp ⟨e1, e2⟩
    refine a_if_eq (tgt := 30) dX12_line_6 (by decide) (fun h6 => ?_) (fun h6 => ?_)
    · exact absurd h6 (by decide)
    · refine a_aload_n dX12_line_9 rfl ?_
      refine a_iload_n dX12_line_10 rfl ?_
      refine a_callVi (As := [_]) dX12_line_11 km_X12_126 ⟨by decide, _, _, _, rfl, rfl⟩ rfl rfl (Nat.le_of_ble_eq_true rfl) ?_
      refine c_isKnot hN (by omega) (fun p hp e3 => ?_) (fun e3 => ?_)
      · refine a_if_eq (tgt := 30) dX12_line_14 (by decide) (fun h14 => ?_) (fun h14 => ?_)
        · exact absurd h14 (by decide)
        · refine a_aload_n dX12_line_17 rfl ?_
          refine a_iload_n dX12_line_18 rfl ?_
          refine a_callVi (As := [_]) dX12_line_19 km_X12_126 ⟨by decide, _, _, _, rfl, rfl⟩ rfl rfl (Nat.le_of_ble_eq_true rfl) ?_
          refine c_isKnot hN (by omega) (fun q hq e4 => ?_) (fun e4 => ?_)
          · refine a_if_eq (tgt := 30) dX12_line_22 (by decide) (fun h22 => ?_) (fun h22 => ?_)
            · exact absurd h22 (by decide)
            · refine a_iload_n dX12_line_25 rfl ?_
              refine a_iload_n dX12_line_26 rfl ?_
              refine a_icmp_ne (tgt := 32) dX12_line_27 (by decide) (fun h27 => ?_) (fun h27 => ?_)
              · have hpq : p ≠ q := fun e => h27 (by rw [e3, e4, e])
                refine a_aload_n dX12_line_32 rfl ?_
                refine a_geti dX12_line_33 kf_X12_115 ⟨by decide, _, rfl, rfl⟩ hn ?_
                refine a_bipush (v := nI 12) dX12_line_36 (by decide) ?_
                refine a_icmp_neN (tgt := 44) dX12_line_38 (by decide) (by omega) (by omega) (fun h38 => ?_) (fun h38 => ?_)
                · have hn12 : n < 12 := by omega
                  refine a_aload_n dX12_line_44 rfl ?_
                  refine a_getr dX12_line_45 kf_X12_17 ⟨by decide, _, rfl, rfl⟩ ?_
                  refine a_aload_n dX12_line_48 rfl ?_
                  refine a_geti dX12_line_49 kf_X12_115 ⟨by decide, _, rfl, rfl⟩ hn ?_
                  refine a_iload_n dX12_line_52 rfl ?_
                  refine a_iast dX12_line_53 ⟨by decide, rfl⟩ (by omega) ?_
                  refine a_aload_n dX12_line_54 rfl ?_
                  refine a_getr dX12_line_55 kf_X12_20 ⟨by decide, _, rfl, rfl⟩ ?_
                  refine a_aload_n dX12_line_58 rfl ?_
                  refine a_geti dX12_line_59 kf_X12_115 ⟨by decide, _, rfl, rfl⟩ hn ?_
                  refine a_iload_n dX12_line_62 rfl ?_
                  refine a_iast dX12_line_63 ⟨by decide, rfl⟩ (by omega) ?_
                  refine a_aload_n dX12_line_64 rfl ?_
                  refine a_getr dX12_line_65 kf_X12_23 ⟨by decide, _, rfl, rfl⟩ ?_
                  refine a_aload_n dX12_line_68 rfl ?_
                  refine a_geti dX12_line_69 kf_X12_115 ⟨by decide, _, rfl, rfl⟩ hn ?_
                  refine a_iload_n dX12_line_72 rfl ?_
                  refine a_iast dX12_line_73 ⟨by decide, rfl⟩ (by omega) ?_
                  refine a_aload_n dX12_line_74 rfl ?_
                  refine a_getr dX12_line_75 kf_X12_26 ⟨by decide, _, rfl, rfl⟩ ?_
                  refine a_aload_n dX12_line_78 rfl ?_
                  refine a_geti dX12_line_79 kf_X12_115 ⟨by decide, _, rfl, rfl⟩ hn ?_
                  refine a_iconst (v := nI 0) dX12_line_82 (by decide) ?_
                  refine a_zast dX12_line_83 ⟨by decide, rfl⟩ (by omega) (by first | exact Or.inl rfl | exact Or.inr rfl) ?_
                  refine a_aload_n dX12_line_84 rfl ?_
                  refine a_getr dX12_line_85 kf_X12_30 ⟨by decide, _, rfl, rfl⟩ ?_
                  refine a_aload_n dX12_line_88 rfl ?_
                  refine a_geti dX12_line_89 kf_X12_115 ⟨by decide, _, rfl, rfl⟩ hn ?_
                  refine a_bipush (v := nI 100) dX12_line_92 (by decide) ?_
                  refine a_iast dX12_line_94 ⟨by decide, rfl⟩ (by omega) ?_
                  refine a_aload_n dX12_line_95 rfl ?_
                  refine a_getr dX12_line_96 kf_X12_33 ⟨by decide, _, rfl, rfl⟩ ?_
                  refine a_aload_n dX12_line_99 rfl ?_
                  refine a_geti dX12_line_100 kf_X12_115 ⟨by decide, _, rfl, rfl⟩ hn ?_
                  refine a_bipush (v := (-9)) dX12_line_103 (by decide) ?_
                  refine a_iast dX12_line_105 ⟨by decide, rfl⟩ (by omega) ?_
                  refine a_iconst (v := nI 0) dX12_line_106 (by decide) ?_
                  refine a_istore (L' := [_, _, _, _, _]) dX12_line_107 (Nat.le_of_ble_eq_true rfl) rfl ?_
                  refine a_mem (I' := mLost (mLine I n x y z) n 0) (by funext a b; simp only [mLost, mLine]; rw [if_neg (fun h => by omega)]; rfl) ?_
                  exact lp_line (I0 := mLine I n x y z) hn hn12 (h1 k p q hk hp hq hpq ek e3 e4 hn12) 0 (by omega)
                · refine a_bipush (v := (-2)) dX12_line_41 (by decide) ?_
                  exact a_ireturn dX12_line_43 ⟨_, rfl, (h2 k hk ek ⟨p, q, hp, hq, hpq, e3, e4⟩ h38)⟩
              · refine a_iconst (v := (-1)) dX12_line_30 (by decide) ?_
                exact a_ireturn dX12_line_31 ⟨_, rfl, (h0 (fun ⟨_, p1, q1, a1, a2, a3, a4, a5⟩ => a3 (nI_inj (by omega) (by omega) (by rw [← a4, ← a5]; exact h27))))⟩
          · refine a_if_eq (tgt := 30) dX12_line_22 (by decide) (fun h22 => ?_) (fun h22 => ?_)
            · refine a_iconst (v := (-1)) dX12_line_30 (by decide) ?_
              exact a_ireturn dX12_line_31 ⟨_, rfl, (h0 (fun ⟨_, p, q, a1, a2, a3, a4, a5⟩ => e4 ⟨q, a2, a5⟩))⟩
            · exact absurd h22 (by decide)
      · refine a_if_eq (tgt := 30) dX12_line_14 (by decide) (fun h14 => ?_) (fun h14 => ?_)
        · refine a_iconst (v := (-1)) dX12_line_30 (by decide) ?_
          exact a_ireturn dX12_line_31 ⟨_, rfl, (h0 (fun ⟨_, p, q, a1, a2, a3, a4, a5⟩ => e3 ⟨p, a1, a4⟩))⟩
        · exact absurd h14 (by decide)
  · refine a_if_eq (tgt := 30) dX12_line_6 (by decide) (fun h6 => ?_) (fun h6 => ?_)
    · refine a_iconst (v := (-1)) dX12_line_30 (by decide) ?_
      exact a_ireturn dX12_line_31 ⟨_, rfl, (h0 (fun q => e1 q.1))⟩
    · exact absurd h6 (by decide)

set_option maxHeartbeats 4000000 in
set_option maxRecDepth 100000 in
theorem c_counts {G : am_G} {d : Nat} {I : am_I} {J : am_J} {K : Int32 → am_I → am_J → Prop} {l : Nat} (hl : l < 12) (h1 : (I 65 l = nI 1 ∨ I 65 l = nI 2) → K 1 I J) (h0 : ¬ (I 65 l = nI 1 ∨ I 65 l = nI 2) → K 0 I J) : CMi G d yX12_counts [.ref 63, .int (nI l)] I J K := by
  refine CM.of (L0 := [_, _]) cX12_counts 2 (some .boolean) (by decide) (by decide) kcX12_counts (Nat.le_of_ble_eq_true rfl) rfl ?_
  refine a_aload_n dX12_counts_0 rfl ?_
  refine a_getr dX12_counts_1 kf_X12_17 ⟨by decide, _, rfl, rfl⟩ ?_
  refine a_iload_n dX12_counts_4 rfl ?_
  refine a_iald dX12_counts_5 ⟨by decide, rfl⟩ (by omega) rfl ?_
  refine a_iconst (v := nI 1) dX12_counts_6 (by decide) ?_
  refine a_icmp_eq (tgt := 20) dX12_counts_7 (by decide) (fun h7 => ?_) (fun h7 => ?_)
  · refine a_iconst (v := nI 1) dX12_counts_20 (by decide) ?_
    refine a_goto (tgt := 25) dX12_counts_21 (by decide) ?_
    exact a_zreturn dX12_counts_25 (by first | exact Or.inl rfl | exact Or.inr rfl) ⟨_, rfl, (h1 (Or.inl h7))⟩
  · refine a_aload_n dX12_counts_10 rfl ?_
    refine a_getr dX12_counts_11 kf_X12_17 ⟨by decide, _, rfl, rfl⟩ ?_
    refine a_iload_n dX12_counts_14 rfl ?_
    refine a_iald dX12_counts_15 ⟨by decide, rfl⟩ (by omega) rfl ?_
    refine a_iconst (v := nI 2) dX12_counts_16 (by decide) ?_
    refine a_icmp_ne (tgt := 24) dX12_counts_17 (by decide) (fun h17 => ?_) (fun h17 => ?_)
    · refine a_iconst (v := nI 0) dX12_counts_24 (by decide) ?_
      exact a_zreturn dX12_counts_25 (by first | exact Or.inl rfl | exact Or.inr rfl) ⟨_, rfl, (h0 (fun q => q.elim h7 h17))⟩
    · refine a_iconst (v := nI 1) dX12_counts_20 (by decide) ?_
      refine a_goto (tgt := 25) dX12_counts_21 (by decide) ?_
      exact a_zreturn dX12_counts_25 (by first | exact Or.inl rfl | exact Or.inr rfl) ⟨_, rfl, (h1 (Or.inr h17))⟩

set_option maxHeartbeats 4000000 in
set_option maxRecDepth 100000 in
theorem c_counterOf {G : am_G} {d : Nat} {I : am_I} {J : am_J} {K : Int32 → am_I → am_J → Prop} {l : Nat} (hl : l < 12) (hK : K (if I 65 l = nI 1 then nI 256 else nI 65536) I J) : CMi G d yX12_counterOf [.ref 63, .int (nI l)] I J K := by
  refine CM.of (L0 := [_, _]) cX12_counterOf 2 (some .int) (by decide) (by decide) kcX12_counterOf (Nat.le_of_ble_eq_true rfl) rfl ?_
  refine a_aload_n dX12_counterOf_0 rfl ?_
  refine a_getr dX12_counterOf_1 kf_X12_17 ⟨by decide, _, rfl, rfl⟩ ?_
  refine a_iload_n dX12_counterOf_4 rfl ?_
  refine a_iald dX12_counterOf_5 ⟨by decide, rfl⟩ (by omega) rfl ?_
  refine a_iconst (v := nI 1) dX12_counterOf_6 (by decide) ?_
  refine a_ticmp_ne (tgt := 16) (pj := 18) (a := (nI 65536)) (b := (nI 256)) dX12_counterOf_7 (by decide) (fun kj => ?_) (fun kj => ?_) ?_
  · refine a_ldc dX12_counterOf_16 kk_X12_137 (show (65536 : Int32) = nI 65536 by decide) ?_
    exact kj
  · refine a_sipush (v := nI 256) dX12_counterOf_10 (by decide) ?_
    refine a_goto (tgt := 18) dX12_counterOf_13 (by decide) ?_
    exact kj
  exact a_ireturn dX12_counterOf_18 ⟨_, rfl, hK⟩

def rdL (I : am_I) (l : Nat) : Nat → Bool := fun h => decide (I 71 (24 * l + h) ≠ -9)
set_option maxHeartbeats 4000000 in
set_option maxRecDepth 100000 in
theorem lp_had {G : am_G} {d : Nat} {I0 : am_I} {J : am_J} {K : Int32 → am_I → am_J → Prop} {l : Nat} (hl : l < 12) (hK : K (nI (cN (rdL I0 l) 24)) I0 J) : ∀ i, i ≤ 24 → AW G cX12_had 4 RX12 d (am_ex G (some .int) (fun r I J => ∃ x, r = some (.int x) ∧ K x I J)) 4 [some (.ref 63), some (.int (nI l)), some (.int (nI (cN (rdL I0 l) i))), some (.int (nI i))] [] I0 J := by
  refine am_dn (24) (fun i hi ih => ?_)
  refine a_iload_n dX12_had_4 rfl ?_
  refine a_bipush (v := nI 24) dX12_had_5 (by decide) ?_
  refine a_icmp_geN (tgt := 40) dX12_had_7 (by decide) (by omega) (by omega) (fun h => ?_) (fun h => ?_)
  · obtain rfl : i = 24 := by omega
    refine a_iload_n dX12_had_40 rfl ?_
    exact a_ireturn dX12_had_41 ⟨_, rfl, hK⟩
  · refine a_iload_n dX12_had_10 rfl ?_
    refine a_aload_n dX12_had_11 rfl ?_
    refine a_getr dX12_had_12 kf_X12_36 ⟨by decide, _, rfl, rfl⟩ ?_
    refine a_bipush (v := nI 24) dX12_had_15 (by decide) ?_
    refine a_iload_n dX12_had_17 rfl ?_
    refine a_imul dX12_had_18 (by first | exact pk_mul _ _ | rfl) ?_
    refine a_iload_n dX12_had_19 rfl ?_
    refine a_iadd dX12_had_20 (by first | exact nI_add _ _ | rfl) ?_
    refine a_iald dX12_had_21 ⟨by decide, rfl⟩ (by omega) rfl ?_
    refine a_bipush (v := (-9)) dX12_had_22 (by decide) ?_
    refine a_ticmp_eq (tgt := 31) (pj := 32) (a := (nI 0)) (b := (nI 1)) dX12_had_24 (by decide) (fun kj => ?_) (fun kj => ?_) ?_
    · refine a_iconst (v := nI 0) dX12_had_31 (by decide) ?_
      exact kj
    · refine a_iconst (v := nI 1) dX12_had_27 (by decide) ?_
      refine a_goto (tgt := 32) dX12_had_28 (by decide) ?_
      exact kj
    refine a_iadd dX12_had_32 (show _ = nI (cN (rdL I0 l) (i + 1)) by rw [cN_s]; unfold rdL; by_cases e : I0 71 (24 * l + i) = -9 <;> simp [e, nI_add, nI_0]) ?_
    refine a_istore_n (L' := [_, _, _, _]) dX12_had_33 (Nat.le_of_ble_eq_true rfl) rfl ?_
    refine a_iinc (L' := [_, _, _, _]) dX12_had_34 rfl (nI_inc _) rfl ?_
    refine a_goto (tgt := 4) dX12_had_37 (by decide) ?_
    exact ih (i + 1) (by omega) (by omega)

set_option maxHeartbeats 4000000 in
set_option maxRecDepth 100000 in
theorem c_had {G : am_G} {d : Nat} {I : am_I} {J : am_J} {K : Int32 → am_I → am_J → Prop} {l : Nat} (hl : l < 12) (hK : K (nI (cN (rdL I l) 24)) I J) : CMi G d yX12_had [.ref 63, .int (nI l)] I J K := by
  refine CM.of (L0 := [_, _, _, _]) cX12_had 4 (some .int) (by decide) (by decide) kcX12_had (Nat.le_of_ble_eq_true rfl) rfl ?_
  refine a_iconst (v := nI 0) dX12_had_0 (by decide) ?_
  refine a_istore_n (L' := [_, _, _, _]) dX12_had_1 (Nat.le_of_ble_eq_true rfl) rfl ?_
  refine a_iconst (v := nI 0) dX12_had_2 (by decide) ?_
  refine a_istore_n (L' := [_, _, _, _]) dX12_had_3 (Nat.le_of_ble_eq_true rfl) rfl ?_
  exact lp_had hl hK 0 (by omega)

set_option maxHeartbeats 4000000 in
set_option maxRecDepth 100000 in
theorem c_down {G : am_G} {d : Nat} {I : am_I} {J : am_J} {K : Int32 → am_I → am_J → Prop} {x y : Int32} {n : Nat} (hn : I 63 4 = nI n) (hn12 : n ≤ 12) (hy : y = 0 ∨ y = 1) (hd : ∀ l, l < n → I 68 l = 0 ∨ I 68 l = 1) (h1 : ∀ l, l < n → x = nI l → K (I 68 l) (am_up I 68 l y) J) (h0 : ¬ isLn n x → K (-1) I J) : CMi G (d + 2) yX12_down [.ref 63, .int x, .int y] I J K := by
  refine CM.of (L0 := [_, _, _, _]) cX12_down 4 (some .int) (by decide) (by decide) kcX12_down (Nat.le_of_ble_eq_true rfl) rfl ?_
  refine a_aload_n dX12_down_0 rfl ?_
  refine a_iload_n dX12_down_1 rfl ?_
  refine a_callVi (As := [_]) dX12_down_2 km_X12_130 ⟨by decide, _, _, _, rfl, rfl⟩ rfl rfl (Nat.le_of_ble_eq_true rfl) ?_
  refine c_isLine hn (by omega) (fun l hl e1 => ?_) (fun e1 => ?_)
  · subst e1
    have hd := hd l hl
    refine a_if_ne (tgt := 10) dX12_down_5 (by decide) (fun h5 => ?_) (fun h5 => ?_)
    · refine a_aload_n dX12_down_10 rfl ?_
      refine a_getr dX12_down_11 kf_X12_26 ⟨by decide, _, rfl, rfl⟩ ?_
      refine a_iload_n dX12_down_14 rfl ?_
      refine a_zald dX12_down_15 ⟨by decide, rfl⟩ (by omega) rfl ?_
      refine a_tif_eq (tgt := 23) (pj := 24) (a := (nI 0)) (b := (nI 1)) dX12_down_16 (by decide) (fun kj => ?_) (fun kj => ?_) ?_
      · refine a_iconst (v := nI 0) dX12_down_23 (by decide) ?_
        exact kj
      · refine a_iconst (v := nI 1) dX12_down_19 (by decide) ?_
        refine a_goto (tgt := 24) dX12_down_20 (by decide) ?_
        exact kj
      refine a_topi (v := I 68 l) (by rcases hd with e | e <;> rw [e] <;> decide) ?_
      refine a_istore_n (L' := [_, _, _, _]) dX12_down_24 (Nat.le_of_ble_eq_true rfl) rfl ?_
      refine a_aload_n dX12_down_25 rfl ?_
      refine a_getr dX12_down_26 kf_X12_26 ⟨by decide, _, rfl, rfl⟩ ?_
      refine a_iload_n dX12_down_29 rfl ?_
      refine a_iload_n dX12_down_30 rfl ?_
      refine a_zast dX12_down_31 ⟨by decide, rfl⟩ (by omega) hy ?_
      refine a_iload_n dX12_down_32 rfl ?_
      exact a_ireturn dX12_down_33 ⟨_, rfl, (h1 l hl rfl)⟩
    · exact absurd h5 (by decide)
  · refine a_if_ne (tgt := 10) dX12_down_5 (by decide) (fun h5 => ?_) (fun h5 => ?_)
    · exact absurd h5 (by decide)
    · refine a_iconst (v := (-1)) dX12_down_8 (by decide) ?_
      exact a_ireturn dX12_down_9 ⟨_, rfl, (h0 e1)⟩

set_option maxHeartbeats 4000000 in
set_option maxRecDepth 100000 in
theorem c_rate {G : am_G} {d : Nat} {I : am_I} {J : am_J} {K : Int32 → am_I → am_J → Prop} {x y : Int32} {n : Nat} (hn : I 63 4 = nI n) (hn12 : n ≤ 12) (h1 : ∀ l r, l < n → x = nI l → r ≤ 60000 → y = nI r → K (I 69 l) (am_up I 69 l y) J) (h0 : ¬ (isLn n x ∧ nI 0 ≤ y ∧ y ≤ nI 60000) → K (-1) I J) : CMi G (d + 2) yX12_rate [.ref 63, .int x, .int y] I J K := by
  refine CM.of (L0 := [_, _, _, _]) cX12_rate 4 (some .int) (by decide) (by decide) kcX12_rate (Nat.le_of_ble_eq_true rfl) rfl ?_
  refine a_aload_n dX12_rate_0 rfl ?_
  refine a_iload_n dX12_rate_1 rfl ?_
  refine a_callVi (As := [_]) dX12_rate_2 km_X12_130 ⟨by decide, _, _, _, rfl, rfl⟩ rfl rfl (Nat.le_of_ble_eq_true rfl) ?_
  refine c_isLine hn (by omega) (fun l hl e1 => ?_) (fun e1 => ?_)
  · subst e1
    refine a_if_eq (tgt := 18) dX12_rate_5 (by decide) (fun h5 => ?_) (fun h5 => ?_)
    · exact absurd h5 (by decide)
    · refine a_iload_n dX12_rate_8 rfl ?_
      refine a_iconst (v := nI 0) dX12_rate_9 (by decide) ?_
      refine a_ldc dX12_rate_10 kk_X12_152 (show (60000 : Int32) = nI 60000 by decide) ?_
      refine a_callSi (As := [_, _, _]) dX12_rate_12 km_X12_122 rfl rfl (Nat.le_of_ble_eq_true rfl) ?_
      refine c_in (fun e1 e2 => ?_) (fun e1 => ?_)
      · obtain ⟨r, hr, er⟩ := (rg_iff1 (n := 60000) (by decide)).mp ⟨e1, e2⟩
        refine a_if_ne (tgt := 20) dX12_rate_15 (by decide) (fun h15 => ?_) (fun h15 => ?_)
        · refine a_aload_n dX12_rate_20 rfl ?_
          refine a_getr dX12_rate_21 kf_X12_30 ⟨by decide, _, rfl, rfl⟩ ?_
          refine a_iload_n dX12_rate_24 rfl ?_
          refine a_iald dX12_rate_25 ⟨by decide, rfl⟩ (by omega) rfl ?_
          refine a_istore_n (L' := [_, _, _, _]) dX12_rate_26 (Nat.le_of_ble_eq_true rfl) rfl ?_
          refine a_aload_n dX12_rate_27 rfl ?_
          refine a_getr dX12_rate_28 kf_X12_30 ⟨by decide, _, rfl, rfl⟩ ?_
          refine a_iload_n dX12_rate_31 rfl ?_
          refine a_iload_n dX12_rate_32 rfl ?_
          refine a_iast dX12_rate_33 ⟨by decide, rfl⟩ (by omega) ?_
          refine a_iload_n dX12_rate_34 rfl ?_
          exact a_ireturn dX12_rate_35 ⟨_, rfl, (h1 l r hl rfl hr er)⟩
        · exact absurd h15 (by decide)
      · refine a_if_ne (tgt := 20) dX12_rate_15 (by decide) (fun h15 => ?_) (fun h15 => ?_)
        · exact absurd h15 (by decide)
        · refine a_iconst (v := (-1)) dX12_rate_18 (by decide) ?_
          exact a_ireturn dX12_rate_19 ⟨_, rfl, (h0 (fun q => e1 q.2))⟩
  · refine a_if_eq (tgt := 18) dX12_rate_5 (by decide) (fun h5 => ?_) (fun h5 => ?_)
    · refine a_iconst (v := (-1)) dX12_rate_18 (by decide) ?_
      exact a_ireturn dX12_rate_19 ⟨_, rfl, (h0 (fun q => e1 q.1))⟩
    · exact absurd h5 (by decide)

