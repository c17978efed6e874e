/-! ===== the system: Arrays.fill, Line, Net, Sheets ===== -/
def mFill (I : am_I) (k i : Nat) (x : Int32) : am_I := fun a b => if a = k ∧ b < i then x else I a b
theorem mFill_s (I : am_I) (k i : Nat) (x : Int32) : am_up (mFill I k i x) k i x = mFill I k (i + 1) x := by
  funext a b
  simp only [am_up, mFill]
  by_cases h1 : a = k
  · subst h1
    by_cases h2 : b = i
    · subst h2
      simp
    · by_cases h3 : b < i
      · simp [h2, h3, show b < i + 1 by omega]
      · simp [h2, h3, show ¬ b < i + 1 by omega]
  · simp [h1]
theorem mFill_0 (I : am_I) (k : Nat) (x : Int32) : I = mFill I k 0 x := by
  funext a b
  simp [mFill]
theorem mFill_ne {I : am_I} {k i a : Nat} {x : Int32} (h : a ≠ k) : mFill I k i x a = I a := by
  funext b
  simp [mFill, h]
theorem mFill_in {I : am_I} {k i b : Nat} {x : Int32} (h : b < i) : mFill I k i x k b = x := by simp [mFill, h]
set_option maxHeartbeats 4000000 in
set_option maxRecDepth 100000 in
theorem lp_fill {G : am_G} {d : Nat} {I0 : am_I} {J : am_J} {K : am_I → am_J → Prop} {k n : Nat} {x : Int32} (hs : am_ar k 0 n) (hK : K (mFill I0 k n (x)) J) : ∀ i, i ≤ n → AW G cJ7_fill_53178 4 RJ7 d (am_ex G none (fun r I J => r = none ∧ K I J)) 5 [some (.ref k), some (.int x), some (.int (nI i)), some (.int (nI n))] [] (mFill I0 k i (x)) J := by
  have hn := am_len hs.2
  refine am_dn n (fun i hi ih => ?_)
  refine a_iload_n dJ7_fill_53178_5 rfl ?_
  refine a_iload_n dJ7_fill_53178_6 rfl ?_
  refine a_icmp_geN (tgt := 20) dJ7_fill_53178_7 (by decide) (by omega) (by omega) (fun h => ?_) (fun h => ?_)
  · obtain rfl : i = n := by omega
    exact a_vreturn dJ7_fill_53178_20 ⟨rfl, hK⟩
  · refine a_aload_n dJ7_fill_53178_10 rfl ?_
    refine a_iload_n dJ7_fill_53178_11 rfl ?_
    refine a_iload_n dJ7_fill_53178_12 rfl ?_
    refine a_iast dJ7_fill_53178_13 hs (by omega) ?_
    refine a_mem (mFill_s I0 k i _) ?_
    refine a_iinc (L' := [_, _, _, _]) dJ7_fill_53178_14 rfl (nI_inc _) rfl ?_
    refine a_goto (tgt := 5) dJ7_fill_53178_17 (by decide) ?_
    exact ih (i + 1) (by omega) (by omega)

set_option maxHeartbeats 4000000 in
set_option maxRecDepth 100000 in
theorem c_fill {G : am_G} {d : Nat} {I : am_I} {J : am_J} {K : am_I → am_J → Prop} {k n : Nat} {x : Int32} (hs : am_ar k 0 n) (hK : K (mFill I k n (x)) J) : CMv G d yJ7_fill_53178 [.ref k, .int x] I J K := by
  refine CM.of (L0 := [_, _, _, _]) cJ7_fill_53178 4 none (by decide) (by decide) kcJ7_fill_53178 (Nat.le_of_ble_eq_true rfl) rfl ?_
  refine a_iconst (v := nI 0) dJ7_fill_53178_0 (by decide) ?_
  refine a_istore_n (L' := [_, _, _, _]) dJ7_fill_53178_1 (Nat.le_of_ble_eq_true rfl) rfl ?_
  refine a_aload_n dJ7_fill_53178_2 rfl ?_
  refine a_alen dJ7_fill_53178_3 hs (by decide) rfl ?_
  refine a_istore_n (L' := [_, _, _, _]) dJ7_fill_53178_4 (Nat.le_of_ble_eq_true rfl) rfl ?_
  refine a_mem (mFill_0 I k (x)) ?_
  exact lp_fill hs hK 0 (by omega)

set_option maxHeartbeats 4000000 in
set_option maxRecDepth 100000 in
theorem lp_fillB {G : am_G} {d : Nat} {I0 : am_I} {J : am_J} {K : am_I → am_J → Prop} {k n : Nat} {x : Int32} (hs : am_ar k 2 n) (hK : K (mFill I0 k n (x.toInt8.toInt32)) J) : ∀ i, i ≤ n → AW G cJ7_fill_031fb 4 RJ7 d (am_ex G none (fun r I J => r = none ∧ K I J)) 5 [some (.ref k), some (.int x), some (.int (nI i)), some (.int (nI n))] [] (mFill I0 k i (x.toInt8.toInt32)) J := by
  have hn := am_len hs.2
  refine am_dn n (fun i hi ih => ?_)
  refine a_iload_n dJ7_fill_031fb_5 rfl ?_
  refine a_iload_n dJ7_fill_031fb_6 rfl ?_
  refine a_icmp_geN (tgt := 20) dJ7_fill_031fb_7 (by decide) (by omega) (by omega) (fun h => ?_) (fun h => ?_)
  · obtain rfl : i = n := by omega
    exact a_vreturn dJ7_fill_031fb_20 ⟨rfl, hK⟩
  · refine a_aload_n dJ7_fill_031fb_10 rfl ?_
    refine a_iload_n dJ7_fill_031fb_11 rfl ?_
    refine a_iload_n dJ7_fill_031fb_12 rfl ?_
    refine a_bast dJ7_fill_031fb_13 hs (by omega) ?_
    refine a_mem (mFill_s I0 k i _) ?_
    refine a_iinc (L' := [_, _, _, _]) dJ7_fill_031fb_14 rfl (nI_inc _) rfl ?_
    refine a_goto (tgt := 5) dJ7_fill_031fb_17 (by decide) ?_
    exact ih (i + 1) (by omega) (by omega)

set_option maxHeartbeats 4000000 in
set_option maxRecDepth 100000 in
theorem c_fillB {G : am_G} {d : Nat} {I : am_I} {J : am_J} {K : am_I → am_J → Prop} {k n : Nat} {x : Int32} (hs : am_ar k 2 n) (hK : K (mFill I k n (x.toInt8.toInt32)) J) : CMv G d yJ7_fill_031fb [.ref k, .int x] I J K := by
  refine CM.of (L0 := [_, _, _, _]) cJ7_fill_031fb 4 none (by decide) (by decide) kcJ7_fill_031fb (Nat.le_of_ble_eq_true rfl) rfl ?_
  refine a_iconst (v := nI 0) dJ7_fill_031fb_0 (by decide) ?_
  refine a_istore_n (L' := [_, _, _, _]) dJ7_fill_031fb_1 (Nat.le_of_ble_eq_true rfl) rfl ?_
  refine a_aload_n dJ7_fill_031fb_2 rfl ?_
  refine a_alen dJ7_fill_031fb_3 hs (by decide) rfl ?_
  refine a_istore_n (L' := [_, _, _, _]) dJ7_fill_031fb_4 (Nat.le_of_ble_eq_true rfl) rfl ?_
  refine a_mem (mFill_0 I k (x.toInt8.toInt32)) ?_
  exact lp_fillB hs hK 0 (by omega)

def mLB (I : am_I) (l : Nat) (k a b : Int32) : am_I := mFill (am_up (am_up (am_up (am_up (am_up (am_up I (20 + l) 0 k) (20 + l) 1 a) (20 + l) 2 b) (20 + l) 3 (nI 0)) (20 + l) 4 (nI 100)) (20 + l) 5 (-9)) (32 + l) 24 (-9)
set_option maxHeartbeats 4000000 in
set_option maxRecDepth 100000 in
theorem k_begin {G : am_G} {d : Nat} {I : am_I} {J : am_J} {K : am_I → am_J → Prop} {l : Nat} {x y z : Int32} (hl : l < 12) (hK : K (mLB I l x y z) J) : CMv G (d + 1) yX4_begin [.ref (20 + l), .int x, .int y, .int z] I J K := by
  refine CM.of (L0 := [_, _, _, _]) cX4_begin 4 none (by decide) (by decide) kcX4_begin (Nat.le_of_ble_eq_true rfl) rfl ?_
  refine a_aload_n dX4_begin_0 rfl ?_
  refine a_iload_n dX4_begin_1 rfl ?_
  refine a_puti dX4_begin_2 kp_X4_9 (sh_at (by omega) rfl) ?_
  refine a_aload_n dX4_begin_5 rfl ?_
  refine a_iload_n dX4_begin_6 rfl ?_
  refine a_puti dX4_begin_7 kp_X4_15 (sh_at (by omega) rfl) ?_
  refine a_aload_n dX4_begin_10 rfl ?_
  refine a_iload_n dX4_begin_11 rfl ?_
  refine a_puti dX4_begin_12 kp_X4_18 (sh_at (by omega) rfl) ?_
  refine a_aload_n dX4_begin_15 rfl ?_
  refine a_iconst (v := nI 0) dX4_begin_16 (by decide) ?_
  refine a_putz dX4_begin_17 kp_X4_21 (sh_at (by omega) rfl) (by first | exact Or.inl rfl | exact Or.inr rfl) ?_
  refine a_aload_n dX4_begin_20 rfl ?_
  refine a_bipush (v := nI 100) dX4_begin_21 (by decide) ?_
  refine a_puti dX4_begin_23 kp_X4_25 (sh_at (by omega) rfl) ?_
  refine a_aload_n dX4_begin_26 rfl ?_
  refine a_bipush (v := (-9)) dX4_begin_27 (by decide) ?_
  refine a_puti dX4_begin_29 kp_X4_28 (sh_at (by omega) rfl) ?_
  refine a_aload_n dX4_begin_32 rfl ?_
  refine a_getr dX4_begin_33 kf_X4_31 (sh_at (by omega) rfl) ?_
  refine a_bipush (v := (-9)) dX4_begin_36 (by decide) ?_
  refine a_callSv (As := [_, _]) dX4_begin_38 km_X4_35 rfl rfl (Nat.le_of_ble_eq_true rfl) ?_
  refine c_fill (sh_read (by omega)) ?_
  exact a_vreturn dX4_begin_41 ⟨rfl, hK⟩

set_option maxHeartbeats 4000000 in
set_option maxRecDepth 100000 in
theorem k_isOf {G : am_G} {d : Nat} {I : am_I} {J : am_J} {K : Int32 → am_I → am_J → Prop} {l : Nat} {x : Int32} (hl : l < 12) (h1 : (I (20 + l) 0 = x ∨ x = nI 1 ∧ I (20 + l) 0 = nI 2) → K 1 I J) (h0 : ¬ (I (20 + l) 0 = x ∨ x = nI 1 ∧ I (20 + l) 0 = nI 2) → K 0 I J) : CMi G d yX4_isOf [.ref (20 + l), .int x] I J K := by
  refine CM.of (L0 := [_, _]) cX4_isOf 2 (some .boolean) (by decide) (by decide) kcX4_isOf (Nat.le_of_ble_eq_true rfl) rfl ?_
  refine a_aload_n dX4_isOf_0 rfl ?_
  refine a_geti dX4_isOf_1 kf_X4_9 (sh_at (by omega) rfl) rfl ?_
  refine a_iload_n dX4_isOf_4 rfl ?_
  refine a_icmp_eq (tgt := 21) dX4_isOf_5 (by decide) (fun h5 => ?_) (fun h5 => ?_)
  · refine a_iconst (v := nI 1) dX4_isOf_21 (by decide) ?_
    refine a_goto (tgt := 26) dX4_isOf_22 (by decide) ?_
    exact a_zreturn dX4_isOf_26 (by first | exact Or.inl rfl | exact Or.inr rfl) ⟨_, rfl, (h1 (Or.inl h5))⟩
  · refine a_iload_n dX4_isOf_8 rfl ?_
    refine a_iconst (v := nI 1) dX4_isOf_9 (by decide) ?_
    refine a_icmp_ne (tgt := 25) dX4_isOf_10 (by decide) (fun h10 => ?_) (fun h10 => ?_)
    · refine a_iconst (v := nI 0) dX4_isOf_25 (by decide) ?_
      exact a_zreturn dX4_isOf_26 (by first | exact Or.inl rfl | exact Or.inr rfl) ⟨_, rfl, (h0 (fun q => q.elim h5 (fun z => h10 z.1)))⟩
    · refine a_aload_n dX4_isOf_13 rfl ?_
      refine a_geti dX4_isOf_14 kf_X4_9 (sh_at (by omega) rfl) rfl ?_
      refine a_iconst (v := nI 2) dX4_isOf_17 (by decide) ?_
      refine a_icmp_ne (tgt := 25) dX4_isOf_18 (by decide) (fun h18 => ?_) (fun h18 => ?_)
      · refine a_iconst (v := nI 0) dX4_isOf_25 (by decide) ?_
        exact a_zreturn dX4_isOf_26 (by first | exact Or.inl rfl | exact Or.inr rfl) ⟨_, rfl, (h0 (fun q => q.elim h5 (fun z => h18 z.2)))⟩
      · refine a_iconst (v := nI 1) dX4_isOf_21 (by decide) ?_
        refine a_goto (tgt := 26) dX4_isOf_22 (by decide) ?_
        exact a_zreturn dX4_isOf_26 (by first | exact Or.inl rfl | exact Or.inr rfl) ⟨_, rfl, (h1 (Or.inr ⟨h10, h18⟩))⟩

def ctC (I : am_I) (l : Nat) : Int32 := if I (20 + l) 0 = nI 2 then nI 65536 else nI 256
set_option maxHeartbeats 4000000 in
set_option maxRecDepth 100000 in
theorem k_counterSize {G : am_G} {d : Nat} {I : am_I} {J : am_J} {K : Int32 → am_I → am_J → Prop} {l : Nat}  (hl : l < 12) (hK : K (ctC I l) I J) : CMi G d yX4_counterSize [.ref (20 + l)] I J K := by
  refine CM.of (L0 := [_]) cX4_counterSize 1 (some .int) (by decide) (by decide) kcX4_counterSize (Nat.le_of_ble_eq_true rfl) rfl ?_
  refine a_aload_n dX4_counterSize_0 rfl ?_
  refine a_geti dX4_counterSize_1 kf_X4_9 (sh_at (by omega) rfl) rfl ?_
  refine a_iconst (v := nI 2) dX4_counterSize_4 (by decide) ?_
  refine a_ticmp_ne (tgt := 13) (pj := 16) (a := (nI 256)) (b := (nI 65536)) dX4_counterSize_5 (by decide) (fun kj => ?_) (fun kj => ?_) ?_
  · refine a_sipush (v := nI 256) dX4_counterSize_13 (by decide) ?_
    exact kj
  · refine a_ldc dX4_counterSize_8 kk_X4_41 (show (65536 : Int32) = nI 65536 by decide) ?_
    refine a_goto (tgt := 16) dX4_counterSize_10 (by decide) ?_
    exact kj
  exact a_ireturn dX4_counterSize_16 ⟨_, rfl, hK⟩

set_option maxHeartbeats 4000000 in
set_option maxRecDepth 100000 in
theorem k_cut {G : am_G} {d : Nat} {I : am_I} {J : am_J} {K : Int32 → am_I → am_J → Prop} {l : Nat} {x : Int32} (hl : l < 12) (hK : K (x &&& (ctC I l - nI 1)) I J) : CMi G (d + 1) yX4_cutToCounter [.ref (20 + l), .int x] I J K := by
  refine CM.of (L0 := [_, _]) cX4_cutToCounter 2 (some .int) (by decide) (by decide) kcX4_cutToCounter (Nat.le_of_ble_eq_true rfl) rfl ?_
  refine a_iload_n dX4_cutToCounter_0 rfl ?_
  refine a_aload_n dX4_cutToCounter_1 rfl ?_
  refine a_callVi (As := []) dX4_cutToCounter_2 km_X4_46 (sh_ob (by omega)) rfl rfl (Nat.le_of_ble_eq_true rfl) ?_
  refine k_counterSize hl ?_
  refine a_iconst (v := nI 1) dX4_cutToCounter_5 (by decide) ?_
  refine a_isub dX4_cutToCounter_6 rfl ?_
  refine a_iand dX4_cutToCounter_7 rfl ?_
  exact a_ireturn dX4_cutToCounter_8 ⟨_, rfl, hK⟩

def kpC (I : am_I) (l : Nat) (x : Int32) : Int32 := if x = -9 then -9 else x &&& (ctC I l - nI 1)
set_option maxHeartbeats 4000000 in
set_option maxRecDepth 100000 in
theorem k_keepReading {G : am_G} {d : Nat} {I : am_I} {J : am_J} {K : am_I → am_J → Prop} {l : Nat} {h : Nat} {x : Int32} (hl : l < 12) (hh : h < 24) (hK : K (am_up I (32 + l) h (kpC I l x)) J) : CMv G (d + 2) yX4_keepReading [.ref (20 + l), .int (nI h), .int x] I J K := by
  refine CM.of (L0 := [_, _, _]) cX4_keepReading 3 none (by decide) (by decide) kcX4_keepReading (Nat.le_of_ble_eq_true rfl) rfl ?_
  refine a_aload_n dX4_keepReading_0 rfl ?_
  refine a_getr dX4_keepReading_1 kf_X4_31 (sh_at (by omega) rfl) ?_
  refine a_iload_n dX4_keepReading_4 rfl ?_
  refine a_iload_n dX4_keepReading_5 rfl ?_
  refine a_bipush (v := (-9)) dX4_keepReading_6 (by decide) ?_
  refine a_ticmp_ne (tgt := 16) (pj := 21) (a := (x &&& (ctC I l - nI 1))) (b := (-9)) dX4_keepReading_8 (by decide) (fun kj => ?_) (fun kj => ?_) ?_
  · refine a_aload_n dX4_keepReading_16 rfl ?_
    refine a_iload_n dX4_keepReading_17 rfl ?_
    refine a_callVi (As := [_]) dX4_keepReading_18 km_X4_42 (sh_ob (by omega)) rfl rfl (Nat.le_of_ble_eq_true rfl) ?_
    refine k_cut hl ?_
    exact kj
  · refine a_bipush (v := (-9)) dX4_keepReading_11 (by decide) ?_
    refine a_goto (tgt := 21) dX4_keepReading_13 (by decide) ?_
    exact kj
  refine a_iast dX4_keepReading_21 (sh_read (by omega)) (by omega) ?_
  exact a_vreturn dX4_keepReading_22 ⟨rfl, hK⟩

def rkC (I : am_I) (l : Nat) : Nat → Bool := fun h => decide (I (32 + l) h ≠ -9)
set_option maxHeartbeats 4000000 in
set_option maxRecDepth 100000 in
theorem lp_rk {G : am_G} {d : Nat} {I0 : am_I} {J : am_J} {K : Int32 → am_I → am_J → Prop} {l : Nat} (hl : l < 12) (hK : K (nI (cN (rkC I0 l) 24)) I0 J) : ∀ i, i ≤ 24 → AW G cX4_readingsKept 3 RX4 d (am_ex G (some .int) (fun r I J => ∃ x, r = some (.int x) ∧ K x I J)) 4 [some (.ref (20 + l)), some (.int (nI (cN (rkC I0 l) i))), some (.int (nI i))] [] I0 J := by
  refine am_dn 24 (fun i hi ih => ?_)
  refine a_iload_n dX4_readingsKept_4 rfl ?_
  refine a_bipush (v := nI 24) dX4_readingsKept_5 (by decide) ?_
  refine a_icmp_geN (tgt := 30) dX4_readingsKept_7 (by decide) (by omega) (by omega) (fun h => ?_) (fun h => ?_)
  · obtain rfl : i = 24 := by omega
    refine a_iload_n dX4_readingsKept_30 rfl ?_
    exact a_ireturn dX4_readingsKept_31 ⟨_, rfl, hK⟩
  · refine a_aload_n dX4_readingsKept_10 rfl ?_
    refine a_getr dX4_readingsKept_11 kf_X4_31 (sh_at (by omega) rfl) ?_
    refine a_iload_n dX4_readingsKept_14 rfl ?_
    refine a_iald dX4_readingsKept_15 (sh_read (by omega)) (by omega) rfl ?_
    refine a_bipush (v := (-9)) dX4_readingsKept_16 (by decide) ?_
    refine a_icmp_eq (tgt := 24) dX4_readingsKept_18 (by decide) (fun h18 => ?_) (fun h18 => ?_)
    · refine a_iinc (L' := [_, _, _]) dX4_readingsKept_24 rfl (nI_inc _) rfl ?_
      refine a_goto (tgt := 4) dX4_readingsKept_27 (by decide) ?_
      have z := ih (i + 1) (by omega) (by omega)
      rw [cN_s, if_neg (by simp [rkC, h18]), Nat.add_zero] at z
      exact z
    · refine a_iinc (L' := [_, _, _]) dX4_readingsKept_21 rfl (nI_inc _) rfl ?_
      refine a_iinc (L' := [_, _, _]) dX4_readingsKept_24 rfl (nI_inc _) rfl ?_
      refine a_goto (tgt := 4) dX4_readingsKept_27 (by decide) ?_
      have z := ih (i + 1) (by omega) (by omega)
      rw [cN_s, if_pos (by simp [rkC, h18])] at z
      exact z

set_option maxHeartbeats 4000000 in
set_option maxRecDepth 100000 in
theorem k_readingsKept {G : am_G} {d : Nat} {I : am_I} {J : am_J} {K : Int32 → am_I → am_J → Prop} {l : Nat}  (hl : l < 12) (hK : K (nI (cN (rkC I l) 24)) I J) : CMi G d yX4_readingsKept [.ref (20 + l)] I J K := by
  refine CM.of (L0 := [_, _, _]) cX4_readingsKept 3 (some .int) (by decide) (by decide) kcX4_readingsKept (Nat.le_of_ble_eq_true rfl) rfl ?_
  refine a_iconst (v := nI 0) dX4_readingsKept_0 (by decide) ?_
  refine a_istore_n (L' := [_, _, _]) dX4_readingsKept_1 (Nat.le_of_ble_eq_true rfl) rfl ?_
  refine a_iconst (v := nI 0) dX4_readingsKept_2 (by decide) ?_
  refine a_istore_n (L' := [_, _, _]) dX4_readingsKept_3 (Nat.le_of_ble_eq_true rfl) rfl ?_
  exact lp_rk hl hK 0 (by omega)

def lbC (I : am_I) (l i j : Nat) : Int32 := (I (32 + l) j - I (32 + l) i) &&& (ctC I l - nI 1)
set_option maxHeartbeats 4000000 in
set_option maxRecDepth 100000 in
theorem k_loadBetween {G : am_G} {d : Nat} {I : am_I} {J : am_J} {K : Int32 → am_I → am_J → Prop} {l : Nat} {i j : Nat} (hl : l < 12) (hi : i < 24) (hj : j < 24) (hK : K (lbC I l i j) I J) : CMi G (d + 2) yX4_loadBetween [.ref (20 + l), .int (nI i), .int (nI j)] I J K := by
  refine CM.of (L0 := [_, _, _]) cX4_loadBetween 3 (some .int) (by decide) (by decide) kcX4_loadBetween (Nat.le_of_ble_eq_true rfl) rfl ?_
  refine a_aload_n dX4_loadBetween_0 rfl ?_
  refine a_aload_n dX4_loadBetween_1 rfl ?_
  refine a_getr dX4_loadBetween_2 kf_X4_31 (sh_at (by omega) rfl) ?_
  refine a_iload_n dX4_loadBetween_5 rfl ?_
  refine a_iald dX4_loadBetween_6 (sh_read (by omega)) (by omega) rfl ?_
  refine a_aload_n dX4_loadBetween_7 rfl ?_
  refine a_getr dX4_loadBetween_8 kf_X4_31 (sh_at (by omega) rfl) ?_
  refine a_iload_n dX4_loadBetween_11 rfl ?_
  refine a_iald dX4_loadBetween_12 (sh_read (by omega)) (by omega) rfl ?_
  refine a_isub dX4_loadBetween_13 rfl ?_
  refine a_callVi (As := [_]) dX4_loadBetween_14 km_X4_42 (sh_ob (by omega)) rfl rfl (Nat.le_of_ble_eq_true rfl) ?_
  refine k_cut hl ?_
  exact a_ireturn dX4_loadBetween_17 ⟨_, rfl, hK⟩

set_option maxHeartbeats 4000000 in
set_option maxRecDepth 100000 in
theorem k_isSure {G : am_G} {d : Nat} {I : am_I} {J : am_J} {K : Int32 → am_I → am_J → Prop} {l : Nat} {i j : Nat} (hl : l < 12) (hij : i ≤ j) (hj : j < 24) (hK : K (if ctC I l ≤ I (20 + l) 4 * nI (j - i) then nI 0 else nI 1) I J) : CMi G (d + 1) yX4_isSureBetween [.ref (20 + l), .int (nI i), .int (nI j)] I J K := by
  refine CM.of (L0 := [_, _, _]) cX4_isSureBetween 3 (some .boolean) (by decide) (by decide) kcX4_isSureBetween (Nat.le_of_ble_eq_true rfl) rfl ?_
  refine a_aload_n dX4_isSureBetween_0 rfl ?_
  refine a_geti dX4_isSureBetween_1 kf_X4_25 (sh_at (by omega) rfl) rfl ?_
  refine a_iload_n dX4_isSureBetween_4 rfl ?_
  refine a_iload_n dX4_isSureBetween_5 rfl ?_
  refine a_isub dX4_isSureBetween_6 (pk_sub (by omega)) ?_
  refine a_imul dX4_isSureBetween_7 rfl ?_
  refine a_aload_n dX4_isSureBetween_8 rfl ?_
  refine a_callVi (As := []) dX4_isSureBetween_9 km_X4_46 (sh_ob (by omega)) rfl rfl (Nat.le_of_ble_eq_true rfl) ?_
  refine k_counterSize hl ?_
  refine a_ticmp_ge (tgt := 19) (pj := 20) (a := (nI 0)) (b := (nI 1)) dX4_isSureBetween_12 (by decide) (fun kj => ?_) (fun kj => ?_) ?_
  · refine a_iconst (v := nI 0) dX4_isSureBetween_19 (by decide) ?_
    exact kj
  · refine a_iconst (v := nI 1) dX4_isSureBetween_15 (by decide) ?_
    refine a_goto (tgt := 20) dX4_isSureBetween_16 (by decide) ?_
    exact kj
  exact a_zreturn dX4_isSureBetween_20 (by split; exact Or.inl rfl; exact Or.inr rfl) ⟨_, rfl, hK⟩

def mcS (I : am_I) (l : Nat) : Nat → Int32 × Int32 × Int32
  | 0 => (-9, -9, nI 0)
  | h + 1 => if I (32 + l) h = -9 then mcS I l h else if (mcS I l h).2.1 = -9 then (nI h, nI h, (mcS I l h).2.2) else ((mcS I l h).1, nI h, (mcS I l h).2.2 + lbC I l (mcS I l h).2.1.toNatClampNeg h)
theorem mcS_lost {I : am_I} {l h : Nat} (e : I (32 + l) h = -9) : mcS I l (h + 1) = mcS I l h := by rw [mcS, if_pos e]
theorem mcS_first {I : am_I} {l h : Nat} (e : ¬ I (32 + l) h = -9) (e2 : (mcS I l h).2.1 = -9) : mcS I l (h + 1) = (nI h, nI h, (mcS I l h).2.2) := by rw [mcS, if_neg e, if_pos e2]
theorem mcS_next {I : am_I} {l h : Nat} (e : ¬ I (32 + l) h = -9) (e2 : ¬ (mcS I l h).2.1 = -9) : mcS I l (h + 1) = ((mcS I l h).1, nI h, (mcS I l h).2.2 + lbC I l (mcS I l h).2.1.toNatClampNeg h) := by rw [mcS, if_neg e, if_neg e2]
def mcR (r : Int32 × Int32 × Int32) : Int32 := if r.2.1 - r.1 ≤ 0 then nI 0 else r.2.2 / (r.2.1 - r.1)
set_option maxHeartbeats 4000000 in
set_option maxRecDepth 100000 in
theorem lp_ml {G : am_G} {d : Nat} {I0 : am_I} {J : am_J} {K : Int32 → am_I → am_J → Prop} {l : Nat} (hl : l < 12) (hK : K (mcR (mcS I0 l 24)) I0 J) : ∀ i, i ≤ 24 → ∀ (f b s : Int32), (f, b, s) = mcS I0 l i → (b = -9 ∨ ∃ j, j < i ∧ b = nI j) → AW G cX4_meanLoad 5 RX4 (d + 3) (am_ex G (some .int) (fun r I J => ∃ x, r = some (.int x) ∧ K x I J)) 11 [some (.ref (20 + l)), some (.int f), some (.int b), some (.int s), some (.int (nI i))] [] I0 J := by
  refine am_dn 24 (fun i hi ih => ?_)
  intro f b s hI hb
  refine a_iload dX4_meanLoad_11 rfl ?_
  refine a_bipush (v := nI 24) dX4_meanLoad_13 (by decide) ?_
  refine a_icmp_geN (tgt := 64) dX4_meanLoad_15 (by decide) (by omega) (by omega) (fun h => ?_) (fun h => ?_)
  · obtain rfl : i = 24 := by omega
    rw [← hI] at hK
    refine a_iload_n dX4_meanLoad_64 rfl ?_
    refine a_iload_n dX4_meanLoad_65 rfl ?_
    refine a_isub dX4_meanLoad_66 rfl ?_
    refine a_istore (L' := [_, _, _, _, _]) dX4_meanLoad_67 (Nat.le_of_ble_eq_true rfl) rfl ?_
    refine a_iload dX4_meanLoad_69 rfl ?_
    refine a_if_le (tgt := 81) dX4_meanLoad_71 (by decide) (fun h71 => ?_) (fun h71 => ?_)
    · refine a_iconst (v := nI 0) dX4_meanLoad_81 (by decide) ?_
      exact a_ireturn dX4_meanLoad_82 ⟨_, rfl, (by simpa [mcR, h71] using hK)⟩
    · refine a_iload_n dX4_meanLoad_74 rfl ?_
      refine a_iload dX4_meanLoad_75 rfl ?_
      refine a_idiv dX4_meanLoad_77 (fun e => h71 (by rw [e]; decide)) rfl ?_
      refine a_goto (tgt := 82) dX4_meanLoad_78 (by decide) ?_
      exact a_ireturn dX4_meanLoad_82 ⟨_, rfl, (by simpa [mcR, h71] using hK)⟩
  · refine a_aload_n dX4_meanLoad_18 rfl ?_
    refine a_getr dX4_meanLoad_19 kf_X4_31 (sh_at (by omega) rfl) ?_
    refine a_iload dX4_meanLoad_22 rfl ?_
    refine a_iald dX4_meanLoad_24 (sh_read (by omega)) (by omega) rfl ?_
    refine a_bipush (v := (-9)) dX4_meanLoad_25 (by decide) ?_
    refine a_icmp_ne (tgt := 33) dX4_meanLoad_27 (by decide) (fun h27 => ?_) (fun h27 => ?_)
    · rcases hb with rfl | ⟨j, hj, rfl⟩
      · refine a_iload_n dX4_meanLoad_33 rfl ?_
        refine a_bipush (v := (-9)) dX4_meanLoad_34 (by decide) ?_
        refine a_icmp_ne (tgt := 45) dX4_meanLoad_36 (by decide) (fun h36 => ?_) (fun h36 => ?_)
        · exact absurd rfl h36
        · refine a_iload dX4_meanLoad_39 rfl ?_
          refine a_istore_n (L' := [_, _, _, _, _]) dX4_meanLoad_41 (Nat.le_of_ble_eq_true rfl) rfl ?_
          refine a_goto (tgt := 55) dX4_meanLoad_42 (by decide) ?_
          refine a_iload dX4_meanLoad_55 rfl ?_
          refine a_istore_n (L' := [_, _, _, _, _]) dX4_meanLoad_57 (Nat.le_of_ble_eq_true rfl) rfl ?_
          refine a_iinc (L' := [_, _, _, _, _]) dX4_meanLoad_58 rfl (nI_inc _) rfl ?_
          refine a_goto (tgt := 11) dX4_meanLoad_61 (by decide) ?_
          exact ih (i + 1) (by omega) (by omega) _ _ _ (by rw [mcS_first h27 (by rw [← hI]), ← hI]) (Or.inr ⟨i, by omega, rfl⟩)
      · refine a_iload_n dX4_meanLoad_33 rfl ?_
        refine a_bipush (v := (-9)) dX4_meanLoad_34 (by decide) ?_
        refine a_icmp_ne (tgt := 45) dX4_meanLoad_36 (by decide) (fun h36 => ?_) (fun h36 => ?_)
        · refine a_iload_n dX4_meanLoad_45 rfl ?_
          refine a_aload_n dX4_meanLoad_46 rfl ?_
          refine a_iload_n dX4_meanLoad_47 rfl ?_
          refine a_iload dX4_meanLoad_48 rfl ?_
          refine a_callVi (As := [_, _]) dX4_meanLoad_50 km_X4_50 (sh_ob (by omega)) rfl rfl (Nat.le_of_ble_eq_true rfl) ?_
          refine k_loadBetween hl (by omega) (by omega) ?_
          refine a_iadd dX4_meanLoad_53 rfl ?_
          refine a_istore_n (L' := [_, _, _, _, _]) dX4_meanLoad_54 (Nat.le_of_ble_eq_true rfl) rfl ?_
          refine a_iload dX4_meanLoad_55 rfl ?_
          refine a_istore_n (L' := [_, _, _, _, _]) dX4_meanLoad_57 (Nat.le_of_ble_eq_true rfl) rfl ?_
          refine a_iinc (L' := [_, _, _, _, _]) dX4_meanLoad_58 rfl (nI_inc _) rfl ?_
          refine a_goto (tgt := 11) dX4_meanLoad_61 (by decide) ?_
          exact ih (i + 1) (by omega) (by omega) _ _ _ (by rw [mcS_next h27 (by rw [← hI]; exact nI_ne_neg (by omega) (by decide)), ← hI]; simp only [nI_clamp (show j < 2 ^ 31 by omega)]) (Or.inr ⟨i, by omega, rfl⟩)
        · exact absurd h36 (nI_ne_neg (by omega) (by decide))
    · refine a_goto (tgt := 58) dX4_meanLoad_30 (by decide) ?_
      refine a_iinc (L' := [_, _, _, _, _]) dX4_meanLoad_58 rfl (nI_inc _) rfl ?_
      refine a_goto (tgt := 11) dX4_meanLoad_61 (by decide) ?_
      exact ih (i + 1) (by omega) (by omega) f b s (by rw [mcS_lost h27]; exact hI) (hb.imp id (fun ⟨j, a, c⟩ => ⟨j, by omega, c⟩))

set_option maxHeartbeats 4000000 in
set_option maxRecDepth 100000 in
theorem k_meanLoad {G : am_G} {d : Nat} {I : am_I} {J : am_J} {K : Int32 → am_I → am_J → Prop} {l : Nat}  (hl : l < 12) (hK : K (mcR (mcS I l 24)) I J) : CMi G (d + 3) yX4_meanLoad [.ref (20 + l)] I J K := by
  refine CM.of (L0 := [_, _, _, _, _]) cX4_meanLoad 5 (some .int) (by decide) (by decide) kcX4_meanLoad (Nat.le_of_ble_eq_true rfl) rfl ?_
  refine a_bipush (v := (-9)) dX4_meanLoad_0 (by decide) ?_
  refine a_istore_n (L' := [_, _, _, _, _]) dX4_meanLoad_2 (Nat.le_of_ble_eq_true rfl) rfl ?_
  refine a_bipush (v := (-9)) dX4_meanLoad_3 (by decide) ?_
  refine a_istore_n (L' := [_, _, _, _, _]) dX4_meanLoad_5 (Nat.le_of_ble_eq_true rfl) rfl ?_
  refine a_iconst (v := nI 0) dX4_meanLoad_6 (by decide) ?_
  refine a_istore_n (L' := [_, _, _, _, _]) dX4_meanLoad_7 (Nat.le_of_ble_eq_true rfl) rfl ?_
  refine a_iconst (v := nI 0) dX4_meanLoad_8 (by decide) ?_
  refine a_istore (L' := [_, _, _, _, _]) dX4_meanLoad_9 (Nat.le_of_ble_eq_true rfl) rfl ?_
  exact lp_ml hl hK 0 (by omega) _ _ _ rfl (Or.inl rfl)

