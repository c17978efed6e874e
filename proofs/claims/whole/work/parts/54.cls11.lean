/-! ===== the system: sets of METERS ===== -/
def us32 (x : Int32) (k : Nat) : Int32 := (x.toUInt32 >>> ((nI k).toUInt32 &&& Int32.toUInt32 31)).toInt32
def nt74 (n i : Int32) : Int32 := n + us32 i 1
def nt62 (n i : Int32) : Int32 := if i ≤ nI 4 then nt74 n i else nt74 (n + Int32.ofInt 2) (us32 i 2)
def nt49 (n i : Int32) : Int32 := if i ≤ nI 16 then nt62 n i else nt62 (n + Int32.ofInt 4) (us32 i 4)
def nt34 (n i : Int32) : Int32 := if i ≤ nI 256 then nt49 n i else nt49 (n + Int32.ofInt 8) (us32 i 8)
def nt19 (n i : Int32) : Int32 := if i ≤ 65536 then nt34 n i else nt34 (n + Int32.ofInt 16) (us32 i 16)
def nt32 (x : Int32) : Int32 := if 0 < (x ^^^ (-1)) &&& (x - nI 1) then nt19 (nI 1) ((x ^^^ (-1)) &&& (x - nI 1)) else ((x ^^^ (-1)) &&& (x - nI 1)) &&& nI 32
def nt64 (x : Int64) : Int32 := if x.toInt32 = 0 then nI 32 + nt32 ((x.toUInt64 >>> ((nI 32).toInt64.toUInt64 &&& Int64.toUInt64 63)).toInt64.toInt32) else nt32 x.toInt32
theorem nt64_p : ∀ j, j < 60 → nt64 (lN (2 ^ j)) = nI j := by decide +kernel
set_option maxHeartbeats 4000000 in
set_option maxRecDepth 100000 in
theorem lp_nt74 {G : am_G} {d : Nat} {I : am_I} {J : am_J} {K : Int32 → am_I → am_J → Prop} {n i : Int32} (hK : K (nt74 n i) I J) : AW G cJ6_numberOfTrailingZeros_0f7a4 2 RJ6 d (am_ex G (some .int) (fun r I J => ∃ x, r = some (.int x) ∧ K x I J)) 74 [some (.int i), some (.int n)] [] I J := by
  refine a_iload_n dJ6_numberOfTrailingZeros_0f7a4_74 rfl ?_
  refine a_iload_n dJ6_numberOfTrailingZeros_0f7a4_75 rfl ?_
  refine a_iconst (v := nI 1) dJ6_numberOfTrailingZeros_0f7a4_76 (by decide) ?_
  refine a_iushr dJ6_numberOfTrailingZeros_0f7a4_77 rfl ?_
  refine a_iadd dJ6_numberOfTrailingZeros_0f7a4_78 rfl ?_
  exact a_ireturn dJ6_numberOfTrailingZeros_0f7a4_79 ⟨_, rfl, hK⟩

set_option maxHeartbeats 4000000 in
set_option maxRecDepth 100000 in
theorem lp_nt62 {G : am_G} {d : Nat} {I : am_I} {J : am_J} {K : Int32 → am_I → am_J → Prop} {n i : Int32} (hK : K (nt62 n i) I J) : AW G cJ6_numberOfTrailingZeros_0f7a4 2 RJ6 d (am_ex G (some .int) (fun r I J => ∃ x, r = some (.int x) ∧ K x I J)) 62 [some (.int i), some (.int n)] [] I J := by
  refine a_iload_n dJ6_numberOfTrailingZeros_0f7a4_62 rfl ?_
  refine a_iconst (v := nI 4) dJ6_numberOfTrailingZeros_0f7a4_63 (by decide) ?_
  refine a_icmp_le (tgt := 74) dJ6_numberOfTrailingZeros_0f7a4_64 (by decide) (fun h64 => ?_) (fun h64 => ?_)
  · exact lp_nt74 (by first | (rw [nt62, if_pos (by assumption)] at hK; exact hK) | (rw [nt62, if_neg (by assumption)] at hK; exact hK))
  · refine a_iinc (L' := [_, _]) dJ6_numberOfTrailingZeros_0f7a4_67 rfl rfl rfl ?_
    refine a_iload_n dJ6_numberOfTrailingZeros_0f7a4_70 rfl ?_
    refine a_iconst (v := nI 2) dJ6_numberOfTrailingZeros_0f7a4_71 (by decide) ?_
    refine a_iushr dJ6_numberOfTrailingZeros_0f7a4_72 rfl ?_
    refine a_istore_n (L' := [_, _]) dJ6_numberOfTrailingZeros_0f7a4_73 (Nat.le_of_ble_eq_true rfl) rfl ?_
    exact lp_nt74 (by first | (rw [nt62, if_pos (by assumption)] at hK; exact hK) | (rw [nt62, if_neg (by assumption)] at hK; exact hK))

set_option maxHeartbeats 4000000 in
set_option maxRecDepth 100000 in
theorem lp_nt49 {G : am_G} {d : Nat} {I : am_I} {J : am_J} {K : Int32 → am_I → am_J → Prop} {n i : Int32} (hK : K (nt49 n i) I J) : AW G cJ6_numberOfTrailingZeros_0f7a4 2 RJ6 d (am_ex G (some .int) (fun r I J => ∃ x, r = some (.int x) ∧ K x I J)) 49 [some (.int i), some (.int n)] [] I J := by
  refine a_iload_n dJ6_numberOfTrailingZeros_0f7a4_49 rfl ?_
  refine a_bipush (v := nI 16) dJ6_numberOfTrailingZeros_0f7a4_50 (by decide) ?_
  refine a_icmp_le (tgt := 62) dJ6_numberOfTrailingZeros_0f7a4_52 (by decide) (fun h52 => ?_) (fun h52 => ?_)
  · exact lp_nt62 (by first | (rw [nt49, if_pos (by assumption)] at hK; exact hK) | (rw [nt49, if_neg (by assumption)] at hK; exact hK))
  · refine a_iinc (L' := [_, _]) dJ6_numberOfTrailingZeros_0f7a4_55 rfl rfl rfl ?_
    refine a_iload_n dJ6_numberOfTrailingZeros_0f7a4_58 rfl ?_
    refine a_iconst (v := nI 4) dJ6_numberOfTrailingZeros_0f7a4_59 (by decide) ?_
    refine a_iushr dJ6_numberOfTrailingZeros_0f7a4_60 rfl ?_
    refine a_istore_n (L' := [_, _]) dJ6_numberOfTrailingZeros_0f7a4_61 (Nat.le_of_ble_eq_true rfl) rfl ?_
    exact lp_nt62 (by first | (rw [nt49, if_pos (by assumption)] at hK; exact hK) | (rw [nt49, if_neg (by assumption)] at hK; exact hK))

set_option maxHeartbeats 4000000 in
set_option maxRecDepth 100000 in
theorem lp_nt34 {G : am_G} {d : Nat} {I : am_I} {J : am_J} {K : Int32 → am_I → am_J → Prop} {n i : Int32} (hK : K (nt34 n i) I J) : AW G cJ6_numberOfTrailingZeros_0f7a4 2 RJ6 d (am_ex G (some .int) (fun r I J => ∃ x, r = some (.int x) ∧ K x I J)) 34 [some (.int i), some (.int n)] [] I J := by
  refine a_iload_n dJ6_numberOfTrailingZeros_0f7a4_34 rfl ?_
  refine a_sipush (v := nI 256) dJ6_numberOfTrailingZeros_0f7a4_35 (by decide) ?_
  refine a_icmp_le (tgt := 49) dJ6_numberOfTrailingZeros_0f7a4_38 (by decide) (fun h38 => ?_) (fun h38 => ?_)
  · exact lp_nt49 (by first | (rw [nt34, if_pos (by assumption)] at hK; exact hK) | (rw [nt34, if_neg (by assumption)] at hK; exact hK))
  · refine a_iinc (L' := [_, _]) dJ6_numberOfTrailingZeros_0f7a4_41 rfl rfl rfl ?_
    refine a_iload_n dJ6_numberOfTrailingZeros_0f7a4_44 rfl ?_
    refine a_bipush (v := nI 8) dJ6_numberOfTrailingZeros_0f7a4_45 (by decide) ?_
    refine a_iushr dJ6_numberOfTrailingZeros_0f7a4_47 rfl ?_
    refine a_istore_n (L' := [_, _]) dJ6_numberOfTrailingZeros_0f7a4_48 (Nat.le_of_ble_eq_true rfl) rfl ?_
    exact lp_nt49 (by first | (rw [nt34, if_pos (by assumption)] at hK; exact hK) | (rw [nt34, if_neg (by assumption)] at hK; exact hK))

set_option maxHeartbeats 4000000 in
set_option maxRecDepth 100000 in
theorem lp_nt19 {G : am_G} {d : Nat} {I : am_I} {J : am_J} {K : Int32 → am_I → am_J → Prop} {n i : Int32} (hK : K (nt19 n i) I J) : AW G cJ6_numberOfTrailingZeros_0f7a4 2 RJ6 d (am_ex G (some .int) (fun r I J => ∃ x, r = some (.int x) ∧ K x I J)) 19 [some (.int i), some (.int n)] [] I J := by
  refine a_iload_n dJ6_numberOfTrailingZeros_0f7a4_19 rfl ?_
  refine a_ldcw dJ6_numberOfTrailingZeros_0f7a4_20 kk_J6_264 rfl ?_
  refine a_icmp_le (tgt := 34) dJ6_numberOfTrailingZeros_0f7a4_23 (by decide) (fun h23 => ?_) (fun h23 => ?_)
  · exact lp_nt34 (by first | (rw [nt19, if_pos (by assumption)] at hK; exact hK) | (rw [nt19, if_neg (by assumption)] at hK; exact hK))
  · refine a_iinc (L' := [_, _]) dJ6_numberOfTrailingZeros_0f7a4_26 rfl rfl rfl ?_
    refine a_iload_n dJ6_numberOfTrailingZeros_0f7a4_29 rfl ?_
    refine a_bipush (v := nI 16) dJ6_numberOfTrailingZeros_0f7a4_30 (by decide) ?_
    refine a_iushr dJ6_numberOfTrailingZeros_0f7a4_32 rfl ?_
    refine a_istore_n (L' := [_, _]) dJ6_numberOfTrailingZeros_0f7a4_33 (Nat.le_of_ble_eq_true rfl) rfl ?_
    exact lp_nt34 (by first | (rw [nt19, if_pos (by assumption)] at hK; exact hK) | (rw [nt19, if_neg (by assumption)] at hK; exact hK))

set_option maxHeartbeats 4000000 in
set_option maxRecDepth 100000 in
theorem j_ntz32 {G : am_G} {d : Nat} {I : am_I} {J : am_J} {K : Int32 → am_I → am_J → Prop} {x : Int32} (hK : K (nt32 x) I J) : CMi G d yJ6_numberOfTrailingZeros_0f7a4 [.int x] I J K := by
  refine CM.of (L0 := [_, _]) cJ6_numberOfTrailingZeros_0f7a4 2 (some .int) (by decide) (by decide) kcJ6_numberOfTrailingZeros_0f7a4 (Nat.le_of_ble_eq_true rfl) rfl ?_
  refine a_iload_n dJ6_numberOfTrailingZeros_0f7a4_0 rfl ?_
  refine a_iconst (v := (-1)) dJ6_numberOfTrailingZeros_0f7a4_1 (by decide) ?_
  refine a_ixor dJ6_numberOfTrailingZeros_0f7a4_2 rfl ?_
  refine a_iload_n dJ6_numberOfTrailingZeros_0f7a4_3 rfl ?_
  refine a_iconst (v := nI 1) dJ6_numberOfTrailingZeros_0f7a4_4 (by decide) ?_
  refine a_isub dJ6_numberOfTrailingZeros_0f7a4_5 rfl ?_
  refine a_iand dJ6_numberOfTrailingZeros_0f7a4_6 rfl ?_
  refine a_istore_n (L' := [_, _]) dJ6_numberOfTrailingZeros_0f7a4_7 (Nat.le_of_ble_eq_true rfl) rfl ?_
  refine a_iload_n dJ6_numberOfTrailingZeros_0f7a4_8 rfl ?_
  refine a_if_gt (tgt := 17) dJ6_numberOfTrailingZeros_0f7a4_9 (by decide) (fun h => ?_) (fun h => ?_)
  · rw [nt32, if_pos h] at hK
    refine a_iconst (v := nI 1) dJ6_numberOfTrailingZeros_0f7a4_17 (by decide) ?_
    refine a_istore_n (L' := [_, _]) dJ6_numberOfTrailingZeros_0f7a4_18 (Nat.le_of_ble_eq_true rfl) rfl ?_
    exact lp_nt19 hK
  · rw [nt32, if_neg h] at hK
    refine a_iload_n dJ6_numberOfTrailingZeros_0f7a4_12 rfl ?_
    refine a_bipush (v := nI 32) dJ6_numberOfTrailingZeros_0f7a4_13 (by decide) ?_
    refine a_iand dJ6_numberOfTrailingZeros_0f7a4_15 rfl ?_
    exact a_ireturn dJ6_numberOfTrailingZeros_0f7a4_16 ⟨_, rfl, hK⟩

set_option maxHeartbeats 4000000 in
set_option maxRecDepth 100000 in
theorem j_ntz64 {G : am_G} {d : Nat} {I : am_I} {J : am_J} {K : Int32 → am_I → am_J → Prop} {x : Int64} (hK : K (nt64 x) I J) : CMi G (d + 1) yJ13_numberOfTrailingZeros_95d88 [.long x] I J K := by
  refine CM.of (L0 := [_, _, _]) cJ13_numberOfTrailingZeros_95d88 3 (some .int) (by decide) (by decide) kcJ13_numberOfTrailingZeros_95d88 (Nat.le_of_ble_eq_true rfl) rfl ?_
  refine a_lload_n dJ13_numberOfTrailingZeros_95d88_0 rfl ?_
  refine a_l2i dJ13_numberOfTrailingZeros_95d88_1 rfl ?_
  refine a_istore_n (L' := [_, _, _]) dJ13_numberOfTrailingZeros_95d88_2 (Nat.le_of_ble_eq_true rfl) rfl ?_
  refine a_iload_n dJ13_numberOfTrailingZeros_95d88_3 rfl ?_
  refine a_if_ne (tgt := 21) dJ13_numberOfTrailingZeros_95d88_4 (by decide) (fun h => ?_) (fun h => ?_)
  · rw [nt64, if_neg h] at hK
    refine a_iload_n dJ13_numberOfTrailingZeros_95d88_21 rfl ?_
    refine a_callSi (As := [_]) dJ13_numberOfTrailingZeros_95d88_22 km_J13_311 rfl rfl (Nat.le_of_ble_eq_true rfl) ?_
    refine j_ntz32 ?_
    exact a_ireturn dJ13_numberOfTrailingZeros_95d88_25 ⟨_, rfl, hK⟩
  · rw [nt64, if_pos h] at hK
    refine a_bipush (v := nI 32) dJ13_numberOfTrailingZeros_95d88_7 (by decide) ?_
    refine a_lload_n dJ13_numberOfTrailingZeros_95d88_9 rfl ?_
    refine a_bipush (v := nI 32) dJ13_numberOfTrailingZeros_95d88_10 (by decide) ?_
    refine a_lushr dJ13_numberOfTrailingZeros_95d88_12 rfl ?_
    refine a_l2i dJ13_numberOfTrailingZeros_95d88_13 rfl ?_
    refine a_callSi (As := [_]) dJ13_numberOfTrailingZeros_95d88_14 km_J13_311 rfl rfl (Nat.le_of_ble_eq_true rfl) ?_
    refine j_ntz32 ?_
    refine a_iadd dJ13_numberOfTrailingZeros_95d88_17 rfl ?_
    refine a_goto (tgt := 25) dJ13_numberOfTrailingZeros_95d88_18 (by decide) ?_
    exact a_ireturn dJ13_numberOfTrailingZeros_95d88_25 ⟨_, rfl, hK⟩

set_option maxHeartbeats 4000000 in
set_option maxRecDepth 100000 in
theorem s_next0 {G : am_G} {d : Nat} {I : am_I} {J : am_J} {K : Int64 → am_I → am_J → Prop}  (hK : K (lN (2 ^ 63 - 1)) I J) : CMl G (d + 2) yX8_nextSet [.long (lN 0)] I J K := by
  refine CM.of (L0 := [_, _, _, _, _, _]) cX8_nextSet 6 (some .long) (by decide) (by decide) kcX8_nextSet (Nat.le_of_ble_eq_true rfl) rfl ?_
  refine a_lload_n dX8_nextSet_0 rfl ?_
  refine a_lconst (v := 0) dX8_nextSet_1 (by decide) ?_
  refine a_lcmp dX8_nextSet_2 rfl ?_
  refine a_if_ne (tgt := 10) dX8_nextSet_3 (by decide) (fun h => ?_) (fun h => ?_)
  · exact absurd (by decide) h
  · refine a_ldc2 dX8_nextSet_6 kk_X8_170 (show (9223372036854775807 : Int64) = lN (2 ^ 63 - 1) by decide +kernel) ?_
    exact a_lreturn dX8_nextSet_9 ⟨_, rfl, hK⟩

set_option maxHeartbeats 4000000 in
set_option maxRecDepth 100000 in
theorem s_next {G : am_G} {d : Nat} {I : am_I} {J : am_J} {K : Int64 → am_I → am_J → Prop} {j a : Nat} (h : 2 ^ j * (2 * a + 1) < 2 ^ 58) (hj : j < 58) (hK : K (lN (nxS j (2 ^ j * (2 * a + 1)))) I J) : CMl G (d + 2) yX8_nextSet [.long (lN (2 ^ j * (2 * a + 1)))] I J K := by
  refine CM.of (L0 := [_, _, _, _, _, _]) cX8_nextSet 6 (some .long) (by decide) (by decide) kcX8_nextSet (Nat.le_of_ble_eq_true rfl) rfl ?_
  generalize hs : 2 ^ j * (2 * a + 1) = s at h hK
  have hp : 0 < s := by rw [← hs]; exact Nat.mul_pos (Nat.two_pow_pos j) (by omega)
  have hlow : s &&& (2 ^ 64 - s) = 2 ^ j := by rw [← hs]; exact lx_low (by rw [hs]; omega)
  have hj2 : 2 ^ j < 2 ^ 58 := Nat.pow_lt_pow_right (by decide) hj
  have hx : s ^^^ (s + 2 ^ j) < 2 ^ 60 := Nat.xor_lt_two_pow (by omega) (by omega)
  refine a_lload_n dX8_nextSet_0 rfl ?_
  refine a_lconst (v := 0) dX8_nextSet_1 (by decide) ?_
  refine a_lcmp dX8_nextSet_2 rfl ?_
  refine a_if_ne (tgt := 10) dX8_nextSet_3 (by decide) (fun q => ?_) (fun q => ?_)
  · refine a_lload_n dX8_nextSet_10 rfl ?_
    refine a_lload_n dX8_nextSet_11 rfl ?_
    refine a_lneg dX8_nextSet_12 (lx_neg hp (by omega)) ?_
    refine a_land dX8_nextSet_13 (show _ = lN (2 ^ j) by rw [lx_and, hlow]) ?_
    refine a_lstore_n (L' := [_, _, _, _, _, _]) dX8_nextSet_14 (Nat.le_of_ble_eq_true rfl) rfl ?_
    refine a_lload_n dX8_nextSet_15 rfl ?_
    refine a_lload_n dX8_nextSet_16 rfl ?_
    refine a_ladd dX8_nextSet_17 (lN_add _ _) ?_
    refine a_lstore (L' := [_, _, _, _, _, _]) dX8_nextSet_18 (Nat.le_of_ble_eq_true rfl) rfl ?_
    refine a_lload dX8_nextSet_20 rfl ?_
    refine a_lload_n dX8_nextSet_22 rfl ?_
    refine a_lload dX8_nextSet_23 rfl ?_
    refine a_lxor dX8_nextSet_25 (lx_xor _ _) ?_
    refine a_iconst (v := nI 2) dX8_nextSet_26 (by decide) ?_
    refine a_lload_n dX8_nextSet_27 rfl ?_
    refine a_callSi (As := [_]) dX8_nextSet_28 km_X8_172 rfl rfl (Nat.le_of_ble_eq_true rfl) ?_
    refine j_ntz64 ?_
    rw [nt64_p j (by omega)]
    refine a_iadd dX8_nextSet_31 (nI_add 2 j) ?_
    refine a_lushr dX8_nextSet_32 (lx_ushr (by omega) (by omega)) ?_
    refine a_lor dX8_nextSet_33 (show _ = lN (nxS j s) by rw [lx_or, Nat.add_comm 2 j]; rfl) ?_
    exact a_lreturn dX8_nextSet_34 ⟨_, rfl, hK⟩
  · exact absurd ((cmp_0 (show s < 2 ^ 62 by omega)).mp q) (by omega)

def ffC (fx : Nat → Option Nat) (sq : Nat → Nat) (k : Nat) (I I0 : am_I) : Prop := (∀ a, a ≠ 51 → I a = I0 a) ∧ ∀ (i x : Nat), (frL fx sq k)[i]? = some x → I 51 i = nI x
set_option maxHeartbeats 4000000 in
set_option maxRecDepth 100000 in
theorem lp_ff {G : am_G} {d : Nat} {I0 : am_I} {J : am_J} {K : Int32 → am_I → am_J → Prop} {m : Nat} {fx : Nat → Option Nat} {sq : Nat → Nat} (h8 : I0 4 8 = nI m) (hm : m ≤ 36) (h50 : ∀ k, k < m → I0 50 k = nI (sq k) ∧ sq k < 36 ∧ (I0 13 (sq k) = -9 ↔ (fx k).isNone = true)) (hK : ∀ I', ffC fx sq m I' I0 → K (nI (frL fx sq m).length) I' J) : ∀ i, i ≤ m → ∀ I, ffC fx sq i I I0 → AW G cX8_findFree 3 RX8 d (am_ex G (some .int) (fun r I J => ∃ x, r = some (.int x) ∧ K x I J)) 4 [some (.ref 4), some (.int (nI (frL fx sq i).length)), some (.int (nI i))] [] I J := by
  refine am_dn m (fun i hi ih => ?_)
  intro I hI
  have e4 : I 4 = I0 4 := hI.1 4 (by decide)
  have e50 : I 50 = I0 50 := hI.1 50 (by decide)
  have e13 : I 13 = I0 13 := hI.1 13 (by decide)
  have hlen : (frL fx sq i).length ≤ i := by rw [frL_len]; exact cN_le _ _
  refine a_iload_n dX8_findFree_4 rfl ?_
  refine a_aload_n dX8_findFree_5 rfl ?_
  refine a_geti dX8_findFree_6 kf_X8_30 ⟨by decide, _, rfl, rfl⟩ ((congrFun e4 8).trans h8) ?_
  refine a_icmp_geN (tgt := 55) dX8_findFree_9 (by decide) (by omega) (by omega) (fun h => ?_) (fun h => ?_)
  · obtain rfl : i = m := by omega
    refine a_iload_n dX8_findFree_55 rfl ?_
    exact a_ireturn dX8_findFree_56 ⟨_, rfl, (hK I hI)⟩
  · obtain ⟨q1, q2, q3⟩ := h50 i h
    refine a_aload_n dX8_findFree_12 rfl ?_
    refine a_getr dX8_findFree_13 kf_X8_44 ⟨by decide, _, rfl, rfl⟩ ?_
    refine a_getr dX8_findFree_16 kf_X8_58 ⟨by decide, _, rfl, rfl⟩ ?_
    refine a_aload_n dX8_findFree_19 rfl ?_
    refine a_getr dX8_findFree_20 kf_X8_9 ⟨by decide, _, rfl, rfl⟩ ?_
    refine a_iload_n dX8_findFree_23 rfl ?_
    refine a_iald dX8_findFree_24 ⟨by decide, rfl⟩ (by omega) ((congrFun e50 i).trans q1) ?_
    refine a_iald dX8_findFree_25 ⟨by decide, rfl⟩ (by omega) (congrFun e13 _) ?_
    refine a_bipush (v := (-9)) dX8_findFree_26 (by decide) ?_
    refine a_icmp_eq (tgt := 34) dX8_findFree_28 (by decide) (fun g => ?_) (fun g => ?_)
    · have hn := q3.mp g
      have eL : frL fx sq (i + 1) = frL fx sq i ++ [sq i] := by rw [frL, if_pos hn]
      refine a_aload_n dX8_findFree_34 rfl ?_
      refine a_getr dX8_findFree_35 kf_X8_15 ⟨by decide, _, rfl, rfl⟩ ?_
      refine a_iload_n dX8_findFree_38 rfl ?_
      refine a_aload_n dX8_findFree_39 rfl ?_
      refine a_getr dX8_findFree_40 kf_X8_9 ⟨by decide, _, rfl, rfl⟩ ?_
      refine a_iload_n dX8_findFree_43 rfl ?_
      refine a_iald dX8_findFree_44 ⟨by decide, rfl⟩ (by omega) ((congrFun e50 i).trans q1) ?_
      refine a_iast dX8_findFree_45 ⟨by decide, rfl⟩ (by omega) ?_
      refine a_iinc (L' := [_, _, _]) dX8_findFree_46 rfl (nI_inc _) rfl ?_
      refine a_iinc (L' := [_, _, _]) dX8_findFree_49 rfl (nI_inc _) rfl ?_
      refine a_goto (tgt := 4) dX8_findFree_52 (by decide) ?_
      have hz := ih (i + 1) (by omega) (by omega) (am_up I 51 (frL fx sq i).length (nI (sq i))) ⟨fun a ha => by rw [am_up_ne ha]; exact hI.1 a ha, fun x y hx => by
        rw [eL] at hx
        rcases Nat.lt_or_ge x (frL fx sq i).length with q | q
        · rw [am_up_slot (by omega)]
          rw [List.getElem?_append_left q] at hx
          exact hI.2 x y hx
        · have := (List.getElem?_eq_some_iff.mp hx).1
          rw [List.length_append, List.length_singleton] at this
          obtain rfl : x = (frL fx sq i).length := by omega
          simp at hx
          subst hx
          rw [am_up_same]⟩
      rw [eL, List.length_append, List.length_singleton] at hz
      exact hz
    · have hn : ¬ (fx i).isNone = true := fun z => g (q3.mpr z)
      have eL : frL fx sq (i + 1) = frL fx sq i := by rw [frL, if_neg hn]
      refine a_goto (tgt := 49) dX8_findFree_31 (by decide) ?_
      refine a_iinc (L' := [_, _, _]) dX8_findFree_49 rfl (nI_inc _) rfl ?_
      refine a_goto (tgt := 4) dX8_findFree_52 (by decide) ?_
      have hz := ih (i + 1) (by omega) (by omega) I (by unfold ffC; rw [eL]; exact hI)
      rw [eL] at hz
      exact hz

set_option maxHeartbeats 4000000 in
set_option maxRecDepth 100000 in
theorem s_findFree {G : am_G} {d : Nat} {I : am_I} {J : am_J} {K : Int32 → am_I → am_J → Prop} {m : Nat} {fx : Nat → Option Nat} {sq : Nat → Nat} (h8 : I 4 8 = nI m) (hm : m ≤ 36) (h50 : ∀ k, k < m → I 50 k = nI (sq k) ∧ sq k < 36 ∧ (I 13 (sq k) = -9 ↔ (fx k).isNone = true)) (hK : ∀ I', ffC fx sq m I' I → K (nI (frL fx sq m).length) I' J) : CMi G d yX8_findFree [.ref 4] I J K := by
  refine CM.of (L0 := [_, _, _]) cX8_findFree 3 (some .int) (by decide) (by decide) kcX8_findFree (Nat.le_of_ble_eq_true rfl) rfl ?_
  refine a_iconst (v := nI 0) dX8_findFree_0 (by decide) ?_
  refine a_istore_n (L' := [_, _, _]) dX8_findFree_1 (Nat.le_of_ble_eq_true rfl) rfl ?_
  refine a_iconst (v := nI 0) dX8_findFree_2 (by decide) ?_
  refine a_istore_n (L' := [_, _, _]) dX8_findFree_3 (Nat.le_of_ble_eq_true rfl) rfl ?_
  exact lp_ff h8 hm h50 hK 0 (by omega) I ⟨fun _ _ => rfl, fun i x h => by simp [frL] at h⟩

def mFc (I : am_I) (fr : Nat → Nat) (s i : Nat) : am_I := fun a b => if a = 54 then fxR (I 54) fr s (I 56) i b else I a b
theorem mFc_s (I : am_I) (fr : Nat → Nat) (s i : Nat) : am_up (mFc I fr s i) 54 (fr i) (if s.testBit i = true then I 56 (fr i) else -9) = mFc I fr s (i + 1) := by
  funext a b
  simp only [am_up, mFc, fxR, upd]
  by_cases h1 : a = 54
  · subst h1; simp
  · simp [h1]
theorem mFc_ne {I : am_I} {fr : Nat → Nat} {s i a : Nat} (h : a ≠ 54) : mFc I fr s i a = I a := by
  funext b; simp [mFc, h]
set_option maxHeartbeats 4000000 in
set_option maxRecDepth 100000 in
theorem lp_fx {G : am_G} {d : Nat} {I0 : am_I} {J : am_J} {K : am_I → am_J → Prop} {s f : Nat} {fr : Nat → Nat} (hs : s < 2 ^ 60) (hf : f ≤ 36) (hfr : ∀ i, i < f → I0 51 i = nI (fr i) ∧ fr i < 36) (hK : K (mFc I0 fr s f) J) : ∀ i, i ≤ f → AW G cX8_fix 6 RX8 d (am_ex G none (fun r I J => r = none ∧ K I J)) 3 [some (.ref 4), some (.long (lN s)), none, some (.int (nI f)), some (.ref 56), some (.int (nI i))] [] (mFc I0 fr s i) J := by
  refine am_dn f (fun i hi ih => ?_)
  refine a_iload dX8_fix_3 rfl ?_
  refine a_iload_n dX8_fix_5 rfl ?_
  refine a_icmp_geN (tgt := 53) dX8_fix_6 (by decide) (by omega) (by omega) (fun h => ?_) (fun h => ?_)
  · obtain rfl : i = f := by omega
    exact a_vreturn dX8_fix_53 ⟨rfl, hK⟩
  · obtain ⟨q1, q2⟩ := hfr i h
    refine a_aload_n dX8_fix_9 rfl ?_
    refine a_getr dX8_fix_10 kf_X8_24 ⟨by decide, _, rfl, rfl⟩ ?_
    refine a_aload_n dX8_fix_13 rfl ?_
    refine a_getr dX8_fix_14 kf_X8_15 ⟨by decide, _, rfl, rfl⟩ ?_
    refine a_iload dX8_fix_17 rfl ?_
    refine a_iald dX8_fix_19 ⟨by decide, rfl⟩ (by omega) q1 ?_
    refine a_lload_n dX8_fix_20 rfl ?_
    refine a_iload dX8_fix_21 rfl ?_
    refine a_lshr dX8_fix_23 rfl ?_
    refine a_lconst (v := 1) dX8_fix_24 (by decide) ?_
    refine a_land dX8_fix_25 rfl ?_
    refine a_lconst (v := 1) dX8_fix_26 (by decide) ?_
    refine a_lcmp dX8_fix_27 rfl ?_
    refine a_tif_ne (tgt := 44) (pj := 46) (a := (-9)) (b := (I0 56 (fr i))) dX8_fix_28 (by decide) (fun kj => ?_) (fun kj => ?_) ?_
    · refine a_bipush (v := (-9)) dX8_fix_44 (by decide) ?_
      exact kj
    · refine a_aload dX8_fix_31 rfl ?_
      refine a_aload_n dX8_fix_33 rfl ?_
      refine a_getr dX8_fix_34 kf_X8_15 ⟨by decide, _, rfl, rfl⟩ ?_
      refine a_iload dX8_fix_37 rfl ?_
      refine a_iald dX8_fix_39 ⟨by decide, rfl⟩ (by omega) q1 ?_
      refine a_iald dX8_fix_40 ⟨by decide, rfl⟩ (by omega) rfl ?_
      refine a_goto (tgt := 46) dX8_fix_41 (by decide) ?_
      exact kj
    refine a_topi (v := if s.testBit i = true then I0 56 (fr i) else -9) (by simp only [lx_bit0 (show i < 64 by omega) (show s < 2 ^ 63 by omega)]) ?_
    refine a_iast dX8_fix_46 ⟨by decide, rfl⟩ (by omega) ?_
    refine a_mem (mFc_s I0 fr s i) ?_
    refine a_iinc (L' := [_, _, _, _, _, _]) dX8_fix_47 rfl (nI_inc _) rfl ?_
    refine a_goto (tgt := 3) dX8_fix_50 (by decide) ?_
    exact ih (i + 1) (by omega) (by omega)

set_option maxHeartbeats 4000000 in
set_option maxRecDepth 100000 in
theorem s_fix {G : am_G} {d : Nat} {I : am_I} {J : am_J} {K : am_I → am_J → Prop} {s f : Nat} {fr : Nat → Nat} (hs : s < 2 ^ 60) (hf : f ≤ 36) (hfr : ∀ i, i < f → I 51 i = nI (fr i) ∧ fr i < 36) (hK : K (mFc I fr s f) J) : CMv G d yX8_fix [.ref 4, .long (lN s), .int (nI f), .ref 56] I J K := by
  refine CM.of (L0 := [_, _, _, _, _, _]) cX8_fix 6 none (by decide) (by decide) kcX8_fix (Nat.le_of_ble_eq_true rfl) rfl ?_
  refine a_iconst (v := nI 0) dX8_fix_0 (by decide) ?_
  refine a_istore (L' := [_, _, _, _, _, _]) dX8_fix_1 (Nat.le_of_ble_eq_true rfl) rfl ?_
  refine a_mem (I' := mFc I fr s 0) (by funext a b; simp only [mFc, fxR]; by_cases e : a = 54 <;> simp [e]) ?_
  exact lp_fx hs hf hfr hK 0 (by omega)

set_option maxHeartbeats 4000000 in
set_option maxRecDepth 100000 in
theorem lp_bof {G : am_G} {d : Nat} {I : am_I} {J : am_J} {K : Int64 → am_I → am_J → Prop} {s f : Nat} {fr : Nat → Nat} (hs : s < 2 ^ 60) (hf : f ≤ 36) (hfr : ∀ i, i < f → I 51 i = nI (fr i) ∧ fr i < 36) (hK : K (lN (btN fr s f)) I J) : ∀ i, i ≤ f → AW G cX8_bitsOf 7 RX8 d (am_ex G (some .long) (fun r I J => ∃ x, r = some (.long x) ∧ K x I J)) 6 [some (.ref 4), some (.long (lN s)), none, some (.int (nI f)), some (.long (lN (btN fr s i))), none, some (.int (nI i))] [] I J := by
  refine am_dn f (fun i hi ih => ?_)
  refine a_iload dX8_bitsOf_6 rfl ?_
  refine a_iload_n dX8_bitsOf_8 rfl ?_
  refine a_icmp_geN (tgt := 43) dX8_bitsOf_9 (by decide) (by omega) (by omega) (fun h => ?_) (fun h => ?_)
  · obtain rfl : i = f := by omega
    refine a_lload dX8_bitsOf_43 rfl ?_
    exact a_lreturn dX8_bitsOf_45 ⟨_, rfl, hK⟩
  · obtain ⟨q1, q2⟩ := hfr i h
    refine a_lload_n dX8_bitsOf_12 rfl ?_
    refine a_iload dX8_bitsOf_13 rfl ?_
    refine a_lshr dX8_bitsOf_15 rfl ?_
    refine a_lconst (v := 1) dX8_bitsOf_16 (by decide) ?_
    refine a_land dX8_bitsOf_17 rfl ?_
    refine a_lconst (v := 1) dX8_bitsOf_18 (by decide) ?_
    refine a_lcmp dX8_bitsOf_19 rfl ?_
    refine a_if_ne (tgt := 37) dX8_bitsOf_20 (by decide) (fun g => ?_) (fun g => ?_)
    · refine a_iinc (L' := [_, _, _, _, _, _, _]) dX8_bitsOf_37 rfl (nI_inc _) rfl ?_
      refine a_goto (tgt := 6) dX8_bitsOf_40 (by decide) ?_
      have hz := ih (i + 1) (by omega) (by omega)
      rw [btN, if_neg (fun z => g ((lx_bit0 (show i < 64 by omega) (show s < 2 ^ 63 by omega)).mpr z)), Nat.or_zero] at hz
      exact hz
    · refine a_lload dX8_bitsOf_23 rfl ?_
      refine a_lconst (v := 1) dX8_bitsOf_25 (by decide) ?_
      refine a_aload_n dX8_bitsOf_26 rfl ?_
      refine a_getr dX8_bitsOf_27 kf_X8_15 ⟨by decide, _, rfl, rfl⟩ ?_
      refine a_iload dX8_bitsOf_30 rfl ?_
      refine a_iald dX8_bitsOf_32 ⟨by decide, rfl⟩ (by omega) q1 ?_
      refine a_lshl dX8_bitsOf_33 (show _ = lN (2 ^ fr i) by rw [show (1 : Int64) = lN 1 from rfl, lx_shl (by omega) (by rw [Nat.one_mul]; exact Nat.pow_lt_pow_right (by decide) (by omega)), Nat.one_mul]) ?_
      refine a_lor dX8_bitsOf_34 (lx_or _ _) ?_
      refine a_lstore (L' := [_, _, _, _, _, _, _]) dX8_bitsOf_35 (Nat.le_of_ble_eq_true rfl) rfl ?_
      refine a_iinc (L' := [_, _, _, _, _, _, _]) dX8_bitsOf_37 rfl (nI_inc _) rfl ?_
      refine a_goto (tgt := 6) dX8_bitsOf_40 (by decide) ?_
      have hz := ih (i + 1) (by omega) (by omega)
      rw [btN, if_pos ((lx_bit0 (show i < 64 by omega) (show s < 2 ^ 63 by omega)).mp g)] at hz
      exact hz

set_option maxHeartbeats 4000000 in
set_option maxRecDepth 100000 in
theorem s_bitsOf {G : am_G} {d : Nat} {I : am_I} {J : am_J} {K : Int64 → am_I → am_J → Prop} {s f : Nat} {fr : Nat → Nat} (hs : s < 2 ^ 60) (hf : f ≤ 36) (hfr : ∀ i, i < f → I 51 i = nI (fr i) ∧ fr i < 36) (hK : K (lN (btN fr s f)) I J) : CMl G d yX8_bitsOf [.ref 4, .long (lN s), .int (nI f)] I J K := by
  refine CM.of (L0 := [_, _, _, _, _, _, _]) cX8_bitsOf 7 (some .long) (by decide) (by decide) kcX8_bitsOf (Nat.le_of_ble_eq_true rfl) rfl ?_
  refine a_lconst (v := 0) dX8_bitsOf_0 (by decide) ?_
  refine a_lstore (L' := [_, _, _, _, _, _, _]) dX8_bitsOf_1 (Nat.le_of_ble_eq_true rfl) rfl ?_
  refine a_iconst (v := nI 0) dX8_bitsOf_3 (by decide) ?_
  refine a_istore (L' := [_, _, _, _, _, _, _]) dX8_bitsOf_4 (Nat.le_of_ble_eq_true rfl) rfl ?_
  exact lp_bof hs hf hfr hK 0 (by omega)

def bc1 (x : Nat) : Nat := x - ((x / 2 ^ 1) &&& 6148914691236517205)
def bc2 (x : Nat) : Nat := (x &&& 3689348814741910323) + ((x / 2 ^ 2) &&& 3689348814741910323)
def bc3 (x : Nat) : Nat := (x + x / 2 ^ 4) &&& 1085102592571150095
def bc4 (x : Nat) : Nat := x + x / 2 ^ 8
def bc5 (x : Nat) : Nat := x + x / 2 ^ 16
def bc6 (x : Nat) : Nat := x + x / 2 ^ 32
def bcN (x : Nat) : Nat := bc6 (bc5 (bc4 (bc3 (bc2 (bc1 x))))) % 128
theorem and_le_l (a b : Nat) : a &&& b ≤ a := Nat.and_le_left
theorem l2i_lN (n : Nat) : (lN n).toInt32 = nI n := by
  apply Int32.toBitVec_inj.mp
  rw [Int64.toBitVec_toInt32]
  show (BitVec.ofNat 64 n).signExtend 32 = BitVec.ofNat 32 n
  apply BitVec.eq_of_toNat_eq
  rw [BitVec.signExtend_eq_setWidth_of_le _ (by decide), BitVec.toNat_setWidth, BitVec.toNat_ofNat, BitVec.toNat_ofNat]
  omega
set_option maxHeartbeats 4000000 in
set_option maxRecDepth 100000 in
theorem j_bitCount {G : am_G} {d : Nat} {I : am_I} {J : am_J} {K : Int32 → am_I → am_J → Prop} {x : Nat} (hx : x < 2 ^ 36) (hK : K (nI (bcN x)) I J) : CMi G d yJ13_bitCount_95d88 [.long (lN x)] I J K := by
  refine CM.of (L0 := [_, _]) cJ13_bitCount_95d88 2 (some .int) (by decide) (by decide) kcJ13_bitCount_95d88 (Nat.le_of_ble_eq_true rfl) rfl ?_
  have b1 : bc1 x ≤ x := Nat.sub_le _ _
  have b2 : bc2 (bc1 x) ≤ 2 ^ 37 := by
    have h1 := and_le_l (bc1 x) 3689348814741910323
    have h2 := and_le_l (bc1 x / 2 ^ 2) 3689348814741910323
    unfold bc2
    omega
  have b3 : bc3 (bc2 (bc1 x)) ≤ 2 ^ 38 := by
    have h1 := and_le_l (bc2 (bc1 x) + bc2 (bc1 x) / 2 ^ 4) 1085102592571150095
    unfold bc3
    omega
  have b4 : bc4 (bc3 (bc2 (bc1 x))) ≤ 2 ^ 39 := by unfold bc4; omega
  have b5 : bc5 (bc4 (bc3 (bc2 (bc1 x)))) ≤ 2 ^ 40 := by unfold bc5; omega
  have h5 : (x / 2 ^ 1) &&& 6148914691236517205 ≤ x := by have := and_le_l (x / 2 ^ 1) 6148914691236517205; omega
  refine a_lload_n dJ13_bitCount_95d88_0 rfl ?_
  refine a_lload_n dJ13_bitCount_95d88_1 rfl ?_
  refine a_iconst (v := nI 1) dJ13_bitCount_95d88_2 (by decide) ?_
  refine a_lushr dJ13_bitCount_95d88_3 (lx_ushr (by decide) (by omega)) ?_
  refine a_ldc2 dJ13_bitCount_95d88_4 kk_J13_314 (show (6148914691236517205 : Int64) = lN 6148914691236517205 from rfl) ?_
  refine a_land dJ13_bitCount_95d88_7 (lx_and _ _) ?_
  refine a_lsub dJ13_bitCount_95d88_8 (show _ = lN (bc1 x) from lN_sub h5) ?_
  refine a_lstore_n (L' := [_, _]) dJ13_bitCount_95d88_9 (Nat.le_of_ble_eq_true rfl) rfl ?_
  refine a_lload_n dJ13_bitCount_95d88_10 rfl ?_
  refine a_ldc2 dJ13_bitCount_95d88_11 kk_J13_316 (show (3689348814741910323 : Int64) = lN 3689348814741910323 from rfl) ?_
  refine a_land dJ13_bitCount_95d88_14 (lx_and _ _) ?_
  refine a_lload_n dJ13_bitCount_95d88_15 rfl ?_
  refine a_iconst (v := nI 2) dJ13_bitCount_95d88_16 (by decide) ?_
  refine a_lushr dJ13_bitCount_95d88_17 (lx_ushr (by decide) (by omega)) ?_
  refine a_ldc2 dJ13_bitCount_95d88_18 kk_J13_316 (show (3689348814741910323 : Int64) = lN 3689348814741910323 from rfl) ?_
  refine a_land dJ13_bitCount_95d88_21 (lx_and _ _) ?_
  refine a_ladd dJ13_bitCount_95d88_22 (show _ = lN (bc2 (bc1 x)) from lN_add _ _) ?_
  refine a_lstore_n (L' := [_, _]) dJ13_bitCount_95d88_23 (Nat.le_of_ble_eq_true rfl) rfl ?_
  refine a_lload_n dJ13_bitCount_95d88_24 rfl ?_
  refine a_lload_n dJ13_bitCount_95d88_25 rfl ?_
  refine a_iconst (v := nI 4) dJ13_bitCount_95d88_26 (by decide) ?_
  refine a_lushr dJ13_bitCount_95d88_27 (lx_ushr (by decide) (by omega)) ?_
  refine a_ladd dJ13_bitCount_95d88_28 (lN_add _ _) ?_
  refine a_ldc2 dJ13_bitCount_95d88_29 kk_J13_318 (show (1085102592571150095 : Int64) = lN 1085102592571150095 from rfl) ?_
  refine a_land dJ13_bitCount_95d88_32 (show _ = lN (bc3 (bc2 (bc1 x))) from lx_and _ _) ?_
  refine a_lstore_n (L' := [_, _]) dJ13_bitCount_95d88_33 (Nat.le_of_ble_eq_true rfl) rfl ?_
  refine a_lload_n dJ13_bitCount_95d88_34 rfl ?_
  refine a_lload_n dJ13_bitCount_95d88_35 rfl ?_
  refine a_bipush (v := nI 8) dJ13_bitCount_95d88_36 (by decide) ?_
  refine a_lushr dJ13_bitCount_95d88_38 (lx_ushr (by decide) (by omega)) ?_
  refine a_ladd dJ13_bitCount_95d88_39 (show _ = lN (bc4 (bc3 (bc2 (bc1 x)))) from lN_add _ _) ?_
  refine a_lstore_n (L' := [_, _]) dJ13_bitCount_95d88_40 (Nat.le_of_ble_eq_true rfl) rfl ?_
  refine a_lload_n dJ13_bitCount_95d88_41 rfl ?_
  refine a_lload_n dJ13_bitCount_95d88_42 rfl ?_
  refine a_bipush (v := nI 16) dJ13_bitCount_95d88_43 (by decide) ?_
  refine a_lushr dJ13_bitCount_95d88_45 (lx_ushr (by decide) (by omega)) ?_
  refine a_ladd dJ13_bitCount_95d88_46 (show _ = lN (bc5 (bc4 (bc3 (bc2 (bc1 x))))) from lN_add _ _) ?_
  refine a_lstore_n (L' := [_, _]) dJ13_bitCount_95d88_47 (Nat.le_of_ble_eq_true rfl) rfl ?_
  refine a_lload_n dJ13_bitCount_95d88_48 rfl ?_
  refine a_lload_n dJ13_bitCount_95d88_49 rfl ?_
  refine a_bipush (v := nI 32) dJ13_bitCount_95d88_50 (by decide) ?_
  refine a_lushr dJ13_bitCount_95d88_52 (lx_ushr (by decide) (by omega)) ?_
  refine a_ladd dJ13_bitCount_95d88_53 (show _ = lN (bc6 (bc5 (bc4 (bc3 (bc2 (bc1 x)))))) from lN_add _ _) ?_
  refine a_lstore_n (L' := [_, _]) dJ13_bitCount_95d88_54 (Nat.le_of_ble_eq_true rfl) rfl ?_
  refine a_lload_n dJ13_bitCount_95d88_55 rfl ?_
  refine a_l2i dJ13_bitCount_95d88_56 (l2i_lN _) ?_
  refine a_bipush (v := nI 127) dJ13_bitCount_95d88_57 (by decide) ?_
  refine a_iand dJ13_bitCount_95d88_59 (show _ = nI (bcN x) by rw [bx_and]; unfold bcN; rw [show (127 : Nat) = 2 ^ 7 - 1 from rfl, Nat.and_two_pow_sub_one_eq_mod]) ?_
  exact a_ireturn dJ13_bitCount_95d88_60 ⟨_, rfl, hK⟩

