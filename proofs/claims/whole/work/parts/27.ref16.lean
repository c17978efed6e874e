/-! ===== the reference: copy, count, digest ===== -/
set_option maxHeartbeats 4000000 in
set_option maxRecDepth 100000 in
theorem c_tc0 {G : am_G} {d : Nat} {I : am_I} {J : am_J} {K : Int32 → am_I → am_J → Prop} (hK : K (I 63 3) I J) : CMi G d yX12_tellsCount [.ref 63, .int (nI 0)] I J K := by
  refine CM.of (L0 := [_, _, _, _, _, _]) cX12_tellsCount 6 (some .int) (by decide) (by decide) kcX12_tellsCount (Nat.le_of_ble_eq_true rfl) rfl ?_
  refine a_iload_n dX12_tellsCount_0 rfl ?_
  refine a_iconst (v := nI 2) dX12_tellsCount_1 (by decide) ?_
  refine a_icmp_ge (tgt := 21) dX12_tellsCount_2 (by decide) (fun h2 => ?_) (fun h2 => ?_)
  · exact absurd h2 (by decide)
  · refine a_iload_n dX12_tellsCount_5 rfl ?_
    refine a_if_ne (tgt := 16) dX12_tellsCount_6 (by decide) (fun h6 => ?_) (fun h6 => ?_)
    · exact absurd rfl h6
    · refine a_aload_n dX12_tellsCount_9 rfl ?_
      refine a_geti dX12_tellsCount_10 kf_X12_13 ⟨by decide, _, rfl, rfl⟩ rfl ?_
      refine a_goto (tgt := 20) dX12_tellsCount_13 (by decide) ?_
      exact a_ireturn dX12_tellsCount_20 ⟨_, rfl, hK⟩

set_option maxHeartbeats 4000000 in
set_option maxRecDepth 100000 in
theorem c_tc1 {G : am_G} {d : Nat} {I : am_I} {J : am_J} {K : Int32 → am_I → am_J → Prop} (hK : K (I 63 4) I J) : CMi G d yX12_tellsCount [.ref 63, .int (nI 1)] I J K := by
  refine CM.of (L0 := [_, _, _, _, _, _]) cX12_tellsCount 6 (some .int) (by decide) (by decide) kcX12_tellsCount (Nat.le_of_ble_eq_true rfl) rfl ?_
  refine a_iload_n dX12_tellsCount_0 rfl ?_
  refine a_iconst (v := nI 2) dX12_tellsCount_1 (by decide) ?_
  refine a_icmp_ge (tgt := 21) dX12_tellsCount_2 (by decide) (fun h2 => ?_) (fun h2 => ?_)
  · exact absurd h2 (by decide)
  · refine a_iload_n dX12_tellsCount_5 rfl ?_
    refine a_if_ne (tgt := 16) dX12_tellsCount_6 (by decide) (fun h6 => ?_) (fun h6 => ?_)
    · refine a_aload_n dX12_tellsCount_16 rfl ?_
      refine a_geti dX12_tellsCount_17 kf_X12_115 ⟨by decide, _, rfl, rfl⟩ rfl ?_
      exact a_ireturn dX12_tellsCount_20 ⟨_, rfl, hK⟩
    · exact absurd h6 (by decide)

set_option maxHeartbeats 4000000 in
set_option maxRecDepth 100000 in
theorem lp_tc2 {G : am_G} {d : Nat} {I0 : am_I} {J : am_J} {Ex : am_Ex} {n : Nat} (hn : I0 63 4 = nI n) (hn12 : n ≤ 12) (kx : AW G cX12_tellsCount 6 RX12 d Ex 63 [some (.ref 63), some (.int (nI 2)), some (.int (nI (cN (tlI I0) n))), some (.int (nI n)), none, none] [] I0 J) : ∀ i, i ≤ n → AW G cX12_tellsCount 6 RX12 d Ex 25 [some (.ref 63), some (.int (nI 2)), some (.int (nI (cN (tlI I0) i))), some (.int (nI i)), none, none] [] I0 J := by
  refine am_dn n (fun i hi ih => ?_)
  refine a_iload_n dX12_tellsCount_25 rfl ?_
  refine a_aload_n dX12_tellsCount_26 rfl ?_
  refine a_geti dX12_tellsCount_27 kf_X12_115 ⟨by decide, _, rfl, rfl⟩ hn ?_
  refine a_icmp_geN (tgt := 63) dX12_tellsCount_30 (by decide) (by omega) (by omega) (fun h => ?_) (fun h => ?_)
  · obtain rfl : i = n := by omega
    exact kx
  · refine a_iload_n dX12_tellsCount_33 rfl ?_
    refine a_iconst (v := nI 2) dX12_tellsCount_34 (by decide) ?_
    refine a_icmp_ne (tgt := 63) dX12_tellsCount_35 (by decide) (fun h35 => ?_) (fun h35 => ?_)
    · exact absurd rfl h35
    · refine a_iload_n dX12_tellsCount_38 rfl ?_
      refine a_aload_n dX12_tellsCount_39 rfl ?_
      refine a_getr dX12_tellsCount_40 kf_X12_33 ⟨by decide, _, rfl, rfl⟩ ?_
      refine a_iload_n dX12_tellsCount_43 rfl ?_
      refine a_iald dX12_tellsCount_44 ⟨by decide, rfl⟩ (by omega) rfl ?_
      refine a_bipush (v := (-9)) dX12_tellsCount_45 (by decide) ?_
      refine a_ticmp_eq (tgt := 54) (pj := 55) (a := (nI 0)) (b := (nI 1)) dX12_tellsCount_47 (by decide) (fun kj => ?_) (fun kj => ?_) ?_
      · refine a_iconst (v := nI 0) dX12_tellsCount_54 (by decide) ?_
        exact kj
      · refine a_iconst (v := nI 1) dX12_tellsCount_50 (by decide) ?_
        refine a_goto (tgt := 55) dX12_tellsCount_51 (by decide) ?_
        exact kj
      refine a_iadd dX12_tellsCount_55 (show _ = nI (cN (tlI I0) (i + 1)) by rw [cN_s]; unfold tlI; by_cases e : I0 70 i = -9 <;> simp [e, nI_add, nI_0]) ?_
      refine a_istore_n (L' := [_, _, _, _, _, _]) dX12_tellsCount_56 (Nat.le_of_ble_eq_true rfl) rfl ?_
      refine a_iinc (L' := [_, _, _, _, _, _]) dX12_tellsCount_57 rfl (nI_inc _) rfl ?_
      refine a_goto (tgt := 25) dX12_tellsCount_60 (by decide) ?_
      exact ih (i + 1) (by omega) (by omega)

set_option maxHeartbeats 4000000 in
set_option maxRecDepth 100000 in
theorem c_tc2 {G : am_G} {d : Nat} {I : am_I} {J : am_J} {K : Int32 → am_I → am_J → Prop} {N n : Nat} {F T : Nat → Nat} {S : Nat → Bool} (hR : rwR I (-9) N n F T S) (hK : ∀ I1, frR I1 I → K (nI (cN (tlI I) n)) I1 J) : CMi G (d + 2) yX12_tellsCount [.ref 63, .int (nI 2)] I J K := by
  refine CM.of (L0 := [_, _, _, _, _, _]) cX12_tellsCount 6 (some .int) (by decide) (by decide) kcX12_tellsCount (Nat.le_of_ble_eq_true rfl) rfl ?_
  have hR' := hR
  obtain ⟨hN, hN2, hb, hn, hn12, r6, r7⟩ := hR'
  refine a_iload_n dX12_tellsCount_0 rfl ?_
  refine a_iconst (v := nI 2) dX12_tellsCount_1 (by decide) ?_
  refine a_icmp_ge (tgt := 21) dX12_tellsCount_2 (by decide) (fun h2 => ?_) (fun h2 => ?_)
  · refine a_iconst (v := nI 0) dX12_tellsCount_21 (by decide) ?_
    refine a_istore_n (L' := [_, _, _, _, _, _]) dX12_tellsCount_22 (Nat.le_of_ble_eq_true rfl) rfl ?_
    refine a_iconst (v := nI 0) dX12_tellsCount_23 (by decide) ?_
    refine a_istore_n (L' := [_, _, _, _, _, _]) dX12_tellsCount_24 (Nat.le_of_ble_eq_true rfl) rfl ?_
    refine lp_tc2 hn hn12 ?_ 0 (by omega)
    refine a_aload_n dX12_tellsCount_63 rfl ?_
    refine a_bipush (v := (-9)) dX12_tellsCount_64 (by decide) ?_
    refine a_callVv (As := [_]) dX12_tellsCount_66 km_X12_148 ⟨by decide, _, _, _, rfl, rfl⟩ rfl rfl (Nat.le_of_ble_eq_true rfl) ?_
    refine c_setRoutes hR (fun I1 hM => ?_)
    have hN1 : I1 63 3 = nI N := by rw [hM.1 63 3 (by decide) (by decide) (by decide)]; exact hN
    refine a_iconst (v := nI 0) dX12_tellsCount_69 (by decide) ?_
    refine a_istore_n (L' := [_, _, _, _, _, _]) dX12_tellsCount_70 (Nat.le_of_ble_eq_true rfl) rfl ?_
    refine a_iload_n dX12_tellsCount_71 rfl ?_
    refine a_aload_n dX12_tellsCount_72 rfl ?_
    refine a_geti dX12_tellsCount_73 kf_X12_13 ⟨by decide, _, rfl, rfl⟩ hN1 ?_
    refine a_icmp_geN (tgt := 172) dX12_tellsCount_76 (by decide) (by omega) (by omega) (fun h76 => ?_) (fun h76 => ?_)
    · exact absurd h76 (by omega)
    · refine a_iload_n dX12_tellsCount_79 rfl ?_
      refine a_iconst (v := nI 2) dX12_tellsCount_80 (by decide) ?_
      refine a_icmp_le (tgt := 172) dX12_tellsCount_81 (by decide) (fun h81 => ?_) (fun h81 => ?_)
      · refine a_iload_n dX12_tellsCount_172 rfl ?_
        exact a_ireturn dX12_tellsCount_173 ⟨_, rfl, (hK I1 hM.1)⟩
      · exact absurd (show nI 2 ≤ nI 2 by decide) h81
  · exact absurd (show nI 2 ≤ nI 2 by decide) h2

/-- how many PAIRS: a below a0, and of a0 those below b -/
def cA (q : Nat → Nat → Bool) (N : Nat) : Nat → Nat
  | 0 => 0
  | a + 1 => cA q N a + cN (q a) N
def q34 (w N : Nat) (me : Nat → Int32) (rb : Nat → Option Nat) (a b : Nat) : Bool := !(a == b) && (if w = 3 then decide (me (N * a + b) ≠ -9) else (rb (N * a + b)).isNone)
theorem cA_le (q : Nat → Nat → Bool) (N : Nat) : ∀ a, cA q N a ≤ a * N
  | 0 => by simp [cA]
  | a + 1 => by
    have h1 := cA_le q N a
    have h2 := cN_le (q a) N
    rw [cA, Nat.succ_mul]; omega
set_option maxHeartbeats 4000000 in
set_option maxRecDepth 100000 in
theorem lp_tc5 {G : am_G} {d : Nat} {I0 : am_I} {J : am_J} {N w : Nat} {rb : Nat → Option Nat} (hw : w = 3 ∨ w = 4) (hN : I0 63 3 = nI N) (hN6 : N ≤ 6) (hr : ∀ p, p < N * N → I0 75 p = fxI (rb p) ∧ ∀ q, rb p = some q → q < 2 ^ 12) {Ex : am_Ex} {a : Nat} (ha : a < N) (kx : ∀ v5, AW G cX12_tellsCount 6 RX12 d Ex 166 [some (.ref 63), some (.int (nI w)), some (.int (nI (cA (q34 w N (I0 72) rb) N a + cN ((q34 w N (I0 72) rb) a) N))), some (.int (nI a)), some (.int (nI N)), v5] [] I0 J) : ∀ b, b ≤ N → ∀ v5, AW G cX12_tellsCount 6 RX12 d Ex 87 [some (.ref 63), some (.int (nI w)), some (.int (nI (cA (q34 w N (I0 72) rb) N a + cN ((q34 w N (I0 72) rb) a) b))), some (.int (nI a)), some (.int (nI b)), v5] [] I0 J := by
  refine am_dn N (fun b hb ih => ?_)
  intro v5
  refine a_iload dX12_tellsCount_87 rfl ?_
  refine a_aload_n dX12_tellsCount_89 rfl ?_
  refine a_geti dX12_tellsCount_90 kf_X12_13 ⟨by decide, _, rfl, rfl⟩ hN ?_
  refine a_icmp_geN (tgt := 166) dX12_tellsCount_93 (by decide) (by omega) (by omega) (fun h => ?_) (fun h => ?_)
  · obtain rfl : b = N := by omega
    exact kx _
  · have hix := ix_lt hN6 ha h
    obtain ⟨r1, r2⟩ := hr (N * a + b) (ix_lt2 ha h)
    refine a_aload_n dX12_tellsCount_96 rfl ?_
    refine a_geti dX12_tellsCount_97 kf_X12_13 ⟨by decide, _, rfl, rfl⟩ hN ?_
    refine a_iload_n dX12_tellsCount_100 rfl ?_
    refine a_imul dX12_tellsCount_101 (by first | exact pk_mul _ _ | rfl) ?_
    refine a_iload dX12_tellsCount_102 rfl ?_
    refine a_iadd dX12_tellsCount_104 (by first | exact nI_add _ _ | rfl) ?_
    refine a_istore (L' := [_, _, _, _, _, _]) dX12_tellsCount_105 (Nat.le_of_ble_eq_true rfl) rfl ?_
    refine a_iload_n dX12_tellsCount_107 rfl ?_
    refine a_join 158 [.int (if (q34 w N (I0 72) rb) a b = true then nI 1 else nI 0), .int (nI (cA (q34 w N (I0 72) rb) N a + cN ((q34 w N (I0 72) rb) a) b))] ?_ (fun kj => ?_)
    · refine a_iadd dX12_tellsCount_158 (show _ = nI (cA (q34 w N (I0 72) rb) N a + cN ((q34 w N (I0 72) rb) a) (b + 1)) by rw [cN_s, ← Nat.add_assoc, ← nI_add (cA (q34 w N (I0 72) rb) N a + cN ((q34 w N (I0 72) rb) a) b)]; by_cases e : (q34 w N (I0 72) rb) a b = true <;> simp [e, nI_0]) ?_
      refine a_istore_n (L' := [_, _, _, _, _, _]) dX12_tellsCount_159 (Nat.le_of_ble_eq_true rfl) rfl ?_
      refine a_iinc (L' := [_, _, _, _, _, _]) dX12_tellsCount_160 rfl (nI_inc _) rfl ?_
      refine a_goto (tgt := 87) dX12_tellsCount_163 (by decide) ?_
      exact ih (b + 1) (by omega) (by omega) _
    · refine a_iload_n dX12_tellsCount_108 rfl ?_
      refine a_iload dX12_tellsCount_109 rfl ?_
      refine a_icmp_neN (tgt := 118) dX12_tellsCount_111 (by decide) (by omega) (by omega) (fun h111 => ?_) (fun h111 => ?_)
      · refine a_iload_n dX12_tellsCount_118 rfl ?_
        refine a_iconst (v := nI 3) dX12_tellsCount_119 (by decide) ?_
        refine a_icmp_neN (tgt := 143) dX12_tellsCount_120 (by decide) (by omega) (by omega) (fun h120 => ?_) (fun h120 => ?_)
        · have hw4 : w = 4 := by omega
          refine a_aload_n dX12_tellsCount_143 rfl ?_
          refine a_getr dX12_tellsCount_144 kf_X12_48 ⟨by decide, _, rfl, rfl⟩ ?_
          refine a_iload dX12_tellsCount_147 rfl ?_
          refine a_iald dX12_tellsCount_149 ⟨by decide, rfl⟩ hix r1 ?_
          refine a_if_ge (tgt := 157) dX12_tellsCount_150 (by decide) (fun h150 => ?_) (fun h150 => ?_)
          · obtain ⟨q, hrb⟩ : ∃ q, rb (N * a + b) = some q := by
              cases hrb : rb (N * a + b) with
              | none => rw [hrb] at h150; exact absurd h150 (by decide)
              | some r => exact ⟨r, rfl⟩
            refine a_iconst (v := nI 0) dX12_tellsCount_157 (by decide) ?_
            exact a_topi (by simp [q34, hw4, hrb]) kj
          · have hrb : rb (N * a + b) = none := by cases hrb : rb (N * a + b) with
              | none => rfl
              | some q => rw [hrb] at h150; exact absurd (nI_pos' (by have := r2 q hrb; omega)) h150
            refine a_iconst (v := nI 1) dX12_tellsCount_153 (by decide) ?_
            refine a_goto (tgt := 158) dX12_tellsCount_154 (by decide) ?_
            exact a_topi (by simp [q34, h111, hw4, hrb]) kj
        · refine a_aload_n dX12_tellsCount_123 rfl ?_
          refine a_getr dX12_tellsCount_124 kf_X12_39 ⟨by decide, _, rfl, rfl⟩ ?_
          refine a_iload dX12_tellsCount_127 rfl ?_
          refine a_iald dX12_tellsCount_129 ⟨by decide, rfl⟩ hix rfl ?_
          refine a_bipush (v := (-9)) dX12_tellsCount_130 (by decide) ?_
          refine a_icmp_eq (tgt := 139) dX12_tellsCount_132 (by decide) (fun h132 => ?_) (fun h132 => ?_)
          · refine a_iconst (v := nI 0) dX12_tellsCount_139 (by decide) ?_
            refine a_goto (tgt := 158) dX12_tellsCount_140 (by decide) ?_
            exact a_topi (by simp [q34, h111, h120, h132]) kj
          · refine a_iconst (v := nI 1) dX12_tellsCount_135 (by decide) ?_
            refine a_goto (tgt := 158) dX12_tellsCount_136 (by decide) ?_
            exact a_topi (by simp [q34, h111, h120, h132]) kj
      · refine a_iconst (v := nI 0) dX12_tellsCount_114 (by decide) ?_
        refine a_goto (tgt := 158) dX12_tellsCount_115 (by decide) ?_
        exact a_topi (by simp [q34, h111]) kj

set_option maxHeartbeats 4000000 in
set_option maxRecDepth 100000 in
theorem lp_tc4 {G : am_G} {d : Nat} {I0 : am_I} {J : am_J} {K : Int32 → am_I → am_J → Prop} {N w : Nat} {rb : Nat → Option Nat} (hw : w = 3 ∨ w = 4) (hN : I0 63 3 = nI N) (hN6 : N ≤ 6) (hr : ∀ p, p < N * N → I0 75 p = fxI (rb p) ∧ ∀ q, rb p = some q → q < 2 ^ 12) (hK : K (nI (cA (q34 w N (I0 72) rb) N N)) I0 J) : ∀ a, a ≤ N → ∀ v4 v5, AW G cX12_tellsCount 6 RX12 d (am_ex G (some .int) (fun r I J => ∃ x, r = some (.int x) ∧ K x I J)) 71 [some (.ref 63), some (.int (nI w)), some (.int (nI (cA (q34 w N (I0 72) rb) N a))), some (.int (nI a)), v4, v5] [] I0 J := by
  refine am_dn N (fun a ha ih => ?_)
  intro v4 v5
  refine a_iload_n dX12_tellsCount_71 rfl ?_
  refine a_aload_n dX12_tellsCount_72 rfl ?_
  refine a_geti dX12_tellsCount_73 kf_X12_13 ⟨by decide, _, rfl, rfl⟩ hN ?_
  refine a_icmp_geN (tgt := 172) dX12_tellsCount_76 (by decide) (by omega) (by omega) (fun h => ?_) (fun h => ?_)
  · obtain rfl : a = N := by omega
    refine a_iload_n dX12_tellsCount_172 rfl ?_
    exact a_ireturn dX12_tellsCount_173 ⟨_, rfl, hK⟩
  · refine a_iload_n dX12_tellsCount_79 rfl ?_
    refine a_iconst (v := nI 2) dX12_tellsCount_80 (by decide) ?_
    refine a_icmp_leN (tgt := 172) dX12_tellsCount_81 (by decide) (by omega) (by omega) (fun h81 => ?_) (fun h81 => ?_)
    · exact absurd h81 (by omega)
    · refine a_iconst (v := nI 0) dX12_tellsCount_84 (by decide) ?_
      refine a_istore (L' := [_, _, _, _, _, _]) dX12_tellsCount_85 (Nat.le_of_ble_eq_true rfl) rfl ?_
      refine lp_tc5 hw hN hN6 hr h (fun v5 => ?_) 0 (by omega) _
      refine a_iinc (L' := [_, _, _, _, _, _]) dX12_tellsCount_166 rfl (nI_inc _) rfl ?_
      refine a_goto (tgt := 71) dX12_tellsCount_169 (by decide) ?_
      exact ih (a + 1) (by omega) (by omega) _ _

set_option maxHeartbeats 4000000 in
set_option maxRecDepth 100000 in
theorem c_tc34 {G : am_G} {d : Nat} {I : am_I} {J : am_J} {K : Int32 → am_I → am_J → Prop} {N n : Nat} {F T : Nat → Nat} {S : Nat → Bool} {w : Nat} (hw : w = 3 ∨ w = 4) (hR : rwR I (-9) N n F T S) (hK : ∀ I1, frR I1 I → K (nI (cA (q34 w N (I 72) (rbO F T S n N)) N N)) I1 J) : CMi G (d + 2) yX12_tellsCount [.ref 63, .int (nI w)] I J K := by
  refine CM.of (L0 := [_, _, _, _, _, _]) cX12_tellsCount 6 (some .int) (by decide) (by decide) kcX12_tellsCount (Nat.le_of_ble_eq_true rfl) rfl ?_
  have hR' := hR
  obtain ⟨hN, hN2, hb, hn, hn12, r6, r7⟩ := hR'
  refine a_iload_n dX12_tellsCount_0 rfl ?_
  refine a_iconst (v := nI 2) dX12_tellsCount_1 (by decide) ?_
  refine a_icmp_geN (tgt := 21) dX12_tellsCount_2 (by decide) (by omega) (by omega) (fun h2 => ?_) (fun h2 => ?_)
  · refine a_iconst (v := nI 0) dX12_tellsCount_21 (by decide) ?_
    refine a_istore_n (L' := [_, _, _, _, _, _]) dX12_tellsCount_22 (Nat.le_of_ble_eq_true rfl) rfl ?_
    refine a_iconst (v := nI 0) dX12_tellsCount_23 (by decide) ?_
    refine a_istore_n (L' := [_, _, _, _, _, _]) dX12_tellsCount_24 (Nat.le_of_ble_eq_true rfl) rfl ?_
    refine a_iload_n dX12_tellsCount_25 rfl ?_
    refine a_aload_n dX12_tellsCount_26 rfl ?_
    refine a_geti dX12_tellsCount_27 kf_X12_115 ⟨by decide, _, rfl, rfl⟩ hn ?_
    refine a_icmp_geN (tgt := 63) dX12_tellsCount_30 (by decide) (by omega) (by omega) (fun h30 => ?_) (fun h30 => ?_)
    · refine a_aload_n dX12_tellsCount_63 rfl ?_
      refine a_bipush (v := (-9)) dX12_tellsCount_64 (by decide) ?_
      refine a_callVv (As := [_]) dX12_tellsCount_66 km_X12_148 ⟨by decide, _, _, _, rfl, rfl⟩ rfl rfl (Nat.le_of_ble_eq_true rfl) ?_
      refine c_setRoutes hR (fun I1 hM => ?_)
      have hN1 : I1 63 3 = nI N := by rw [hM.1 63 3 (by decide) (by decide) (by decide)]; exact hN
      refine a_iconst (v := nI 0) dX12_tellsCount_69 (by decide) ?_
      refine a_istore_n (L' := [_, _, _, _, _, _]) dX12_tellsCount_70 (Nat.le_of_ble_eq_true rfl) rfl ?_
      have e72 : I1 72 = I 72 := frR_row hM.1 (by decide) (by decide) (by decide)
      exact lp_tc4 (d := d + 1 + 1) hw hN1 hb (rb75 hR hM) (by rw [e72]; exact hK I1 hM.1) 0 (by omega) _ _
    · refine a_iload_n dX12_tellsCount_33 rfl ?_
      refine a_iconst (v := nI 2) dX12_tellsCount_34 (by decide) ?_
      refine a_icmp_neN (tgt := 63) dX12_tellsCount_35 (by decide) (by omega) (by omega) (fun h35 => ?_) (fun h35 => ?_)
      · refine a_aload_n dX12_tellsCount_63 rfl ?_
        refine a_bipush (v := (-9)) dX12_tellsCount_64 (by decide) ?_
        refine a_callVv (As := [_]) dX12_tellsCount_66 km_X12_148 ⟨by decide, _, _, _, rfl, rfl⟩ rfl rfl (Nat.le_of_ble_eq_true rfl) ?_
        refine c_setRoutes hR (fun I1 hM => ?_)
        have hN1 : I1 63 3 = nI N := by rw [hM.1 63 3 (by decide) (by decide) (by decide)]; exact hN
        refine a_iconst (v := nI 0) dX12_tellsCount_69 (by decide) ?_
        refine a_istore_n (L' := [_, _, _, _, _, _]) dX12_tellsCount_70 (Nat.le_of_ble_eq_true rfl) rfl ?_
        have e72 : I1 72 = I 72 := frR_row hM.1 (by decide) (by decide) (by decide)
        exact lp_tc4 (d := d + 1 + 1) hw hN1 hb (rb75 hR hM) (by rw [e72]; exact hK I1 hM.1) 0 (by omega) _ _
      · exact absurd h35 (by omega)
  · exact absurd h2 (by omega)

/-- what tellsCount(w) answers -/
def tcR (I : am_I) (N n : Nat) (rb : Nat → Option Nat) (w : Nat) : Int32 := if w = 0 then nI N else if w = 1 then nI n else if w = 2 then nI (cN (tlI I) n) else nI (cA (q34 w N (I 72) rb) N N)
theorem c_tc {G : am_G} {d : Nat} {I : am_I} {J : am_J} {K : Int32 → am_I → am_J → Prop} {N n : Nat} {F T : Nat → Nat} {S : Nat → Bool} {w : Nat} (hw : w ≤ 4) (hR : rwR I (-9) N n F T S) (hK : ∀ I1, frR I1 I → K (tcR I N n (rbO F T S n N) w) I1 J) : CMi G (d + 2) yX12_tellsCount [.ref 63, .int (nI w)] I J K := by
  rcases (show w = 0 ∨ w = 1 ∨ w = 2 ∨ w = 3 ∨ w = 4 by omega) with rfl | rfl | rfl | rfl | rfl
  · refine c_tc0 ?_
    rw [hR.1]
    exact hK I (fun _ _ _ _ _ => rfl)
  · refine c_tc1 ?_
    rw [hR.2.2.2.1]
    exact hK I (fun _ _ _ _ _ => rfl)
  · exact c_tc2 hR hK
  · exact c_tc34 (Or.inl rfl) hR hK
  · exact c_tc34 (Or.inr rfl) hR hK
set_option maxHeartbeats 4000000 in
set_option maxRecDepth 100000 in
theorem c_count {G : am_G} {d : Nat} {I : am_I} {J : am_J} {K : Int32 → am_I → am_J → Prop} {N n : Nat} {F T : Nat → Nat} {S : Nat → Bool} {x : Int32} (hR : rwR I (-9) N n F T S) (h1 : ∀ w, w ≤ 4 → x = nI w → ∀ I1, frR I1 I → K (tcR I N n (rbO F T S n N) w) I1 J) (h0 : ¬ (nI 0 ≤ x ∧ x ≤ nI 4) → K (-1) I J) : CMi G (d + 3) yX12_count [.ref 63, .int x] I J K := by
  refine CM.of (L0 := [_, _]) cX12_count 2 (some .int) (by decide) (by decide) kcX12_count (Nat.le_of_ble_eq_true rfl) rfl ?_
  refine a_iload_n dX12_count_0 rfl ?_
  refine a_iconst (v := nI 0) dX12_count_1 (by decide) ?_
  refine a_iconst (v := nI 4) dX12_count_2 (by decide) ?_
  refine a_callSi (As := [_, _, _]) dX12_count_3 km_X12_122 rfl rfl (Nat.le_of_ble_eq_true rfl) ?_
  refine c_in (fun e1 e2 => ?_) (fun e1 => ?_)
  · obtain ⟨w, hw, rfl⟩ := (rg_iff1 (n := 4) (by decide)).mp ⟨e1, e2⟩
    refine a_if_eq (tgt := 17) dX12_count_6 (by decide) (fun h6 => ?_) (fun h6 => ?_)
    · exact absurd h6 (by decide)
    · refine a_aload_n dX12_count_9 rfl ?_
      refine a_iload_n dX12_count_10 rfl ?_
      refine a_callVi (As := [_]) dX12_count_11 km_X12_239 ⟨by decide, _, _, _, rfl, rfl⟩ rfl rfl (Nat.le_of_ble_eq_true rfl) ?_
      refine c_tc hw hR (fun I1 hf => ?_)
      refine a_goto (tgt := 18) dX12_count_14 (by decide) ?_
      exact a_ireturn dX12_count_18 ⟨_, rfl, (h1 w hw rfl I1 hf)⟩
  · refine a_if_eq (tgt := 17) dX12_count_6 (by decide) (fun h6 => ?_) (fun h6 => ?_)
    · refine a_iconst (v := (-1)) dX12_count_17 (by decide) ?_
      exact a_ireturn dX12_count_18 ⟨_, rfl, (h0 e1)⟩
    · exact absurd h6 (by decide)

theorem cmp_gt {a b : Nat} (ha : a < 2 ^ 62) (hb : b < 2 ^ 62) : 0 < lg_cmp (lN a) (lN b) ↔ b < a := by
  unfold lg_cmp
  have e1 : lN a > lN b ↔ b < a := pk_lLT (by omega) (by omega)
  have e2 : lN a = lN b ↔ a = b := pk_lEQ (by omega) (by omega)
  by_cases h : b < a
  · rw [if_pos (e1.mpr h)]
    exact ⟨fun _ => h, fun _ => by decide⟩
  · rw [if_neg (mt e1.mp h)]
    by_cases h2 : a = b
    · rw [if_pos (e2.mpr h2)]
      exact ⟨fun q => absurd q (by decide), fun q => absurd q h⟩
    · rw [if_neg (mt e2.mp h2)]
      exact ⟨fun q => absurd q (by decide), fun q => absurd q h⟩
def mMv (I : am_I) (s i k : Nat) : am_I := fun a b => if a = 93 ∧ b < k then I 92 (24 * s + i + b) else I a b
theorem mMv_s (I : am_I) (s i k : Nat) : am_up (mMv I s i k) 93 k (I 92 (24 * s + i + k)) = mMv I s i (k + 1) := by
  funext a b
  simp only [am_up, mMv]
  by_cases h1 : a = 93
  · subst h1
    by_cases h2 : b = k
    · subst h2
      simp
    · by_cases h3 : b < k
      · simp [h2, h3, show b < k + 1 by omega]
      · simp [h2, h3, show ¬ b < k + 1 by omega]
  · simp [h1]
def mCo (I : am_I) (t j k : Nat) : am_I := fun a b => if a = 92 ∧ 24 * t + j ≤ b ∧ b < 24 * t + j + k then I 93 (b - (24 * t + j)) else I a b
theorem mCo_s (I : am_I) (t j k : Nat) : am_up (mCo I t j k) 92 (24 * t + j + k) (I 93 k) = mCo I t j (k + 1) := by
  funext a b
  simp only [am_up, mCo]
  by_cases h1 : a = 92
  · subst h1
    by_cases h2 : b = 24 * t + j + k
    · subst h2
      simp
    · by_cases h3 : 24 * t + j ≤ b ∧ b < 24 * t + j + k
      · simp [h2, h3, show b < 24 * t + j + (k + 1) by omega]
      · simp [h2, h3, show ¬ (24 * t + j ≤ b ∧ b < 24 * t + j + (k + 1)) by omega]
  · simp [h1]
set_option maxHeartbeats 4000000 in
set_option maxRecDepth 100000 in
theorem lp_co2 {G : am_G} {d : Nat} {I0 : am_I} {J : am_J} {K : Int32 → am_I → am_J → Prop} {s i t j m : Nat} (ht : t < 4) (hj : j + m ≤ 24) (hK : K (nI 1) (mCo I0 t j m) J) : ∀ k, k ≤ m → AW G cX12_copy 7 RX12 d (am_ex G (some .int) (fun r I J => ∃ x, r = some (.int x) ∧ K x I J)) 141 [some (.ref 63), some (.int (nI s)), some (.int (nI i)), some (.int (nI t)), some (.int (nI j)), some (.int (nI m)), some (.int (nI k))] [] (mCo I0 t j k) J := by
  refine am_dn m (fun k hk ih => ?_)
  refine a_iload dX12_copy_141 rfl ?_
  refine a_iload dX12_copy_143 rfl ?_
  refine a_icmp_geN (tgt := 176) dX12_copy_145 (by decide) (by omega) (by omega) (fun h => ?_) (fun h => ?_)
  · obtain rfl : k = m := by omega
    refine a_iconst (v := nI 1) dX12_copy_176 (by decide) ?_
    exact a_ireturn dX12_copy_177 ⟨_, rfl, hK⟩
  · refine a_aload_n dX12_copy_148 rfl ?_
    refine a_getr dX12_copy_149 kf_X12_99 ⟨by decide, _, rfl, rfl⟩ ?_
    refine a_bipush (v := nI 24) dX12_copy_152 (by decide) ?_
    refine a_iload_n dX12_copy_154 rfl ?_
    refine a_imul dX12_copy_155 (by first | exact pk_mul _ _ | rfl) ?_
    refine a_iload dX12_copy_156 rfl ?_
    refine a_iadd dX12_copy_158 (by first | exact nI_add _ _ | rfl) ?_
    refine a_iload dX12_copy_159 rfl ?_
    refine a_iadd dX12_copy_161 (by first | exact nI_add _ _ | rfl) ?_
    refine a_aload_n dX12_copy_162 rfl ?_
    refine a_getr dX12_copy_163 kf_X12_102 ⟨by decide, _, rfl, rfl⟩ ?_
    refine a_iload dX12_copy_166 rfl ?_
    refine a_iald dX12_copy_168 ⟨by decide, rfl⟩ (by omega) rfl ?_
    refine a_iast dX12_copy_169 ⟨by decide, rfl⟩ (by omega) ?_
    refine a_mem (mCo_s I0 t j k) ?_
    refine a_iinc (L' := [_, _, _, _, _, _, _]) dX12_copy_170 rfl (nI_inc _) rfl ?_
    refine a_goto (tgt := 141) dX12_copy_173 (by decide) ?_
    exact ih (k + 1) (by omega) (by omega)

set_option maxHeartbeats 4000000 in
set_option maxRecDepth 100000 in
theorem lp_co1 {G : am_G} {d : Nat} {I0 : am_I} {J : am_J} {K : Int32 → am_I → am_J → Prop} {s i t j m : Nat} (hs : s < 4) (hi : i + m ≤ 24) (ht : t < 4) (hj : j + m ≤ 24) (hK : K (nI 1) (mCo (mMv I0 s i m) t j m) J) : ∀ k, k ≤ m → AW G cX12_copy 7 RX12 d (am_ex G (some .int) (fun r I J => ∃ x, r = some (.int x) ∧ K x I J)) 104 [some (.ref 63), some (.int (nI s)), some (.int (nI i)), some (.int (nI t)), some (.int (nI j)), some (.int (nI m)), some (.int (nI k))] [] (mMv I0 s i k) J := by
  refine am_dn m (fun k hk ih => ?_)
  refine a_iload dX12_copy_104 rfl ?_
  refine a_iload dX12_copy_106 rfl ?_
  refine a_icmp_geN (tgt := 138) dX12_copy_108 (by decide) (by omega) (by omega) (fun h => ?_) (fun h => ?_)
  · obtain rfl : k = m := by omega
    refine a_iconst (v := nI 0) dX12_copy_138 (by decide) ?_
    refine a_istore (L' := [_, _, _, _, _, _, _]) dX12_copy_139 (Nat.le_of_ble_eq_true rfl) rfl ?_
    refine a_mem (I' := mCo (mMv I0 s i k) t j 0) (by funext a b; simp only [mCo]; rw [if_neg (fun h => by omega)]) ?_
    exact lp_co2 ht hj hK 0 (by omega)
  · refine a_aload_n dX12_copy_111 rfl ?_
    refine a_getr dX12_copy_112 kf_X12_102 ⟨by decide, _, rfl, rfl⟩ ?_
    refine a_iload dX12_copy_115 rfl ?_
    refine a_aload_n dX12_copy_117 rfl ?_
    refine a_getr dX12_copy_118 kf_X12_99 ⟨by decide, _, rfl, rfl⟩ ?_
    refine a_bipush (v := nI 24) dX12_copy_121 (by decide) ?_
    refine a_iload_n dX12_copy_123 rfl ?_
    refine a_imul dX12_copy_124 (by first | exact pk_mul _ _ | rfl) ?_
    refine a_iload_n dX12_copy_125 rfl ?_
    refine a_iadd dX12_copy_126 (by first | exact nI_add _ _ | rfl) ?_
    refine a_iload dX12_copy_127 rfl ?_
    refine a_iadd dX12_copy_129 (by first | exact nI_add _ _ | rfl) ?_
    refine a_iald dX12_copy_130 ⟨by decide, rfl⟩ (by omega) rfl ?_
    refine a_iast dX12_copy_131 ⟨by decide, rfl⟩ (by omega) ?_
    refine a_mem (mMv_s I0 s i k) ?_
    refine a_iinc (L' := [_, _, _, _, _, _, _]) dX12_copy_132 rfl (nI_inc _) rfl ?_
    refine a_goto (tgt := 104) dX12_copy_135 (by decide) ?_
    exact ih (k + 1) (by omega) (by omega)

set_option maxHeartbeats 4000000 in
set_option maxRecDepth 100000 in
theorem c_copy {G : am_G} {d : Nat} {I : am_I} {J : am_J} {K : Int32 → am_I → am_J → Prop} {x y z u v : Int32} (hsz : ∀ s, s < 4 → I 91 s = -9 ∨ ∃ n, n ≤ 24 ∧ I 91 s = nI n)
  (h1 : ∀ s t i j m a b, s < 4 → t < 4 → x = nI s → z = nI t → v = nI m → y = nI i → u = nI j → I 91 s = nI a → a ≤ 24 → I 91 t = nI b → b ≤ 24 → i + m ≤ a → j + m ≤ b → K (nI 1) (mCo (mMv I s i m) t j m) J)
  (h2 : ∀ s t m a b, s < 4 → t < 4 → x = nI s → z = nI t → m < 2 ^ 31 → v = nI m → I 91 s = nI a → a ≤ 24 → I 91 t = nI b → b ≤ 24 → ¬ (∃ i j, y = nI i ∧ u = nI j ∧ i + m ≤ a ∧ j + m ≤ b) → K (-3) (mMeet I 2) J)
  (h4 : ∀ s t, s < 4 → t < 4 → x = nI s → z = nI t → 0 ≤ v → (I 91 s = -9 ∨ I 91 t = -9) → K (-3) (mMeet I 1) J) (h5 : ∀ s t, s < 4 → t < 4 → x = nI s → z = nI t → ¬ 0 ≤ v → K (-3) (mMeet I 5) J) (h0 : ¬ ((∃ s, s < 4 ∧ x = nI s) ∧ ∃ t, t < 4 ∧ z = nI t) → K (-1) I J) : CMi G (d + 2) yX12_copy [.ref 63, .int x, .int y, .int z, .int u, .int v] I J K := by
  refine CM.of (L0 := [_, _, _, _, _, _, _]) cX12_copy 7 (some .int) (by decide) (by decide) kcX12_copy (Nat.le_of_ble_eq_true rfl) rfl ?_
  refine a_iload_n dX12_copy_0 rfl ?_
  refine a_callSi (As := [_]) dX12_copy_1 km_X12_233 rfl rfl (Nat.le_of_ble_eq_true rfl) ?_
  refine c_isSheet (fun s hs e1 => ?_) (fun e1 => ?_)
  · subst e1
    refine a_if_eq (tgt := 14) dX12_copy_4 (by decide) (fun h4 => ?_) (fun h4 => ?_)
    · exact absurd h4 (by decide)
    · refine a_iload_n dX12_copy_7 rfl ?_
      refine a_callSi (As := [_]) dX12_copy_8 km_X12_233 rfl rfl (Nat.le_of_ble_eq_true rfl) ?_
      refine c_isSheet (fun t ht e1 => ?_) (fun e1 => ?_)
      · subst e1
        refine a_if_ne (tgt := 16) dX12_copy_11 (by decide) (fun h11 => ?_) (fun h11 => ?_)
        · refine a_iload dX12_copy_16 rfl ?_
          refine a_if_ge (tgt := 27) dX12_copy_18 (by decide) (fun h18 => ?_) (fun h18 => ?_)
          · obtain ⟨m, hm, rfl⟩ := nI_of (Int32.not_lt.mpr h18)
            refine a_aload_n dX12_copy_27 rfl ?_
            refine a_getr dX12_copy_28 kf_X12_96 ⟨by decide, _, rfl, rfl⟩ ?_
            refine a_iload_n dX12_copy_31 rfl ?_
            refine a_iald dX12_copy_32 ⟨by decide, rfl⟩ (by omega) rfl ?_
            refine a_if_lt (tgt := 45) dX12_copy_33 (by decide) (fun h33 => ?_) (fun h33 => ?_)
            · refine a_aload_n dX12_copy_45 rfl ?_
              refine a_iconst (v := nI 1) dX12_copy_46 (by decide) ?_
              refine a_callVi (As := [_]) dX12_copy_47 km_X12_138 ⟨by decide, _, _, _, rfl, rfl⟩ rfl rfl (Nat.le_of_ble_eq_true rfl) ?_
              refine c_meets (by decide) ?_
              exact a_ireturn dX12_copy_50 ⟨_, rfl, (h4 s t hs ht rfl rfl h18 (Or.inl ((hsz s hs).resolve_right (fun ⟨n, a, b⟩ => by rw [b] at h33; exact nI_pos (by omega) h33))))⟩
            · obtain ⟨a, ha, ea⟩ := (hsz s hs).resolve_left (fun e => by rw [e] at h33; exact h33 (by decide))
              refine a_aload_n dX12_copy_36 rfl ?_
              refine a_getr dX12_copy_37 kf_X12_96 ⟨by decide, _, rfl, rfl⟩ ?_
              refine a_iload_n dX12_copy_40 rfl ?_
              refine a_iald dX12_copy_41 ⟨by decide, rfl⟩ (by omega) rfl ?_
              refine a_if_ge (tgt := 51) dX12_copy_42 (by decide) (fun h42 => ?_) (fun h42 => ?_)
              · obtain ⟨b, hb, eb⟩ := (hsz t ht).resolve_left (fun e => by rw [e] at h42; exact absurd h42 (by decide))
                refine a_iload_n dX12_copy_51 rfl ?_
                refine a_if_lt (tgt := 95) dX12_copy_52 (by decide) (fun h52 => ?_) (fun h52 => ?_)
                · refine a_aload_n dX12_copy_95 rfl ?_
                  refine a_iconst (v := nI 2) dX12_copy_96 (by decide) ?_
                  refine a_callVi (As := [_]) dX12_copy_97 km_X12_138 ⟨by decide, _, _, _, rfl, rfl⟩ rfl rfl (Nat.le_of_ble_eq_true rfl) ?_
                  refine c_meets (by decide) ?_
                  exact a_ireturn dX12_copy_100 ⟨_, rfl, (h2 s t m a b hs ht rfl rfl hm rfl ea ha eb hb (fun ⟨i, j, z1, z2, z3, z4⟩ => by rw [z1] at h52; exact nI_pos (by omega) h52))⟩
                · obtain ⟨i, hi, rfl⟩ := nI_of h52
                  refine a_iload dX12_copy_55 rfl ?_
                  refine a_if_lt (tgt := 95) dX12_copy_57 (by decide) (fun h57 => ?_) (fun h57 => ?_)
                  · refine a_aload_n dX12_copy_95 rfl ?_
                    refine a_iconst (v := nI 2) dX12_copy_96 (by decide) ?_
                    refine a_callVi (As := [_]) dX12_copy_97 km_X12_138 ⟨by decide, _, _, _, rfl, rfl⟩ rfl rfl (Nat.le_of_ble_eq_true rfl) ?_
                    refine c_meets (by decide) ?_
                    exact a_ireturn dX12_copy_100 ⟨_, rfl, (h2 s t m a b hs ht rfl rfl hm rfl ea ha eb hb (fun ⟨i, j, z1, z2, z3, z4⟩ => by rw [z2] at h57; exact nI_pos (by omega) h57))⟩
                  · obtain ⟨j, hj, rfl⟩ := nI_of h57
                    refine a_iload_n dX12_copy_60 rfl ?_
                    refine a_i2l dX12_copy_61 (nI_l hi) ?_
                    refine a_iload dX12_copy_62 rfl ?_
                    refine a_i2l dX12_copy_64 (nI_l hm) ?_
                    refine a_ladd dX12_copy_65 (lN_add _ _) ?_
                    refine a_aload_n dX12_copy_66 rfl ?_
                    refine a_getr dX12_copy_67 kf_X12_96 ⟨by decide, _, rfl, rfl⟩ ?_
                    refine a_iload_n dX12_copy_70 rfl ?_
                    refine a_iald dX12_copy_71 ⟨by decide, rfl⟩ (by omega) ea ?_
                    refine a_i2l dX12_copy_72 (nI_l (by omega)) ?_
                    refine a_lcmp dX12_copy_73 rfl ?_
                    refine a_if_gt (tgt := 95) dX12_copy_74 (by decide) (fun h74 => ?_) (fun h74 => ?_)
                    · refine a_aload_n dX12_copy_95 rfl ?_
                      refine a_iconst (v := nI 2) dX12_copy_96 (by decide) ?_
                      refine a_callVi (As := [_]) dX12_copy_97 km_X12_138 ⟨by decide, _, _, _, rfl, rfl⟩ rfl rfl (Nat.le_of_ble_eq_true rfl) ?_
                      refine c_meets (by decide) ?_
                      exact a_ireturn dX12_copy_100 ⟨_, rfl, (h2 s t m a b hs ht rfl rfl hm rfl ea ha eb hb (fun ⟨i2, j2, z1, z2, z3, z4⟩ => by have z5 := (cmp_gt (by omega) (by omega)).mp h74; have z6 := nI_inj hi (by omega) z1; omega))⟩
                    · have g1 : i + m ≤ a := Nat.not_lt.mp (mt (cmp_gt (by omega) (by omega)).mpr h74)
                      refine a_iload dX12_copy_77 rfl ?_
                      refine a_i2l dX12_copy_79 (nI_l hj) ?_
                      refine a_iload dX12_copy_80 rfl ?_
                      refine a_i2l dX12_copy_82 (nI_l hm) ?_
                      refine a_ladd dX12_copy_83 (lN_add _ _) ?_
                      refine a_aload_n dX12_copy_84 rfl ?_
                      refine a_getr dX12_copy_85 kf_X12_96 ⟨by decide, _, rfl, rfl⟩ ?_
                      refine a_iload_n dX12_copy_88 rfl ?_
                      refine a_iald dX12_copy_89 ⟨by decide, rfl⟩ (by omega) eb ?_
                      refine a_i2l dX12_copy_90 (nI_l (by omega)) ?_
                      refine a_lcmp dX12_copy_91 rfl ?_
                      refine a_if_le (tgt := 101) dX12_copy_92 (by decide) (fun h92 => ?_) (fun h92 => ?_)
                      · have g2 : j + m ≤ b := Nat.not_lt.mp (mt (cmp_gt (by omega) (by omega)).mpr (Int32.not_lt.mpr h92))
                        refine a_iconst (v := nI 0) dX12_copy_101 (by decide) ?_
                        refine a_istore (L' := [_, _, _, _, _, _, _]) dX12_copy_102 (Nat.le_of_ble_eq_true rfl) rfl ?_
                        refine a_mem (I' := mMv I s i 0) (by funext a b; simp [mMv]) ?_
                        exact lp_co1 hs (by omega) ht (by omega) (h1 s t i j m a b hs ht rfl rfl rfl rfl rfl ea ha eb hb g1 g2) 0 (by omega)
                      · refine a_aload_n dX12_copy_95 rfl ?_
                        refine a_iconst (v := nI 2) dX12_copy_96 (by decide) ?_
                        refine a_callVi (As := [_]) dX12_copy_97 km_X12_138 ⟨by decide, _, _, _, rfl, rfl⟩ rfl rfl (Nat.le_of_ble_eq_true rfl) ?_
                        refine c_meets (by decide) ?_
                        exact a_ireturn dX12_copy_100 ⟨_, rfl, (h2 s t m a b hs ht rfl rfl hm rfl ea ha eb hb (fun ⟨i2, j2, z1, z2, z3, z4⟩ => by have z5 := (cmp_gt (by omega) (by omega)).mp (Int32.not_le.mp h92); have z6 := nI_inj hj (by omega) z2; omega))⟩
              · refine a_aload_n dX12_copy_45 rfl ?_
                refine a_iconst (v := nI 1) dX12_copy_46 (by decide) ?_
                refine a_callVi (As := [_]) dX12_copy_47 km_X12_138 ⟨by decide, _, _, _, rfl, rfl⟩ rfl rfl (Nat.le_of_ble_eq_true rfl) ?_
                refine c_meets (by decide) ?_
                exact a_ireturn dX12_copy_50 ⟨_, rfl, (h4 s t hs ht rfl rfl h18 (Or.inr ((hsz t ht).resolve_right (fun ⟨n, a, b⟩ => by rw [b] at h42; exact h42 (nI_pos' (by omega))))))⟩
          · refine a_aload_n dX12_copy_21 rfl ?_
            refine a_iconst (v := nI 5) dX12_copy_22 (by decide) ?_
            refine a_callVi (As := [_]) dX12_copy_23 km_X12_138 ⟨by decide, _, _, _, rfl, rfl⟩ rfl rfl (Nat.le_of_ble_eq_true rfl) ?_
            refine c_meets (by decide) ?_
            exact a_ireturn dX12_copy_26 ⟨_, rfl, (h5 s t hs ht rfl rfl h18)⟩
        · exact absurd h11 (by decide)
      · refine a_if_ne (tgt := 16) dX12_copy_11 (by decide) (fun h11 => ?_) (fun h11 => ?_)
        · exact absurd h11 (by decide)
        · refine a_iconst (v := (-1)) dX12_copy_14 (by decide) ?_
          exact a_ireturn dX12_copy_15 ⟨_, rfl, (h0 (fun q => e1 q.2))⟩
  · refine a_if_eq (tgt := 14) dX12_copy_4 (by decide) (fun h4 => ?_) (fun h4 => ?_)
    · refine a_iconst (v := (-1)) dX12_copy_14 (by decide) ?_
      exact a_ireturn dX12_copy_15 ⟨_, rfl, (h0 (fun q => e1 q.1))⟩
    · exact absurd h4 (by decide)

