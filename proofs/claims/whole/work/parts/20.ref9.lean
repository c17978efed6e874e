/-! ===== the reference: setSeeking and opening, whole ===== -/
/-- the bits of THE ROUTE of the PAIR p, none: CUT -/
def rbO (F T : Nat → Nat) (S : Nat → Bool) (n N p : Nat) : Option Nat := if p / N = p % N ∨ 100 ≤ wyR F T S n (p % N) N (p / N) then none else some (bN (rtO F T S n N (p / N) (p % N)))
theorem rtL_lt {F T : Nat → Nat} {S : Nat → Bool} {n b N : Nat} (hb : b < N) (hT : ∀ l, l < n → T l < N) : ∀ f x, x < N → wyR F T S n b N x = f → f < 100 → (∀ l ∈ rtL F T S n b (wyR F T S n b N) f x, l < n) ∧ (rtL F T S n b (wyR F T S n b N) f x).length = f
  | 0, x, _, _, _ => ⟨fun l h => by simp [rtL] at h, rfl⟩
  | f + 1, x, hx, hf, hlt => by
    have exb : x ≠ b := fun q => by
      subst q
      rw [wy_b] at hf
      omega
    obtain ⟨l0, q1, q2, q3, q4⟩ := wy_next (fr := F) (to := T) (sh := S) (n := n) hb hT hx (by omega) exb
    obtain ⟨m1, m2, m3, m4⟩ := fnd_spec (ldP F T S (wyR F T S n b N) x) n 0 ⟨l0, by omega, by omega, by simp [ldP, q2, q3, q4]⟩
    have m5 : S (fnd (ldP F T S (wyR F T S n b N) x) n 0) = false ∧ F (fnd (ldP F T S (wyR F T S n b N) x) n 0) = x ∧ wyR F T S n b N (T (fnd (ldP F T S (wyR F T S n b N) x) n 0)) + 1 = wyR F T S n b N x := by simpa [ldP] using m1
    obtain ⟨i1, i2⟩ := rtL_lt (F := F) (S := S) hb hT f (T (fnd (ldP F T S (wyR F T S n b N) x) n 0)) (hT _ (by omega)) (by omega) (by omega)
    rw [rtL, if_neg exb]
    refine ⟨fun l hl => ?_, by rw [List.length_cons, i2]⟩
    rcases List.mem_cons.mp hl with e | e
    · rw [e]; omega
    · exact i1 l e
theorem rbO_lt {F T : Nat → Nat} {S : Nat → Bool} {n N p r : Nat} (hN : 2 ≤ N) (hn : n ≤ 12) (hT : ∀ l, l < n → T l < N) (hp : p < N * N) (h : rbO F T S n N p = some r) : r < 2 ^ 12 := by
  unfold rbO at h
  split at h
  · cases h
  · rename_i hc
    cases h
    have h1 : p % N < N := Nat.mod_lt _ (by omega)
    have h2 : p / N < N := Nat.div_lt_of_lt_mul hp
    refine bN_lt (fun l hl => ?_)
    have := (rtL_lt h1 hT _ _ h2 rfl (by omega)).1 l hl
    omega
theorem rbO_pair {F T : Nat → Nat} {S : Nat → Bool} {n N a b : Nat} (hb : b < N) : rbO F T S n N (N * a + b) = if a = b ∨ 100 ≤ wyR F T S n b N a then none else some (bN (rtO F T S n N a b)) := by
  unfold rbO
  rw [Nat.mul_add_div (by omega), Nat.div_eq_of_lt hb, Nat.add_zero, Nat.mul_add_mod, Nat.mod_eq_of_lt hb]
theorem rtB_rbO {F T : Nat → Nat} {S : Nat → Bool} {n N a b : Nat} (hb : b < N) : rtB F T S n N a b = fxI (rbO F T S n N (N * a + b)) := by
  rw [rbO_pair hb]
  unfold rtB
  split <;> rfl
def fxO (x : Int32) : Option Nat := if x = -9 then none else some x.toNatClampNeg
def vlP (x : Int32) : Prop := x = -9 ∨ ∃ c, c ≤ 200 ∧ x = nI c
theorem vlP_fx {x : Int32} (h : vlP x) : x = fxI (fxO x) ∧ ∀ f, fxO x = some f → f ≤ 200 := by
  rcases h with rfl | ⟨c, hc, rfl⟩
  · exact ⟨rfl, fun f h => by simp [fxO] at h⟩
  · have h1 : ¬ nI c = -9 := nI_ne_neg (by omega) (by decide)
    unfold fxO
    rw [if_neg h1, nI_clamp (by omega)]
    exact ⟨rfl, fun f h => by cases h; exact hc⟩
def skT (I : am_I) (n : Nat) : Nat := tbN (tlI I) n
def skL (I : am_I) (N n : Nat) (F T : Nat → Nat) (S : Nat → Bool) : List Nat := sqL (rbO F T S n N) (I 72) (skT I n) (N * N)
def skQ (I : am_I) (N n : Nat) (F T : Nat → Nat) (S : Nat → Bool) (k : Nat) : Nat := (skL I N n F T S).getD k 0
def skG (I : am_I) (N n : Nat) (F T : Nat → Nat) (S : Nat → Bool) (k : Nat) : Nat := goB (rbO F T S n N) (skT I n) (skQ I N n F T S k)
def skA (I : am_I) (N n : Nat) (F T : Nat → Nat) (S : Nat → Bool) : Nat → Nat := laN (skG I N n F T S) (skL I N n F T S).length
def skX (I : am_I) (N n : Nat) (F T : Nat → Nat) (S : Nat → Bool) (k : Nat) : Option Nat := fxO (I 72 (skQ I N n F T S k))
def skF (I : am_I) (l : Nat) : Nat := min 200 (I 70 l).toNatClampNeg
/-- what SEEKING goes by, at the memory I -/
def sgP (I1 I : am_I) (N n : Nat) (F T : Nat → Nat) (S : Nat → Bool) : Prop := frQ I1 I ∧ skP I1 n (skL I N n F T S).length (skG I N n F T S) (skA I N n F T S) (skX I N n F T S) (skQ I N n F T S) (tlI I) (skF I) ∧ ∀ p, p < N * N → I1 78 p = fxI (rbO F T S n N p) ∧ I1 81 p = I 72 p
theorem xor_and_lt {a b : Nat} (h : a < 2 ^ 12) : a ^^^ (a &&& b) < 2 ^ 12 := Nat.xor_lt_two_pow h (Nat.lt_of_le_of_lt Nat.and_le_left h)
set_option maxHeartbeats 4000000 in
set_option maxRecDepth 100000 in
theorem c_setSeeking {G : am_G} {d : Nat} {I : am_I} {J : am_J} {K : am_I → am_J → Prop} {N n : Nat} {F T : Nat → Nat} {S : Nat → Bool} (hR : rwR I (-9) N n F T S) (hme : ∀ p, p < 36 → vlP (I 72 p)) (hca : ∀ l, l < n → vlP (I 70 l)) (hK : ∀ I1, sgP I1 I N n F T S → K I1 J) : CMv G (d + 2) yX12_setSeeking [.ref 63] I J K := by
  refine CM.of (L0 := [_, _, _, _]) cX12_setSeeking 4 none (by decide) (by decide) kcX12_setSeeking (Nat.le_of_ble_eq_true rfl) rfl ?_
  refine a_aload_n dX12_setSeeking_0 rfl ?_
  refine a_bipush (v := (-9)) dX12_setSeeking_1 (by decide) ?_
  refine a_callVv (As := [_]) dX12_setSeeking_3 km_X12_148 ⟨by decide, _, _, _, rfl, rfl⟩ rfl rfl (Nat.le_of_ble_eq_true rfl) ?_
  refine c_setRoutes hR ?_
  intro I1 hM
  obtain ⟨m1, m2, m3⟩ := hM
  have hR' := hR
  obtain ⟨r1, r2, r3, r4, r5, r6, r7⟩ := hR'
  have hn1 : I1 63 4 = nI n := by rw [m1 63 4 (by decide) (by decide) (by decide)]; exact r4
  have hN1 : I1 63 3 = nI N := by rw [m1 63 3 (by decide) (by decide) (by decide)]; exact r1
  have e72 : I1 72 = I 72 := frR_row m1 (by decide) (by decide) (by decide)
  have e70 : I1 70 = I 70 := frR_row m1 (by decide) (by decide) (by decide)
  have etl : tlI I1 = tlI I := by unfold tlI; rw [e70]
  have hT : ∀ l, l < n → T l < N := fun l hl => (r6 l hl).2.2.2
  have hrb : ∀ p, p < N * N → I1 75 p = fxI (rbO F T S n N p) ∧ ∀ r, rbO F T S n N p = some r → r < 2 ^ 12 := fun p hp => by
    refine ⟨?_, fun r h => rbO_lt r2 r5 hT hp h⟩
    have h1 : p % N < N := Nat.mod_lt _ (by omega)
    have h2 : p / N < N := Nat.div_lt_of_lt_mul hp
    have h3 := m3 (p / N) (p % N) h2 h1
    rw [Nat.div_add_mod] at h3
    rw [h3, rtB_rbO h1, Nat.div_add_mod]
  refine a_iconst (v := nI 0) dX12_setSeeking_6 (by decide) ?_
  refine a_istore_n (L' := [_, _, _, _]) dX12_setSeeking_7 (Nat.le_of_ble_eq_true rfl) rfl ?_
  refine a_iconst (v := nI 0) dX12_setSeeking_8 (by decide) ?_
  refine a_istore_n (L' := [_, _, _, _]) dX12_setSeeking_9 (Nat.le_of_ble_eq_true rfl) rfl ?_
  refine lp_ss1 hn1 r5 ?_ 0 (by omega)
  refine a_aload_n dX12_setSeeking_45 rfl ?_
  refine a_iconst (v := nI 0) dX12_setSeeking_46 (by decide) ?_
  refine a_puti dX12_setSeeking_47 kp_X12_178 ⟨by decide, _, rfl, rfl⟩ ?_
  refine a_iconst (v := nI 0) dX12_setSeeking_50 (by decide) ?_
  refine a_istore_n (L' := [_, _, _, _]) dX12_setSeeking_51 (Nat.le_of_ble_eq_true rfl) rfl ?_
  refine a_loc (L' := [some (.ref 63), some (.int (nI (tbN (tlI I) n))), some (.int (nI 0)), none]) (by rw [etl]) ?_
  refine lp_ss2 hN1 r3 hrb ?_ 0 (by omega) _ ⟨frQ_up63 (fun _ _ _ _ => rfl) _, rfl, rfl, fun k q h => by simp [sqL] at h, fun q h => by omega⟩
  intro I2 hI2
  obtain ⟨s1, s2, s3, s4, s5⟩ := hI2
  have hq : ∀ k, k < (skL I N n F T S).length → (skL I N n F T S)[k]? = some (skQ I N n F T S k) := fun k hk => by
    unfold skQ
    rw [List.getD_eq_getElem?_getD, List.getElem?_eq_getElem hk]
    rfl
  have hmem : ∀ k, k < (skL I N n F T S).length → skQ I N n F T S k < N * N ∧ selQ (rbO F T S n N) (I 72) (skT I n) (skQ I N n F T S k) = true := fun k hk => (sqL_mem _ _ _ _ _).mp (List.mem_of_getElem? (hq k hk))
  have hsq := sq_le r3
  have hm36 : (skL I N n F T S).length ≤ 36 := Nat.le_trans (sqL_len _ _ _ _) hsq
  have htb : skT I n < 2 ^ 12 := tbN_lt _ n r5
  have hg12 : ∀ k, skG I N n F T S k < 2 ^ 12 := fun k => Nat.lt_of_le_of_lt Nat.and_le_right htb
  rw [e72] at s3 s4
  rw [e72] at s5
  refine a_iconst (v := nI 0) dX12_setSeeking_163 (by decide) ?_
  refine a_istore_n (L' := [_, _, _, _]) dX12_setSeeking_164 (Nat.le_of_ble_eq_true rfl) rfl ?_
  refine a_aload_n dX12_setSeeking_165 rfl ?_
  refine a_geti dX12_setSeeking_166 kf_X12_178 ⟨by decide, _, rfl, rfl⟩ s3 ?_
  refine a_iconst (v := nI 1) dX12_setSeeking_169 (by decide) ?_
  refine a_isub dX12_setSeeking_170 rfl ?_
  refine a_istore_n (L' := [_, _, _, _]) dX12_setSeeking_171 (Nat.le_of_ble_eq_true rfl) rfl ?_
  have hG : ∀ k, k < (skL I N n F T S).length → I2 79 k = nI (skG I N n F T S k) ∧ skG I N n F T S k < 2 ^ 12 := fun k hk => ⟨(s4 k _ (hq k hk)).2, hg12 k⟩
  refine a_loc (L' := [some (.ref 63), some (.int (nI (skT I n))), some (.int (nI (bhN (skG I N n F T S) (skL I N n F T S).length 0))), some (.int (nI ((skL I N n F T S).length - 0) - nI 1))]) rfl ?_
  refine lp_ss3 (I1 := I2) hm36 hG (fun I3 hI3 => hK I3 ⟨fun k j h1 h2 => ?_, ⟨?_, r5, ?_, hm36, fun k hk => ⟨?_, hg12 k, ?_, xor_and_lt (hg12 k), ?_, ?_, ?_, ?_, fun l hl hgb => ?_⟩, fun l hl => ?_, fun l => Nat.min_le_left _ _⟩, fun p hp => ?_⟩) 0 (by omega) I2 ⟨fun _ _ => rfl, fun k hk hk2 => by omega⟩
  · rw [hI3.1 k (by omega), s1 k j h1 h2]; exact frQ_of m1 k j h1 h2
  · rw [hI3.1 63 (by decide), s1 63 4 (by omega) (by decide)]; exact hn1
  · rw [hI3.1 63 (by decide)]; exact s3
  · rw [hI3.1 79 (by decide)]; exact (hG k hk).1
  · exact hI3.2 k hk (by omega)
  · rw [hI3.1 77 (by decide)]; exact (s4 k _ (hq k hk)).1
  · exact Nat.lt_of_lt_of_le (hmem k hk).1 hsq
  · rw [hI3.1 81 (by decide), (s5 _ (hmem k hk).1).2]; exact (vlP_fx (hme _ (Nat.lt_of_lt_of_le (hmem k hk).1 hsq))).1
  · exact (vlP_fx (hme _ (Nat.lt_of_lt_of_le (hmem k hk).1 hsq))).2
  · have h1 : (skT I n).testBit l = true := by
      unfold skG goB at hgb
      rw [Nat.testBit_and, Bool.and_eq_true] at hgb
      exact hgb.2
    rw [skT, tbN_test, Bool.and_eq_true] at h1
    exact h1.2
  · rw [hI3.1 70 (by decide), frQ_row s1 (by omega) (by decide), e70]
    rcases hca l hl with e | ⟨c, hc, e⟩
    · rw [e]; simp [tlI, e]
    · have h1 : ¬ nI c = -9 := nI_ne_neg (by omega) (by decide)
      rw [e]
      simp only [tlI, skF, e, h1, ne_eq, not_false_eq_true, decide_true, if_true, nI_clamp (show c < 2 ^ 31 by omega)]
      rw [Nat.min_eq_right hc]
  · rw [hI3.1 78 (by decide), hI3.1 81 (by decide), (s5 p hp).1, (s5 p hp).2]
    exact ⟨(hrb p hp).1, rfl⟩

def mTk0 (I : am_I) (i : Nat) : am_I := fun a b => if a = 85 ∧ b < i then nI 0 else I a b
theorem mTk0_s (I : am_I) (i : Nat) : am_up (mTk0 I i) 85 i (nI 0) = mTk0 I (i + 1) := by
  funext a b
  simp only [am_up, mTk0]
  by_cases h1 : a = 85
  · subst h1
    by_cases h2 : b = i
    · subst h2
      simp
    · by_cases h3 : b < i
      · simp [h2, h3, show b < i + 1 by omega]
      · simp [h2, h3, show ¬ b < i + 1 by omega]
  · simp [h1]
def mOpen (I : am_I) (x : Int32) : am_I := am_up (am_up (mTk0 I 36) 63 29 (nI 0)) 63 30 x
set_option maxHeartbeats 4000000 in
set_option maxRecDepth 100000 in
theorem lp_open {G : am_G} {d : Nat} {I0 : am_I} {J : am_J} {K : am_I → am_J → Prop} {x : Int32} (hK : K (mOpen I0 x) J) : ∀ i, i ≤ 36 → AW G cX12_open 3 RX12 d (am_ex G none (fun r I J => r = none ∧ K I J)) 6 [some (.ref 63), some (.int x), some (.int (nI i))] [] (mTk0 I0 i) J := by
  refine am_dn (36) (fun i hi ih => ?_)
  refine a_iload_n dX12_open_6 rfl ?_
  refine a_bipush (v := nI 36) dX12_open_7 (by decide) ?_
  refine a_icmp_geN (tgt := 25) dX12_open_9 (by decide) (by omega) (by omega) (fun h => ?_) (fun h => ?_)
  · obtain rfl : i = 36 := by omega
    refine a_aload_n dX12_open_25 rfl ?_
    refine a_iconst (v := nI 0) dX12_open_26 (by decide) ?_
    refine a_puti dX12_open_27 kp_X12_197 ⟨by decide, _, rfl, rfl⟩ ?_
    refine a_aload_n dX12_open_30 rfl ?_
    refine a_iload_n dX12_open_31 rfl ?_
    refine a_puti dX12_open_32 kp_X12_200 ⟨by decide, _, rfl, rfl⟩ ?_
    exact a_vreturn dX12_open_35 ⟨rfl, hK⟩
  · refine a_aload_n dX12_open_12 rfl ?_
    refine a_getr dX12_open_13 kf_X12_78 ⟨by decide, _, rfl, rfl⟩ ?_
    refine a_iload_n dX12_open_16 rfl ?_
    refine a_iconst (v := nI 0) dX12_open_17 (by decide) ?_
    refine a_zast dX12_open_18 ⟨by decide, rfl⟩ (by omega) (by first | exact Or.inl rfl | exact Or.inr rfl) ?_
    refine a_mem (mTk0_s I0 i) ?_
    refine a_iinc (L' := [_, _, _]) dX12_open_19 rfl (nI_inc _) rfl ?_
    refine a_goto (tgt := 6) dX12_open_22 (by decide) ?_
    exact ih (i + 1) (by omega) (by omega)

/-- behind opening(x): ready for the first next() -/
def opP (I1 I : am_I) (N n : Nat) (F T : Nat → Nat) (S : Nat → Bool) (x : Int32) : Prop := (∀ k j, (k < 75 ∨ 81 < k) → k ≠ 85 → (k = 63 → j ≠ 18 ∧ j ≠ 19 ∧ j ≠ 20 ∧ j ≠ 29 ∧ j ≠ 30) → I1 k j = I k j) ∧ skP I1 n (skL I N n F T S).length (skG I N n F T S) (skA I N n F T S) (skX I N n F T S) (skQ I N n F T S) (tlI I) (skF I) ∧ (∀ p, p < N * N → I1 78 p = fxI (rbO F T S n N p) ∧ I1 81 p = I 72 p) ∧ I1 63 29 = nI 0 ∧ I1 63 30 = x ∧ ∀ k, k < 36 → I1 85 k = nI 0
theorem opP_of {I1 I : am_I} {N n : Nat} {F T : Nat → Nat} {S : Nat → Bool} {x : Int32} (h : sgP I1 I N n F T S) : opP (mOpen I1 x) I N n F T S x := by
  obtain ⟨h1, ⟨a1, a2, a3, a4, a5, a6, a7⟩, h3⟩ := h
  refine ⟨fun k j z1 z2 z3 => ?_, ⟨a1, a2, a3, a4, fun k hk => a5 k hk, fun l hl => a6 l hl, a7⟩, fun p hp => h3 p hp, rfl, rfl, fun k hk => ?_⟩
  · rw [← h1 k j z1 (fun e => ⟨(z3 e).1, (z3 e).2.1, (z3 e).2.2.1⟩)]
    simp only [mOpen, am_up, mTk0]
    by_cases e : k = 63
    · simp [e, (z3 e).2.2.2.1, (z3 e).2.2.2.2]
    · simp [e, z2]
  · simp [mOpen, am_up, mTk0, hk]
set_option maxHeartbeats 4000000 in
set_option maxRecDepth 100000 in
theorem c_open {G : am_G} {d : Nat} {I : am_I} {J : am_J} {K : am_I → am_J → Prop} {N n : Nat} {F T : Nat → Nat} {S : Nat → Bool} {x : Int32} (hR : rwR I (-9) N n F T S) (hme : ∀ p, p < 36 → vlP (I 72 p)) (hca : ∀ l, l < n → vlP (I 70 l)) (hK : ∀ I1, opP I1 I N n F T S x → K I1 J) : CMv G (d + 3) yX12_open [.ref 63, .int x] I J K := by
  refine CM.of (L0 := [_, _, _]) cX12_open 3 none (by decide) (by decide) kcX12_open (Nat.le_of_ble_eq_true rfl) rfl ?_
  refine a_aload_n dX12_open_0 rfl ?_
  refine a_callVv (As := []) dX12_open_1 km_X12_203 ⟨by decide, _, _, _, rfl, rfl⟩ rfl rfl (Nat.le_of_ble_eq_true rfl) ?_
  refine c_setSeeking hR hme hca (fun I1 h1 => ?_)
  refine a_iconst (v := nI 0) dX12_open_4 (by decide) ?_
  refine a_istore_n (L' := [_, _, _]) dX12_open_5 (Nat.le_of_ble_eq_true rfl) rfl ?_
  refine a_mem (I' := mTk0 I1 0) (by funext a b; simp [mTk0]) ?_
  exact lp_open (hK _ (opP_of h1)) 0 (by omega)

