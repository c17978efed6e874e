/-! ===== the reference: keep, fits ===== -/
/-- what lasts between calls, but for isFit, tries, the FIT -/
def prP (I' I : am_I) : Prop := ∀ k j, (k < 74 ∨ k = 91 ∨ k = 92) → (k = 63 → j = 0 ∨ j = 3 ∨ j = 4) → I' k j = I k j
theorem prP_tr {I1 I2 I3 : am_I} (h : prP I1 I2) (h' : prP I2 I3) : prP I1 I3 := fun k j a b => (h k j a b).trans (h' k j a b)
theorem prP_frS {I1 I2 : am_I} (h : frS I1 I2) : prP I1 I2 := fun k j a b => h k j (by omega) (by omega) (by omega) (by omega) (fun e => by have := b e; omega)
theorem prP_frR {I1 I2 : am_I} (h : frR I1 I2) : prP I1 I2 := fun k j a b => h k j (by omega) (by omega) (fun e => by have := b e; omega)
theorem prP_row {I1 I2 : am_I} (h : prP I1 I2) {k : Nat} (h1 : k < 74 ∨ k = 91 ∨ k = 92) (h2 : k ≠ 63) : I1 k = I2 k := by
  funext j
  exact h k j h1 (fun e => absurd e h2)
theorem prP_up63 {I1 I2 : am_I} (h : prP I1 I2) {j : Nat} (hj : ¬ (j = 0 ∨ j = 3 ∨ j = 4)) (x : Int32) : prP (am_up I1 63 j x) I2 := fun k b h1 h2 => by
  rw [← h k b h1 h2]
  simp only [am_up]
  by_cases e : k = 63
  · have := h2 e
    simp [e, show b ≠ j by omega]
  · simp [e]
theorem prP_upr {I1 I2 : am_I} (h : prP I1 I2) {p : Nat} (hp : ¬ (p < 74 ∨ p = 91 ∨ p = 92)) (j : Nat) (x : Int32) : prP (am_up I1 p j x) I2 := fun k b h1 h2 => by
  have e : k ≠ p := fun e => hp (by subst e; exact h1)
  rw [← h k b h1 h2, am_up_ne e]
theorem rwR_pr {I I0 : am_I} {oth : Int32} {N n : Nat} {F T : Nat → Nat} {S : Nat → Bool} (hR : rwR I0 oth N n F T S) (h : prP I I0) : rwR I oth N n F T S := by
  obtain ⟨r1, r2, r3, r4, r5, r6, r7⟩ := hR
  refine ⟨by rw [h 63 3 (by omega) (by omega)]; exact r1, r2, r3, by rw [h 63 4 (by omega) (by omega)]; exact r4, r5, fun l hl => ?_, fun l hl => ?_⟩
  · rw [prP_row h (by omega) (by decide), prP_row h (k := 67) (by omega) (by decide)]; exact r6 l hl
  · rw [prP_row h (by omega) (by decide)]; exact r7 l hl
theorem sk_congr {I I' : am_I} (h70 : I' 70 = I 70) (h72 : I' 72 = I 72) (N n : Nat) (F T : Nat → Nat) (S : Nat → Bool) : skL I' N n F T S = skL I N n F T S ∧ skG I' N n F T S = skG I N n F T S ∧ skA I' N n F T S = skA I N n F T S ∧ skX I' N n F T S = skX I N n F T S ∧ skQ I' N n F T S = skQ I N n F T S ∧ tlI I' = tlI I ∧ skF I' = skF I := by
  have e1 : tlI I' = tlI I := by unfold tlI; rw [h70]
  have e2 : skT I' n = skT I n := by unfold skT; rw [e1]
  have e3 : skL I' N n F T S = skL I N n F T S := by unfold skL; rw [e2, h72]
  have e4 : skQ I' N n F T S = skQ I N n F T S := by funext k; unfold skQ; rw [e3]
  have e5 : skG I' N n F T S = skG I N n F T S := by funext k; unfold skG; rw [e2, e4]
  have e6 : skA I' N n F T S = skA I N n F T S := by unfold skA; rw [e5, e3]
  have e7 : skX I' N n F T S = skX I N n F T S := by funext k; unfold skX; rw [e4, h72]
  have e8 : skF I' = skF I := by funext k; unfold skF; rw [h70]
  exact ⟨e3, e5, e6, e7, e4, e1, e8⟩
/-- behind opening(x) at a memory that shows what I shows -/
def opQ (I1 Ib I : am_I) (N n : Nat) (F T : Nat → Nat) (S : Nat → Bool) (x : Int32) : Prop := (∀ k j, (k < 75 ∨ 81 < k) → k ≠ 85 → (k = 63 → j ≠ 18 ∧ j ≠ 19 ∧ j ≠ 20 ∧ j ≠ 29 ∧ j ≠ 30) → I1 k j = Ib k j) ∧ skP I1 n (skL I N n F T S).length (skG I N n F T S) (skA I N n F T S) (skX I N n F T S) (skQ I N n F T S) (tlI I) (skF I) ∧ (∀ p, p < N * N → I1 78 p = fxI (rbO F T S n N p) ∧ I1 81 p = I 72 p) ∧ I1 63 29 = nI 0 ∧ I1 63 30 = x ∧ ∀ k, k < 36 → I1 85 k = nI 0
theorem opQ_of {I1 Ib I : am_I} {N n : Nat} {F T : Nat → Nat} {S : Nat → Bool} {x : Int32} (h : opP I1 Ib N n F T S x) (hb : prP Ib I) : opQ I1 Ib I N n F T S x := by
  obtain ⟨e1, e2, e3, e4, e5, e6, e7⟩ := sk_congr (prP_row hb (k := 70) (by omega) (by decide)) (prP_row hb (k := 72) (by omega) (by decide)) N n F T S
  obtain ⟨h1, h2, h3, h4⟩ := h
  rw [e1, e2, e3, e4, e5, e6, e7] at h2
  rw [prP_row hb (k := 72) (by omega) (by decide)] at h3
  exact ⟨h1, h2, h3, h4⟩
theorem opQ_pr {I1 Ib I : am_I} {N n : Nat} {F T : Nat → Nat} {S : Nat → Bool} {x : Int32} (h : opQ I1 Ib I N n F T S x) : prP I1 Ib := fun k j a b => h.1 k j (by omega) (by omega) (fun e => by have := b e; omega)
theorem c_openQ {G : am_G} {d : Nat} {I Ib : am_I} {J : am_J} {K : am_I → am_J → Prop} {N n : Nat} {F T : Nat → Nat} {S : Nat → Bool} {x : Int32} (hR : rwR I (-9) N n F T S) (hme : ∀ p, p < 36 → vlP (I 72 p)) (hca : ∀ l, l < n → vlP (I 70 l)) (hb : prP Ib I) (hK : ∀ I1, opQ I1 Ib I N n F T S x → K I1 J) : CMv G (d + 3) yX12_open [.ref 63, .int x] Ib J K :=
  c_open (rwR_pr hR hb) (by rw [prP_row hb (k := 72) (by omega) (by decide)]; exact hme) (by rw [prP_row hb (k := 70) (by omega) (by decide)]; exact hca) (fun I1 h => hK I1 (opQ_of h hb))
def kpR (base : Nat → Int32) (sq A : Nat → Nat) : Nat → Nat → Int32
  | 0 => base
  | k + 1 => upd (kpR base sq A k) (sq k) (nI (A k))
def mK1 (I : am_I) (i : Nat) : am_I := fun a b => if a = 74 ∧ b < i then nI 0 else I a b
theorem mK1_s (I : am_I) (i : Nat) : am_up (mK1 I i) 74 i (nI 0) = mK1 I (i + 1) := by
  funext a b
  simp only [am_up, mK1]
  by_cases h1 : a = 74
  · subst h1
    by_cases h2 : b = i
    · subst h2
      simp
    · by_cases h3 : b < i
      · simp [h2, h3, show b < i + 1 by omega]
      · simp [h2, h3, show ¬ b < i + 1 by omega]
  · simp [h1]
def mK2 (I : am_I) (sq A : Nat → Nat) (k : Nat) : am_I := fun a b => if a = 74 then kpR (I 74) sq A k b else I a b
theorem mK2_s (I : am_I) (sq A : Nat → Nat) (k : Nat) : am_up (mK2 I sq A k) 74 (sq k) (nI (A k)) = mK2 I sq A (k + 1) := by
  funext a b
  simp only [am_up, mK2, kpR, upd]
  by_cases h1 : a = 74
  · subst h1; simp
  · simp [h1]
def mKeep (I : am_I) (sq A : Nat → Nat) (m : Nat) : am_I := am_up (mK2 (mK1 I 36) sq A m) 63 15 (nI 1)
set_option maxHeartbeats 4000000 in
set_option maxRecDepth 100000 in
theorem lp_keep2 {G : am_G} {d : Nat} {I0 : am_I} {J : am_J} {K : am_I → am_J → Prop} {m : Nat} {sq A : Nat → Nat} (hm : I0 63 20 = nI m) (hm36 : m ≤ 36) (hsq : ∀ k, k < m → I0 77 k = nI (sq k) ∧ sq k < 36 ∧ I0 83 k = nI (A k)) (hK : K (am_up (mK2 I0 sq A m) 63 15 (nI 1)) J) : ∀ i, i ≤ m → AW G cX12_keep 2 RX12 d (am_ex G none (fun r I J => r = none ∧ K I J)) 23 [some (.ref 63), some (.int (nI i))] [] (mK2 I0 sq A i) J := by
  refine am_dn m (fun i hi ih => ?_)
  refine a_iload_n dX12_keep_23 rfl ?_
  refine a_aload_n dX12_keep_24 rfl ?_
  refine a_geti dX12_keep_25 kf_X12_178 ⟨by decide, _, rfl, rfl⟩ hm ?_
  refine a_icmp_geN (tgt := 54) dX12_keep_28 (by decide) (by omega) (by omega) (fun h => ?_) (fun h => ?_)
  · obtain rfl : i = m := by omega
    refine a_aload_n dX12_keep_54 rfl ?_
    refine a_iconst (v := nI 1) dX12_keep_55 (by decide) ?_
    refine a_putz dX12_keep_56 kp_X12_118 ⟨by decide, _, rfl, rfl⟩ (by first | exact Or.inl rfl | exact Or.inr rfl) ?_
    exact a_vreturn dX12_keep_59 ⟨rfl, hK⟩
  · obtain ⟨q1, q2, q3⟩ := hsq i h
    refine a_aload_n dX12_keep_31 rfl ?_
    refine a_getr dX12_keep_32 kf_X12_45 ⟨by decide, _, rfl, rfl⟩ ?_
    refine a_aload_n dX12_keep_35 rfl ?_
    refine a_getr dX12_keep_36 kf_X12_54 ⟨by decide, _, rfl, rfl⟩ ?_
    refine a_iload_n dX12_keep_39 rfl ?_
    refine a_iald dX12_keep_40 ⟨by decide, rfl⟩ (by omega) q1 ?_
    refine a_aload_n dX12_keep_41 rfl ?_
    refine a_getr dX12_keep_42 kf_X12_72 ⟨by decide, _, rfl, rfl⟩ ?_
    refine a_iload_n dX12_keep_45 rfl ?_
    refine a_iald dX12_keep_46 ⟨by decide, rfl⟩ (by omega) q3 ?_
    refine a_iast dX12_keep_47 ⟨by decide, rfl⟩ (by omega) ?_
    refine a_mem (mK2_s I0 sq A i) ?_
    refine a_iinc (L' := [_, _]) dX12_keep_48 rfl (nI_inc _) rfl ?_
    refine a_goto (tgt := 23) dX12_keep_51 (by decide) ?_
    exact ih (i + 1) (by omega) (by omega)

set_option maxHeartbeats 4000000 in
set_option maxRecDepth 100000 in
theorem lp_keep1 {G : am_G} {d : Nat} {I0 : am_I} {J : am_J} {K : am_I → am_J → Prop} {m : Nat} {sq A : Nat → Nat} (hm : I0 63 20 = nI m) (hm36 : m ≤ 36) (hsq : ∀ k, k < m → I0 77 k = nI (sq k) ∧ sq k < 36 ∧ I0 83 k = nI (A k)) (hK : K (mKeep I0 sq A m) J) : ∀ i, i ≤ 36 → AW G cX12_keep 2 RX12 d (am_ex G none (fun r I J => r = none ∧ K I J)) 2 [some (.ref 63), some (.int (nI i))] [] (mK1 I0 i) J := by
  refine am_dn 36 (fun i hi ih => ?_)
  refine a_iload_n dX12_keep_2 rfl ?_
  refine a_bipush (v := nI 36) dX12_keep_3 (by decide) ?_
  refine a_icmp_geN (tgt := 21) dX12_keep_5 (by decide) (by omega) (by omega) (fun h => ?_) (fun h => ?_)
  · obtain rfl : i = 36 := by omega
    refine a_iconst (v := nI 0) dX12_keep_21 (by decide) ?_
    refine a_istore_n (L' := [_, _]) dX12_keep_22 (Nat.le_of_ble_eq_true rfl) rfl ?_
    refine a_mem (I' := mK2 (mK1 I0 36) sq A 0) (by funext a b; simp only [mK2, kpR]; by_cases e : a = 74 <;> simp [e]) ?_
    exact lp_keep2 (I0 := mK1 I0 36) hm hm36 hsq hK 0 (by omega)
  · refine a_aload_n dX12_keep_8 rfl ?_
    refine a_getr dX12_keep_9 kf_X12_45 ⟨by decide, _, rfl, rfl⟩ ?_
    refine a_iload_n dX12_keep_12 rfl ?_
    refine a_iconst (v := nI 0) dX12_keep_13 (by decide) ?_
    refine a_iast dX12_keep_14 ⟨by decide, rfl⟩ (by omega) ?_
    refine a_mem (mK1_s I0 i) ?_
    refine a_iinc (L' := [_, _]) dX12_keep_15 rfl (nI_inc _) rfl ?_
    refine a_goto (tgt := 2) dX12_keep_18 (by decide) ?_
    exact ih (i + 1) (by omega) (by omega)

set_option maxHeartbeats 4000000 in
set_option maxRecDepth 100000 in
theorem c_keep {G : am_G} {d : Nat} {I : am_I} {J : am_J} {K : am_I → am_J → Prop} {m : Nat} {sq A : Nat → Nat} (hm : I 63 20 = nI m) (hm36 : m ≤ 36) (hsq : ∀ k, k < m → I 77 k = nI (sq k) ∧ sq k < 36 ∧ I 83 k = nI (A k)) (hK : K (mKeep I sq A m) J) : CMv G d yX12_keep [.ref 63] I J K := by
  refine CM.of (L0 := [_, _]) cX12_keep 2 none (by decide) (by decide) kcX12_keep (Nat.le_of_ble_eq_true rfl) rfl ?_
  refine a_iconst (v := nI 0) dX12_keep_0 (by decide) ?_
  refine a_istore_n (L' := [_, _]) dX12_keep_1 (Nat.le_of_ble_eq_true rfl) rfl ?_
  refine a_mem (I' := mK1 I 0) (by funext a b; simp [mK1]) ?_
  exact lp_keep1 hm hm36 hsq hK 0 (by omega)

theorem c_keepF {G : am_G} {d : Nat} {I : am_I} {J : am_J} {K : am_I → am_J → Prop} {n m lim t : Nat} {g la : Nat → Nat} {fx : Nat → Option Nat} {sq : Nat → Nat} {tl : Nat → Bool} {lf0 A : Nat → Nat} (h : fsP g la fx sq tl lf0 n m lim t A I) (hK : K (mKeep I sq A m) J) : CMv G d yX12_keep [.ref 63] I J K := by
  obtain ⟨⟨a1, a2, a3, a4, a5, a6, a7⟩, h2, h3, h4, h5, h6, h7, h8⟩ := h
  exact c_keep a3 a4 (fun k hk => ⟨(a5 k hk).2.2.2.2.1, (a5 k hk).2.2.2.2.2.1, (h7 k hk).1⟩) hK
theorem mKeep_row {I : am_I} {sq A : Nat → Nat} {m a b : Nat} (h1 : a ≠ 74) (h2 : a = 63 → b ≠ 15) : mKeep I sq A m a b = I a b := by
  simp only [mKeep, am_up, mK2, mK1]
  by_cases e : a = 63
  · simp [e, h2 e]
  · simp [e, h1]
theorem prP_keep {I I0 : am_I} (h : prP I I0) (sq A : Nat → Nat) (m : Nat) : prP (mKeep I sq A m) I0 := fun k j a b => by
  rw [mKeep_row (by omega) (fun e => by have := b e; omega)]
  exact h k j a b
theorem kpR_congr {f f' : Nat → Int32} {sq A : Nat → Nat} {p : Nat} : ∀ k, f p = f' p → kpR f sq A k p = kpR f' sq A k p
  | 0, h => h
  | k + 1, h => by
    have := kpR_congr (sq := sq) (A := A) k h
    simp only [kpR, upd, this]
theorem mKeep_fit {I : am_I} {sq A : Nat → Nat} {m p : Nat} (hp : p < 36) : mKeep I sq A m 74 p = kpR (fun _ => nI 0) sq A m p := by
  show kpR (mK1 I 36 74) sq A m p = _
  exact kpR_congr m (by simp [mK1, hp])
theorem fsP_keep {g la : Nat → Nat} {fx : Nat → Option Nat} {sq : Nat → Nat} {tl : Nat → Bool} {lf0 : Nat → Nat} {n m lim t : Nat} {A : Nat → Nat} {I : am_I} (h : fsP g la fx sq tl lf0 n m lim t A I) (sq' A' : Nat → Nat) (m' : Nat) : fsP g la fx sq tl lf0 n m lim t A (mKeep I sq' A' m') := by
  obtain ⟨⟨a1, a2, a3, a4, a5, a6, a7⟩, h2, h3, h4, h5, h6, h7, h8⟩ := h
  exact ⟨⟨a1, a2, a3, a4, fun k hk => a5 k hk, fun l hl => a6 l hl, a7⟩, h2, h3, h4, h5, h6, fun j hj => h7 j hj, fun l hl => h8 l hl⟩
set_option maxHeartbeats 4000000 in
set_option maxRecDepth 100000 in
theorem c_fits {G : am_G} {d : Nat} {I : am_I} {J : am_J} {K : Int32 → am_I → am_J → Prop} {N n : Nat} {F T : Nat → Nat} {S : Nat → Bool} {x : Int32} (hR : rwR I (-9) N n F T S) (hme : ∀ p, p < 36 → vlP (I 72 p)) (hca : ∀ l, l < n → vlP (I 70 l)) (h1 : ∀ lim, 1 ≤ lim → lim ≤ 20000 → x = nI lim → ∀ I' t A E, prP I' I → I' 63 29 = nI t → I' 63 15 = nI 1 → (∀ p, p < 36 → I' 74 p = kpR (fun _ => nI 0) (skQ I N n F T S) A (skL I N n F T S).length p) → nxE lim 0 (evI I N n F T S) = (t, some (some (A, E))) → K (nI 1) I' J) (h2 : ∀ lim, 1 ≤ lim → lim ≤ 20000 → x = nI lim → ∀ I' t, prP I' I → I' 63 29 = nI t → I' 63 15 = nI 0 → nxE lim 0 (evI I N n F T S) = (t, some none) → K (nI 0) I' J) (h3 : ∀ lim, 1 ≤ lim → lim ≤ 20000 → x = nI lim → ∀ I' t, prP I' I → I' 63 29 = nI t → I' 63 15 = nI 0 → nxE lim 0 (evI I N n F T S) = (t, none) → K (-6) I' J) (h0 : ¬ (nI 1 ≤ x ∧ x ≤ nI 20000) → K (-1) I J) : CMi G (d + 4) yX12_fits [.ref 63, .int x] I J K := by
  refine CM.of (L0 := [_, _, _]) cX12_fits 3 (some .int) (by decide) (by decide) kcX12_fits (Nat.le_of_ble_eq_true rfl) rfl ?_
  refine a_iload_n dX12_fits_0 rfl ?_
  refine a_callSi (As := [_]) dX12_fits_1 km_X12_206 rfl rfl (Nat.le_of_ble_eq_true rfl) ?_
  refine c_areTries (fun lim hl1 hl2 e1 => ?_) (fun e1 => ?_)
  · subst e1
    refine a_if_ne (tgt := 9) dX12_fits_4 (by decide) (fun h4 => ?_) (fun h4 => ?_)
    · refine a_aload_n dX12_fits_9 rfl ?_
      refine a_iconst (v := nI 0) dX12_fits_10 (by decide) ?_
      refine a_putz dX12_fits_11 kp_X12_118 ⟨by decide, _, rfl, rfl⟩ (by first | exact Or.inl rfl | exact Or.inr rfl) ?_
      refine a_aload_n dX12_fits_14 rfl ?_
      refine a_iload_n dX12_fits_15 rfl ?_
      refine a_callVv (As := [_]) dX12_fits_16 km_X12_209 ⟨by decide, _, _, _, rfl, rfl⟩ rfl rfl (Nat.le_of_ble_eq_true rfl) ?_
      refine c_openQ (N := N) (n := n) (F := F) (T := T) (S := S) hR hme hca (prP_up63 (fun _ _ _ _ => rfl) (by omega) _) (fun I1 hop => ?_)
      have hpr := opQ_pr hop
      obtain ⟨o1, o2, o3, o4, o5, o6⟩ := hop
      refine a_aload_n dX12_fits_19 rfl ?_
      refine a_iconst (v := nI 1) dX12_fits_20 (by decide) ?_
      refine a_callVi (As := [_]) dX12_fits_21 km_X12_212 ⟨by decide, _, _, _, rfl, rfl⟩ rfl rfl (Nat.le_of_ble_eq_true rfl) ?_
      refine c_nextS o2 o5 hl2 o4 (by omega) (fun _ => o6 0 (by decide)) (fun _ => 0) (fun I' t' hf' ht' e => ?_) (fun I' t' hf' ht' e => ?_) (fun I' t' A' hf' e hfs' => ?_)
      · refine a_istore_n (L' := [_, _, _]) dX12_fits_24 (Nat.le_of_ble_eq_true rfl) rfl ?_
        refine a_iload_n dX12_fits_25 rfl ?_
        refine a_iconst (v := nI 1) dX12_fits_26 (by decide) ?_
        refine a_icmp_ne (tgt := 34) dX12_fits_27 (by decide) (fun h27 => ?_) (fun h27 => ?_)
        · refine a_iload_n dX12_fits_34 rfl ?_
          exact a_ireturn dX12_fits_35 ⟨_, rfl, (h2 lim hl1 hl2 rfl I' t' (prP_tr (prP_frS hf') (prP_tr hpr (prP_up63 (fun _ _ _ _ => rfl) (by omega) _))) ht' (by rw [hf' 63 15 (by decide) (by decide) (by decide) (by decide) (by decide), o1 63 15 (by omega) (by decide) (by decide)]; rfl) e)⟩
        · exact absurd h27 (by decide)
      · refine a_istore_n (L' := [_, _, _]) dX12_fits_24 (Nat.le_of_ble_eq_true rfl) rfl ?_
        refine a_iload_n dX12_fits_25 rfl ?_
        refine a_iconst (v := nI 1) dX12_fits_26 (by decide) ?_
        refine a_icmp_ne (tgt := 34) dX12_fits_27 (by decide) (fun h27 => ?_) (fun h27 => ?_)
        · refine a_iload_n dX12_fits_34 rfl ?_
          exact a_ireturn dX12_fits_35 ⟨_, rfl, (h3 lim hl1 hl2 rfl I' t' (prP_tr (prP_frS hf') (prP_tr hpr (prP_up63 (fun _ _ _ _ => rfl) (by omega) _))) ht' (by rw [hf' 63 15 (by decide) (by decide) (by decide) (by decide) (by decide), o1 63 15 (by omega) (by decide) (by decide)]; rfl) e)⟩
        · exact absurd h27 (by decide)
      · refine a_istore_n (L' := [_, _, _]) dX12_fits_24 (Nat.le_of_ble_eq_true rfl) rfl ?_
        refine a_iload_n dX12_fits_25 rfl ?_
        refine a_iconst (v := nI 1) dX12_fits_26 (by decide) ?_
        refine a_icmp_ne (tgt := 34) dX12_fits_27 (by decide) (fun h27 => ?_) (fun h27 => ?_)
        · exact absurd rfl h27
        · refine a_aload_n dX12_fits_30 rfl ?_
          refine a_callVv (As := []) dX12_fits_31 km_X12_216 ⟨by decide, _, _, _, rfl, rfl⟩ rfl rfl (Nat.le_of_ble_eq_true rfl) ?_
          refine c_keepF hfs' ?_
          refine a_iload_n dX12_fits_34 rfl ?_
          exact a_ireturn dX12_fits_35 ⟨_, rfl, (h1 lim hl1 hl2 rfl _ t' A' _ (prP_keep (prP_tr (prP_frS hf') (prP_tr hpr (prP_up63 (fun _ _ _ _ => rfl) (by omega) _))) _ _ _) hfs'.2.2.2.1 rfl (fun p hp => mKeep_fit hp) e)⟩
    · exact absurd h4 (by decide)
  · refine a_if_ne (tgt := 9) dX12_fits_4 (by decide) (fun h4 => ?_) (fun h4 => ?_)
    · exact absurd h4 (by decide)
    · refine a_iconst (v := (-1)) dX12_fits_7 (by decide) ?_
      exact a_ireturn dX12_fits_8 ⟨_, rfl, (h0 e1)⟩

