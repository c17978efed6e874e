/-! ===== the reference: changes, changed, worst ===== -/
def bsQ (ba : Nat → Int32) : Nat → Bool := fun p => decide (ba p ≠ 0)
/-- what changes() counts: behind the BASE, k places more -/
def chR (ba : Nat → Int32) (NN : Nat) (sq A : Nat → Nat) : Nat → Int32
  | 0 => nI (cN (bsQ ba) NN)
  | k + 1 => chR ba NN sq A k + ((if nI (A k) = ba (sq k) then nI 0 else nI 1) - (if ba (sq k) = 0 then nI 0 else nI 1))
set_option maxHeartbeats 4000000 in
set_option maxRecDepth 100000 in
theorem lp_ch2 {G : am_G} {d : Nat} {I0 : am_I} {J : am_J} {K : Int32 → am_I → am_J → Prop} {m NN : Nat} {sq A : Nat → Nat} (hm : I0 63 20 = nI m) (hm36 : m ≤ 36) (hsq : ∀ k, k < m → I0 77 k = nI (sq k) ∧ sq k < 36 ∧ I0 83 k = nI (A k)) (hK : K (chR (I0 73) NN sq A m) I0 J) : ∀ i, i ≤ m → ∀ v3, AW G cX12_changes 4 RX12 d (am_ex G (some .int) (fun r I J => ∃ x, r = some (.int x) ∧ K x I J)) 42 [some (.ref 63), some (.int (chR (I0 73) NN sq A i)), some (.int (nI i)), v3] [] I0 J := by
  refine am_dn m (fun i hi ih => ?_)
  intro v3
  refine a_iload_n dX12_changes_42 rfl ?_
  refine a_aload_n dX12_changes_43 rfl ?_
  refine a_geti dX12_changes_44 kf_X12_178 ⟨by decide, _, rfl, rfl⟩ hm ?_
  refine a_icmp_geN (tgt := 96) dX12_changes_47 (by decide) (by omega) (by omega) (fun h => ?_) (fun h => ?_)
  · obtain rfl : i = m := by omega
    refine a_iload_n dX12_changes_96 rfl ?_
    exact a_ireturn dX12_changes_97 ⟨_, rfl, hK⟩
  · obtain ⟨q1, q2, q3⟩ := hsq i h
    refine a_aload_n dX12_changes_50 rfl ?_
    refine a_getr dX12_changes_51 kf_X12_42 ⟨by decide, _, rfl, rfl⟩ ?_
    refine a_aload_n dX12_changes_54 rfl ?_
    refine a_getr dX12_changes_55 kf_X12_54 ⟨by decide, _, rfl, rfl⟩ ?_
    refine a_iload_n dX12_changes_58 rfl ?_
    refine a_iald dX12_changes_59 ⟨by decide, rfl⟩ (by omega) q1 ?_
    refine a_iald dX12_changes_60 ⟨by decide, rfl⟩ (by omega) rfl ?_
    refine a_istore_n (L' := [_, _, _, _]) dX12_changes_61 (Nat.le_of_ble_eq_true rfl) rfl ?_
    refine a_iload_n dX12_changes_62 rfl ?_
    refine a_aload_n dX12_changes_63 rfl ?_
    refine a_getr dX12_changes_64 kf_X12_72 ⟨by decide, _, rfl, rfl⟩ ?_
    refine a_iload_n dX12_changes_67 rfl ?_
    refine a_iald dX12_changes_68 ⟨by decide, rfl⟩ (by omega) q3 ?_
    refine a_iload_n dX12_changes_69 rfl ?_
    refine a_ticmp_eq (tgt := 77) (pj := 78) (a := (nI 0)) (b := (nI 1)) dX12_changes_70 (by decide) (fun kj => ?_) (fun kj => ?_) ?_
    · refine a_iconst (v := nI 0) dX12_changes_77 (by decide) ?_
      exact kj
    · refine a_iconst (v := nI 1) dX12_changes_73 (by decide) ?_
      refine a_goto (tgt := 78) dX12_changes_74 (by decide) ?_
      exact kj
    refine a_iload_n dX12_changes_78 rfl ?_
    refine a_tif_eq (tgt := 86) (pj := 87) (a := (nI 0)) (b := (nI 1)) dX12_changes_79 (by decide) (fun kj => ?_) (fun kj => ?_) ?_
    · refine a_iconst (v := nI 0) dX12_changes_86 (by decide) ?_
      exact kj
    · refine a_iconst (v := nI 1) dX12_changes_82 (by decide) ?_
      refine a_goto (tgt := 87) dX12_changes_83 (by decide) ?_
      exact kj
    refine a_isub dX12_changes_87 rfl ?_
    refine a_iadd dX12_changes_88 (show _ = chR (I0 73) NN sq A (i + 1) from rfl) ?_
    refine a_istore_n (L' := [_, _, _, _]) dX12_changes_89 (Nat.le_of_ble_eq_true rfl) rfl ?_
    refine a_iinc (L' := [_, _, _, _]) dX12_changes_90 rfl (nI_inc _) rfl ?_
    refine a_goto (tgt := 42) dX12_changes_93 (by decide) ?_
    exact ih (i + 1) (by omega) (by omega) _

set_option maxHeartbeats 4000000 in
set_option maxRecDepth 100000 in
theorem lp_ch1 {G : am_G} {d : Nat} {I0 : am_I} {J : am_J} {K : Int32 → am_I → am_J → Prop} {m N : Nat} {sq A : Nat → Nat} (hN : I0 63 3 = nI N) (hN6 : N ≤ 6) (hm : I0 63 20 = nI m) (hm36 : m ≤ 36) (hsq : ∀ k, k < m → I0 77 k = nI (sq k) ∧ sq k < 36 ∧ I0 83 k = nI (A k)) (hK : K (chR (I0 73) (N * N) sq A m) I0 J) : ∀ i, i ≤ N * N → AW G cX12_changes 4 RX12 d (am_ex G (some .int) (fun r I J => ∃ x, r = some (.int x) ∧ K x I J)) 4 [some (.ref 63), some (.int (nI (cN (bsQ (I0 73)) i))), some (.int (nI i)), none] [] I0 J := by
  have hsq2 := sq_le hN6
  refine am_dn (N * N) (fun i hi ih => ?_)
  refine a_iload_n dX12_changes_4 rfl ?_
  refine a_aload_n dX12_changes_5 rfl ?_
  refine a_geti dX12_changes_6 kf_X12_13 ⟨by decide, _, rfl, rfl⟩ hN ?_
  refine a_aload_n dX12_changes_9 rfl ?_
  refine a_geti dX12_changes_10 kf_X12_13 ⟨by decide, _, rfl, rfl⟩ hN ?_
  refine a_imul dX12_changes_13 (by first | exact pk_mul _ _ | rfl) ?_
  refine a_icmp_geN (tgt := 40) dX12_changes_14 (by decide) (by omega) (by omega) (fun h => ?_) (fun h => ?_)
  · obtain rfl : i = N * N := by omega
    refine a_iconst (v := nI 0) dX12_changes_40 (by decide) ?_
    refine a_istore_n (L' := [_, _, _, _]) dX12_changes_41 (Nat.le_of_ble_eq_true rfl) rfl ?_
    exact lp_ch2 hm hm36 hsq hK 0 (by omega) none
  · refine a_iload_n dX12_changes_17 rfl ?_
    refine a_aload_n dX12_changes_18 rfl ?_
    refine a_getr dX12_changes_19 kf_X12_42 ⟨by decide, _, rfl, rfl⟩ ?_
    refine a_iload_n dX12_changes_22 rfl ?_
    refine a_iald dX12_changes_23 ⟨by decide, rfl⟩ (by omega) rfl ?_
    refine a_tif_eq (tgt := 31) (pj := 32) (a := (nI 0)) (b := (nI 1)) dX12_changes_24 (by decide) (fun kj => ?_) (fun kj => ?_) ?_
    · refine a_iconst (v := nI 0) dX12_changes_31 (by decide) ?_
      exact kj
    · refine a_iconst (v := nI 1) dX12_changes_27 (by decide) ?_
      refine a_goto (tgt := 32) dX12_changes_28 (by decide) ?_
      exact kj
    refine a_iadd dX12_changes_32 (show _ = nI (cN (bsQ (I0 73)) (i + 1)) by rw [cN_s]; unfold bsQ; by_cases e : I0 73 i = 0 <;> simp [e, nI_add, nI_0]) ?_
    refine a_istore_n (L' := [_, _, _, _]) dX12_changes_33 (Nat.le_of_ble_eq_true rfl) rfl ?_
    refine a_iinc (L' := [_, _, _, _]) dX12_changes_34 rfl (nI_inc _) rfl ?_
    refine a_goto (tgt := 4) dX12_changes_37 (by decide) ?_
    exact ih (i + 1) (by omega) (by omega)

set_option maxHeartbeats 4000000 in
set_option maxRecDepth 100000 in
theorem c_changes {G : am_G} {d : Nat} {I : am_I} {J : am_J} {K : Int32 → am_I → am_J → Prop} {m N : Nat} {sq A : Nat → Nat} (hN : I 63 3 = nI N) (hN6 : N ≤ 6) (hm : I 63 20 = nI m) (hm36 : m ≤ 36) (hsq : ∀ k, k < m → I 77 k = nI (sq k) ∧ sq k < 36 ∧ I 83 k = nI (A k)) (hK : K (chR (I 73) (N * N) sq A m) I J) : CMi G d yX12_changes [.ref 63] I J K := by
  refine CM.of (L0 := [_, _, _, _]) cX12_changes 4 (some .int) (by decide) (by decide) kcX12_changes (Nat.le_of_ble_eq_true rfl) rfl ?_
  refine a_iconst (v := nI 0) dX12_changes_0 (by decide) ?_
  refine a_istore_n (L' := [_, _, _, _]) dX12_changes_1 (Nat.le_of_ble_eq_true rfl) rfl ?_
  refine a_iconst (v := nI 0) dX12_changes_2 (by decide) ?_
  refine a_istore_n (L' := [_, _, _, _]) dX12_changes_3 (Nat.le_of_ble_eq_true rfl) rfl ?_
  exact lp_ch1 hN hN6 hm hm36 hsq hK 0 (by omega)

/-- the first FIT of the best: its worth, and it -/
def beP (bt : Int32 → Int32 → Bool) (val : (Nat → Nat) → Int32) (c : Int32 × Option (Nat → Nat)) (A : Nat → Nat) : (Int32 × Option (Nat → Nat)) × Bool := (if bt c.1 (val A) = true then (val A, some A) else c, false)
def btC (b v : Int32) : Bool := decide (b < 0 ∨ v < b)
def btW (b v : Int32) : Bool := decide (b < v)
def kpP (I : am_I) (sq : Nat → Nat) (m : Nat) (o : Option (Nat → Nat)) : Prop := match o with
  | none => I 63 15 = nI 0
  | some B => I 63 15 = nI 1 ∧ ∀ p, p < 36 → I 74 p = kpR (fun _ => nI 0) sq B m p
theorem kpP_S {I I1 : am_I} {sq : Nat → Nat} {m : Nat} {o : Option (Nat → Nat)} (hf : frS I I1) (h : kpP I1 sq m o) : kpP I sq m o := by
  have e1 : I 63 15 = I1 63 15 := hf 63 15 (by decide) (by decide) (by decide) (by decide) (by decide)
  have e2 : I 74 = I1 74 := frS_row hf (by decide) (by decide) (by decide) (by decide) (by decide)
  cases o with
  | none => show I 63 15 = nI 0; rw [e1]; exact h
  | some B => exact ⟨by rw [e1]; exact h.1, by rw [e2]; exact h.2⟩
theorem kpP_keep (I : am_I) (sq A : Nat → Nat) (m : Nat) : kpP (mKeep I sq A m) sq m (some A) := ⟨rfl, fun p hp => mKeep_fit hp⟩
/-- what changed() and worst() keep of the memory I1 behind opening() -/
def frU (I I1 : am_I) : Prop := ∀ k j, k ≠ 82 → k ≠ 83 → k ≠ 84 → k ≠ 85 → k ≠ 74 → (k = 63 → j ≠ 29 ∧ j ≠ 31 ∧ j ≠ 15) → I k j = I1 k j
theorem frU_S {I I1 I2 : am_I} (h : frS I I1) (h2 : frU I1 I2) : frU I I2 := fun k j a b c d e f => (h k j a b c d (fun z => ⟨(f z).1, (f z).2.1⟩)).trans (h2 k j a b c d e f)
theorem frU_keep {I I2 : am_I} (h2 : frU I I2) (sq A : Nat → Nat) (m : Nat) : frU (mKeep I sq A m) I2 := fun k j a b c d e f => by
  rw [mKeep_row e (fun z => (f z).2.2)]
  exact h2 k j a b c d e f
theorem frU_15 {I I2 : am_I} (h2 : frU I I2) (x : Int32) : frU (am_up I 63 15 x) I2 := fun k j a b c d e f => by
  rw [← h2 k j a b c d e f]
  simp only [am_up]
  by_cases z : k = 63
  · simp [z, (f z).2.2]
  · simp [z]
theorem prP_frU {I1 I2 : am_I} (h : frU I1 I2) : prP I1 I2 := fun k j a b => h k j (by omega) (by omega) (by omega) (by omega) (by omega) (fun e => by have := b e; omega)
theorem kp_no {sq : Nat → Nat} {m : Nat} {o : Option (Nat → Nat)} {I : am_I} (h : kpP I sq m o) : I 63 15 = nI 0 ∨ I 63 15 = nI 1 := by
  cases o with
  | none => exact Or.inl h
  | some B => exact Or.inr h.1
theorem kp_15 {sq : Nat → Nat} {m : Nat} {o : Option (Nat → Nat)} {I : am_I} (h : kpP I sq m o) {x : Int32} (hx : x = I 63 15) : kpP (am_up I 63 15 x) sq m o := by
  cases o with
  | none => show x = nI 0; rw [hx]; exact h
  | some B => exact ⟨by show x = nI 1; rw [hx]; exact h.1, h.2⟩
set_option maxHeartbeats 4000000 in
set_option maxRecDepth 100000 in
theorem lp_changed {G : am_G} {d : Nat} {I1 : am_I} {J : am_J} {K : Int32 → am_I → am_J → Prop} {x : Int32} {n m lim : Nat} {g la : Nat → Nat} {fx : Nat → Option Nat} {sq : Nat → Nat} {tl : Nat → Bool} {lf0 : Nat → Nat} {N t1 st : Nat} {c1 : Int32 × Option (Nat → Nat)} (hN : I1 63 3 = nI N) (hN6 : N ≤ 6) (h0 : st = 0 → ∀ I', frU I' I1 → I' 63 29 = nI t1 → kpP I' sq m c1.2 → K c1.1 I' J) (hS : st = 1 → ∀ I', frU I' I1 → I' 63 29 = nI t1 → I' 63 15 = nI 0 → K (-6) I' J) : ∀ M, ∀ (I : am_I) (A : Nat → Nat) (t : Nat) (c : Int32 × Option (Nat → Nat)) (v4 : Option Value), frU I I1 → fsP g la fx sq tl lf0 n m lim t A I → kpP I sq m c.2 → (bkE g la fx tl n m lf0 A m).length < M → runS (beP btC (fun A => chR (I1 73) (N * N) sq A m)) lim t (bkE g la fx tl n m lf0 A m) (if btC c.1 (chR (I1 73) (N * N) sq A m) = true then (chR (I1 73) (N * N) sq A m, some A) else c) = (t1, st, c1) → AW G cX12_changed 5 RX12 (d + 3) (am_ex G (some .int) (fun r I J => ∃ x, r = some (.int x) ∧ K x I J)) 28 [some (.ref 63), some (.int x), some (.int c.1), some (.int (nI 1)), v4] [] I J := by
  intro M
  induction M with
  | zero => intro I A t c v4 _ _ _ h; omega
  | succ M ih =>
    intro I A t c v4 hf hfs hkp hM hrun
    obtain ⟨hm, hm36, hsq⟩ := fsP_sq hfs
    have e73 : I 73 = I1 73 := by funext j; exact hf 73 j (by decide) (by decide) (by decide) (by decide) (by decide) (fun e => absurd e (by decide))
    have hN' : I 63 3 = nI N := by rw [hf 63 3 (by decide) (by decide) (by decide) (by decide) (by decide) (by decide)]; exact hN
    refine a_iload_n dX12_changed_28 rfl ?_
    refine a_iconst (v := nI 1) dX12_changed_29 (by decide) ?_
    refine a_icmp_ne (tgt := 65) dX12_changed_30 (by decide) (fun h30 => ?_) (fun h30 => ?_)
    · exact absurd rfl h30
    · refine a_aload_n dX12_changed_33 rfl ?_
      refine a_callVi (As := []) dX12_changed_34 km_X12_222 ⟨by decide, _, _, _, rfl, rfl⟩ rfl rfl (Nat.le_of_ble_eq_true rfl) ?_
      refine c_changes hN' hN6 hm hm36 hsq ?_
      rw [e73]
      refine a_istore (L' := [_, _, _, _, _]) dX12_changed_37 (Nat.le_of_ble_eq_true rfl) rfl ?_
      refine a_iload_n dX12_changed_39 rfl ?_
      refine a_if_lt (tgt := 49) dX12_changed_40 (by decide) (fun h40 => ?_) (fun h40 => ?_)
      · have hbt : btC c.1 (chR (I1 73) (N * N) sq A m) = true := by simp only [btC, decide_eq_true_eq]; exact Or.inl h40
        rw [if_pos hbt] at hrun
        refine a_iload dX12_changed_49 rfl ?_
        refine a_istore_n (L' := [_, _, _, _, _]) dX12_changed_51 (Nat.le_of_ble_eq_true rfl) rfl ?_
        refine a_aload_n dX12_changed_52 rfl ?_
        refine a_callVv (As := []) dX12_changed_53 km_X12_216 ⟨by decide, _, _, _, rfl, rfl⟩ rfl rfl (Nat.le_of_ble_eq_true rfl) ?_
        refine c_keepF hfs ?_
        refine a_aload_n dX12_changed_56 rfl ?_
        refine a_iconst (v := nI 0) dX12_changed_57 (by decide) ?_
        refine a_callVi (As := [_]) dX12_changed_58 km_X12_212 ⟨by decide, _, _, _, rfl, rfl⟩ rfl rfl (Nat.le_of_ble_eq_true rfl) ?_
        refine c_nextF (fsP_keep hfs sq A m) (fun I2 t2 hf2 ht2 e => ?_) (fun I2 t2 hf2 ht2 e => ?_) (fun I2 t2 A2 hf2 e hfs2 => ?_)
        · rw [runS_nx, e] at hrun
          obtain ⟨rfl, rfl, rfl⟩ : t2 = t1 ∧ 0 = st ∧ (chR (I1 73) (N * N) sq A m, some A) = c1 := by simpa [runM] using hrun
          refine a_istore_n (L' := [_, _, _, _, _]) dX12_changed_61 (Nat.le_of_ble_eq_true rfl) rfl ?_
          refine a_goto (tgt := 28) dX12_changed_62 (by decide) ?_
          refine a_iload_n dX12_changed_28 rfl ?_
          refine a_iconst (v := nI 1) dX12_changed_29 (by decide) ?_
          refine a_icmp_ne (tgt := 65) dX12_changed_30 (by decide) (fun h30 => ?_) (fun h30 => ?_)
          · refine a_aload_n dX12_changed_65 rfl ?_
            refine a_aload_n dX12_changed_66 rfl ?_
            refine a_geti dX12_changed_67 kf_X12_118 ⟨by decide, _, rfl, rfl⟩ rfl ?_
            refine a_if_eq (tgt := 81) dX12_changed_70 (by decide) (fun h70 => ?_) (fun h70 => ?_)
            · refine a_iconst (v := nI 0) dX12_changed_81 (by decide) ?_
              refine a_putz dX12_changed_82 kp_X12_118 ⟨by decide, _, rfl, rfl⟩ (by first | exact Or.inl rfl | exact Or.inr rfl) ?_
              refine a_iload_n dX12_changed_85 rfl ?_
              refine a_if_ge (tgt := 93) dX12_changed_86 (by decide) (fun h86 => ?_) (fun h86 => ?_)
              · refine a_iload_n dX12_changed_93 rfl ?_
                exact a_ireturn dX12_changed_94 ⟨_, rfl, (h0 rfl _ (frU_15 (frU_S hf2 (frU_keep hf sq A m)) _) ht2 (kp_15 (kpP_S hf2 (kpP_keep I sq A m)) h70.symm))⟩
              · exact absurd (show (0 : Int32) ≤ nI 0 by decide) h86
            · refine a_iload_n dX12_changed_73 rfl ?_
              refine a_if_ne (tgt := 81) dX12_changed_74 (by decide) (fun h74 => ?_) (fun h74 => ?_)
              · exact absurd rfl h74
              · refine a_iconst (v := nI 1) dX12_changed_77 (by decide) ?_
                refine a_goto (tgt := 82) dX12_changed_78 (by decide) ?_
                refine a_putz dX12_changed_82 kp_X12_118 ⟨by decide, _, rfl, rfl⟩ (by first | exact Or.inl rfl | exact Or.inr rfl) ?_
                refine a_iload_n dX12_changed_85 rfl ?_
                refine a_if_ge (tgt := 93) dX12_changed_86 (by decide) (fun h86 => ?_) (fun h86 => ?_)
                · refine a_iload_n dX12_changed_93 rfl ?_
                  exact a_ireturn dX12_changed_94 ⟨_, rfl, (h0 rfl _ (frU_15 (frU_S hf2 (frU_keep hf sq A m)) _) ht2 (kp_15 (kpP_S hf2 (kpP_keep I sq A m)) ((kp_no (kpP_S hf2 (kpP_keep I sq A m))).resolve_left h70).symm))⟩
                · exact absurd (show (0 : Int32) ≤ nI 0 by decide) h86
          · exact absurd h30 (by decide)
        · rw [runS_nx, e] at hrun
          obtain ⟨rfl, rfl, rfl⟩ : t2 = t1 ∧ 1 = st ∧ (chR (I1 73) (N * N) sq A m, some A) = c1 := by simpa [runM] using hrun
          refine a_istore_n (L' := [_, _, _, _, _]) dX12_changed_61 (Nat.le_of_ble_eq_true rfl) rfl ?_
          refine a_goto (tgt := 28) dX12_changed_62 (by decide) ?_
          refine a_iload_n dX12_changed_28 rfl ?_
          refine a_iconst (v := nI 1) dX12_changed_29 (by decide) ?_
          refine a_icmp_ne (tgt := 65) dX12_changed_30 (by decide) (fun h30 => ?_) (fun h30 => ?_)
          · refine a_aload_n dX12_changed_65 rfl ?_
            refine a_aload_n dX12_changed_66 rfl ?_
            refine a_geti dX12_changed_67 kf_X12_118 ⟨by decide, _, rfl, rfl⟩ rfl ?_
            refine a_if_eq (tgt := 81) dX12_changed_70 (by decide) (fun h70 => ?_) (fun h70 => ?_)
            · refine a_iconst (v := nI 0) dX12_changed_81 (by decide) ?_
              refine a_putz dX12_changed_82 kp_X12_118 ⟨by decide, _, rfl, rfl⟩ (by first | exact Or.inl rfl | exact Or.inr rfl) ?_
              refine a_iload_n dX12_changed_85 rfl ?_
              refine a_if_ge (tgt := 93) dX12_changed_86 (by decide) (fun h86 => ?_) (fun h86 => ?_)
              · exact absurd h86 (by decide)
              · refine a_iload_n dX12_changed_89 rfl ?_
                refine a_goto (tgt := 94) dX12_changed_90 (by decide) ?_
                exact a_ireturn dX12_changed_94 ⟨_, rfl, (hS rfl _ (frU_15 (frU_S hf2 (frU_keep hf sq A m)) _) ht2 rfl)⟩
            · refine a_iload_n dX12_changed_73 rfl ?_
              refine a_if_ne (tgt := 81) dX12_changed_74 (by decide) (fun h74 => ?_) (fun h74 => ?_)
              · refine a_iconst (v := nI 0) dX12_changed_81 (by decide) ?_
                refine a_putz dX12_changed_82 kp_X12_118 ⟨by decide, _, rfl, rfl⟩ (by first | exact Or.inl rfl | exact Or.inr rfl) ?_
                refine a_iload_n dX12_changed_85 rfl ?_
                refine a_if_ge (tgt := 93) dX12_changed_86 (by decide) (fun h86 => ?_) (fun h86 => ?_)
                · exact absurd h86 (by decide)
                · refine a_iload_n dX12_changed_89 rfl ?_
                  refine a_goto (tgt := 94) dX12_changed_90 (by decide) ?_
                  exact a_ireturn dX12_changed_94 ⟨_, rfl, (hS rfl _ (frU_15 (frU_S hf2 (frU_keep hf sq A m)) _) ht2 rfl)⟩
              · exact absurd h74 (by decide)
          · exact absurd h30 (by decide)
        · rw [runS_nx, e] at hrun
          have hlen := nxE_len _ _ _ _ _ e
          refine a_istore_n (L' := [_, _, _, _, _]) dX12_changed_61 (Nat.le_of_ble_eq_true rfl) rfl ?_
          refine a_goto (tgt := 28) dX12_changed_62 (by decide) ?_
          exact ih I2 A2 t2 (chR (I1 73) (N * N) sq A m, some A) _ (frU_S hf2 (frU_keep hf sq A m)) hfs2 (kpP_S hf2 (kpP_keep I sq A m)) (by omega) (by simpa [beP, runM] using hrun)
      · refine a_iload dX12_changed_43 rfl ?_
        refine a_iload_n dX12_changed_45 rfl ?_
        refine a_icmp_ge (tgt := 56) dX12_changed_46 (by decide) (fun h46 => ?_) (fun h46 => ?_)
        · have hbt : ¬ btC c.1 (chR (I1 73) (N * N) sq A m) = true := by simp only [btC, decide_eq_true_eq]; exact fun q => q.elim h40 (Int32.not_lt.mpr h46)
          rw [if_neg hbt] at hrun
          refine a_aload_n dX12_changed_56 rfl ?_
          refine a_iconst (v := nI 0) dX12_changed_57 (by decide) ?_
          refine a_callVi (As := [_]) dX12_changed_58 km_X12_212 ⟨by decide, _, _, _, rfl, rfl⟩ rfl rfl (Nat.le_of_ble_eq_true rfl) ?_
          refine c_nextF hfs (fun I2 t2 hf2 ht2 e => ?_) (fun I2 t2 hf2 ht2 e => ?_) (fun I2 t2 A2 hf2 e hfs2 => ?_)
          · rw [runS_nx, e] at hrun
            obtain ⟨rfl, rfl, rfl⟩ : t2 = t1 ∧ 0 = st ∧ c = c1 := by simpa [runM] using hrun
            refine a_istore_n (L' := [_, _, _, _, _]) dX12_changed_61 (Nat.le_of_ble_eq_true rfl) rfl ?_
            refine a_goto (tgt := 28) dX12_changed_62 (by decide) ?_
            refine a_iload_n dX12_changed_28 rfl ?_
            refine a_iconst (v := nI 1) dX12_changed_29 (by decide) ?_
            refine a_icmp_ne (tgt := 65) dX12_changed_30 (by decide) (fun h30 => ?_) (fun h30 => ?_)
            · refine a_aload_n dX12_changed_65 rfl ?_
              refine a_aload_n dX12_changed_66 rfl ?_
              refine a_geti dX12_changed_67 kf_X12_118 ⟨by decide, _, rfl, rfl⟩ rfl ?_
              refine a_if_eq (tgt := 81) dX12_changed_70 (by decide) (fun h70 => ?_) (fun h70 => ?_)
              · refine a_iconst (v := nI 0) dX12_changed_81 (by decide) ?_
                refine a_putz dX12_changed_82 kp_X12_118 ⟨by decide, _, rfl, rfl⟩ (by first | exact Or.inl rfl | exact Or.inr rfl) ?_
                refine a_iload_n dX12_changed_85 rfl ?_
                refine a_if_ge (tgt := 93) dX12_changed_86 (by decide) (fun h86 => ?_) (fun h86 => ?_)
                · refine a_iload_n dX12_changed_93 rfl ?_
                  exact a_ireturn dX12_changed_94 ⟨_, rfl, (h0 rfl _ (frU_15 (frU_S hf2 hf) _) ht2 (kp_15 (kpP_S hf2 hkp) h70.symm))⟩
                · exact absurd (show (0 : Int32) ≤ nI 0 by decide) h86
              · refine a_iload_n dX12_changed_73 rfl ?_
                refine a_if_ne (tgt := 81) dX12_changed_74 (by decide) (fun h74 => ?_) (fun h74 => ?_)
                · exact absurd rfl h74
                · refine a_iconst (v := nI 1) dX12_changed_77 (by decide) ?_
                  refine a_goto (tgt := 82) dX12_changed_78 (by decide) ?_
                  refine a_putz dX12_changed_82 kp_X12_118 ⟨by decide, _, rfl, rfl⟩ (by first | exact Or.inl rfl | exact Or.inr rfl) ?_
                  refine a_iload_n dX12_changed_85 rfl ?_
                  refine a_if_ge (tgt := 93) dX12_changed_86 (by decide) (fun h86 => ?_) (fun h86 => ?_)
                  · refine a_iload_n dX12_changed_93 rfl ?_
                    exact a_ireturn dX12_changed_94 ⟨_, rfl, (h0 rfl _ (frU_15 (frU_S hf2 hf) _) ht2 (kp_15 (kpP_S hf2 hkp) ((kp_no (kpP_S hf2 hkp)).resolve_left h70).symm))⟩
                  · exact absurd (show (0 : Int32) ≤ nI 0 by decide) h86
            · exact absurd h30 (by decide)
          · rw [runS_nx, e] at hrun
            obtain ⟨rfl, rfl, rfl⟩ : t2 = t1 ∧ 1 = st ∧ c = c1 := by simpa [runM] using hrun
            refine a_istore_n (L' := [_, _, _, _, _]) dX12_changed_61 (Nat.le_of_ble_eq_true rfl) rfl ?_
            refine a_goto (tgt := 28) dX12_changed_62 (by decide) ?_
            refine a_iload_n dX12_changed_28 rfl ?_
            refine a_iconst (v := nI 1) dX12_changed_29 (by decide) ?_
            refine a_icmp_ne (tgt := 65) dX12_changed_30 (by decide) (fun h30 => ?_) (fun h30 => ?_)
            · refine a_aload_n dX12_changed_65 rfl ?_
              refine a_aload_n dX12_changed_66 rfl ?_
              refine a_geti dX12_changed_67 kf_X12_118 ⟨by decide, _, rfl, rfl⟩ rfl ?_
              refine a_if_eq (tgt := 81) dX12_changed_70 (by decide) (fun h70 => ?_) (fun h70 => ?_)
              · refine a_iconst (v := nI 0) dX12_changed_81 (by decide) ?_
                refine a_putz dX12_changed_82 kp_X12_118 ⟨by decide, _, rfl, rfl⟩ (by first | exact Or.inl rfl | exact Or.inr rfl) ?_
                refine a_iload_n dX12_changed_85 rfl ?_
                refine a_if_ge (tgt := 93) dX12_changed_86 (by decide) (fun h86 => ?_) (fun h86 => ?_)
                · exact absurd h86 (by decide)
                · refine a_iload_n dX12_changed_89 rfl ?_
                  refine a_goto (tgt := 94) dX12_changed_90 (by decide) ?_
                  exact a_ireturn dX12_changed_94 ⟨_, rfl, (hS rfl _ (frU_15 (frU_S hf2 hf) _) ht2 rfl)⟩
              · refine a_iload_n dX12_changed_73 rfl ?_
                refine a_if_ne (tgt := 81) dX12_changed_74 (by decide) (fun h74 => ?_) (fun h74 => ?_)
                · refine a_iconst (v := nI 0) dX12_changed_81 (by decide) ?_
                  refine a_putz dX12_changed_82 kp_X12_118 ⟨by decide, _, rfl, rfl⟩ (by first | exact Or.inl rfl | exact Or.inr rfl) ?_
                  refine a_iload_n dX12_changed_85 rfl ?_
                  refine a_if_ge (tgt := 93) dX12_changed_86 (by decide) (fun h86 => ?_) (fun h86 => ?_)
                  · exact absurd h86 (by decide)
                  · refine a_iload_n dX12_changed_89 rfl ?_
                    refine a_goto (tgt := 94) dX12_changed_90 (by decide) ?_
                    exact a_ireturn dX12_changed_94 ⟨_, rfl, (hS rfl _ (frU_15 (frU_S hf2 hf) _) ht2 rfl)⟩
                · exact absurd h74 (by decide)
            · exact absurd h30 (by decide)
          · rw [runS_nx, e] at hrun
            have hlen := nxE_len _ _ _ _ _ e
            refine a_istore_n (L' := [_, _, _, _, _]) dX12_changed_61 (Nat.le_of_ble_eq_true rfl) rfl ?_
            refine a_goto (tgt := 28) dX12_changed_62 (by decide) ?_
            exact ih I2 A2 t2 c _ (frU_S hf2 hf) hfs2 (kpP_S hf2 hkp) (by omega) (by simpa [beP, runM] using hrun)
        · have hbt : btC c.1 (chR (I1 73) (N * N) sq A m) = true := by simp only [btC, decide_eq_true_eq]; exact Or.inr (Int32.not_le.mp h46)
          rw [if_pos hbt] at hrun
          refine a_iload dX12_changed_49 rfl ?_
          refine a_istore_n (L' := [_, _, _, _, _]) dX12_changed_51 (Nat.le_of_ble_eq_true rfl) rfl ?_
          refine a_aload_n dX12_changed_52 rfl ?_
          refine a_callVv (As := []) dX12_changed_53 km_X12_216 ⟨by decide, _, _, _, rfl, rfl⟩ rfl rfl (Nat.le_of_ble_eq_true rfl) ?_
          refine c_keepF hfs ?_
          refine a_aload_n dX12_changed_56 rfl ?_
          refine a_iconst (v := nI 0) dX12_changed_57 (by decide) ?_
          refine a_callVi (As := [_]) dX12_changed_58 km_X12_212 ⟨by decide, _, _, _, rfl, rfl⟩ rfl rfl (Nat.le_of_ble_eq_true rfl) ?_
          refine c_nextF (fsP_keep hfs sq A m) (fun I2 t2 hf2 ht2 e => ?_) (fun I2 t2 hf2 ht2 e => ?_) (fun I2 t2 A2 hf2 e hfs2 => ?_)
          · rw [runS_nx, e] at hrun
            obtain ⟨rfl, rfl, rfl⟩ : t2 = t1 ∧ 0 = st ∧ (chR (I1 73) (N * N) sq A m, some A) = c1 := by simpa [runM] using hrun
            refine a_istore_n (L' := [_, _, _, _, _]) dX12_changed_61 (Nat.le_of_ble_eq_true rfl) rfl ?_
            refine a_goto (tgt := 28) dX12_changed_62 (by decide) ?_
            refine a_iload_n dX12_changed_28 rfl ?_
            refine a_iconst (v := nI 1) dX12_changed_29 (by decide) ?_
            refine a_icmp_ne (tgt := 65) dX12_changed_30 (by decide) (fun h30 => ?_) (fun h30 => ?_)
            · refine a_aload_n dX12_changed_65 rfl ?_
              refine a_aload_n dX12_changed_66 rfl ?_
              refine a_geti dX12_changed_67 kf_X12_118 ⟨by decide, _, rfl, rfl⟩ rfl ?_
              refine a_if_eq (tgt := 81) dX12_changed_70 (by decide) (fun h70 => ?_) (fun h70 => ?_)
              · refine a_iconst (v := nI 0) dX12_changed_81 (by decide) ?_
                refine a_putz dX12_changed_82 kp_X12_118 ⟨by decide, _, rfl, rfl⟩ (by first | exact Or.inl rfl | exact Or.inr rfl) ?_
                refine a_iload_n dX12_changed_85 rfl ?_
                refine a_if_ge (tgt := 93) dX12_changed_86 (by decide) (fun h86 => ?_) (fun h86 => ?_)
                · refine a_iload_n dX12_changed_93 rfl ?_
                  exact a_ireturn dX12_changed_94 ⟨_, rfl, (h0 rfl _ (frU_15 (frU_S hf2 (frU_keep hf sq A m)) _) ht2 (kp_15 (kpP_S hf2 (kpP_keep I sq A m)) h70.symm))⟩
                · exact absurd (show (0 : Int32) ≤ nI 0 by decide) h86
              · refine a_iload_n dX12_changed_73 rfl ?_
                refine a_if_ne (tgt := 81) dX12_changed_74 (by decide) (fun h74 => ?_) (fun h74 => ?_)
                · exact absurd rfl h74
                · refine a_iconst (v := nI 1) dX12_changed_77 (by decide) ?_
                  refine a_goto (tgt := 82) dX12_changed_78 (by decide) ?_
                  refine a_putz dX12_changed_82 kp_X12_118 ⟨by decide, _, rfl, rfl⟩ (by first | exact Or.inl rfl | exact Or.inr rfl) ?_
                  refine a_iload_n dX12_changed_85 rfl ?_
                  refine a_if_ge (tgt := 93) dX12_changed_86 (by decide) (fun h86 => ?_) (fun h86 => ?_)
                  · refine a_iload_n dX12_changed_93 rfl ?_
                    exact a_ireturn dX12_changed_94 ⟨_, rfl, (h0 rfl _ (frU_15 (frU_S hf2 (frU_keep hf sq A m)) _) ht2 (kp_15 (kpP_S hf2 (kpP_keep I sq A m)) ((kp_no (kpP_S hf2 (kpP_keep I sq A m))).resolve_left h70).symm))⟩
                  · exact absurd (show (0 : Int32) ≤ nI 0 by decide) h86
            · exact absurd h30 (by decide)
          · rw [runS_nx, e] at hrun
            obtain ⟨rfl, rfl, rfl⟩ : t2 = t1 ∧ 1 = st ∧ (chR (I1 73) (N * N) sq A m, some A) = c1 := by simpa [runM] using hrun
            refine a_istore_n (L' := [_, _, _, _, _]) dX12_changed_61 (Nat.le_of_ble_eq_true rfl) rfl ?_
            refine a_goto (tgt := 28) dX12_changed_62 (by decide) ?_
            refine a_iload_n dX12_changed_28 rfl ?_
            refine a_iconst (v := nI 1) dX12_changed_29 (by decide) ?_
            refine a_icmp_ne (tgt := 65) dX12_changed_30 (by decide) (fun h30 => ?_) (fun h30 => ?_)
            · refine a_aload_n dX12_changed_65 rfl ?_
              refine a_aload_n dX12_changed_66 rfl ?_
              refine a_geti dX12_changed_67 kf_X12_118 ⟨by decide, _, rfl, rfl⟩ rfl ?_
              refine a_if_eq (tgt := 81) dX12_changed_70 (by decide) (fun h70 => ?_) (fun h70 => ?_)
              · refine a_iconst (v := nI 0) dX12_changed_81 (by decide) ?_
                refine a_putz dX12_changed_82 kp_X12_118 ⟨by decide, _, rfl, rfl⟩ (by first | exact Or.inl rfl | exact Or.inr rfl) ?_
                refine a_iload_n dX12_changed_85 rfl ?_
                refine a_if_ge (tgt := 93) dX12_changed_86 (by decide) (fun h86 => ?_) (fun h86 => ?_)
                · exact absurd h86 (by decide)
                · refine a_iload_n dX12_changed_89 rfl ?_
                  refine a_goto (tgt := 94) dX12_changed_90 (by decide) ?_
                  exact a_ireturn dX12_changed_94 ⟨_, rfl, (hS rfl _ (frU_15 (frU_S hf2 (frU_keep hf sq A m)) _) ht2 rfl)⟩
              · refine a_iload_n dX12_changed_73 rfl ?_
                refine a_if_ne (tgt := 81) dX12_changed_74 (by decide) (fun h74 => ?_) (fun h74 => ?_)
                · refine a_iconst (v := nI 0) dX12_changed_81 (by decide) ?_
                  refine a_putz dX12_changed_82 kp_X12_118 ⟨by decide, _, rfl, rfl⟩ (by first | exact Or.inl rfl | exact Or.inr rfl) ?_
                  refine a_iload_n dX12_changed_85 rfl ?_
                  refine a_if_ge (tgt := 93) dX12_changed_86 (by decide) (fun h86 => ?_) (fun h86 => ?_)
                  · exact absurd h86 (by decide)
                  · refine a_iload_n dX12_changed_89 rfl ?_
                    refine a_goto (tgt := 94) dX12_changed_90 (by decide) ?_
                    exact a_ireturn dX12_changed_94 ⟨_, rfl, (hS rfl _ (frU_15 (frU_S hf2 (frU_keep hf sq A m)) _) ht2 rfl)⟩
                · exact absurd h74 (by decide)
            · exact absurd h30 (by decide)
          · rw [runS_nx, e] at hrun
            have hlen := nxE_len _ _ _ _ _ e
            refine a_istore_n (L' := [_, _, _, _, _]) dX12_changed_61 (Nat.le_of_ble_eq_true rfl) rfl ?_
            refine a_goto (tgt := 28) dX12_changed_62 (by decide) ?_
            exact ih I2 A2 t2 (chR (I1 73) (N * N) sq A m, some A) _ (frU_S hf2 (frU_keep hf sq A m)) hfs2 (kpP_S hf2 (kpP_keep I sq A m)) (by omega) (by simpa [beP, runM] using hrun)

