/-! ===== the reference: next as it is called; setSeeking, opening ===== -/
theorem lf_bs {I : am_I} {n m : Nat} {g la : Nat → Nat} {fx : Nat → Option Nat} {sq : Nat → Nat} {tl : Nat → Bool} {lf0 : Nat → Nat} (hS : skP I n m g la fx sq tl lf0) : lfP (am_up (mLf I n) 63 31 (nI 0)) n tl lf0 := fun l hl => by
  rw [am_up_ne (by decide)]
  show (if 82 = 82 ∧ l < n then I 70 l else _) = _
  rw [if_pos ⟨rfl, hl⟩]
  exact hS.2.2.2.2.2.1 l hl
theorem frS_bs (I : am_I) (n : Nat) : frS (am_up (mLf I n) 63 31 (nI 0)) I := fun a b h1 h2 h3 h4 h5 => by
  simp only [am_up, mLf]
  by_cases e : a = 63
  · simp [e, (h5 e).2]
  · simp [e, h1]
set_option maxHeartbeats 4000000 in
set_option maxRecDepth 100000 in
theorem c_next1 {G : am_G} {d : Nat} {I : am_I} {J : am_J} {K : Int32 → am_I → am_J → Prop} {n m lim t : Nat} {g la : Nat → Nat} {fx : Nat → Option Nat} {sq : Nat → Nat} {tl : Nat → Bool} {lf0 : Nat → Nat} (hS : skP I n m g la fx sq tl lf0) (hlim : I 63 30 = nI lim) (hl2 : lim ≤ 20000) (ht : I 63 29 = nI t) (htl : t ≤ lim) (h85 : 0 < m → I 85 0 = nI 0) (A : Nat → Nat) (hK : nxK K J I g la fx tl n m lf0 (nxE lim t (evS g la fx tl n m 0 lf0 A))) : CMi G (d + 2) yX12_next [.ref 63, .int (nI 1)] I J K := by
  refine CM.of (L0 := [_, _]) cX12_next 2 (some .int) (by decide) (by decide) kcX12_next (Nat.le_of_ble_eq_true rfl) rfl ?_
  refine a_iload_n dX12_next_0 rfl ?_
  refine a_if_eq (tgt := 11) dX12_next_1 (by decide) (fun h1 => ?_) (fun h1 => ?_)
  · exact absurd h1 (by decide)
  · refine a_aload_n dX12_next_4 rfl ?_
    refine a_callVv (As := []) dX12_next_5 km_X12_187 ⟨by decide, _, _, _, rfl, rfl⟩ rfl rfl (Nat.le_of_ble_eq_true rfl) ?_
    have hS' := hS
    obtain ⟨hn, hn12, hm, hm36, hsk, h70, hl0⟩ := hS'
    refine c_bs hn hn12 ?_
    by_cases em : m = 0
    · refine c_begin0 (k := 0) rfl hm (by omega) (by omega) ?_
      refine a_goto (tgt := 21) dX12_next_8 (by decide) ?_
      refine (lp_next (d := d + 1) hS hlim hl2 hK _).2 _ A 0 t (by omega) (frS_bs I n) ht htl rfl (fun j hj => by omega) (lf_bs hS) (fun q => by omega) (by rw [bkE, List.append_nil, Nat.sub_zero]; rfl) (Nat.lt_succ_self _)
    · have hm0 : 0 < m := by omega
      obtain ⟨p1, p2, p3, p4, p5, p6, p7, p8, p9⟩ := hsk 0 hm0
      have hlf := lf_bs hS
      refine c_begin (fx := fx 0) (lf := lf0) hn hn12 rfl (by omega) p1 p2 p3 p4 (fun l hl hgb => by rw [hlf l hl, if_pos (p9 l hl hgb)]) hl0 hm hm0 hm36 p5 p6 p7 p8 ?_
      refine a_goto (tgt := 21) dX12_next_8 (by decide) ?_
      refine (lp_next (d := d + 1) hS hlim hl2 hK _).2 _ A 0 t (by omega) (fun a b z1 z2 z3 z4 z5 => ?_) ht htl rfl (fun j hj => by omega) (fun l hl => ?_) (fun q => ⟨?_, ?_, ?_⟩) (by rw [bkE, List.append_nil, Nat.sub_zero]; rfl) (Nat.lt_succ_self _)
      · rw [mBg_row z2 z3]; exact frS_bs I n a b z1 z2 z3 z4 z5
      · rw [mBg_row (by decide) (by decide)]; exact hlf l hl
      · simp [mBg, am_up]; rfl
      · simp [mBg, am_up]; rfl
      · rw [mBg_row (by decide) (by decide)]; exact h85 hm0

set_option maxHeartbeats 4000000 in
set_option maxRecDepth 100000 in
theorem c_next0 {G : am_G} {d : Nat} {I I0 : am_I} {J : am_J} {K : Int32 → am_I → am_J → Prop} {n m lim t : Nat} {g la : Nat → Nat} {fx : Nat → Option Nat} {sq : Nat → Nat} {tl : Nat → Bool} {lf0 : Nat → Nat} {A : Nat → Nat} (hS : skP I0 n m g la fx sq tl lf0) (hf : frS I I0) (hlim : I0 63 30 = nI lim) (hl2 : lim ≤ 20000) (ht : I 63 29 = nI t) (htl : t ≤ lim) (h31 : I 63 31 = nI m) (hcf : cfP g la fx n lf0 A m I) (hlf : lfP I n tl (lfA g lf0 A m)) (hK : nxK K J I0 g la fx tl n m lf0 (nxE lim t (bkE g la fx tl n m lf0 A m))) : CMi G (d + 2) yX12_next [.ref 63, .int (nI 0)] I J K := by
  refine CM.of (L0 := [_, _]) cX12_next 2 (some .int) (by decide) (by decide) kcX12_next (Nat.le_of_ble_eq_true rfl) rfl ?_
  refine a_iload_n dX12_next_0 rfl ?_
  refine a_if_eq (tgt := 11) dX12_next_1 (by decide) (fun h1 => ?_) (fun h1 => ?_)
  · refine a_aload_n dX12_next_11 rfl ?_
    refine a_dup dX12_next_12 rfl ?_
    refine a_geti dX12_next_13 kf_X12_181 ⟨by decide, _, rfl, rfl⟩ h31 ?_
    refine a_iconst (v := nI 1) dX12_next_16 (by decide) ?_
    refine a_isub dX12_next_17 rfl ?_
    refine a_puti dX12_next_18 kp_X12_181 ⟨by decide, _, rfl, rfl⟩ ?_
    refine (lp_next (d := d + 1) hS hlim hl2 hK _).1 _ A m t (Nat.le_refl _) (fun a b z1 z2 z3 z4 z5 => ?_) ht htl rfl (fun j hj => hcf j hj) (fun l hl => hlf l hl) rfl (Nat.lt_succ_self _)
    rw [← hf a b z1 z2 z3 z4 z5]
    simp only [am_up]
    by_cases e : a = 63
    · simp [e, (z5 e).2]
    · simp [e]
  · exact absurd rfl h1

/-- the bits of the places below i where p holds -/
def tbN (p : Nat → Bool) : Nat → Nat
  | 0 => 0
  | l + 1 => tbN p l ||| (if p l = true then 2 ^ l else 0)
theorem tbN_lt (p : Nat → Bool) {n : Nat} : ∀ i, i ≤ n → tbN p i < 2 ^ n
  | 0, _ => Nat.two_pow_pos n
  | i + 1, h => by
    have h1 := tbN_lt p (n := n) i (by omega)
    rw [tbN]
    split
    · exact bx_lt h1 (by omega)
    · rw [Nat.or_zero]; exact h1
theorem tbN_test (p : Nat → Bool) (j : Nat) : ∀ i, (tbN p i).testBit j = (decide (j < i) && p j)
  | 0 => by simp [tbN]
  | i + 1 => by
    rw [tbN, Nat.testBit_or, tbN_test p j i]
    by_cases e : j = i
    · subst e
      by_cases q : p j = true
      · simp [q, Nat.testBit_two_pow]
      · simp [q]
    · by_cases q : p i = true
      · simp [q, Nat.testBit_two_pow, Ne.symm e]
        by_cases z : j < i
        · simp [z, show j < i + 1 by omega]
        · simp [z, show ¬ j < i + 1 by omega]
      · simp [q]
        by_cases z : j < i
        · simp [z, show j < i + 1 by omega]
        · simp [z, show ¬ j < i + 1 by omega]
def tlI (I : am_I) : Nat → Bool := fun l => decide (I 70 l ≠ -9)
/-- is the PAIR p sought: rb its bits, me its meter, tb those told -/
def selQ (rb : Nat → Option Nat) (me : Nat → Int32) (tb p : Nat) : Bool := match rb p with
  | none => false
  | some r => decide (me p ≠ -9) || decide (r &&& tb ≠ 0)
def sqL (rb : Nat → Option Nat) (me : Nat → Int32) (tb : Nat) : Nat → List Nat
  | 0 => []
  | p + 1 => if selQ rb me tb p = true then sqL rb me tb p ++ [p] else sqL rb me tb p
theorem sqL_mem (rb : Nat → Option Nat) (me : Nat → Int32) (tb q : Nat) : ∀ p, q ∈ sqL rb me tb p ↔ q < p ∧ selQ rb me tb q = true
  | 0 => by simp [sqL]
  | p + 1 => by
    rw [sqL]
    split
    · rename_i h
      rw [List.mem_append, sqL_mem rb me tb q p, List.mem_singleton]
      constructor
      · rintro (⟨h1, h2⟩ | h1)
        · exact ⟨by omega, h2⟩
        · subst h1; exact ⟨by omega, h⟩
      · rintro ⟨h1, h2⟩
        by_cases e : q = p
        · exact Or.inr e
        · exact Or.inl ⟨by omega, h2⟩
    · rename_i h
      rw [sqL_mem rb me tb q p]
      constructor
      · rintro ⟨h1, h2⟩; exact ⟨by omega, h2⟩
      · rintro ⟨h1, h2⟩
        have : q ≠ p := fun e => h (e ▸ h2)
        exact ⟨by omega, h2⟩
theorem sqL_len (rb : Nat → Option Nat) (me : Nat → Int32) (tb : Nat) : ∀ p, (sqL rb me tb p).length ≤ p
  | 0 => Nat.le_refl _
  | p + 1 => by
    have := sqL_len rb me tb p
    rw [sqL]
    split
    · rw [List.length_append, List.length_singleton]; omega
    · omega
def goB (rb : Nat → Option Nat) (tb p : Nat) : Nat := ((rb p).getD 0) &&& tb
/-- the bits of the last c of m places -/
def bhN (g : Nat → Nat) (m : Nat) : Nat → Nat
  | 0 => 0
  | c + 1 => bhN g m c ||| g (m - 1 - c)
def laN (g : Nat → Nat) (m k : Nat) : Nat := g k ^^^ (g k &&& bhN g m (m - 1 - k))
theorem bx_not {a b : Nat} (ha : a < 2 ^ 31) : nI a &&& (nI b ^^^ (-1)) = nI (a ^^^ (a &&& b)) := by
  rw [show (-1 : Int32) = nI (2 ^ 32 - 1) by decide, bx_xor, bx_and]
  congr 1
  apply Nat.eq_of_testBit_eq
  intro i
  rw [Nat.testBit_and, Nat.testBit_xor, Nat.testBit_xor, Nat.testBit_and, Nat.testBit_two_pow_sub_one]
  by_cases hi : i < 32
  · simp only [hi, decide_true]
    cases a.testBit i <;> cases b.testBit i <;> rfl
  · have : a.testBit i = false := Nat.testBit_lt_two_pow (Nat.lt_of_lt_of_le ha (Nat.pow_le_pow_right (by decide) (by omega)))
    simp [this]
theorem bhN_lt {g : Nat → Nat} {m : Nat} (h : ∀ k, k < m → g k < 2 ^ 12) : ∀ c, c ≤ m → bhN g m c < 2 ^ 12
  | 0, _ => Nat.two_pow_pos 12
  | c + 1, hc => by
    rw [bhN]
    exact Nat.or_lt_two_pow (bhN_lt h c (by omega)) (h _ (by omega))
def frQ (I I0 : am_I) : Prop := ∀ k j, (k < 75 ∨ 81 < k) → (k = 63 → j ≠ 18 ∧ j ≠ 19 ∧ j ≠ 20) → I k j = I0 k j
theorem frQ_of {I I0 : am_I} (h : frR I I0) : frQ I I0 := fun k j h1 h2 => h k j (by omega) (by omega) (fun e => ⟨(h2 e).1, (h2 e).2.1⟩)
theorem frQ_row {I I0 : am_I} (h : frQ I I0) {k : Nat} (h1 : k < 75 ∨ 81 < k) (h2 : k ≠ 63) : I k = I0 k := by
  funext j
  exact h k j h1 (fun e => absurd e h2)
theorem frQ_up {I I0 : am_I} (h : frQ I I0) {p : Nat} (hp : ¬ (p < 75 ∨ 81 < p)) (j : Nat) (x : Int32) : frQ (am_up I p j x) I0 := fun a b h1 h2 => by
  have e : a ≠ p := fun e => hp (by subst e; exact h1)
  rw [am_up_ne e]
  exact h a b h1 h2
theorem frQ_up63 {I I0 : am_I} (h : frQ I I0) (x : Int32) : frQ (am_up I 63 20 x) I0 := fun a b h1 h2 => by
  rw [← h a b h1 h2]
  simp only [am_up]
  by_cases e : a = 63
  · simp [e, (h2 e).2.2]
  · simp [e]
/-- behind p PAIRS -/
def ssP (rb : Nat → Option Nat) (me : Nat → Int32) (tb p : Nat) (I I0 : am_I) : Prop := frQ I I0 ∧ I 75 = I0 75 ∧ I 63 20 = nI (sqL rb me tb p).length ∧ (∀ k q, (sqL rb me tb p)[k]? = some q → I 77 k = nI q ∧ I 79 k = nI (goB rb tb q)) ∧ ∀ q, q < p → I 78 q = I0 75 q ∧ I 81 q = me q
set_option maxHeartbeats 4000000 in
set_option maxRecDepth 100000 in
theorem lp_ss1 {G : am_G} {d : Nat} {I0 : am_I} {J : am_J} {Ex : am_Ex} {n : Nat} (hn : I0 63 4 = nI n) (hn12 : n ≤ 12) (kx : AW G cX12_setSeeking 4 RX12 d Ex 45 [some (.ref 63), some (.int (nI (tbN (tlI I0) n))), some (.int (nI n)), none] [] I0 J) : ∀ i, i ≤ n → AW G cX12_setSeeking 4 RX12 d Ex 10 [some (.ref 63), some (.int (nI (tbN (tlI I0) i))), some (.int (nI i)), none] [] I0 J := by
  refine am_dn n (fun i hi ih => ?_)
  refine a_iload_n dX12_setSeeking_10 rfl ?_
  refine a_aload_n dX12_setSeeking_11 rfl ?_
  refine a_geti dX12_setSeeking_12 kf_X12_115 ⟨by decide, _, rfl, rfl⟩ hn ?_
  refine a_icmp_geN (tgt := 45) dX12_setSeeking_15 (by decide) (by omega) (by omega) (fun h => ?_) (fun h => ?_)
  · obtain rfl : i = n := by omega
    exact kx
  · refine a_iload_n dX12_setSeeking_18 rfl ?_
    refine a_aload_n dX12_setSeeking_19 rfl ?_
    refine a_getr dX12_setSeeking_20 kf_X12_33 ⟨by decide, _, rfl, rfl⟩ ?_
    refine a_iload_n dX12_setSeeking_23 rfl ?_
    refine a_iald dX12_setSeeking_24 ⟨by decide, rfl⟩ (by omega) rfl ?_
    refine a_bipush (v := (-9)) dX12_setSeeking_25 (by decide) ?_
    refine a_ticmp_eq (tgt := 36) (pj := 37) (a := (nI 0)) (b := (nI (2 ^ i))) dX12_setSeeking_27 (by decide) (fun kj => ?_) (fun kj => ?_) ?_
    · refine a_iconst (v := nI 0) dX12_setSeeking_36 (by decide) ?_
      exact kj
    · refine a_iconst (v := nI 1) dX12_setSeeking_30 (by decide) ?_
      refine a_iload_n dX12_setSeeking_31 rfl ?_
      refine a_ishl dX12_setSeeking_32 (bx_shl (by omega)) ?_
      refine a_goto (tgt := 37) dX12_setSeeking_33 (by decide) ?_
      exact kj
    refine a_topi (v := nI (if tlI I0 i = true then 2 ^ i else 0)) (by unfold tlI; by_cases e : I0 70 i = -9 <;> simp [e]) ?_
    refine a_ior dX12_setSeeking_37 (bx_or _ _) ?_
    refine a_istore_n (L' := [_, _, _, _]) dX12_setSeeking_38 (Nat.le_of_ble_eq_true rfl) rfl ?_
    refine a_iinc (L' := [_, _, _, _]) dX12_setSeeking_39 rfl (nI_inc _) rfl ?_
    refine a_goto (tgt := 10) dX12_setSeeking_42 (by decide) ?_
    exact ih (i + 1) (by omega) (by omega)

theorem ss_skip {rb : Nat → Option Nat} {me : Nat → Int32} {tb p : Nat} {I I0 : am_I} (h : ssP rb me tb p I I0) (hs : selQ rb me tb p = false) : ssP rb me tb (p + 1) (am_up (am_up I 78 p (I0 75 p)) 81 p (me p)) I0 := by
  obtain ⟨h1, h2, h3, h4, h5⟩ := h
  have e : sqL rb me tb (p + 1) = sqL rb me tb p := by rw [sqL, if_neg (by rw [hs]; simp)]
  refine ⟨frQ_up (frQ_up h1 (by omega) _ _) (by omega) _ _, h2, by rw [e]; exact h3, fun k q hk => ?_, fun q hq => ?_⟩
  · rw [e] at hk
    exact h4 k q hk
  · by_cases z : q = p
    · subst z
      refine ⟨?_, ?_⟩ <;> simp [am_up]
    · obtain ⟨a, b⟩ := h5 q (by omega)
      refine ⟨?_, ?_⟩
      · simp [am_up, z]; exact a
      · simp [am_up, z]; exact b
theorem ss_take {rb : Nat → Option Nat} {me : Nat → Int32} {tb p : Nat} {I I0 : am_I} (h : ssP rb me tb p I I0) (hs : selQ rb me tb p = true) : ssP rb me tb (p + 1) (am_up (am_up (am_up (am_up (am_up I 77 (sqL rb me tb p).length (nI p)) 79 (sqL rb me tb p).length (nI (goB rb tb p))) 63 20 (nI ((sqL rb me tb p).length + 1))) 78 p (I0 75 p)) 81 p (me p)) I0 := by
  obtain ⟨h1, h2, h3, h4, h5⟩ := h
  have e : sqL rb me tb (p + 1) = sqL rb me tb p ++ [p] := by rw [sqL, if_pos hs]
  refine ⟨frQ_up (frQ_up (frQ_up63 (frQ_up (frQ_up h1 (by omega) _ _) (by omega) _ _) _) (by omega) _ _) (by omega) _ _, h2, ?_, fun k q hk => ?_, fun q hq => ?_⟩
  · rw [e, List.length_append, List.length_singleton]
    simp [am_up]
  · rw [e, List.getElem?_append] at hk
    split at hk
    · rename_i hl
      obtain ⟨a, b⟩ := h4 k q hk
      refine ⟨?_, ?_⟩
      · simp [am_up, Nat.ne_of_lt hl]; exact a
      · simp [am_up, Nat.ne_of_lt hl]; exact b
    · rename_i hl
      have hk2 : k = (sqL rb me tb p).length := by
        have := (List.getElem?_eq_some_iff.mp hk).1
        simp at this
        omega
      subst hk2
      simp at hk
      subst hk
      refine ⟨?_, ?_⟩ <;> simp [am_up]
  · by_cases z : q = p
    · subst z
      refine ⟨?_, ?_⟩ <;> simp [am_up]
    · obtain ⟨a, b⟩ := h5 q (by omega)
      refine ⟨?_, ?_⟩
      · simp [am_up, z]; exact a
      · simp [am_up, z]; exact b
set_option maxHeartbeats 4000000 in
set_option maxRecDepth 100000 in
theorem lp_ss2 {G : am_G} {d : Nat} {I0 : am_I} {J : am_J} {Ex : am_Ex} {N tb : Nat} {rb : Nat → Option Nat} (hN : I0 63 3 = nI N) (hN6 : N ≤ 6) (hr : ∀ p, p < N * N → I0 75 p = fxI (rb p) ∧ ∀ r, rb p = some r → r < 2 ^ 12) (kx : ∀ I, ssP rb (I0 72) tb (N * N) I I0 → AW G cX12_setSeeking 4 RX12 d Ex 163 [some (.ref 63), some (.int (nI tb)), some (.int (nI (N * N))), none] [] I J) : ∀ p, p ≤ N * N → ∀ I, ssP rb (I0 72) tb p I I0 → AW G cX12_setSeeking 4 RX12 d Ex 52 [some (.ref 63), some (.int (nI tb)), some (.int (nI p)), none] [] I J := by
  have hsq := sq_le hN6
  refine am_dn (N * N) (fun p hp ih => ?_)
  intro I hI
  have hI' := hI
  obtain ⟨i1, i2, i3, i4, i5⟩ := hI'
  have e3 : I 63 3 = nI N := by rw [i1 63 3 (by omega) (by decide)]; exact hN
  have e72 : I 72 p = I0 72 p := by rw [frQ_row i1 (by omega) (by decide)]
  have e75 : I 75 p = I0 75 p := by rw [i2]
  have hlen := sqL_len rb (I0 72) tb p
  refine a_iload_n dX12_setSeeking_52 rfl ?_
  refine a_aload_n dX12_setSeeking_53 rfl ?_
  refine a_geti dX12_setSeeking_54 kf_X12_13 ⟨by decide, _, rfl, rfl⟩ e3 ?_
  refine a_aload_n dX12_setSeeking_57 rfl ?_
  refine a_geti dX12_setSeeking_58 kf_X12_13 ⟨by decide, _, rfl, rfl⟩ e3 ?_
  refine a_imul dX12_setSeeking_61 (by first | exact pk_mul _ _ | rfl) ?_
  refine a_icmp_geN (tgt := 163) dX12_setSeeking_62 (by decide) (by omega) (by omega) (fun h => ?_) (fun h => ?_)
  · obtain rfl : p = N * N := by omega
    exact kx I hI
  · obtain ⟨hr1, hr2⟩ := hr p h
    rw [hr1] at e75
    refine a_aload_n dX12_setSeeking_65 rfl ?_
    refine a_getr dX12_setSeeking_66 kf_X12_48 ⟨by decide, _, rfl, rfl⟩ ?_
    refine a_iload_n dX12_setSeeking_69 rfl ?_
    refine a_iald dX12_setSeeking_70 ⟨by decide, rfl⟩ (by omega) e75 ?_
    refine a_if_lt (tgt := 133) dX12_setSeeking_71 (by decide) (fun h71 => ?_) (fun h71 => ?_)
    · refine a_aload_n dX12_setSeeking_133 rfl ?_
      refine a_getr dX12_setSeeking_134 kf_X12_57 ⟨by decide, _, rfl, rfl⟩ ?_
      refine a_iload_n dX12_setSeeking_137 rfl ?_
      refine a_aload_n dX12_setSeeking_138 rfl ?_
      refine a_getr dX12_setSeeking_139 kf_X12_48 ⟨by decide, _, rfl, rfl⟩ ?_
      refine a_iload_n dX12_setSeeking_142 rfl ?_
      refine a_iald dX12_setSeeking_143 ⟨by decide, rfl⟩ (by omega) (show _ = I0 75 p by rw [hr1]; exact e75) ?_
      refine a_iast dX12_setSeeking_144 ⟨by decide, rfl⟩ (by omega) ?_
      refine a_aload_n dX12_setSeeking_145 rfl ?_
      refine a_getr dX12_setSeeking_146 kf_X12_66 ⟨by decide, _, rfl, rfl⟩ ?_
      refine a_iload_n dX12_setSeeking_149 rfl ?_
      refine a_aload_n dX12_setSeeking_150 rfl ?_
      refine a_getr dX12_setSeeking_151 kf_X12_39 ⟨by decide, _, rfl, rfl⟩ ?_
      refine a_iload_n dX12_setSeeking_154 rfl ?_
      refine a_iald dX12_setSeeking_155 ⟨by decide, rfl⟩ (by omega) e72 ?_
      refine a_iast dX12_setSeeking_156 ⟨by decide, rfl⟩ (by omega) ?_
      refine a_iinc (L' := [_, _, _, _]) dX12_setSeeking_157 rfl (nI_inc _) rfl ?_
      refine a_goto (tgt := 52) dX12_setSeeking_160 (by decide) ?_
      exact ih (p + 1) (by omega) (by omega) _ (ss_skip hI (by cases hrb : rb p with
        | none => simp [selQ, hrb]
        | some r => rw [hrb] at h71; exact absurd h71 (nI_pos (by have := hr2 r hrb; omega))))
    · obtain ⟨r, hrb⟩ : ∃ r, rb p = some r := by
        cases hrb : rb p with
        | none => rw [hrb] at h71; exact absurd (show fxI none < 0 by decide) h71
        | some r => exact ⟨r, rfl⟩
      have hr12 := hr2 r hrb
      rw [hrb] at e75 hr1
      refine a_aload_n dX12_setSeeking_74 rfl ?_
      refine a_getr dX12_setSeeking_75 kf_X12_39 ⟨by decide, _, rfl, rfl⟩ ?_
      refine a_iload_n dX12_setSeeking_78 rfl ?_
      refine a_iald dX12_setSeeking_79 ⟨by decide, rfl⟩ (by omega) e72 ?_
      refine a_bipush (v := (-9)) dX12_setSeeking_80 (by decide) ?_
      refine a_icmp_ne (tgt := 96) dX12_setSeeking_82 (by decide) (fun h82 => ?_) (fun h82 => ?_)
      · refine a_aload_n dX12_setSeeking_96 rfl ?_
        refine a_getr dX12_setSeeking_97 kf_X12_54 ⟨by decide, _, rfl, rfl⟩ ?_
        refine a_aload_n dX12_setSeeking_100 rfl ?_
        refine a_geti dX12_setSeeking_101 kf_X12_178 ⟨by decide, _, rfl, rfl⟩ i3 ?_
        refine a_iload_n dX12_setSeeking_104 rfl ?_
        refine a_iast dX12_setSeeking_105 ⟨by decide, rfl⟩ (by omega) ?_
        refine a_aload_n dX12_setSeeking_106 rfl ?_
        refine a_getr dX12_setSeeking_107 kf_X12_60 ⟨by decide, _, rfl, rfl⟩ ?_
        refine a_aload_n dX12_setSeeking_110 rfl ?_
        refine a_geti dX12_setSeeking_111 kf_X12_178 ⟨by decide, _, rfl, rfl⟩ i3 ?_
        refine a_aload_n dX12_setSeeking_114 rfl ?_
        refine a_getr dX12_setSeeking_115 kf_X12_48 ⟨by decide, _, rfl, rfl⟩ ?_
        refine a_iload_n dX12_setSeeking_118 rfl ?_
        refine a_iald dX12_setSeeking_119 ⟨by decide, rfl⟩ (by omega) e75 ?_
        refine a_iload_n dX12_setSeeking_120 rfl ?_
        refine a_iand dX12_setSeeking_121 (show _ = nI (goB rb tb p) by unfold goB; rw [hrb]; exact bx_and r tb) ?_
        refine a_iast dX12_setSeeking_122 ⟨by decide, rfl⟩ (by omega) ?_
        refine a_aload_n dX12_setSeeking_123 rfl ?_
        refine a_dup dX12_setSeeking_124 rfl ?_
        refine a_geti dX12_setSeeking_125 kf_X12_178 ⟨by decide, _, rfl, rfl⟩ i3 ?_
        refine a_iconst (v := nI 1) dX12_setSeeking_128 (by decide) ?_
        refine a_iadd dX12_setSeeking_129 (by first | exact nI_add _ _ | rfl) ?_
        refine a_puti dX12_setSeeking_130 kp_X12_178 ⟨by decide, _, rfl, rfl⟩ ?_
        refine a_aload_n dX12_setSeeking_133 rfl ?_
        refine a_getr dX12_setSeeking_134 kf_X12_57 ⟨by decide, _, rfl, rfl⟩ ?_
        refine a_iload_n dX12_setSeeking_137 rfl ?_
        refine a_aload_n dX12_setSeeking_138 rfl ?_
        refine a_getr dX12_setSeeking_139 kf_X12_48 ⟨by decide, _, rfl, rfl⟩ ?_
        refine a_iload_n dX12_setSeeking_142 rfl ?_
        refine a_iald dX12_setSeeking_143 ⟨by decide, rfl⟩ (by omega) (show _ = I0 75 p by rw [hr1]; exact e75) ?_
        refine a_iast dX12_setSeeking_144 ⟨by decide, rfl⟩ (by omega) ?_
        refine a_aload_n dX12_setSeeking_145 rfl ?_
        refine a_getr dX12_setSeeking_146 kf_X12_66 ⟨by decide, _, rfl, rfl⟩ ?_
        refine a_iload_n dX12_setSeeking_149 rfl ?_
        refine a_aload_n dX12_setSeeking_150 rfl ?_
        refine a_getr dX12_setSeeking_151 kf_X12_39 ⟨by decide, _, rfl, rfl⟩ ?_
        refine a_iload_n dX12_setSeeking_154 rfl ?_
        refine a_iald dX12_setSeeking_155 ⟨by decide, rfl⟩ (by omega) e72 ?_
        refine a_iast dX12_setSeeking_156 ⟨by decide, rfl⟩ (by omega) ?_
        refine a_iinc (L' := [_, _, _, _]) dX12_setSeeking_157 rfl (nI_inc _) rfl ?_
        refine a_goto (tgt := 52) dX12_setSeeking_160 (by decide) ?_
        exact ih (p + 1) (by omega) (by omega) _ (ss_take hI (by simp [selQ, hrb, h82]))
      · refine a_aload_n dX12_setSeeking_85 rfl ?_
        refine a_getr dX12_setSeeking_86 kf_X12_48 ⟨by decide, _, rfl, rfl⟩ ?_
        refine a_iload_n dX12_setSeeking_89 rfl ?_
        refine a_iald dX12_setSeeking_90 ⟨by decide, rfl⟩ (by omega) e75 ?_
        refine a_iload_n dX12_setSeeking_91 rfl ?_
        refine a_iand dX12_setSeeking_92 (bx_and r tb) ?_
        refine a_if_eq (tgt := 133) dX12_setSeeking_93 (by decide) (fun h93 => ?_) (fun h93 => ?_)
        · have hz : r &&& tb = 0 := nI_inj (Nat.lt_of_le_of_lt Nat.and_le_left (by omega)) (by decide) (h93.trans nI_0.symm)
          refine a_aload_n dX12_setSeeking_133 rfl ?_
          refine a_getr dX12_setSeeking_134 kf_X12_57 ⟨by decide, _, rfl, rfl⟩ ?_
          refine a_iload_n dX12_setSeeking_137 rfl ?_
          refine a_aload_n dX12_setSeeking_138 rfl ?_
          refine a_getr dX12_setSeeking_139 kf_X12_48 ⟨by decide, _, rfl, rfl⟩ ?_
          refine a_iload_n dX12_setSeeking_142 rfl ?_
          refine a_iald dX12_setSeeking_143 ⟨by decide, rfl⟩ (by omega) (show _ = I0 75 p by rw [hr1]; exact e75) ?_
          refine a_iast dX12_setSeeking_144 ⟨by decide, rfl⟩ (by omega) ?_
          refine a_aload_n dX12_setSeeking_145 rfl ?_
          refine a_getr dX12_setSeeking_146 kf_X12_66 ⟨by decide, _, rfl, rfl⟩ ?_
          refine a_iload_n dX12_setSeeking_149 rfl ?_
          refine a_aload_n dX12_setSeeking_150 rfl ?_
          refine a_getr dX12_setSeeking_151 kf_X12_39 ⟨by decide, _, rfl, rfl⟩ ?_
          refine a_iload_n dX12_setSeeking_154 rfl ?_
          refine a_iald dX12_setSeeking_155 ⟨by decide, rfl⟩ (by omega) e72 ?_
          refine a_iast dX12_setSeeking_156 ⟨by decide, rfl⟩ (by omega) ?_
          refine a_iinc (L' := [_, _, _, _]) dX12_setSeeking_157 rfl (nI_inc _) rfl ?_
          refine a_goto (tgt := 52) dX12_setSeeking_160 (by decide) ?_
          exact ih (p + 1) (by omega) (by omega) _ (ss_skip hI (by simp [selQ, hrb, h82, hz]))
        · have hz : r &&& tb ≠ 0 := fun q => h93 (by rw [q]; rfl)
          refine a_aload_n dX12_setSeeking_96 rfl ?_
          refine a_getr dX12_setSeeking_97 kf_X12_54 ⟨by decide, _, rfl, rfl⟩ ?_
          refine a_aload_n dX12_setSeeking_100 rfl ?_
          refine a_geti dX12_setSeeking_101 kf_X12_178 ⟨by decide, _, rfl, rfl⟩ i3 ?_
          refine a_iload_n dX12_setSeeking_104 rfl ?_
          refine a_iast dX12_setSeeking_105 ⟨by decide, rfl⟩ (by omega) ?_
          refine a_aload_n dX12_setSeeking_106 rfl ?_
          refine a_getr dX12_setSeeking_107 kf_X12_60 ⟨by decide, _, rfl, rfl⟩ ?_
          refine a_aload_n dX12_setSeeking_110 rfl ?_
          refine a_geti dX12_setSeeking_111 kf_X12_178 ⟨by decide, _, rfl, rfl⟩ i3 ?_
          refine a_aload_n dX12_setSeeking_114 rfl ?_
          refine a_getr dX12_setSeeking_115 kf_X12_48 ⟨by decide, _, rfl, rfl⟩ ?_
          refine a_iload_n dX12_setSeeking_118 rfl ?_
          refine a_iald dX12_setSeeking_119 ⟨by decide, rfl⟩ (by omega) e75 ?_
          refine a_iload_n dX12_setSeeking_120 rfl ?_
          refine a_iand dX12_setSeeking_121 (show _ = nI (goB rb tb p) by unfold goB; rw [hrb]; exact bx_and r tb) ?_
          refine a_iast dX12_setSeeking_122 ⟨by decide, rfl⟩ (by omega) ?_
          refine a_aload_n dX12_setSeeking_123 rfl ?_
          refine a_dup dX12_setSeeking_124 rfl ?_
          refine a_geti dX12_setSeeking_125 kf_X12_178 ⟨by decide, _, rfl, rfl⟩ i3 ?_
          refine a_iconst (v := nI 1) dX12_setSeeking_128 (by decide) ?_
          refine a_iadd dX12_setSeeking_129 (by first | exact nI_add _ _ | rfl) ?_
          refine a_puti dX12_setSeeking_130 kp_X12_178 ⟨by decide, _, rfl, rfl⟩ ?_
          refine a_aload_n dX12_setSeeking_133 rfl ?_
          refine a_getr dX12_setSeeking_134 kf_X12_57 ⟨by decide, _, rfl, rfl⟩ ?_
          refine a_iload_n dX12_setSeeking_137 rfl ?_
          refine a_aload_n dX12_setSeeking_138 rfl ?_
          refine a_getr dX12_setSeeking_139 kf_X12_48 ⟨by decide, _, rfl, rfl⟩ ?_
          refine a_iload_n dX12_setSeeking_142 rfl ?_
          refine a_iald dX12_setSeeking_143 ⟨by decide, rfl⟩ (by omega) (show _ = I0 75 p by rw [hr1]; exact e75) ?_
          refine a_iast dX12_setSeeking_144 ⟨by decide, rfl⟩ (by omega) ?_
          refine a_aload_n dX12_setSeeking_145 rfl ?_
          refine a_getr dX12_setSeeking_146 kf_X12_66 ⟨by decide, _, rfl, rfl⟩ ?_
          refine a_iload_n dX12_setSeeking_149 rfl ?_
          refine a_aload_n dX12_setSeeking_150 rfl ?_
          refine a_getr dX12_setSeeking_151 kf_X12_39 ⟨by decide, _, rfl, rfl⟩ ?_
          refine a_iload_n dX12_setSeeking_154 rfl ?_
          refine a_iald dX12_setSeeking_155 ⟨by decide, rfl⟩ (by omega) e72 ?_
          refine a_iast dX12_setSeeking_156 ⟨by decide, rfl⟩ (by omega) ?_
          refine a_iinc (L' := [_, _, _, _]) dX12_setSeeking_157 rfl (nI_inc _) rfl ?_
          refine a_goto (tgt := 52) dX12_setSeeking_160 (by decide) ?_
          exact ih (p + 1) (by omega) (by omega) _ (ss_take hI (by simp [selQ, hrb, hz]))

/-- the last c places have their lasts -/
def slP (g : Nat → Nat) (m c : Nat) (I I1 : am_I) : Prop := (∀ k, k ≠ 80 → I k = I1 k) ∧ ∀ k, k < m → m ≤ k + c → I 80 k = nI (laN g m k)
set_option maxHeartbeats 4000000 in
set_option maxRecDepth 100000 in
theorem lp_ss3 {G : am_G} {d : Nat} {I1 : am_I} {J : am_J} {K : am_I → am_J → Prop} {m : Nat} {g : Nat → Nat} {v1 : Int32} (hm : m ≤ 36) (hg : ∀ k, k < m → I1 79 k = nI (g k) ∧ g k < 2 ^ 12) (hK : ∀ I, slP g m m I I1 → K I J) : ∀ c, c ≤ m → ∀ I, slP g m c I I1 → AW G cX12_setSeeking 4 RX12 d (am_ex G none (fun r I J => r = none ∧ K I J)) 172 [some (.ref 63), some (.int v1), some (.int (nI (bhN g m c))), some (.int (nI (m - c) - nI 1))] [] I J := by
  refine am_dn m (fun c hc ih => ?_)
  intro I hI
  by_cases ecm : c = m
  · subst ecm
    refine a_iload_n dX12_setSeeking_172 rfl ?_
    refine a_if_lt (tgt := 207) dX12_setSeeking_173 (by decide) (fun h173 => ?_) (fun h173 => ?_)
    · exact a_vreturn dX12_setSeeking_207 ⟨rfl, (hK I hI)⟩
    · exact absurd (show nI (c - c) - nI 1 < 0 by rw [Nat.sub_self]; decide) h173
  · obtain ⟨k, hk⟩ : ∃ k, m - c = k + 1 := ⟨m - c - 1, by omega⟩
    rw [hk, prd_s]
    obtain ⟨g1, g2⟩ := hg k (by omega)
    have e79 : I 79 k = nI (g k) := by rw [hI.1 79 (by decide)]; exact g1
    have hbl := bhN_lt (fun k hk => (hg k hk).2) c hc
    refine a_iload_n dX12_setSeeking_172 rfl ?_
    refine a_if_lt (tgt := 207) dX12_setSeeking_173 (by decide) (fun h173 => ?_) (fun h173 => ?_)
    · exact absurd h173 (nI_pos (by omega))
    · refine a_aload_n dX12_setSeeking_176 rfl ?_
      refine a_getr dX12_setSeeking_177 kf_X12_63 ⟨by decide, _, rfl, rfl⟩ ?_
      refine a_iload_n dX12_setSeeking_180 rfl ?_
      refine a_aload_n dX12_setSeeking_181 rfl ?_
      refine a_getr dX12_setSeeking_182 kf_X12_60 ⟨by decide, _, rfl, rfl⟩ ?_
      refine a_iload_n dX12_setSeeking_185 rfl ?_
      refine a_iald dX12_setSeeking_186 ⟨by decide, rfl⟩ (by omega) e79 ?_
      refine a_iload_n dX12_setSeeking_187 rfl ?_
      refine a_iconst (v := (-1)) dX12_setSeeking_188 (by decide) ?_
      refine a_ixor dX12_setSeeking_189 rfl ?_
      refine a_iand dX12_setSeeking_190 (show _ = nI (laN g m k) by unfold laN; rw [show m - 1 - k = c by omega]; exact bx_not (by omega)) ?_
      refine a_iast dX12_setSeeking_191 ⟨by decide, rfl⟩ (by omega) ?_
      refine a_iload_n dX12_setSeeking_192 rfl ?_
      refine a_aload_n dX12_setSeeking_193 rfl ?_
      refine a_getr dX12_setSeeking_194 kf_X12_60 ⟨by decide, _, rfl, rfl⟩ ?_
      refine a_iload_n dX12_setSeeking_197 rfl ?_
      refine a_iald dX12_setSeeking_198 ⟨by decide, rfl⟩ (by omega) e79 ?_
      refine a_ior dX12_setSeeking_199 (bx_or _ _) ?_
      refine a_istore_n (L' := [_, _, _, _]) dX12_setSeeking_200 (Nat.le_of_ble_eq_true rfl) rfl ?_
      refine a_iinc (L' := [_, _, _, _]) dX12_setSeeking_201 rfl (show nI k + Int32.ofInt (-1) = nI k - nI 1 by rw [Int32.sub_eq_add_neg]; rfl) rfl ?_
      refine a_goto (tgt := 172) dX12_setSeeking_204 (by decide) ?_
      have z := ih (c + 1) (by omega) (by omega) (am_up I 80 k (nI (laN g m k))) ⟨fun a ha => by rw [am_up_ne ha]; exact hI.1 a ha, fun j hj hjc => by
        by_cases e : j = k
        · subst e; rw [am_up_same]
        · rw [am_up_slot e]; exact hI.2 j hj (by omega)⟩
      rw [show m - (c + 1) = k by omega, bhN, show m - 1 - c = k by omega] at z
      exact z

