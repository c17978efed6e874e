/-! ===== the system: Routes, as lists ===== -/
def rlP (r1 r2 n m : Nat) (R : Nat → Option (List Nat)) (I : am_I) : Prop := ∀ p, p < m → (R p = none → I r1 p = -1) ∧ ∀ l, R p = some l → I r1 p = nI l.length ∧ l.length ≤ 5 ∧ (∀ i x, l[i]? = some x → I r2 (5 * p + i) = nI x) ∧ ∀ x ∈ l, x < n
def RoC (F T : Nat → Nat) (S : Nat → Bool) (n N p : Nat) : Option (List Nat) := if wyR F T S n (p % N) N (p / N) < 100 then some (rtO F T S n N (p / N) (p % N)) else none
theorem rv_rl {r r1 r2 : Nat} {F T : Nat → Nat} {S : Nat → Bool} {n N : Nat} {I : am_I} (h : rvC r r1 r2 F T S n N I) (hN : 2 ≤ N) (hN6 : N ≤ 6) (hto : ∀ l, l < n → T l < N) : rlP r1 r2 n (N * N) (RoC F T S n N) I := by
  intro p hp
  have h1 : p % N < N := Nat.mod_lt _ (by omega)
  have h2 : p / N < N := Nat.div_lt_of_lt_mul hp
  have h3 := h.2 (p / N) (p % N) h2 h1
  rw [Nat.div_add_mod] at h3
  unfold RoC
  by_cases q : wyR F T S n (p % N) N (p / N) < 100
  · rw [if_pos q]
    rw [if_pos q] at h3
    obtain ⟨e1, e2, e3⟩ := rtO_len hN6 h2 h1 hto q
    refine ⟨(fun e => by cases e), fun l e => ?_⟩
    cases e
    exact ⟨by rw [e1]; exact h3.1, e2, h3.2 q, e3⟩
  · rw [if_neg q]
    rw [if_neg q] at h3
    exact ⟨(fun _ => h3.1), fun l e => by cases e⟩
theorem rl_fr {r1 r2 n m : Nat} {R : Nat → Option (List Nat)} {I I0 : am_I} (h : rlP r1 r2 n m R I0) (h1 : I r1 = I0 r1) (h2 : I r2 = I0 r2) : rlP r1 r2 n m R I := fun p hp => by
  rw [h1, h2]; exact h p hp
theorem rl_le {r1 r2 n m : Nat} {R : Nat → Option (List Nat)} {I : am_I} (h : rlP r1 r2 n m R I) {p : Nat} (hp : p < m) (hq : I r1 p ≤ 0) : R p = none ∨ R p = some [] := by
  rcases e : R p with _ | l
  · exact Or.inl rfl
  · obtain ⟨h1, h2, h3⟩ := (h p hp).2 l e
    rw [h1] at hq
    have : l.length ≤ 0 := (nI_leI (by omega) (by decide)).mp (by rw [nI_0]; exact hq)
    rw [List.eq_nil_of_length_eq_zero (show l.length = 0 by omega)]
    exact Or.inr rfl
theorem rl_gt {r1 r2 n m : Nat} {R : Nat → Option (List Nat)} {I : am_I} (h : rlP r1 r2 n m R I) {p : Nat} (hp : p < m) (hq : ¬ I r1 p ≤ 0) : ∃ l, R p = some l ∧ l ≠ [] := by
  rcases e : R p with _ | l
  · rw [(h p hp).1 e] at hq
    exact absurd (by decide) hq
  · obtain ⟨h1, h2, h3⟩ := (h p hp).2 l e
    refine ⟨l, rfl, fun q => hq ?_⟩
    rw [h1, q]
    decide
def gbQ (R : Nat → Option (List Nat)) (x p : Nat) : Bool := match R p with
  | none => false
  | some l => decide (x ∈ l)
theorem gbQ_some {R : Nat → Option (List Nat)} {x p : Nat} {l : List Nat} (h : R p = some l) : gbQ R x p = decide (x ∈ l) := by
  unfold gbQ; rw [h]
theorem gbQ_none {R : Nat → Option (List Nat)} {x p : Nat} (h : R p = none) : gbQ R x p = false := by
  unfold gbQ; rw [h]
def cuQ (R : Nat → Option (List Nat)) (p : Nat) : Bool := (R p).isNone
theorem rl_cut {r1 r2 n m : Nat} {R : Nat → Option (List Nat)} {I : am_I} (h : rlP r1 r2 n m R I) {p : Nat} (hp : p < m) : I r1 p = -1 ↔ cuQ R p = true := by
  unfold cuQ
  rcases e : R p with _ | l
  · simp [(h p hp).1 e]
  · obtain ⟨h1, h2, h3⟩ := (h p hp).2 l e
    simp
    rw [h1]
    exact nI_ne_neg (by omega) (by decide)
set_option maxHeartbeats 4000000 in
set_option maxRecDepth 100000 in
theorem r_isRouteda {G : am_G} {d : Nat} {I : am_I} {J : am_J} {K : Int32 → am_I → am_J → Prop} {n m p : Nat} {R : Nat → Option (List Nat)} (hR : rlP 44 45 n m R I) (hp : p < m) (hm : m ≤ 36) (h1 : ∀ l, R p = some l → l ≠ [] → K 1 I J) (h0 : (R p = none ∨ R p = some []) → K 0 I J) : CMi G d yX7_isRouted [.ref 2, .int (nI p)] I J K := by
  refine CM.of (L0 := [_, _]) cX7_isRouted 2 (some .boolean) (by decide) (by decide) kcX7_isRouted (Nat.le_of_ble_eq_true rfl) rfl ?_
  refine a_aload_n dX7_isRouted_0 rfl ?_
  refine a_getr dX7_isRouted_1 kf_X7_15 ⟨by decide, _, rfl, rfl⟩ ?_
  refine a_iload_n dX7_isRouted_4 rfl ?_
  refine a_iald dX7_isRouted_5 ⟨by decide, rfl⟩ (by omega) rfl ?_
  refine a_if_le (tgt := 13) dX7_isRouted_6 (by decide) (fun h6 => ?_) (fun h6 => ?_)
  · refine a_iconst (v := nI 0) dX7_isRouted_13 (by decide) ?_
    exact a_zreturn dX7_isRouted_14 (by first | exact Or.inl rfl | exact Or.inr rfl) ⟨_, rfl, (h0 (rl_le hR hp h6))⟩
  · obtain ⟨l, e, q⟩ := rl_gt hR hp h6
    refine a_iconst (v := nI 1) dX7_isRouted_9 (by decide) ?_
    refine a_goto (tgt := 14) dX7_isRouted_10 (by decide) ?_
    exact a_zreturn dX7_isRouted_14 (by first | exact Or.inl rfl | exact Or.inr rfl) ⟨_, rfl, (h1 l e q)⟩

set_option maxHeartbeats 4000000 in
set_option maxRecDepth 100000 in
theorem r_lineAta {G : am_G} {d : Nat} {I : am_I} {J : am_J} {K : Int32 → am_I → am_J → Prop} {n m p : Nat} {R : Nat → Option (List Nat)} {l : List Nat} {i x : Nat} (hR : rlP 44 45 n m R I) (hp : p < m) (hm : m ≤ 36) (hl : R p = some l) (hx : l[i]? = some x) (hK : K (nI x) I J) : CMi G d yX7_lineAt [.ref 2, .int (nI p), .int (nI i)] I J K := by
  refine CM.of (L0 := [_, _, _]) cX7_lineAt 3 (some .int) (by decide) (by decide) kcX7_lineAt (Nat.le_of_ble_eq_true rfl) rfl ?_
  obtain ⟨q1, q2, q3, q4⟩ := (hR p hp).2 l hl
  have hi := (List.getElem?_eq_some_iff.mp hx).1
  refine a_aload_n dX7_lineAt_0 rfl ?_
  refine a_getr dX7_lineAt_1 kf_X7_19 ⟨by decide, _, rfl, rfl⟩ ?_
  refine a_iload_n dX7_lineAt_4 rfl ?_
  refine a_iconst (v := nI 5) dX7_lineAt_5 (by decide) ?_
  refine a_imul dX7_lineAt_6 (show _ = nI (5 * p) by rw [Nat.mul_comm]; exact pk_mul _ _) ?_
  refine a_iload_n dX7_lineAt_7 rfl ?_
  refine a_iadd dX7_lineAt_8 (by first | exact nI_add _ _ | rfl) ?_
  refine a_iald dX7_lineAt_9 ⟨by decide, rfl⟩ (by omega) (q3 i x hx) ?_
  exact a_ireturn dX7_lineAt_10 ⟨_, rfl, hK⟩

set_option maxHeartbeats 4000000 in
set_option maxRecDepth 100000 in
theorem lp_gba {G : am_G} {d : Nat} {I : am_I} {J : am_J} {K : Int32 → am_I → am_J → Prop} {n m p x : Nat} {R : Nat → Option (List Nat)} {l : List Nat} (hR : rlP 44 45 n m R I) (hp : p < m) (hm : m ≤ 36) (hn : n ≤ 12) (hx : x < 12) (hl : R p = some l) (h1 : x ∈ l → K 1 I J) (h0 : x ∉ l → K 0 I J) : ∀ i, i ≤ l.length → (∀ j y, j < i → l[j]? = some y → y ≠ x) → AW G cX7_goesBy 4 RX7 (d + 1) (am_ex G (some .boolean) (fun r I J => ∃ x, r = some (.int x) ∧ K x I J)) 2 [some (.ref 2), some (.int (nI p)), some (.int (nI x)), some (.int (nI i))] [] I J := by
  obtain ⟨q1, q2, q3, q4⟩ := (hR p hp).2 l hl
  refine am_dn l.length (fun i hi ih => ?_)
  intro hj
  refine a_iload_n dX7_goesBy_2 rfl ?_
  refine a_aload_n dX7_goesBy_3 rfl ?_
  refine a_getr dX7_goesBy_4 kf_X7_15 ⟨by decide, _, rfl, rfl⟩ ?_
  refine a_iload_n dX7_goesBy_7 rfl ?_
  refine a_iald dX7_goesBy_8 ⟨by decide, rfl⟩ (by omega) q1 ?_
  refine a_icmp_geN (tgt := 30) dX7_goesBy_9 (by decide) (by omega) (by omega) (fun h => ?_) (fun h => ?_)
  · obtain rfl : i = l.length := by omega
    refine a_iconst (v := nI 0) dX7_goesBy_30 (by decide) ?_
    exact a_zreturn dX7_goesBy_31 (by first | exact Or.inl rfl | exact Or.inr rfl) ⟨_, rfl, (h0 (fun q => by obtain ⟨j, hj1, hj2⟩ := List.getElem_of_mem q; exact hj j x hj1 (by rw [List.getElem?_eq_getElem hj1, hj2]) rfl))⟩
  · have e : l[i]? = some l[i] := List.getElem?_eq_getElem h
    generalize l[i] = y at e
    have hy := q4 y (List.mem_of_getElem? e)
    refine a_aload_n dX7_goesBy_12 rfl ?_
    refine a_iload_n dX7_goesBy_13 rfl ?_
    refine a_iload_n dX7_goesBy_14 rfl ?_
    refine a_callVi (As := [_, _]) dX7_goesBy_15 km_X7_42 ⟨by decide, _, _, _, rfl, rfl⟩ rfl rfl (Nat.le_of_ble_eq_true rfl) ?_
    refine r_lineAta hR hp hm hl e ?_
    refine a_iload_n dX7_goesBy_18 rfl ?_
    refine a_icmp_neN (tgt := 24) dX7_goesBy_19 (by decide) (by omega) (by omega) (fun g => ?_) (fun g => ?_)
    · refine a_iinc (L' := [_, _, _, _]) dX7_goesBy_24 rfl (nI_inc _) rfl ?_
      refine a_goto (tgt := 2) dX7_goesBy_27 (by decide) ?_
      exact ih (i + 1) (by omega) (by omega) (fun j z hz hzz => by
        by_cases ej : j = i
        · subst ej; rw [e] at hzz; cases hzz; exact g
        · exact hj j z (by omega) hzz)
    · refine a_iconst (v := nI 1) dX7_goesBy_22 (by decide) ?_
      exact a_zreturn dX7_goesBy_23 (by first | exact Or.inl rfl | exact Or.inr rfl) ⟨_, rfl, (h1 (g ▸ List.mem_of_getElem? e))⟩

set_option maxHeartbeats 4000000 in
set_option maxRecDepth 100000 in
theorem r_goesBya {G : am_G} {d : Nat} {I : am_I} {J : am_J} {K : Int32 → am_I → am_J → Prop} {n m p : Nat} {R : Nat → Option (List Nat)} {x : Nat} (hR : rlP 44 45 n m R I) (hp : p < m) (hm : m ≤ 36) (hn : n ≤ 12) (hx : x < 12) (h1 : gbQ R x p = true → K 1 I J) (h0 : gbQ R x p = false → K 0 I J) : CMi G (d + 1) yX7_goesBy [.ref 2, .int (nI p), .int (nI x)] I J K := by
  refine CM.of (L0 := [_, _, _, _]) cX7_goesBy 4 (some .boolean) (by decide) (by decide) kcX7_goesBy (Nat.le_of_ble_eq_true rfl) rfl ?_
  refine a_iconst (v := nI 0) dX7_goesBy_0 (by decide) ?_
  refine a_istore_n (L' := [_, _, _, _]) dX7_goesBy_1 (Nat.le_of_ble_eq_true rfl) rfl ?_
  rcases e : R p with _ | l
  · have q := (hR p hp).1 e
    refine a_iload_n dX7_goesBy_2 rfl ?_
    refine a_aload_n dX7_goesBy_3 rfl ?_
    refine a_getr dX7_goesBy_4 kf_X7_15 ⟨by decide, _, rfl, rfl⟩ ?_
    refine a_iload_n dX7_goesBy_7 rfl ?_
    refine a_iald dX7_goesBy_8 ⟨by decide, rfl⟩ (by omega) q ?_
    refine a_icmp_ge (tgt := 30) dX7_goesBy_9 (by decide) (fun h9 => ?_) (fun h9 => ?_)
    · refine a_iconst (v := nI 0) dX7_goesBy_30 (by decide) ?_
      exact a_zreturn dX7_goesBy_31 (by first | exact Or.inl rfl | exact Or.inr rfl) ⟨_, rfl, (h0 (gbQ_none e))⟩
    · exact absurd (show (-1 : Int32) ≤ nI 0 by decide) h9
  · exact lp_gba hR hp hm hn hx e (fun q => h1 (by rw [gbQ_some e]; simpa using q)) (fun q => h0 (by rw [gbQ_some e]; simpa using q)) 0 (by omega) (fun j y q => by omega)

set_option maxHeartbeats 4000000 in
set_option maxRecDepth 100000 in
theorem lp_po {G : am_G} {d : Nat} {I : am_I} {J : am_J} {K : Int32 → am_I → am_J → Prop} {n m x : Nat} {R : Nat → Option (List Nat)} (hR : rlP 44 45 n m R I) (hm : m ≤ 36) (hp : I 2 0 = nI m) (hn : n ≤ 12) (hx : x < 12) (hK : K (nI (cN (gbQ R x) m)) I J) : ∀ i, i ≤ m → AW G cX7_pairsOn 4 RX7 (d + 2) (am_ex G (some .int) (fun r I J => ∃ x, r = some (.int x) ∧ K x I J)) 4 [some (.ref 2), some (.int (nI x)), some (.int (nI (cN (gbQ R x) i))), some (.int (nI i))] [] I J := by
  refine am_dn m (fun i hi ih => ?_)
  refine a_iload_n dX7_pairsOn_4 rfl ?_
  refine a_aload_n dX7_pairsOn_5 rfl ?_
  refine a_geti dX7_pairsOn_6 kf_X7_9 ⟨by decide, _, rfl, rfl⟩ hp ?_
  refine a_icmp_geN (tgt := 30) dX7_pairsOn_9 (by decide) (by omega) (by omega) (fun h => ?_) (fun h => ?_)
  · obtain rfl : i = m := by omega
    refine a_iload_n dX7_pairsOn_30 rfl ?_
    exact a_ireturn dX7_pairsOn_31 ⟨_, rfl, hK⟩
  · refine a_aload_n dX7_pairsOn_12 rfl ?_
    refine a_iload_n dX7_pairsOn_13 rfl ?_
    refine a_iload_n dX7_pairsOn_14 rfl ?_
    refine a_callVi (As := [_, _]) dX7_pairsOn_15 km_X7_45 ⟨by decide, _, _, _, rfl, rfl⟩ rfl rfl (Nat.le_of_ble_eq_true rfl) ?_
    refine r_goesBya hR h hm hn hx (fun g => ?_) (fun g => ?_)
    · refine a_if_eq (tgt := 24) dX7_pairsOn_18 (by decide) (fun h18 => ?_) (fun h18 => ?_)
      · exact absurd h18 (by decide)
      · refine a_iinc (L' := [_, _, _, _]) dX7_pairsOn_21 rfl (nI_inc _) rfl ?_
        refine a_iinc (L' := [_, _, _, _]) dX7_pairsOn_24 rfl (nI_inc _) rfl ?_
        refine a_goto (tgt := 4) dX7_pairsOn_27 (by decide) ?_
        have z := ih (i + 1) (by omega) (by omega)
        rw [cN_s, if_pos g] at z
        exact z
    · refine a_if_eq (tgt := 24) dX7_pairsOn_18 (by decide) (fun h18 => ?_) (fun h18 => ?_)
      · refine a_iinc (L' := [_, _, _, _]) dX7_pairsOn_24 rfl (nI_inc _) rfl ?_
        refine a_goto (tgt := 4) dX7_pairsOn_27 (by decide) ?_
        have z := ih (i + 1) (by omega) (by omega)
        rw [cN_s, if_neg (by rw [g]; decide), Nat.add_zero] at z
        exact z
      · exact absurd h18 (by decide)

set_option maxHeartbeats 4000000 in
set_option maxRecDepth 100000 in
theorem r_pairsOn {G : am_G} {d : Nat} {I : am_I} {J : am_J} {K : Int32 → am_I → am_J → Prop} {n m x : Nat} {R : Nat → Option (List Nat)} (hR : rlP 44 45 n m R I) (hm : m ≤ 36) (hp : I 2 0 = nI m) (hn : n ≤ 12) (hx : x < 12) (hK : K (nI (cN (gbQ R x) m)) I J) : CMi G (d + 2) yX7_pairsOn [.ref 2, .int (nI x)] I J K := by
  refine CM.of (L0 := [_, _, _, _]) cX7_pairsOn 4 (some .int) (by decide) (by decide) kcX7_pairsOn (Nat.le_of_ble_eq_true rfl) rfl ?_
  refine a_iconst (v := nI 0) dX7_pairsOn_0 (by decide) ?_
  refine a_istore_n (L' := [_, _, _, _]) dX7_pairsOn_1 (Nat.le_of_ble_eq_true rfl) rfl ?_
  refine a_iconst (v := nI 0) dX7_pairsOn_2 (by decide) ?_
  refine a_istore_n (L' := [_, _, _, _]) dX7_pairsOn_3 (Nat.le_of_ble_eq_true rfl) rfl ?_
  exact lp_po hR hm hp hn hx hK 0 (by omega)

set_option maxHeartbeats 4000000 in
set_option maxRecDepth 100000 in
theorem lp_pc {G : am_G} {d : Nat} {I : am_I} {J : am_J} {K : Int32 → am_I → am_J → Prop} {n m : Nat} {R : Nat → Option (List Nat)} (hR : rlP 44 45 n m R I) (hm : m ≤ 36) (hp : I 2 0 = nI m) (hK : K (nI (cN (cuQ R) m)) I J) : ∀ i, i ≤ m → AW G cX7_pairsCut 3 RX7 d (am_ex G (some .int) (fun r I J => ∃ x, r = some (.int x) ∧ K x I J)) 4 [some (.ref 2), some (.int (nI (cN (cuQ R) i))), some (.int (nI i))] [] I J := by
  refine am_dn m (fun i hi ih => ?_)
  refine a_iload_n dX7_pairsCut_4 rfl ?_
  refine a_aload_n dX7_pairsCut_5 rfl ?_
  refine a_geti dX7_pairsCut_6 kf_X7_9 ⟨by decide, _, rfl, rfl⟩ hp ?_
  refine a_icmp_geN (tgt := 31) dX7_pairsCut_9 (by decide) (by omega) (by omega) (fun h => ?_) (fun h => ?_)
  · obtain rfl : i = m := by omega
    refine a_iload_n dX7_pairsCut_31 rfl ?_
    exact a_ireturn dX7_pairsCut_32 ⟨_, rfl, hK⟩
  · refine a_aload_n dX7_pairsCut_12 rfl ?_
    refine a_getr dX7_pairsCut_13 kf_X7_15 ⟨by decide, _, rfl, rfl⟩ ?_
    refine a_iload_n dX7_pairsCut_16 rfl ?_
    refine a_iald dX7_pairsCut_17 ⟨by decide, rfl⟩ (by omega) rfl ?_
    refine a_iconst (v := (-1)) dX7_pairsCut_18 (by decide) ?_
    refine a_icmp_ne (tgt := 25) dX7_pairsCut_19 (by decide) (fun h19 => ?_) (fun h19 => ?_)
    · refine a_iinc (L' := [_, _, _]) dX7_pairsCut_25 rfl (nI_inc _) rfl ?_
      refine a_goto (tgt := 4) dX7_pairsCut_28 (by decide) ?_
      have z := ih (i + 1) (by omega) (by omega)
      rw [cN_s, if_neg (fun g => h19 ((rl_cut hR h).mpr g)), Nat.add_zero] at z
      exact z
    · refine a_iinc (L' := [_, _, _]) dX7_pairsCut_22 rfl (nI_inc _) rfl ?_
      refine a_iinc (L' := [_, _, _]) dX7_pairsCut_25 rfl (nI_inc _) rfl ?_
      refine a_goto (tgt := 4) dX7_pairsCut_28 (by decide) ?_
      have z := ih (i + 1) (by omega) (by omega)
      rw [cN_s, if_pos ((rl_cut hR h).mp h19)] at z
      exact z

set_option maxHeartbeats 4000000 in
set_option maxRecDepth 100000 in
theorem r_pairsCut {G : am_G} {d : Nat} {I : am_I} {J : am_J} {K : Int32 → am_I → am_J → Prop} {n m : Nat} {R : Nat → Option (List Nat)} (hR : rlP 44 45 n m R I) (hm : m ≤ 36) (hp : I 2 0 = nI m) (hK : K (nI (cN (cuQ R) m)) I J) : CMi G d yX7_pairsCut [.ref 2] I J K := by
  refine CM.of (L0 := [_, _, _]) cX7_pairsCut 3 (some .int) (by decide) (by decide) kcX7_pairsCut (Nat.le_of_ble_eq_true rfl) rfl ?_
  refine a_iconst (v := nI 0) dX7_pairsCut_0 (by decide) ?_
  refine a_istore_n (L' := [_, _, _]) dX7_pairsCut_1 (Nat.le_of_ble_eq_true rfl) rfl ?_
  refine a_iconst (v := nI 0) dX7_pairsCut_2 (by decide) ?_
  refine a_istore_n (L' := [_, _, _]) dX7_pairsCut_3 (Nat.le_of_ble_eq_true rfl) rfl ?_
  exact lp_pc hR hm hp hK 0 (by omega)

set_option maxHeartbeats 4000000 in
set_option maxRecDepth 100000 in
theorem r_isRoutedb {G : am_G} {d : Nat} {I : am_I} {J : am_J} {K : Int32 → am_I → am_J → Prop} {n m p : Nat} {R : Nat → Option (List Nat)} (hR : rlP 47 48 n m R I) (hp : p < m) (hm : m ≤ 36) (h1 : ∀ l, R p = some l → l ≠ [] → K 1 I J) (h0 : (R p = none ∨ R p = some []) → K 0 I J) : CMi G d yX7_isRouted [.ref 3, .int (nI p)] I J K := by
  refine CM.of (L0 := [_, _]) cX7_isRouted 2 (some .boolean) (by decide) (by decide) kcX7_isRouted (Nat.le_of_ble_eq_true rfl) rfl ?_
  refine a_aload_n dX7_isRouted_0 rfl ?_
  refine a_getr dX7_isRouted_1 kf_X7_15 ⟨by decide, _, rfl, rfl⟩ ?_
  refine a_iload_n dX7_isRouted_4 rfl ?_
  refine a_iald dX7_isRouted_5 ⟨by decide, rfl⟩ (by omega) rfl ?_
  refine a_if_le (tgt := 13) dX7_isRouted_6 (by decide) (fun h6 => ?_) (fun h6 => ?_)
  · refine a_iconst (v := nI 0) dX7_isRouted_13 (by decide) ?_
    exact a_zreturn dX7_isRouted_14 (by first | exact Or.inl rfl | exact Or.inr rfl) ⟨_, rfl, (h0 (rl_le hR hp h6))⟩
  · obtain ⟨l, e, q⟩ := rl_gt hR hp h6
    refine a_iconst (v := nI 1) dX7_isRouted_9 (by decide) ?_
    refine a_goto (tgt := 14) dX7_isRouted_10 (by decide) ?_
    exact a_zreturn dX7_isRouted_14 (by first | exact Or.inl rfl | exact Or.inr rfl) ⟨_, rfl, (h1 l e q)⟩

set_option maxHeartbeats 4000000 in
set_option maxRecDepth 100000 in
theorem r_lineAtb {G : am_G} {d : Nat} {I : am_I} {J : am_J} {K : Int32 → am_I → am_J → Prop} {n m p : Nat} {R : Nat → Option (List Nat)} {l : List Nat} {i x : Nat} (hR : rlP 47 48 n m R I) (hp : p < m) (hm : m ≤ 36) (hl : R p = some l) (hx : l[i]? = some x) (hK : K (nI x) I J) : CMi G d yX7_lineAt [.ref 3, .int (nI p), .int (nI i)] I J K := by
  refine CM.of (L0 := [_, _, _]) cX7_lineAt 3 (some .int) (by decide) (by decide) kcX7_lineAt (Nat.le_of_ble_eq_true rfl) rfl ?_
  obtain ⟨q1, q2, q3, q4⟩ := (hR p hp).2 l hl
  have hi := (List.getElem?_eq_some_iff.mp hx).1
  refine a_aload_n dX7_lineAt_0 rfl ?_
  refine a_getr dX7_lineAt_1 kf_X7_19 ⟨by decide, _, rfl, rfl⟩ ?_
  refine a_iload_n dX7_lineAt_4 rfl ?_
  refine a_iconst (v := nI 5) dX7_lineAt_5 (by decide) ?_
  refine a_imul dX7_lineAt_6 (show _ = nI (5 * p) by rw [Nat.mul_comm]; exact pk_mul _ _) ?_
  refine a_iload_n dX7_lineAt_7 rfl ?_
  refine a_iadd dX7_lineAt_8 (by first | exact nI_add _ _ | rfl) ?_
  refine a_iald dX7_lineAt_9 ⟨by decide, rfl⟩ (by omega) (q3 i x hx) ?_
  exact a_ireturn dX7_lineAt_10 ⟨_, rfl, hK⟩

set_option maxHeartbeats 4000000 in
set_option maxRecDepth 100000 in
theorem lp_gbb {G : am_G} {d : Nat} {I : am_I} {J : am_J} {K : Int32 → am_I → am_J → Prop} {n m p x : Nat} {R : Nat → Option (List Nat)} {l : List Nat} (hR : rlP 47 48 n m R I) (hp : p < m) (hm : m ≤ 36) (hn : n ≤ 12) (hx : x < 12) (hl : R p = some l) (h1 : x ∈ l → K 1 I J) (h0 : x ∉ l → K 0 I J) : ∀ i, i ≤ l.length → (∀ j y, j < i → l[j]? = some y → y ≠ x) → AW G cX7_goesBy 4 RX7 (d + 1) (am_ex G (some .boolean) (fun r I J => ∃ x, r = some (.int x) ∧ K x I J)) 2 [some (.ref 3), some (.int (nI p)), some (.int (nI x)), some (.int (nI i))] [] I J := by
  obtain ⟨q1, q2, q3, q4⟩ := (hR p hp).2 l hl
  refine am_dn l.length (fun i hi ih => ?_)
  intro hj
  refine a_iload_n dX7_goesBy_2 rfl ?_
  refine a_aload_n dX7_goesBy_3 rfl ?_
  refine a_getr dX7_goesBy_4 kf_X7_15 ⟨by decide, _, rfl, rfl⟩ ?_
  refine a_iload_n dX7_goesBy_7 rfl ?_
  refine a_iald dX7_goesBy_8 ⟨by decide, rfl⟩ (by omega) q1 ?_
  refine a_icmp_geN (tgt := 30) dX7_goesBy_9 (by decide) (by omega) (by omega) (fun h => ?_) (fun h => ?_)
  · obtain rfl : i = l.length := by omega
    refine a_iconst (v := nI 0) dX7_goesBy_30 (by decide) ?_
    exact a_zreturn dX7_goesBy_31 (by first | exact Or.inl rfl | exact Or.inr rfl) ⟨_, rfl, (h0 (fun q => by obtain ⟨j, hj1, hj2⟩ := List.getElem_of_mem q; exact hj j x hj1 (by rw [List.getElem?_eq_getElem hj1, hj2]) rfl))⟩
  · have e : l[i]? = some l[i] := List.getElem?_eq_getElem h
    generalize l[i] = y at e
    have hy := q4 y (List.mem_of_getElem? e)
    refine a_aload_n dX7_goesBy_12 rfl ?_
    refine a_iload_n dX7_goesBy_13 rfl ?_
    refine a_iload_n dX7_goesBy_14 rfl ?_
    refine a_callVi (As := [_, _]) dX7_goesBy_15 km_X7_42 ⟨by decide, _, _, _, rfl, rfl⟩ rfl rfl (Nat.le_of_ble_eq_true rfl) ?_
    refine r_lineAtb hR hp hm hl e ?_
    refine a_iload_n dX7_goesBy_18 rfl ?_
    refine a_icmp_neN (tgt := 24) dX7_goesBy_19 (by decide) (by omega) (by omega) (fun g => ?_) (fun g => ?_)
    · refine a_iinc (L' := [_, _, _, _]) dX7_goesBy_24 rfl (nI_inc _) rfl ?_
      refine a_goto (tgt := 2) dX7_goesBy_27 (by decide) ?_
      exact ih (i + 1) (by omega) (by omega) (fun j z hz hzz => by
        by_cases ej : j = i
        · subst ej; rw [e] at hzz; cases hzz; exact g
        · exact hj j z (by omega) hzz)
    · refine a_iconst (v := nI 1) dX7_goesBy_22 (by decide) ?_
      exact a_zreturn dX7_goesBy_23 (by first | exact Or.inl rfl | exact Or.inr rfl) ⟨_, rfl, (h1 (g ▸ List.mem_of_getElem? e))⟩

set_option maxHeartbeats 4000000 in
set_option maxRecDepth 100000 in
theorem r_goesByb {G : am_G} {d : Nat} {I : am_I} {J : am_J} {K : Int32 → am_I → am_J → Prop} {n m p : Nat} {R : Nat → Option (List Nat)} {x : Nat} (hR : rlP 47 48 n m R I) (hp : p < m) (hm : m ≤ 36) (hn : n ≤ 12) (hx : x < 12) (h1 : gbQ R x p = true → K 1 I J) (h0 : gbQ R x p = false → K 0 I J) : CMi G (d + 1) yX7_goesBy [.ref 3, .int (nI p), .int (nI x)] I J K := by
  refine CM.of (L0 := [_, _, _, _]) cX7_goesBy 4 (some .boolean) (by decide) (by decide) kcX7_goesBy (Nat.le_of_ble_eq_true rfl) rfl ?_
  refine a_iconst (v := nI 0) dX7_goesBy_0 (by decide) ?_
  refine a_istore_n (L' := [_, _, _, _]) dX7_goesBy_1 (Nat.le_of_ble_eq_true rfl) rfl ?_
  rcases e : R p with _ | l
  · have q := (hR p hp).1 e
    refine a_iload_n dX7_goesBy_2 rfl ?_
    refine a_aload_n dX7_goesBy_3 rfl ?_
    refine a_getr dX7_goesBy_4 kf_X7_15 ⟨by decide, _, rfl, rfl⟩ ?_
    refine a_iload_n dX7_goesBy_7 rfl ?_
    refine a_iald dX7_goesBy_8 ⟨by decide, rfl⟩ (by omega) q ?_
    refine a_icmp_ge (tgt := 30) dX7_goesBy_9 (by decide) (fun h9 => ?_) (fun h9 => ?_)
    · refine a_iconst (v := nI 0) dX7_goesBy_30 (by decide) ?_
      exact a_zreturn dX7_goesBy_31 (by first | exact Or.inl rfl | exact Or.inr rfl) ⟨_, rfl, (h0 (gbQ_none e))⟩
    · exact absurd (show (-1 : Int32) ≤ nI 0 by decide) h9
  · exact lp_gbb hR hp hm hn hx e (fun q => h1 (by rw [gbQ_some e]; simpa using q)) (fun q => h0 (by rw [gbQ_some e]; simpa using q)) 0 (by omega) (fun j y q => by omega)

