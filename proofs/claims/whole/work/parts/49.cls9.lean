/-! ===== the system: Seeker.begin ===== -/
def rbR (R : Nat → Option (List Nat)) (p : Nat) : Option Nat := match R p with
  | none => none
  | some l => if l = [] then none else some (bN l)
theorem rbR_none {R : Nat → Option (List Nat)} {p : Nat} (h : R p = none ∨ R p = some []) : rbR R p = none := by
  unfold rbR
  rcases h with h | h
  · rw [h]
  · rw [h]; rfl
theorem rbR_some {R : Nat → Option (List Nat)} {p : Nat} {l : List Nat} (h : R p = some l) (hl : l ≠ []) : rbR R p = some (bN l) := by
  unfold rbR
  rw [h]
  exact if_neg hl
theorem and_tb {l : List Nat} {tl : Nat → Bool} {n : Nat} (hl : ∀ x ∈ l, x < n) (x : Nat) : (bN l &&& tbN tl n).testBit x = true ↔ x ∈ l ∧ tl x = true := by
  rw [Nat.testBit_and, bN_test, tbN_test]
  simp
  exact fun h _ => hl x h
theorem and_tb0 {l : List Nat} {tl : Nat → Bool} {n : Nat} (hl : ∀ x ∈ l, x < n) : bN l &&& tbN tl n ≠ 0 ↔ ∃ x, x ∈ l ∧ tl x = true := by
  constructor
  · intro h
    refine Classical.byContradiction fun q => h ?_
    apply Nat.eq_of_testBit_eq
    intro i
    rw [Nat.zero_testBit]
    exact Bool.eq_false_iff.mpr (fun z => q ⟨i, (and_tb hl i).mp z⟩)
  · rintro ⟨x, hx⟩ e
    have := (and_tb (n := n) hl x).mpr hx
    rw [e, Nat.zero_testBit] at this
    cases this
theorem sel_none {R : Nat → Option (List Nat)} {me : Nat → Int32} {tb p : Nat} (h : R p = none ∨ R p = some []) : selQ (rbR R) me tb p = false := by
  unfold selQ
  rw [rbR_none h]
theorem sel_some {R : Nat → Option (List Nat)} {me : Nat → Int32} {tl : Nat → Bool} {n p : Nat} {l : List Nat} (h : R p = some l) (hl : l ≠ []) (hn : ∀ x ∈ l, x < n) : selQ (rbR R) me (tbN tl n) p = true ↔ me p ≠ -9 ∨ ∃ x, x ∈ l ∧ tl x = true := by
  unfold selQ
  rw [rbR_some h hl, ← and_tb0 hn]
  simp
set_option maxHeartbeats 4000000 in
set_option maxRecDepth 100000 in
theorem lp_so {G : am_G} {d : Nat} {I : am_I} {J : am_J} {K : Int32 → am_I → am_J → Prop} {n M p : Nat} {R : Nat → Option (List Nat)} {me : Nat → Int32} {tl : Nat → Bool} {l : List Nat} (hR : rlP 44 45 n M R I) (hM : M ≤ 36) (hn : n ≤ 12) (hp : p < M) (hX : I 54 p = me p) (hT : ∀ x, x < n → (I 53 x ≠ -9 ↔ tl x = true)) (hl : R p = some l) (h1 : (∃ x, x ∈ l ∧ tl x = true) → K 1 I J) (h0 : (¬ ∃ x, x ∈ l ∧ tl x = true) → K 0 I J) : ∀ i, i ≤ l.length → (∀ j y, j < i → l[j]? = some y → ¬ tl y = true) → AW G cX8_isSought 3 RX8 (d + 1) (am_ex G (some .boolean) (fun r I J => ∃ x, r = some (.int x) ∧ K x I J)) 28 [some (.ref 4), some (.int (nI p)), some (.int (nI i))] [] I J := by
  obtain ⟨q1, q2, q3, q4⟩ := (hR p hp).2 l hl
  refine am_dn l.length (fun i hi ih => ?_)
  intro hj
  refine a_iload_n dX8_isSought_28 rfl ?_
  refine a_aload_n dX8_isSought_29 rfl ?_
  refine a_getr dX8_isSought_30 kf_X8_48 ⟨by decide, _, rfl, rfl⟩ ?_
  refine a_getr dX8_isSought_33 kf_X8_132 ⟨by decide, _, rfl, rfl⟩ ?_
  refine a_iload_n dX8_isSought_36 rfl ?_
  refine a_iald dX8_isSought_37 ⟨by decide, rfl⟩ (by omega) q1 ?_
  refine a_icmp_geN (tgt := 68) dX8_isSought_38 (by decide) (by omega) (by omega) (fun h => ?_) (fun h => ?_)
  · obtain rfl : i = l.length := by omega
    refine a_iconst (v := nI 0) dX8_isSought_68 (by decide) ?_
    exact a_zreturn dX8_isSought_69 (by first | exact Or.inl rfl | exact Or.inr rfl) ⟨_, rfl, (h0 (fun ⟨x, z1, z2⟩ => by obtain ⟨j, hj1, hj2⟩ := List.getElem_of_mem z1; exact hj j x hj1 (by rw [List.getElem?_eq_getElem hj1, hj2]) z2))⟩
  · have e : l[i]? = some l[i] := List.getElem?_eq_getElem h
    generalize l[i] = y at e
    have hy := q4 y (List.mem_of_getElem? e)
    have hty := hT y hy
    refine a_aload_n dX8_isSought_41 rfl ?_
    refine a_getr dX8_isSought_42 kf_X8_21 ⟨by decide, _, rfl, rfl⟩ ?_
    refine a_aload_n dX8_isSought_45 rfl ?_
    refine a_getr dX8_isSought_46 kf_X8_48 ⟨by decide, _, rfl, rfl⟩ ?_
    refine a_iload_n dX8_isSought_49 rfl ?_
    refine a_iload_n dX8_isSought_50 rfl ?_
    refine a_callVi (As := [_, _]) dX8_isSought_51 km_X8_135 ⟨by decide, _, _, _, rfl, rfl⟩ rfl rfl (Nat.le_of_ble_eq_true rfl) ?_
    refine r_lineAta hR hp hM hl e ?_
    refine a_iald dX8_isSought_54 ⟨by decide, rfl⟩ (by omega) rfl ?_
    refine a_bipush (v := (-9)) dX8_isSought_55 (by decide) ?_
    refine a_icmp_eq (tgt := 62) dX8_isSought_57 (by decide) (fun g => ?_) (fun g => ?_)
    · refine a_iinc (L' := [_, _, _]) dX8_isSought_62 rfl (nI_inc _) rfl ?_
      refine a_goto (tgt := 28) dX8_isSought_65 (by decide) ?_
      exact ih (i + 1) (by omega) (by omega) (fun j z hz hzz => by
        by_cases ej : j = i
        · subst ej; rw [e] at hzz; cases hzz; exact fun q => hty.mpr q g
        · exact hj j z (by omega) hzz)
    · refine a_iconst (v := nI 1) dX8_isSought_60 (by decide) ?_
      exact a_zreturn dX8_isSought_61 (by first | exact Or.inl rfl | exact Or.inr rfl) ⟨_, rfl, (h1 ⟨y, List.mem_of_getElem? e, hty.mp g⟩)⟩

set_option maxHeartbeats 4000000 in
set_option maxRecDepth 100000 in
theorem s_isSought {G : am_G} {d : Nat} {I : am_I} {J : am_J} {K : Int32 → am_I → am_J → Prop} {n M p : Nat} {R : Nat → Option (List Nat)} {me : Nat → Int32} {tl : Nat → Bool} (hR : rlP 44 45 n M R I) (hM : M ≤ 36) (hn : n ≤ 12) (hp : p < M) (hX : I 54 p = me p) (hT : ∀ x, x < n → (I 53 x ≠ -9 ↔ tl x = true)) (h1 : selQ (rbR R) me (tbN tl n) p = true → K 1 I J) (h0 : selQ (rbR R) me (tbN tl n) p = false → K 0 I J) : CMi G (d + 1) yX8_isSought [.ref 4, .int (nI p)] I J K := by
  refine CM.of (L0 := [_, _, _]) cX8_isSought 3 (some .boolean) (by decide) (by decide) kcX8_isSought (Nat.le_of_ble_eq_true rfl) rfl ?_
  refine a_aload_n dX8_isSought_0 rfl ?_
  refine a_getr dX8_isSought_1 kf_X8_48 ⟨by decide, _, rfl, rfl⟩ ?_
  refine a_iload_n dX8_isSought_4 rfl ?_
  refine a_callVi (As := [_]) dX8_isSought_5 km_X8_129 ⟨by decide, _, _, _, rfl, rfl⟩ rfl rfl (Nat.le_of_ble_eq_true rfl) ?_
  refine r_isRouteda hR hp hM (fun l e q => ?_) (fun q => ?_)
  · have hln := ((hR p hp).2 l e).2.2.2
    have hs := sel_some (me := me) (tl := tl) e q hln
    refine a_if_ne (tgt := 13) dX8_isSought_8 (by decide) (fun h8 => ?_) (fun h8 => ?_)
    · refine a_aload_n dX8_isSought_13 rfl ?_
      refine a_getr dX8_isSought_14 kf_X8_24 ⟨by decide, _, rfl, rfl⟩ ?_
      refine a_iload_n dX8_isSought_17 rfl ?_
      refine a_iald dX8_isSought_18 ⟨by decide, rfl⟩ (by omega) hX ?_
      refine a_bipush (v := (-9)) dX8_isSought_19 (by decide) ?_
      refine a_icmp_eq (tgt := 26) dX8_isSought_21 (by decide) (fun g => ?_) (fun g => ?_)
      · refine a_iconst (v := nI 0) dX8_isSought_26 (by decide) ?_
        refine a_istore_n (L' := [_, _, _]) dX8_isSought_27 (Nat.le_of_ble_eq_true rfl) rfl ?_
        exact lp_so hR hM hn hp hX hT e (fun z => h1 (hs.mpr (Or.inr z))) (fun z => h0 (Bool.eq_false_iff.mpr (fun w => (hs.mp w).elim (fun u => u g) z))) 0 (by omega) (fun j y q => by omega)
      · refine a_iconst (v := nI 1) dX8_isSought_24 (by decide) ?_
        exact a_zreturn dX8_isSought_25 (by first | exact Or.inl rfl | exact Or.inr rfl) ⟨_, rfl, (h1 (hs.mpr (Or.inl g)))⟩
    · exact absurd h8 (by decide)
  · refine a_if_ne (tgt := 13) dX8_isSought_8 (by decide) (fun h8 => ?_) (fun h8 => ?_)
    · exact absurd h8 (by decide)
    · refine a_iconst (v := nI 0) dX8_isSought_11 (by decide) ?_
      exact a_zreturn dX8_isSought_12 (by first | exact Or.inl rfl | exact Or.inr rfl) ⟨_, rfl, (h0 (sel_none q))⟩

def mLa (I : am_I) (l : List Nat) (v : Int32) : am_I := fun a b => if a = 52 ∧ b ∈ l then v else I a b
theorem mLa_ne {I : am_I} {l : List Nat} {v : Int32} {a : Nat} (h : a ≠ 52) : mLa I l v a = I a := by
  funext b; simp [mLa, h]
theorem mLa_0 (I : am_I) (v : Int32) : mLa I [] v = I := by
  funext a b; simp [mLa]
theorem mLa_s {I : am_I} {y : Nat} {ys : List Nat} {v : Int32} : mLa (am_up I 52 y v) ys v = mLa I (y :: ys) v := by
  funext a b
  simp only [mLa, List.mem_cons, am_up]
  by_cases ea : a = 52
  · subst ea
    by_cases e : b = y
    · subst e
      by_cases q : b ∈ ys <;> simp [q]
    · simp [e]
  · simp [ea]
set_option maxHeartbeats 4000000 in
set_option maxRecDepth 100000 in
theorem lp_as {G : am_G} {d : Nat} {J : am_J} {K : am_I → am_J → Prop} {n M p k : Nat} {R : Nat → Option (List Nat)} {l : List Nat} (hM : M ≤ 36) (hn : n ≤ 12) (hp : p < M) (hl : R p = some l) : ∀ (ys : List Nat) (i : Nat) (I : am_I), rlP 44 45 n M R I → I 4 8 = nI k → l.drop i = ys → i ≤ l.length → K (am_up (mLa I ys (nI k)) 4 8 (nI (k + 1))) J → AW G cX8_addSought 3 RX8 (d + 1) (am_ex G none (fun r I J => r = none ∧ K I J)) 12 [some (.ref 4), some (.int (nI p)), some (.int (nI i))] [] I J := by
  intro ys
  induction ys with
  | nil =>
    intro i I hR h8 hd hi hK
    obtain ⟨c1, c2, c3, c4⟩ := (hR p hp).2 l hl
    have hd1 := drop_nil hd
    rw [mLa_0] at hK
    refine a_iload_n dX8_addSought_12 rfl ?_
    refine a_aload_n dX8_addSought_13 rfl ?_
    refine a_getr dX8_addSought_14 kf_X8_48 ⟨by decide, _, rfl, rfl⟩ ?_
    refine a_getr dX8_addSought_17 kf_X8_132 ⟨by decide, _, rfl, rfl⟩ ?_
    refine a_iload_n dX8_addSought_20 rfl ?_
    refine a_iald dX8_addSought_21 ⟨by decide, rfl⟩ (by omega) c1 ?_
    refine a_icmp_geN (tgt := 49) dX8_addSought_22 (by decide) (by omega) (by omega) (fun h => ?_) (fun h => ?_)
    · refine a_aload_n dX8_addSought_49 rfl ?_
      refine a_dup dX8_addSought_50 rfl ?_
      refine a_geti dX8_addSought_51 kf_X8_30 ⟨by decide, _, rfl, rfl⟩ h8 ?_
      refine a_iconst (v := nI 1) dX8_addSought_54 (by decide) ?_
      refine a_iadd dX8_addSought_55 (by first | exact nI_add _ _ | rfl) ?_
      refine a_puti dX8_addSought_56 kp_X8_30 ⟨by decide, _, rfl, rfl⟩ ?_
      exact a_vreturn dX8_addSought_59 ⟨rfl, hK⟩
    · exact absurd h (by omega)
  | cons y ys ih =>
    intro i I hR h8 hd hi hK
    obtain ⟨c1, c2, c3, c4⟩ := (hR p hp).2 l hl
    obtain ⟨d1, d2, d3⟩ := drop_cons hd
    have hx := c4 y (List.mem_of_getElem? d1)
    refine a_iload_n dX8_addSought_12 rfl ?_
    refine a_aload_n dX8_addSought_13 rfl ?_
    refine a_getr dX8_addSought_14 kf_X8_48 ⟨by decide, _, rfl, rfl⟩ ?_
    refine a_getr dX8_addSought_17 kf_X8_132 ⟨by decide, _, rfl, rfl⟩ ?_
    refine a_iload_n dX8_addSought_20 rfl ?_
    refine a_iald dX8_addSought_21 ⟨by decide, rfl⟩ (by omega) c1 ?_
    refine a_icmp_geN (tgt := 49) dX8_addSought_22 (by decide) (by omega) (by omega) (fun h => ?_) (fun h => ?_)
    · exact absurd h (by omega)
    · refine a_aload_n dX8_addSought_25 rfl ?_
      refine a_getr dX8_addSought_26 kf_X8_18 ⟨by decide, _, rfl, rfl⟩ ?_
      refine a_aload_n dX8_addSought_29 rfl ?_
      refine a_getr dX8_addSought_30 kf_X8_48 ⟨by decide, _, rfl, rfl⟩ ?_
      refine a_iload_n dX8_addSought_33 rfl ?_
      refine a_iload_n dX8_addSought_34 rfl ?_
      refine a_callVi (As := [_, _]) dX8_addSought_35 km_X8_135 ⟨by decide, _, _, _, rfl, rfl⟩ rfl rfl (Nat.le_of_ble_eq_true rfl) ?_
      refine r_lineAta hR hp hM hl d1 ?_
      refine a_aload_n dX8_addSought_38 rfl ?_
      refine a_geti dX8_addSought_39 kf_X8_30 ⟨by decide, _, rfl, rfl⟩ h8 ?_
      refine a_iast dX8_addSought_42 ⟨by decide, rfl⟩ (by omega) ?_
      refine a_iinc (L' := [_, _, _]) dX8_addSought_43 rfl (nI_inc _) rfl ?_
      refine a_goto (tgt := 12) dX8_addSought_46 (by decide) ?_
      exact ih (i + 1) _ (rl_fr hR (am_up_ne (by decide)) (am_up_ne (by decide))) (by rw [am_up_ne (by decide)]; exact h8) d3 (by omega) (by rw [mLa_s]; exact hK)

set_option maxHeartbeats 4000000 in
set_option maxRecDepth 100000 in
theorem s_addSought {G : am_G} {d : Nat} {I : am_I} {J : am_J} {K : am_I → am_J → Prop} {n M p k : Nat} {R : Nat → Option (List Nat)} {l : List Nat} (hR : rlP 44 45 n M R I) (hM : M ≤ 36) (hn : n ≤ 12) (hp : p < M) (hl : R p = some l) (h8 : I 4 8 = nI k) (hk : k < 36) (hK : K (am_up (mLa (am_up I 50 k (nI p)) l (nI k)) 4 8 (nI (k + 1))) J) : CMv G (d + 1) yX8_addSought [.ref 4, .int (nI p)] I J K := by
  refine CM.of (L0 := [_, _, _]) cX8_addSought 3 none (by decide) (by decide) kcX8_addSought (Nat.le_of_ble_eq_true rfl) rfl ?_
  refine a_aload_n dX8_addSought_0 rfl ?_
  refine a_getr dX8_addSought_1 kf_X8_9 ⟨by decide, _, rfl, rfl⟩ ?_
  refine a_aload_n dX8_addSought_4 rfl ?_
  refine a_geti dX8_addSought_5 kf_X8_30 ⟨by decide, _, rfl, rfl⟩ h8 ?_
  refine a_iload_n dX8_addSought_8 rfl ?_
  refine a_iast dX8_addSought_9 ⟨by decide, rfl⟩ (by omega) ?_
  refine a_iconst (v := nI 0) dX8_addSought_10 (by decide) ?_
  refine a_istore_n (L' := [_, _, _]) dX8_addSought_11 (Nat.le_of_ble_eq_true rfl) rfl ?_
  exact lp_as hM hn hp hl l 0 _ (rl_fr hR (am_up_ne (by decide)) (am_up_ne (by decide))) (by rw [am_up_ne (by decide)]; exact h8) rfl (by omega) hK

/-- where a LINE goes by last, among the places of L -/
def laQ (R : Nat → Option (List Nat)) (L : List Nat) (I : am_I) : Prop := ∀ x k q l, L[k]? = some q → R q = some l → x ∈ l → (I 52 x = nI k ↔ ∀ j q' l', k < j → L[j]? = some q' → R q' = some l' → x ∉ l')
theorem laQ_nil (R : Nat → Option (List Nat)) (I : am_I) : laQ R [] I := fun x k q l h => by simp at h
theorem laQ_add {R : Nat → Option (List Nat)} {L : List Nat} {p : Nat} {l : List Nat} {I I' : am_I} (h : laQ R L I) (hl : R p = some l) (hL : L.length < 2 ^ 31) (hin : ∀ x, x ∈ l → I' 52 x = nI L.length) (hout : ∀ x, x ∉ l → I' 52 x = I 52 x) : laQ R (L ++ [p]) I' := by
  intro x k q l1 hk hq hx
  rcases Nat.lt_or_ge k L.length with hlt | hge
  · rw [List.getElem?_append_left hlt] at hk
    by_cases e : x ∈ l
    · rw [hin x e]
      constructor
      · intro z
        have := nI_inj hL (by omega) z
        omega
      · intro z
        exact absurd e (z L.length p l hlt (by simp) hl)
    · rw [hout x e, h x k q l1 hk hq hx]
      constructor
      · intro z j q' l' hj hjq hr
        rcases Nat.lt_or_ge j L.length with a | a
        · rw [List.getElem?_append_left a] at hjq
          exact z j q' l' hj hjq hr
        · rw [List.getElem?_append_right a] at hjq
          have hj0 : j - L.length = 0 := by
            rcases Nat.eq_zero_or_pos (j - L.length) with u | u
            · exact u
            · rw [List.getElem?_eq_none (by rw [List.length_singleton]; exact u)] at hjq; cases hjq
          rw [hj0] at hjq
          simp at hjq
          subst hjq
          rw [hl] at hr
          cases hr
          exact e
      · intro z j q' l' hj hjq hr
        have a : j < L.length := (List.getElem?_eq_some_iff.mp hjq).1
        exact z j q' l' hj (by rw [List.getElem?_append_left a]; exact hjq) hr
  · have hk0 : k = L.length := by
      have := (List.getElem?_eq_some_iff.mp hk).1
      rw [List.length_append, List.length_singleton] at this
      omega
    subst hk0
    simp at hk
    subst hk
    rw [hl] at hq
    cases hq
    rw [hin x hx]
    refine ⟨fun _ j q' l' hj hjq => ?_, fun _ => rfl⟩
    have := (List.getElem?_eq_some_iff.mp hjq).1
    rw [List.length_append, List.length_singleton] at this
    omega
def frZ (I' I : am_I) : Prop := ∀ a j, a ≠ 50 → a ≠ 52 → a ≠ 53 → a ≠ 54 → a ≠ 55 → (a = 4 → j < 8) → I' a j = I a j
theorem frZ_row {I' I : am_I} (h : frZ I' I) {a : Nat} (h1 : a < 50 ∨ 55 < a) (h2 : a ≠ 4) : I' a = I a := by
  funext j; exact h a j (by omega) (by omega) (by omega) (by omega) (by omega) (fun e => absurd e h2)
def bgQ (R : Nat → Option (List Nat)) (L : List Nat) (n : Nat) (x : Int32) (I' I : am_I) : Prop := frZ I' I ∧ I' 4 8 = nI L.length ∧ I' 4 9 = x ∧ I' 4 10 = nI 0 ∧ I' 4 11 = nI 0 ∧ (∀ k q, L[k]? = some q → I' 50 k = nI q) ∧ laQ R L I' ∧ (∀ l, l < n → I' 53 l = I (20 + l) 5) ∧ (∀ p, p < 36 → I' 54 p = I 13 p) ∧ ∀ p, p < 36 → I' 55 p = nI 0
def sLC (R : Nat → Option (List Nat)) (I : am_I) (n p : Nat) : List Nat := sqL (rbR R) (I 13) (tbN (tlC I) n) p
set_option maxHeartbeats 4000000 in
set_option maxRecDepth 100000 in
theorem lp_bg2 {G : am_G} {d : Nat} {I0 : am_I} {J : am_J} {K : am_I → am_J → Prop} {n M : Nat} {R : Nat → Option (List Nat)} {x : Int32} (hR : rlP 44 45 n M R I0) (hM : M ≤ 36) (hn : n ≤ 12) (h2 : I0 2 0 = nI M) (hK : ∀ I', bgQ R (sLC R I0 n M) n x I' I0 → K I' J) : ∀ p, p ≤ M → ∀ I, bgQ R (sLC R I0 n p) n x I I0 → AW G cX8_begin 3 RX8 (d + 2) (am_ex G none (fun r I J => r = none ∧ K I J)) 93 [some (.ref 4), some (.int x), some (.int (nI p))] [] I J := by
  refine am_dn M (fun p hp ih => ?_)
  intro I hI
  obtain ⟨f1, f2, f3, f4, f5, f6, f7, f8, f9, f10⟩ := id hI
  have hR1 : rlP 44 45 n M R I := rl_fr hR (frZ_row f1 (by decide) (by decide)) (frZ_row f1 (by decide) (by decide))
  have e2 : I 2 0 = nI M := by rw [frZ_row f1 (by decide) (by decide)]; exact h2
  have hlen : (sLC R I0 n p).length ≤ p := sqL_len _ _ _ _
  refine a_iload_n dX8_begin_93 rfl ?_
  refine a_aload_n dX8_begin_94 rfl ?_
  refine a_getr dX8_begin_95 kf_X8_48 ⟨by decide, _, rfl, rfl⟩ ?_
  refine a_geti dX8_begin_98 kf_X8_81 ⟨by decide, _, rfl, rfl⟩ e2 ?_
  refine a_icmp_geN (tgt := 123) dX8_begin_101 (by decide) (by omega) (by omega) (fun h => ?_) (fun h => ?_)
  · obtain rfl : p = M := by omega
    exact a_vreturn dX8_begin_123 ⟨rfl, (hK I hI)⟩
  · refine a_aload_n dX8_begin_104 rfl ?_
    refine a_iload_n dX8_begin_105 rfl ?_
    refine a_callVi (As := [_]) dX8_begin_106 km_X8_86 ⟨by decide, _, _, _, rfl, rfl⟩ rfl rfl (Nat.le_of_ble_eq_true rfl) ?_
    refine s_isSought (me := I0 13) (tl := tlC I0) hR1 hM hn h (f9 p (by omega)) (fun y hy => by rw [f8 y hy]; unfold tlC; simp) (fun hs => ?_) (fun hs => ?_)
    · obtain ⟨l, hl⟩ : ∃ l, R p = some l := by
        rcases e : R p with _ | l
        · rw [sel_none (Or.inl e)] at hs; cases hs
        · exact ⟨l, rfl⟩
      refine a_if_eq (tgt := 117) dX8_begin_109 (by decide) (fun h109 => ?_) (fun h109 => ?_)
      · exact absurd h109 (by decide)
      · refine a_aload_n dX8_begin_112 rfl ?_
        refine a_iload_n dX8_begin_113 rfl ?_
        refine a_callVv (As := [_]) dX8_begin_114 km_X8_90 ⟨by decide, _, _, _, rfl, rfl⟩ rfl rfl (Nat.le_of_ble_eq_true rfl) ?_
        refine s_addSought hR1 hM hn h hl f2 (by omega) ?_
        refine a_iinc (L' := [_, _, _]) dX8_begin_117 rfl (nI_inc _) rfl ?_
        refine a_goto (tgt := 93) dX8_begin_120 (by decide) ?_
        refine ih (p + 1) (by omega) (by omega) _ ?_
        have eL : sLC R I0 n (p + 1) = sLC R I0 n p ++ [p] := by unfold sLC; rw [sqL, if_pos hs]
        rw [eL]
        refine ⟨fun a j q1 q2 q3 q4 q5 q6 => ?_, ?_, ?_, ?_, ?_, fun k q hk => ?_, ?_, fun l hl => ?_, fun p hp => ?_, fun p hp => ?_⟩
        · by_cases e : a = 4
          · subst e
            rw [am_up_slot (by have := q6 rfl; omega), mLa_ne q2, am_up_ne q1]
            exact f1 4 j q1 q2 q3 q4 q5 q6
          · rw [am_up_ne e, mLa_ne q2, am_up_ne q1]
            exact f1 a j q1 q2 q3 q4 q5 q6
        · rw [am_up_same, List.length_append, List.length_singleton]
        · rw [am_up_slot (by decide), mLa_ne (by decide), am_up_ne (by decide)]; exact f3
        · rw [am_up_slot (by decide), mLa_ne (by decide), am_up_ne (by decide)]; exact f4
        · rw [am_up_slot (by decide), mLa_ne (by decide), am_up_ne (by decide)]; exact f5
        · rw [am_up_ne (by decide), mLa_ne (by decide)]
          rcases Nat.lt_or_ge k (sLC R I0 n p).length with a | a
          · rw [am_up_slot (by omega)]
            rw [List.getElem?_append_left a] at hk
            exact f6 k q hk
          · have := (List.getElem?_eq_some_iff.mp hk).1
            rw [List.length_append, List.length_singleton] at this
            obtain rfl : k = (sLC R I0 n p).length := by omega
            simp at hk
            subst hk
            rw [am_up_same]
        · refine laQ_add f7 hl (by omega) (fun y hy => ?_) (fun y hy => ?_)
          · rw [am_up_ne (by decide)]; simp [mLa, hy]
          · rw [am_up_ne (by decide)]; simp [mLa, hy, am_up]
        · rw [am_up_ne (by decide), mLa_ne (by decide), am_up_ne (by decide)]; exact f8 l hl
        · rw [am_up_ne (by decide), mLa_ne (by decide), am_up_ne (by decide)]; exact f9 p hp
        · rw [am_up_ne (by decide), mLa_ne (by decide), am_up_ne (by decide)]; exact f10 p hp
    · refine a_if_eq (tgt := 117) dX8_begin_109 (by decide) (fun h109 => ?_) (fun h109 => ?_)
      · refine a_iinc (L' := [_, _, _]) dX8_begin_117 rfl (nI_inc _) rfl ?_
        refine a_goto (tgt := 93) dX8_begin_120 (by decide) ?_
        refine ih (p + 1) (by omega) (by omega) I ?_
        have eL : sLC R I0 n (p + 1) = sLC R I0 n p := by unfold sLC; rw [sqL, if_neg (by rw [hs]; decide)]
        rw [eL]
        exact hI
      · exact absurd h109 (by decide)

def bg0 (I' I : am_I) (n : Nat) (x : Int32) : Prop := frZ I' I ∧ I' 4 8 = nI 0 ∧ I' 4 9 = x ∧ I' 4 10 = nI 0 ∧ I' 4 11 = nI 0 ∧ (∀ l, l < n → I' 53 l = I (20 + l) 5) ∧ (∀ p, p < 36 → I' 54 p = I 13 p) ∧ ∀ p, p < 36 → I' 55 p = nI 0
theorem bg0_up {I' I : am_I} {n : Nat} {x y : Int32} (hy : y = I (20 + n) 5) (h : bg0 I' I n x) (hn : n < 12) : bg0 (am_up (am_up I' 53 n y) 52 n (-9)) I (n + 1) x := by
  obtain ⟨f1, f2, f3, f4, f5, f6, f7, f8⟩ := h
  refine ⟨fun a j q1 q2 q3 q4 q5 q6 => ?_, ?_, ?_, ?_, ?_, fun l hl => ?_, fun p hp => ?_, fun p hp => ?_⟩
  · rw [am_up_ne q2, am_up_ne q3]; exact f1 a j q1 q2 q3 q4 q5 q6
  · rw [am_up_ne (by decide), am_up_ne (by decide)]; exact f2
  · rw [am_up_ne (by decide), am_up_ne (by decide)]; exact f3
  · rw [am_up_ne (by decide), am_up_ne (by decide)]; exact f4
  · rw [am_up_ne (by decide), am_up_ne (by decide)]; exact f5
  · rw [am_up_ne (by decide)]
    by_cases e : l = n
    · subst e; rw [am_up_same]; exact hy
    · rw [am_up_slot e]; exact f6 l (by omega)
  · rw [am_up_ne (by decide), am_up_ne (by decide)]; exact f7 p hp
  · rw [am_up_ne (by decide), am_up_ne (by decide)]; exact f8 p hp
set_option maxHeartbeats 4000000 in
set_option maxRecDepth 100000 in
theorem lp_bg1 {G : am_G} {d : Nat} {I0 : am_I} {J : am_J} {Ex : am_Ex} {n : Nat} {x : Int32} (hn : n ≤ 12) (h1 : I0 1 1 = nI n) (kx : ∀ I, bg0 I I0 n x → AW G cX8_begin 3 RX8 d Ex 91 [some (.ref 4), some (.int x), some (.int (nI n))] [] I J) : ∀ l, l ≤ n → ∀ I, bg0 I I0 l x → AW G cX8_begin 3 RX8 d Ex 48 [some (.ref 4), some (.int x), some (.int (nI l))] [] I J := by
  refine am_dn n (fun l hl ih => ?_)
  intro I hI
  have e1 : I 1 1 = nI n := by rw [frZ_row hI.1 (by decide) (by decide)]; exact h1
  refine a_iload_n dX8_begin_48 rfl ?_
  refine a_aload_n dX8_begin_49 rfl ?_
  refine a_getr dX8_begin_50 kf_X8_44 ⟨by decide, _, rfl, rfl⟩ ?_
  refine a_geti dX8_begin_53 kf_X8_69 ⟨by decide, _, rfl, rfl⟩ e1 ?_
  refine a_icmp_geN (tgt := 91) dX8_begin_56 (by decide) (by omega) (by omega) (fun h => ?_) (fun h => ?_)
  · obtain rfl : l = n := by omega
    exact kx I hI
  · refine a_aload_n dX8_begin_59 rfl ?_
    refine a_getr dX8_begin_60 kf_X8_21 ⟨by decide, _, rfl, rfl⟩ ?_
    refine a_iload_n dX8_begin_63 rfl ?_
    refine a_aload_n dX8_begin_64 rfl ?_
    refine a_getr dX8_begin_65 kf_X8_44 ⟨by decide, _, rfl, rfl⟩ ?_
    refine a_getr dX8_begin_68 kf_X8_72 ⟨by decide, _, rfl, rfl⟩ ?_
    refine a_iload_n dX8_begin_71 rfl ?_
    refine a_aald dX8_begin_72 ⟨by decide, rfl⟩ (by decide) (by omega) rfl ?_
    refine a_geti dX8_begin_73 kf_X8_76 (sh_at (by omega) rfl) rfl ?_
    refine a_iast dX8_begin_76 ⟨by decide, rfl⟩ (by omega) ?_
    refine a_aload_n dX8_begin_77 rfl ?_
    refine a_getr dX8_begin_78 kf_X8_18 ⟨by decide, _, rfl, rfl⟩ ?_
    refine a_iload_n dX8_begin_81 rfl ?_
    refine a_bipush (v := (-9)) dX8_begin_82 (by decide) ?_
    refine a_iast dX8_begin_84 ⟨by decide, rfl⟩ (by omega) ?_
    refine a_iinc (L' := [_, _, _]) dX8_begin_85 rfl (nI_inc _) rfl ?_
    refine a_goto (tgt := 48) dX8_begin_88 (by decide) ?_
    exact ih (l + 1) (by omega) (by omega) _ (bg0_up (by rw [frZ_row hI.1 (by omega) (by omega)]) hI (by omega))

set_option maxHeartbeats 4000000 in
set_option maxRecDepth 100000 in
theorem s_begin {G : am_G} {d : Nat} {I : am_I} {J : am_J} {K : am_I → am_J → Prop} {n M : Nat} {R : Nat → Option (List Nat)} {x : Int32} (hR : rlP 44 45 n M R I) (hM : M ≤ 36) (hn : n ≤ 12) (h1 : I 1 1 = nI n) (h2 : I 2 0 = nI M) (hK : ∀ I', bgQ R (sLC R I n M) n x I' I → K I' J) : CMv G (d + 2) yX8_begin [.ref 4, .int x] I J K := by
  refine CM.of (L0 := [_, _, _]) cX8_begin 3 none (by decide) (by decide) kcX8_begin (Nat.le_of_ble_eq_true rfl) rfl ?_
  refine a_aload_n dX8_begin_0 rfl ?_
  refine a_iload_n dX8_begin_1 rfl ?_
  refine a_puti dX8_begin_2 kp_X8_34 ⟨by decide, _, rfl, rfl⟩ ?_
  refine a_aload_n dX8_begin_5 rfl ?_
  refine a_iconst (v := nI 0) dX8_begin_6 (by decide) ?_
  refine a_puti dX8_begin_7 kp_X8_37 ⟨by decide, _, rfl, rfl⟩ ?_
  refine a_aload_n dX8_begin_10 rfl ?_
  refine a_iconst (v := nI 0) dX8_begin_11 (by decide) ?_
  refine a_putz dX8_begin_12 kp_X8_40 ⟨by decide, _, rfl, rfl⟩ (by first | exact Or.inl rfl | exact Or.inr rfl) ?_
  refine a_aload_n dX8_begin_15 rfl ?_
  refine a_iconst (v := nI 0) dX8_begin_16 (by decide) ?_
  refine a_puti dX8_begin_17 kp_X8_30 ⟨by decide, _, rfl, rfl⟩ ?_
  refine a_aload_n dX8_begin_20 rfl ?_
  refine a_getr dX8_begin_21 kf_X8_27 ⟨by decide, _, rfl, rfl⟩ ?_
  refine a_iconst (v := nI 0) dX8_begin_24 (by decide) ?_
  refine a_callSv (As := [_, _]) dX8_begin_25 km_X8_52 rfl rfl (Nat.le_of_ble_eq_true rfl) ?_
  refine c_fill ⟨by decide, rfl⟩ ?_
  refine a_aload_n dX8_begin_28 rfl ?_
  refine a_getr dX8_begin_29 kf_X8_44 ⟨by decide, _, rfl, rfl⟩ ?_
  refine a_getr dX8_begin_32 kf_X8_58 ⟨by decide, _, rfl, rfl⟩ ?_
  refine a_iconst (v := nI 0) dX8_begin_35 (by decide) ?_
  refine a_aload_n dX8_begin_36 rfl ?_
  refine a_getr dX8_begin_37 kf_X8_24 ⟨by decide, _, rfl, rfl⟩ ?_
  refine a_iconst (v := nI 0) dX8_begin_40 (by decide) ?_
  refine a_bipush (v := nI 36) dX8_begin_41 (by decide) ?_
  refine a_copy dX8_begin_43 kl_X8_63 kn_copy ks_copy ki_System ⟨by decide, rfl⟩ ⟨by decide, rfl⟩ (by decide) (by decide) (by decide) (fun e => absurd e (by decide)) (Nat.le_of_ble_eq_true rfl) ?_
  refine a_iconst (v := nI 0) dX8_begin_46 (by decide) ?_
  refine a_istore_n (L' := [_, _, _]) dX8_begin_47 (Nat.le_of_ble_eq_true rfl) rfl ?_
  refine lp_bg1 hn h1 (fun I1 hI1 => ?_) 0 (by omega) _ ?_
  · obtain ⟨f1, f2, f3, f4, f5, f6, f7, f8⟩ := hI1
    refine a_iconst (v := nI 0) dX8_begin_91 (by decide) ?_
    refine a_istore_n (L' := [_, _, _]) dX8_begin_92 (Nat.le_of_ble_eq_true rfl) rfl ?_
    exact lp_bg2 hR hM hn h2 hK 0 (by omega) I1 ⟨f1, f2, f3, f4, f5, fun k q hk => by simp [sLC, sqL] at hk, laQ_nil R _, f6, f7, f8⟩
  · refine ⟨fun a j q1 q2 q3 q4 q5 q6 => ?_, ?_, ?_, ?_, ?_, fun l hl => by omega, fun p hp => ?_, fun p hp => ?_⟩
    · rw [am_cp_ne q4, mFill_ne q5]
      by_cases e : a = 4
      · subst e
        have := q6 rfl
        rw [am_up_slot (by omega), am_up_slot (by omega), am_up_slot (by omega), am_up_slot (by omega)]
      · rw [am_up_ne e, am_up_ne e, am_up_ne e, am_up_ne e]
    · rw [am_cp_ne (by decide), mFill_ne (by decide), am_up_same]
    · rw [am_cp_ne (by decide), mFill_ne (by decide), am_up_slot (by decide), am_up_slot (by decide), am_up_slot (by decide), am_up_same]
    · rw [am_cp_ne (by decide), mFill_ne (by decide), am_up_slot (by decide), am_up_slot (by decide), am_up_same]
    · rw [am_cp_ne (by decide), mFill_ne (by decide), am_up_slot (by decide), am_up_same]
    · rw [am_cp_row]
      simp [va_cpy, hp]
      rw [mFill_ne (by decide), am_up_ne (by decide), am_up_ne (by decide), am_up_ne (by decide), am_up_ne (by decide)]
    · rw [am_cp_ne (by decide), mFill_in hp]

