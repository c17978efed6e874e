/-! ===== the system: goals as goP, seekAll ===== -/
theorem cp_at {I : am_I} {k p : Nat} {f : Nat → Int32} (hp : p < 36) : am_cp I k f 0 0 36 k p = f p := by
  simp [am_cp, va_cpy, hp]
theorem fr_row {I' I : am_I} (hf : ∀ a j, a ≠ 53 → a ≠ 55 → (a = 4 → j ≠ 10 ∧ j ≠ 11) → I' a j = I a j) {a : Nat} (h1 : a ≠ 53) (h2 : a ≠ 55) (h3 : a ≠ 4) : I' a = I a := by
  funext j; exact hf a j h1 h2 (fun z => absurd z h3)
/-- the FIT as the numbers of all places -/
abbrev kp0 (sq : Nat → Nat) (m : Nat) (A : Nat → Nat) : Nat → Int32 := kpR (fun _ => nI 0) sq A m
abbrev TaC : Type := Nat × (Nat → Nat)
def taP (e : Nat) (c : TaC) (A : Nat → Nat) : TaC × Bool := ((c.1 + 1, if c.1 = 0 then A else c.2), decide (e ≤ c.1 + 1))
def taR (e : Nat) (sq : Nat → Nat) (m : Nat) (v : Nat → Int32) (c : TaC) (I : am_I) : Prop := I 5 1 = nI c.1 ∧ I 5 2 = nI e ∧ ∀ p, p < 36 → I 56 p = if c.1 = 0 then v p else kp0 sq m c.2 p
def gpT (k : Nat) : Bool := k == 5 || k == 56
theorem taR_fr {e : Nat} {sq : Nat → Nat} {m : Nat} {v : Nat → Int32} {c : TaC} {I I' : am_I} (h : taR e sq m v c I) (h5 : I' 5 = I 5) (h56 : I' 56 = I 56) : taR e sq m v c I' := by
  unfold taR
  rw [h5, h56]
  exact h
theorem go_t {G : am_G} {d e m : Nat} {sq : Nat → Nat} {v : Nat → Int32} (he : e < 2 ^ 31) (hj : ∀ i j, i < m → j < m → sq i = sq j → i = j) : goP G d 5 yX10_hasEnough (taP e) (taR e sq m v) (fun c => c.1) gpT sq m := by
  refine ⟨fun c A => Nat.le_refl _, fun c I I' hf h => ?_, rfl, rfl, rfl, rfl, rfl, rfl, rfl, rfl, rfl, fun q I J c A K hR hN hc hK => ?_⟩
  · exact taR_fr h (fr_row hf (by decide) (by decide) (by decide)) (fr_row hf (by decide) (by decide) (by decide))
  · obtain ⟨h1, h2, h3⟩ := hR
    have hc' : c.1 ≤ 20000 := hc
    refine t_hasEnough h1 (by omega) h2 he ?_
    have ev : (if (if e ≤ c.1 + 1 then (1 : Int32) else 0) = 0 then (1 : Int32) else 0) = (if (taP e c A).2 = true then 0 else 1) := by
      by_cases z : e ≤ c.1 + 1 <;> simp [taP, z]
    show K (if (if e ≤ c.1 + 1 then (1 : Int32) else 0) = 0 then (1 : Int32) else 0) _ _
    rw [ev]
    refine hK _ (fun k hk => ?_) ⟨?_, ?_, fun p hp => ?_⟩
    · have hk5 : k ≠ 5 := fun z => by subst z; cases hk
      have hk56 : k ≠ 56 := fun z => by subst z; cases hk
      unfold mTa
      rw [am_up_ne hk5]
      split
      · exact am_cp_ne hk56
      · rfl
    · unfold mTa; rw [am_up_same]; rfl
    · unfold mTa
      rw [am_up_slot (by decide)]
      split
      · rw [am_cp_ne (by decide)]; exact h2
      · exact h2
    · show mTa I c.1 56 p = if c.1 + 1 = 0 then v p else kp0 sq m (if c.1 = 0 then A else c.2) p
      rw [if_neg (show ¬ c.1 + 1 = 0 by omega)]
      unfold mTa
      rw [am_up_ne (by decide)]
      by_cases z : c.1 = 0
      · rw [if_pos z, if_pos z, cp_at hp]
        exact nu_kp hj hN p hp
      · rw [if_neg z, if_neg z, h3 p hp, if_neg z]
abbrev RgC : Type := Bool × (Nat → Int32) × (Nat → Int32)
def raP (sq : Nat → Nat) (m : Nat) (c : RgC) (A : Nat → Nat) : RgC × Bool := ((true, (fun p => iMn (c.2.1 p) (kp0 sq m A p)), (fun p => iMx (c.2.2 p) (kp0 sq m A p))), false)
def ra0 : RgC := (false, (fun _ => nI 200), (fun _ => nI 0))
def raR (c : RgC) (I : am_I) : Prop := I 6 2 = bI c.1 ∧ ∀ p, p < 36 → I 57 p = c.2.1 p ∧ I 58 p = c.2.2 p
def gpG (k : Nat) : Bool := k == 6 || k == 57 || k == 58
theorem go_g {G : am_G} {d m : Nat} {sq : Nat → Nat} (hj : ∀ i j, i < m → j < m → sq i = sq j → i = j) : goP G d 6 yX6_hasEnough (raP sq m) raR (fun _ => 0) gpG sq m := by
  refine ⟨fun c A => Nat.zero_le _, fun c I I' hf h => ?_, rfl, rfl, rfl, rfl, rfl, rfl, rfl, rfl, rfl, fun q I J c A K hR hN hc hK => ?_⟩
  · unfold raR
    rw [fr_row hf (a := 6) (by decide) (by decide) (by decide), fr_row hf (a := 57) (by decide) (by decide) (by decide), fr_row hf (a := 58) (by decide) (by decide) (by decide)]
    exact h
  · obtain ⟨h1, h2⟩ := hR
    refine g_hasEnough ?_
    refine hK _ (fun k hk => ?_) ⟨?_, fun p hp => ⟨?_, ?_⟩⟩
    · have hk1 : k ≠ 6 := fun z => by subst z; cases hk
      have hk2 : k ≠ 57 := fun z => by subst z; cases hk
      have hk3 : k ≠ 58 := fun z => by subst z; cases hk
      funext b
      simp [mRg, hk2, hk3, am_up_ne hk1]
    · simp [mRg, am_up_same, raP, bI]
    · show mRg _ 36 57 p = iMn (c.2.1 p) (kp0 sq m A p)
      rw [show kp0 sq m A p = I 55 p from (nu_kp hj hN p hp).symm, ← (h2 p hp).1]
      simp [mRg, hp, am_up]
    · show mRg _ 36 58 p = iMx (c.2.2 p) (kp0 sq m A p)
      rw [show kp0 sq m A p = I 55 p from (nu_kp hj hN p hp).symm, ← (h2 p hp).2]
      simp [mRg, hp, am_up]
abbrev BsC : Type := Bool × Int32 × (Nat → Nat)
def bsP (val : (Nat → Nat) → Int32) (c : BsC) (A : Nat → Nat) : BsC × Bool := (if c.1 = true ∧ c.2.1 ≤ val A then c else (true, val A, A), false)
def bs0 : BsC := (false, nI 0, (fun _ => 0))
def bsR (r1 r2 : Nat) (X : am_I → Prop) (sq : Nat → Nat) (m : Nat) (c : BsC) (I : am_I) : Prop := I r1 1 = bI c.1 ∧ I r1 2 = c.2.1 ∧ X I ∧ (c.1 = true → ∀ p, p < 36 → I r2 p = kp0 sq m c.2.2 p)
/-- how many PAIRS another number than ba -/
def vaF (ba : Nat → Int32) (sq : Nat → Nat) (m : Nat) (A : Nat → Nat) : Int32 := nI (cN (fun p => decide (kp0 sq m A p ≠ ba p)) 36)
def vaH (go : Nat → Int32) (sq : Nat → Nat) (m : Nat) (A : Nat → Nat) : Int32 := -(sI (fun p => if go p = 0 then nI 0 else kp0 sq m A p) 36)
theorem sI_congr {f g : Nat → Int32} : ∀ n, (∀ i, i < n → f i = g i) → sI f n = sI g n
  | 0, _ => rfl
  | n + 1, h => by rw [sI, sI, sI_congr n (fun i hi => h i (by omega)), h n (by omega)]
def gpF (k : Nat) : Bool := k == 7 || k == 59
def xxF (x : Nat → Int32) (I : am_I) : Prop := ∀ p, p < 36 → I 14 p = x p
theorem go_f {G : am_G} {d m : Nat} {sq : Nat → Nat} {x : Nat → Int32} (hj : ∀ i j, i < m → j < m → sq i = sq j → i = j) : goP G d 7 yX0_hasEnough (bsP (vaF x sq m)) (bsR 7 59 (xxF x) sq m) (fun _ => 0) gpF sq m := by
  refine ⟨fun c A => Nat.zero_le _, fun c I I' hf h => ?_, rfl, rfl, rfl, rfl, rfl, rfl, rfl, rfl, rfl, fun q I J c A K hR hN hc hK => ?_⟩
  · unfold bsR xxF
    rw [fr_row hf (a := 7) (by decide) (by decide) (by decide), fr_row hf (a := 59) (by decide) (by decide) (by decide), fr_row hf (a := 14) (by decide) (by decide) (by decide)]
    exact h
  · obtain ⟨h1, h2, h3, h4⟩ := hR
    have hv : vaF x sq m A = (nI (cN (coF I) 36)) := by
      unfold vaF
      congr 1
      exact cN_congr 36 (fun p hp => by unfold coF; rw [nu_kp hj hN p hp, h3 p hp])
    refine f_hasEnough (fun q1 q2 => ?_) (fun q1 => ?_)
    · have hs : bsP (vaF x sq m) c A = (c, false) := by
        have hc1 : c.1 = true := by
          rcases hb : c.1 with _ | _
          · rw [h1, hb] at q1; exact absurd rfl q1
          · rfl
        have hc2 : c.2.1 ≤ vaF x sq m A := by rw [hv, ← h2]; exact q2
        unfold bsP
        rw [if_pos ⟨hc1, hc2⟩]
      have := hK I (fun _ _ => rfl) (by rw [hs]; exact ⟨h1, h2, h3, h4⟩)
      rw [hs] at this
      exact this
    · have hs : bsP (vaF x sq m) c A = ((true, vaF x sq m A, A), false) := by
        unfold bsP
        rw [if_neg]
        rintro ⟨z1, z2⟩
        rcases q1 with q | q
        · rw [h1, z1] at q; exact absurd q (by decide)
        · rw [hv, ← h2] at z2
          exact absurd z2 (Int32.not_le.mpr q)
      have hz := hK (am_cp (am_up (am_up I 7 1 (nI 1)) 7 2 (nI (cN (coF I) 36))) 59 (I 55) 0 0 36) (fun k hk => ?_) (by
        rw [hs]
        refine ⟨?_, ?_, fun p hp => ?_, fun _ p hp => ?_⟩
        · rw [am_cp_ne (by decide), am_up_slot (by decide), am_up_same]; rfl
        · rw [am_cp_ne (by decide), am_up_same]; exact hv.symm
        · rw [am_cp_ne (by decide), am_up_ne (by decide), am_up_ne (by decide)]; exact h3 p hp
        · rw [cp_at hp]; exact nu_kp hj hN p hp)
      · rw [hs] at hz
        exact hz
      · have hk1 : k ≠ 7 := fun z => by subst z; cases hk
        have hk2 : k ≠ 59 := fun z => by subst z; cases hk
        rw [am_cp_ne hk2, am_up_ne hk1, am_up_ne hk1]
def gpH (k : Nat) : Bool := k == 8 || k == 60
def xxH (x : Nat → Int32) (I : am_I) : Prop := ∀ p, p < 36 → I 61 p = x p
theorem go_h {G : am_G} {d m : Nat} {sq : Nat → Nat} {x : Nat → Int32} (hj : ∀ i j, i < m → j < m → sq i = sq j → i = j) : goP G d 8 yX0_hasEnough (bsP (vaH x sq m)) (bsR 8 60 (xxH x) sq m) (fun _ => 0) gpH sq m := by
  refine ⟨fun c A => Nat.zero_le _, fun c I I' hf h => ?_, rfl, rfl, rfl, rfl, rfl, rfl, rfl, rfl, rfl, fun q I J c A K hR hN hc hK => ?_⟩
  · unfold bsR xxH
    rw [fr_row hf (a := 8) (by decide) (by decide) (by decide), fr_row hf (a := 60) (by decide) (by decide) (by decide), fr_row hf (a := 61) (by decide) (by decide) (by decide)]
    exact h
  · obtain ⟨h1, h2, h3, h4⟩ := hR
    have hv : vaH x sq m A = (-(sI (coH I) 36)) := by
      unfold vaH
      rw [show sI (fun p => if x p = 0 then nI 0 else kp0 sq m A p) 36 = sI (coH I) 36 from sI_congr 36 (fun p hp => by unfold coH; rw [nu_kp hj hN p hp, h3 p hp])]
    refine h_hasEnough (fun q1 q2 => ?_) (fun q1 => ?_)
    · have hs : bsP (vaH x sq m) c A = (c, false) := by
        have hc1 : c.1 = true := by
          rcases hb : c.1 with _ | _
          · rw [h1, hb] at q1; exact absurd rfl q1
          · rfl
        have hc2 : c.2.1 ≤ vaH x sq m A := by rw [hv, ← h2]; exact q2
        unfold bsP
        rw [if_pos ⟨hc1, hc2⟩]
      have := hK I (fun _ _ => rfl) (by rw [hs]; exact ⟨h1, h2, h3, h4⟩)
      rw [hs] at this
      exact this
    · have hs : bsP (vaH x sq m) c A = ((true, vaH x sq m A, A), false) := by
        unfold bsP
        rw [if_neg]
        rintro ⟨z1, z2⟩
        rcases q1 with q | q
        · rw [h1, z1] at q; exact absurd q (by decide)
        · rw [hv, ← h2] at z2
          exact absurd z2 (Int32.not_le.mpr q)
      have hz := hK (am_cp (am_up (am_up I 8 1 (nI 1)) 8 2 (-(sI (coH I) 36))) 60 (I 55) 0 0 36) (fun k hk => ?_) (by
        rw [hs]
        refine ⟨?_, ?_, fun p hp => ?_, fun _ p hp => ?_⟩
        · rw [am_cp_ne (by decide), am_up_slot (by decide), am_up_same]; rfl
        · rw [am_cp_ne (by decide), am_up_same]; exact hv.symm
        · rw [am_cp_ne (by decide), am_up_ne (by decide), am_up_ne (by decide)]; exact h3 p hp
        · rw [cp_at hp]; exact nu_kp hj hN p hp)
      · rw [hs] at hz
        exact hz
      · have hk1 : k ≠ 8 := fun z => by subst z; cases hk
        have hk2 : k ≠ 60 := fun z => by subst z; cases hk
        rw [am_cp_ne hk2, am_up_ne hk1, am_up_ne hk1]
/-- behind seekAll -/
def saQ {C : Type} (Rel : C → am_I → Prop) (cb : C → Nat) (GP : Nat → Bool) (N n : Nat) (F T : Nat → Nat) (S : Nat → Bool) (lim : Nat) (I : am_I) (r : Nat × Nat × C) (I' : am_I) : Prop := ∃ I0 I1, bgQ (RoC F T S n N) (skL I N n F T S) n (nI lim) I0 I ∧ goQ Rel cb GP n (skL I N n F T S).length (skQ I N n F T S) (tlI I) (skF I) (fun _ => 0) lim 0 I0 r.1 r.2.1 r.2.2 I1 ∧ I' = am_up I1 0 11 (nI r.1)
theorem sa_fr {C : Type} {Rel : C → am_I → Prop} {cb : C → Nat} {GP : Nat → Bool} {N n : Nat} {F T : Nat → Nat} {S : Nat → Bool} {lim : Nat} {I I' : am_I} {r : Nat × Nat × C} (h : saQ Rel cb GP N n F T S lim I r I') : ∀ a j, GP a = false → (a < 50 ∨ 55 < a ∨ a = 51) → a ≠ 4 → (a = 0 → j ≠ 11) → I' a j = I a j := by
  obtain ⟨I0, I1, hB, hQ, e⟩ := h
  intro a j h1 h2 h3 h4
  have e1 : I1 a j = I a j := (hQ.1 a j h1 (by omega) (by omega) (fun z => absurd z h3)).trans (hB.1 a j (by omega) (by omega) (by omega) (by omega) (by omega) (fun z => absurd z h3))
  rw [e]
  by_cases z : a = 0
  · subst z
    rw [am_up_slot (h4 rfl)]; exact e1
  · rw [am_up_ne z]; exact e1
theorem sa_row {C : Type} {Rel : C → am_I → Prop} {cb : C → Nat} {GP : Nat → Bool} {N n : Nat} {F T : Nat → Nat} {S : Nat → Bool} {lim : Nat} {I I' : am_I} {r : Nat × Nat × C} (h : saQ Rel cb GP N n F T S lim I r I') {a : Nat} (h1 : GP a = false) (h2 : a < 50 ∨ 55 < a ∨ a = 51) (h3 : a ≠ 4) (h4 : a ≠ 0) : I' a = I a := by
  funext j; exact sa_fr h a j h1 h2 h3 (fun z => absurd z h4)
theorem sa_tr {C : Type} {Rel : C → am_I → Prop} {cb : C → Nat} {GP : Nat → Bool} {N n : Nat} {F T : Nat → Nat} {S : Nat → Bool} {lim : Nat} {I I' : am_I} {r : Nat × Nat × C} (h : saQ Rel cb GP N n F T S lim I r I') : I' 0 11 = nI r.1 := by
  obtain ⟨I0, I1, hB, hQ, e⟩ := h
  rw [e, am_up_same]
theorem sa_rel {C : Type} {Rel : C → am_I → Prop} {cb : C → Nat} {GP : Nat → Bool} {N n : Nat} {F T : Nat → Nat} {S : Nat → Bool} {lim : Nat} {I I' : am_I} {r : Nat × Nat × C} (h : saQ Rel cb GP N n F T S lim I r I') (hr : ∀ c I x, Rel c I → Rel c (am_up I 0 11 x)) : Rel r.2.2 I' := by
  obtain ⟨I0, I1, hB, hQ, e⟩ := h
  rw [e]
  exact hr _ _ _ hQ.2.2.2.2.2.1
set_option maxHeartbeats 4000000 in
set_option maxRecDepth 100000 in
theorem l_seekAll0t {G : am_G} {d : Nat} {I : am_I} {J : am_J} {K : Int32 → am_I → am_J → Prop} {N n lim : Nat} {F T : Nat → Nat} {S : Nat → Bool} {C : Type} {step : C → (Nat → Nat) → C × Bool} {Rel : C → am_I → Prop} {cb : C → Nat} {GP : Nat → Bool} {c : C} (hq : cqP I N n F T S) (hG : goP G d 5 yX10_hasEnough step Rel cb GP (skQ I N n F T S) (skL I N n F T S).length) (hlim : lim ≤ 20000) (hRel : ∀ I', frZ I' I → Rel c I') (hcb : cb c = 0) (hK : ∀ I' r, r = runS step lim 0 (evI I N n F T S) c → saQ Rel cb GP N n F T S lim I r I' → K (if r.2.1 = 1 then 0 else 1) I' J) : CMi G (d + (skL I N n F T S).length + 4) yX11_seekAll [.ref 0, .ref 5, .int (nI lim)] I J K := by
  refine CM.of (L0 := [_, _, _]) cX11_seekAll 3 (some .boolean) (by decide) (by decide) kcX11_seekAll (Nat.le_of_ble_eq_true rfl) rfl ?_
  obtain ⟨a1, a2, a3, a4, a5, a6, a7, a8, a9⟩ := id hq
  have hNN : N * N ≤ 36 := Nat.mul_le_mul a2 a2
  have hT : ∀ l, l < n → T l < N := fun l hl => (a6 l hl).2
  refine a_aload_n dX11_seekAll_0 rfl ?_
  refine a_getr dX11_seekAll_1 kf_X11_31 ⟨by decide, _, rfl, rfl⟩ ?_
  refine a_iload_n dX11_seekAll_4 rfl ?_
  refine a_callVv (As := [_]) dX11_seekAll_5 km_X11_319 ⟨by decide, _, _, _, rfl, rfl⟩ rfl rfl (Nat.le_of_ble_eq_true rfl) ?_
  refine s_begin (rv_rl a7 a1 a2 hT) hNN a5 a4 a7.1 (fun I0 hB => ?_)
  rw [cq_sq hq] at hB
  obtain ⟨b1, b2, b3⟩ := bg_sc hq hB
  refine a_aload_n dX11_seekAll_8 rfl ?_
  refine a_getr dX11_seekAll_9 kf_X11_31 ⟨by decide, _, rfl, rfl⟩ ?_
  refine a_aload_n dX11_seekAll_12 rfl ?_
  refine a_callVv (As := [_]) dX11_seekAll_13 km_X11_320 ⟨by decide, _, _, _, rfl, rfl⟩ rfl rfl (Nat.le_of_ble_eq_true rfl) ?_
  refine s_seekt (d := d) hG hlim b1 b2 (fun l => Nat.min_le_left _ _) b3 hB.2.2.1 hB.2.2.2.1 (by omega) (hRel I0 hB.1) (by omega) (fun I1 r hr hQ => ?_)
  have hK1 := hK (am_up I1 0 11 (nI r.1)) r hr ⟨I0, I1, hB, hQ, rfl⟩
  refine a_aload_n dX11_seekAll_16 rfl ?_
  refine a_aload_n dX11_seekAll_17 rfl ?_
  refine a_getr dX11_seekAll_18 kf_X11_31 ⟨by decide, _, rfl, rfl⟩ ?_
  refine a_geti dX11_seekAll_21 kf_X11_258 ⟨by decide, _, rfl, rfl⟩ hQ.2.2.1 ?_
  refine a_puti dX11_seekAll_24 kp_X11_83 ⟨by decide, _, rfl, rfl⟩ ?_
  refine a_aload_n dX11_seekAll_27 rfl ?_
  refine a_getr dX11_seekAll_28 kf_X11_31 ⟨by decide, _, rfl, rfl⟩ ?_
  refine a_geti dX11_seekAll_31 kf_X11_261 ⟨by decide, _, rfl, rfl⟩ ((congrFun (am_up_ne (by decide)) _).trans hQ.2.2.2.2.2.2.2) ?_
  refine a_if_ne (tgt := 41) dX11_seekAll_34 (by decide) (fun h => ?_) (fun h => ?_)
  · have e : r.2.1 = 1 := Classical.byContradiction (fun z => h (by rw [if_neg z]; exact hB.2.2.2.2.1))
    rw [if_pos e] at hK1
    refine a_iconst (v := nI 0) dX11_seekAll_41 (by decide) ?_
    exact a_zreturn dX11_seekAll_42 (by first | exact Or.inl rfl | exact Or.inr rfl) ⟨_, rfl, hK1⟩
  · have e : ¬ r.2.1 = 1 := fun z => by rw [if_pos z] at h; exact absurd h (by decide)
    rw [if_neg e] at hK1
    refine a_iconst (v := nI 1) dX11_seekAll_37 (by decide) ?_
    refine a_goto (tgt := 42) dX11_seekAll_38 (by decide) ?_
    exact a_zreturn dX11_seekAll_42 (by first | exact Or.inl rfl | exact Or.inr rfl) ⟨_, rfl, hK1⟩

theorem l_seekAllt {G : am_G} {d : Nat} {I : am_I} {J : am_J} {K : Int32 → am_I → am_J → Prop} {N n lim : Nat} {F T : Nat → Nat} {S : Nat → Bool} {C : Type} {step : C → (Nat → Nat) → C × Bool} {Rel : C → am_I → Prop} {cb : C → Nat} {GP : Nat → Bool} {c : C} (hq : cqP I N n F T S) (hG : goP G (d + 36 - (skL I N n F T S).length) 5 yX10_hasEnough step Rel cb GP (skQ I N n F T S) (skL I N n F T S).length) (hlim : lim ≤ 20000) (hRel : ∀ I', frZ I' I → Rel c I') (hcb : cb c = 0) (hK : ∀ I' r, r = runS step lim 0 (evI I N n F T S) c → saQ Rel cb GP N n F T S lim I r I' → K (if r.2.1 = 1 then 0 else 1) I' J) : CMi G (d + 40) yX11_seekAll [.ref 0, .ref 5, .int (nI lim)] I J K := by
  have hlen : (skL I N n F T S).length ≤ 36 := Nat.le_trans (sqL_len _ _ _ _) (Nat.mul_le_mul hq.2.1 hq.2.1)
  have := l_seekAll0t hq hG hlim hRel hcb hK
  rw [show d + 36 - (skL I N n F T S).length + (skL I N n F T S).length + 4 = d + 40 by omega] at this
  exact this
set_option maxHeartbeats 4000000 in
set_option maxRecDepth 100000 in
theorem l_seekAll0g {G : am_G} {d : Nat} {I : am_I} {J : am_J} {K : Int32 → am_I → am_J → Prop} {N n lim : Nat} {F T : Nat → Nat} {S : Nat → Bool} {C : Type} {step : C → (Nat → Nat) → C × Bool} {Rel : C → am_I → Prop} {cb : C → Nat} {GP : Nat → Bool} {c : C} (hq : cqP I N n F T S) (hG : goP G d 6 yX6_hasEnough step Rel cb GP (skQ I N n F T S) (skL I N n F T S).length) (hlim : lim ≤ 20000) (hRel : ∀ I', frZ I' I → Rel c I') (hcb : cb c = 0) (hK : ∀ I' r, r = runS step lim 0 (evI I N n F T S) c → saQ Rel cb GP N n F T S lim I r I' → K (if r.2.1 = 1 then 0 else 1) I' J) : CMi G (d + (skL I N n F T S).length + 4) yX11_seekAll [.ref 0, .ref 6, .int (nI lim)] I J K := by
  refine CM.of (L0 := [_, _, _]) cX11_seekAll 3 (some .boolean) (by decide) (by decide) kcX11_seekAll (Nat.le_of_ble_eq_true rfl) rfl ?_
  obtain ⟨a1, a2, a3, a4, a5, a6, a7, a8, a9⟩ := id hq
  have hNN : N * N ≤ 36 := Nat.mul_le_mul a2 a2
  have hT : ∀ l, l < n → T l < N := fun l hl => (a6 l hl).2
  refine a_aload_n dX11_seekAll_0 rfl ?_
  refine a_getr dX11_seekAll_1 kf_X11_31 ⟨by decide, _, rfl, rfl⟩ ?_
  refine a_iload_n dX11_seekAll_4 rfl ?_
  refine a_callVv (As := [_]) dX11_seekAll_5 km_X11_319 ⟨by decide, _, _, _, rfl, rfl⟩ rfl rfl (Nat.le_of_ble_eq_true rfl) ?_
  refine s_begin (rv_rl a7 a1 a2 hT) hNN a5 a4 a7.1 (fun I0 hB => ?_)
  rw [cq_sq hq] at hB
  obtain ⟨b1, b2, b3⟩ := bg_sc hq hB
  refine a_aload_n dX11_seekAll_8 rfl ?_
  refine a_getr dX11_seekAll_9 kf_X11_31 ⟨by decide, _, rfl, rfl⟩ ?_
  refine a_aload_n dX11_seekAll_12 rfl ?_
  refine a_callVv (As := [_]) dX11_seekAll_13 km_X11_320 ⟨by decide, _, _, _, rfl, rfl⟩ rfl rfl (Nat.le_of_ble_eq_true rfl) ?_
  refine s_seekg (d := d) hG hlim b1 b2 (fun l => Nat.min_le_left _ _) b3 hB.2.2.1 hB.2.2.2.1 (by omega) (hRel I0 hB.1) (by omega) (fun I1 r hr hQ => ?_)
  have hK1 := hK (am_up I1 0 11 (nI r.1)) r hr ⟨I0, I1, hB, hQ, rfl⟩
  refine a_aload_n dX11_seekAll_16 rfl ?_
  refine a_aload_n dX11_seekAll_17 rfl ?_
  refine a_getr dX11_seekAll_18 kf_X11_31 ⟨by decide, _, rfl, rfl⟩ ?_
  refine a_geti dX11_seekAll_21 kf_X11_258 ⟨by decide, _, rfl, rfl⟩ hQ.2.2.1 ?_
  refine a_puti dX11_seekAll_24 kp_X11_83 ⟨by decide, _, rfl, rfl⟩ ?_
  refine a_aload_n dX11_seekAll_27 rfl ?_
  refine a_getr dX11_seekAll_28 kf_X11_31 ⟨by decide, _, rfl, rfl⟩ ?_
  refine a_geti dX11_seekAll_31 kf_X11_261 ⟨by decide, _, rfl, rfl⟩ ((congrFun (am_up_ne (by decide)) _).trans hQ.2.2.2.2.2.2.2) ?_
  refine a_if_ne (tgt := 41) dX11_seekAll_34 (by decide) (fun h => ?_) (fun h => ?_)
  · have e : r.2.1 = 1 := Classical.byContradiction (fun z => h (by rw [if_neg z]; exact hB.2.2.2.2.1))
    rw [if_pos e] at hK1
    refine a_iconst (v := nI 0) dX11_seekAll_41 (by decide) ?_
    exact a_zreturn dX11_seekAll_42 (by first | exact Or.inl rfl | exact Or.inr rfl) ⟨_, rfl, hK1⟩
  · have e : ¬ r.2.1 = 1 := fun z => by rw [if_pos z] at h; exact absurd h (by decide)
    rw [if_neg e] at hK1
    refine a_iconst (v := nI 1) dX11_seekAll_37 (by decide) ?_
    refine a_goto (tgt := 42) dX11_seekAll_38 (by decide) ?_
    exact a_zreturn dX11_seekAll_42 (by first | exact Or.inl rfl | exact Or.inr rfl) ⟨_, rfl, hK1⟩

theorem l_seekAllg {G : am_G} {d : Nat} {I : am_I} {J : am_J} {K : Int32 → am_I → am_J → Prop} {N n lim : Nat} {F T : Nat → Nat} {S : Nat → Bool} {C : Type} {step : C → (Nat → Nat) → C × Bool} {Rel : C → am_I → Prop} {cb : C → Nat} {GP : Nat → Bool} {c : C} (hq : cqP I N n F T S) (hG : goP G (d + 36 - (skL I N n F T S).length) 6 yX6_hasEnough step Rel cb GP (skQ I N n F T S) (skL I N n F T S).length) (hlim : lim ≤ 20000) (hRel : ∀ I', frZ I' I → Rel c I') (hcb : cb c = 0) (hK : ∀ I' r, r = runS step lim 0 (evI I N n F T S) c → saQ Rel cb GP N n F T S lim I r I' → K (if r.2.1 = 1 then 0 else 1) I' J) : CMi G (d + 40) yX11_seekAll [.ref 0, .ref 6, .int (nI lim)] I J K := by
  have hlen : (skL I N n F T S).length ≤ 36 := Nat.le_trans (sqL_len _ _ _ _) (Nat.mul_le_mul hq.2.1 hq.2.1)
  have := l_seekAll0g hq hG hlim hRel hcb hK
  rw [show d + 36 - (skL I N n F T S).length + (skL I N n F T S).length + 4 = d + 40 by omega] at this
  exact this
set_option maxHeartbeats 4000000 in
set_option maxRecDepth 100000 in
theorem l_seekAll0f {G : am_G} {d : Nat} {I : am_I} {J : am_J} {K : Int32 → am_I → am_J → Prop} {N n lim : Nat} {F T : Nat → Nat} {S : Nat → Bool} {C : Type} {step : C → (Nat → Nat) → C × Bool} {Rel : C → am_I → Prop} {cb : C → Nat} {GP : Nat → Bool} {c : C} (hq : cqP I N n F T S) (hG : goP G d 7 yX0_hasEnough step Rel cb GP (skQ I N n F T S) (skL I N n F T S).length) (hlim : lim ≤ 20000) (hRel : ∀ I', frZ I' I → Rel c I') (hcb : cb c = 0) (hK : ∀ I' r, r = runS step lim 0 (evI I N n F T S) c → saQ Rel cb GP N n F T S lim I r I' → K (if r.2.1 = 1 then 0 else 1) I' J) : CMi G (d + (skL I N n F T S).length + 4) yX11_seekAll [.ref 0, .ref 7, .int (nI lim)] I J K := by
  refine CM.of (L0 := [_, _, _]) cX11_seekAll 3 (some .boolean) (by decide) (by decide) kcX11_seekAll (Nat.le_of_ble_eq_true rfl) rfl ?_
  obtain ⟨a1, a2, a3, a4, a5, a6, a7, a8, a9⟩ := id hq
  have hNN : N * N ≤ 36 := Nat.mul_le_mul a2 a2
  have hT : ∀ l, l < n → T l < N := fun l hl => (a6 l hl).2
  refine a_aload_n dX11_seekAll_0 rfl ?_
  refine a_getr dX11_seekAll_1 kf_X11_31 ⟨by decide, _, rfl, rfl⟩ ?_
  refine a_iload_n dX11_seekAll_4 rfl ?_
  refine a_callVv (As := [_]) dX11_seekAll_5 km_X11_319 ⟨by decide, _, _, _, rfl, rfl⟩ rfl rfl (Nat.le_of_ble_eq_true rfl) ?_
  refine s_begin (rv_rl a7 a1 a2 hT) hNN a5 a4 a7.1 (fun I0 hB => ?_)
  rw [cq_sq hq] at hB
  obtain ⟨b1, b2, b3⟩ := bg_sc hq hB
  refine a_aload_n dX11_seekAll_8 rfl ?_
  refine a_getr dX11_seekAll_9 kf_X11_31 ⟨by decide, _, rfl, rfl⟩ ?_
  refine a_aload_n dX11_seekAll_12 rfl ?_
  refine a_callVv (As := [_]) dX11_seekAll_13 km_X11_320 ⟨by decide, _, _, _, rfl, rfl⟩ rfl rfl (Nat.le_of_ble_eq_true rfl) ?_
  refine s_seekf (d := d) hG hlim b1 b2 (fun l => Nat.min_le_left _ _) b3 hB.2.2.1 hB.2.2.2.1 (by omega) (hRel I0 hB.1) (by omega) (fun I1 r hr hQ => ?_)
  have hK1 := hK (am_up I1 0 11 (nI r.1)) r hr ⟨I0, I1, hB, hQ, rfl⟩
  refine a_aload_n dX11_seekAll_16 rfl ?_
  refine a_aload_n dX11_seekAll_17 rfl ?_
  refine a_getr dX11_seekAll_18 kf_X11_31 ⟨by decide, _, rfl, rfl⟩ ?_
  refine a_geti dX11_seekAll_21 kf_X11_258 ⟨by decide, _, rfl, rfl⟩ hQ.2.2.1 ?_
  refine a_puti dX11_seekAll_24 kp_X11_83 ⟨by decide, _, rfl, rfl⟩ ?_
  refine a_aload_n dX11_seekAll_27 rfl ?_
  refine a_getr dX11_seekAll_28 kf_X11_31 ⟨by decide, _, rfl, rfl⟩ ?_
  refine a_geti dX11_seekAll_31 kf_X11_261 ⟨by decide, _, rfl, rfl⟩ ((congrFun (am_up_ne (by decide)) _).trans hQ.2.2.2.2.2.2.2) ?_
  refine a_if_ne (tgt := 41) dX11_seekAll_34 (by decide) (fun h => ?_) (fun h => ?_)
  · have e : r.2.1 = 1 := Classical.byContradiction (fun z => h (by rw [if_neg z]; exact hB.2.2.2.2.1))
    rw [if_pos e] at hK1
    refine a_iconst (v := nI 0) dX11_seekAll_41 (by decide) ?_
    exact a_zreturn dX11_seekAll_42 (by first | exact Or.inl rfl | exact Or.inr rfl) ⟨_, rfl, hK1⟩
  · have e : ¬ r.2.1 = 1 := fun z => by rw [if_pos z] at h; exact absurd h (by decide)
    rw [if_neg e] at hK1
    refine a_iconst (v := nI 1) dX11_seekAll_37 (by decide) ?_
    refine a_goto (tgt := 42) dX11_seekAll_38 (by decide) ?_
    exact a_zreturn dX11_seekAll_42 (by first | exact Or.inl rfl | exact Or.inr rfl) ⟨_, rfl, hK1⟩

theorem l_seekAllf {G : am_G} {d : Nat} {I : am_I} {J : am_J} {K : Int32 → am_I → am_J → Prop} {N n lim : Nat} {F T : Nat → Nat} {S : Nat → Bool} {C : Type} {step : C → (Nat → Nat) → C × Bool} {Rel : C → am_I → Prop} {cb : C → Nat} {GP : Nat → Bool} {c : C} (hq : cqP I N n F T S) (hG : goP G (d + 36 - (skL I N n F T S).length) 7 yX0_hasEnough step Rel cb GP (skQ I N n F T S) (skL I N n F T S).length) (hlim : lim ≤ 20000) (hRel : ∀ I', frZ I' I → Rel c I') (hcb : cb c = 0) (hK : ∀ I' r, r = runS step lim 0 (evI I N n F T S) c → saQ Rel cb GP N n F T S lim I r I' → K (if r.2.1 = 1 then 0 else 1) I' J) : CMi G (d + 40) yX11_seekAll [.ref 0, .ref 7, .int (nI lim)] I J K := by
  have hlen : (skL I N n F T S).length ≤ 36 := Nat.le_trans (sqL_len _ _ _ _) (Nat.mul_le_mul hq.2.1 hq.2.1)
  have := l_seekAll0f hq hG hlim hRel hcb hK
  rw [show d + 36 - (skL I N n F T S).length + (skL I N n F T S).length + 4 = d + 40 by omega] at this
  exact this
set_option maxHeartbeats 4000000 in
set_option maxRecDepth 100000 in
theorem l_seekAll0h {G : am_G} {d : Nat} {I : am_I} {J : am_J} {K : Int32 → am_I → am_J → Prop} {N n lim : Nat} {F T : Nat → Nat} {S : Nat → Bool} {C : Type} {step : C → (Nat → Nat) → C × Bool} {Rel : C → am_I → Prop} {cb : C → Nat} {GP : Nat → Bool} {c : C} (hq : cqP I N n F T S) (hG : goP G d 8 yX0_hasEnough step Rel cb GP (skQ I N n F T S) (skL I N n F T S).length) (hlim : lim ≤ 20000) (hRel : ∀ I', frZ I' I → Rel c I') (hcb : cb c = 0) (hK : ∀ I' r, r = runS step lim 0 (evI I N n F T S) c → saQ Rel cb GP N n F T S lim I r I' → K (if r.2.1 = 1 then 0 else 1) I' J) : CMi G (d + (skL I N n F T S).length + 4) yX11_seekAll [.ref 0, .ref 8, .int (nI lim)] I J K := by
  refine CM.of (L0 := [_, _, _]) cX11_seekAll 3 (some .boolean) (by decide) (by decide) kcX11_seekAll (Nat.le_of_ble_eq_true rfl) rfl ?_
  obtain ⟨a1, a2, a3, a4, a5, a6, a7, a8, a9⟩ := id hq
  have hNN : N * N ≤ 36 := Nat.mul_le_mul a2 a2
  have hT : ∀ l, l < n → T l < N := fun l hl => (a6 l hl).2
  refine a_aload_n dX11_seekAll_0 rfl ?_
  refine a_getr dX11_seekAll_1 kf_X11_31 ⟨by decide, _, rfl, rfl⟩ ?_
  refine a_iload_n dX11_seekAll_4 rfl ?_
  refine a_callVv (As := [_]) dX11_seekAll_5 km_X11_319 ⟨by decide, _, _, _, rfl, rfl⟩ rfl rfl (Nat.le_of_ble_eq_true rfl) ?_
  refine s_begin (rv_rl a7 a1 a2 hT) hNN a5 a4 a7.1 (fun I0 hB => ?_)
  rw [cq_sq hq] at hB
  obtain ⟨b1, b2, b3⟩ := bg_sc hq hB
  refine a_aload_n dX11_seekAll_8 rfl ?_
  refine a_getr dX11_seekAll_9 kf_X11_31 ⟨by decide, _, rfl, rfl⟩ ?_
  refine a_aload_n dX11_seekAll_12 rfl ?_
  refine a_callVv (As := [_]) dX11_seekAll_13 km_X11_320 ⟨by decide, _, _, _, rfl, rfl⟩ rfl rfl (Nat.le_of_ble_eq_true rfl) ?_
  refine s_seekh (d := d) hG hlim b1 b2 (fun l => Nat.min_le_left _ _) b3 hB.2.2.1 hB.2.2.2.1 (by omega) (hRel I0 hB.1) (by omega) (fun I1 r hr hQ => ?_)
  have hK1 := hK (am_up I1 0 11 (nI r.1)) r hr ⟨I0, I1, hB, hQ, rfl⟩
  refine a_aload_n dX11_seekAll_16 rfl ?_
  refine a_aload_n dX11_seekAll_17 rfl ?_
  refine a_getr dX11_seekAll_18 kf_X11_31 ⟨by decide, _, rfl, rfl⟩ ?_
  refine a_geti dX11_seekAll_21 kf_X11_258 ⟨by decide, _, rfl, rfl⟩ hQ.2.2.1 ?_
  refine a_puti dX11_seekAll_24 kp_X11_83 ⟨by decide, _, rfl, rfl⟩ ?_
  refine a_aload_n dX11_seekAll_27 rfl ?_
  refine a_getr dX11_seekAll_28 kf_X11_31 ⟨by decide, _, rfl, rfl⟩ ?_
  refine a_geti dX11_seekAll_31 kf_X11_261 ⟨by decide, _, rfl, rfl⟩ ((congrFun (am_up_ne (by decide)) _).trans hQ.2.2.2.2.2.2.2) ?_
  refine a_if_ne (tgt := 41) dX11_seekAll_34 (by decide) (fun h => ?_) (fun h => ?_)
  · have e : r.2.1 = 1 := Classical.byContradiction (fun z => h (by rw [if_neg z]; exact hB.2.2.2.2.1))
    rw [if_pos e] at hK1
    refine a_iconst (v := nI 0) dX11_seekAll_41 (by decide) ?_
    exact a_zreturn dX11_seekAll_42 (by first | exact Or.inl rfl | exact Or.inr rfl) ⟨_, rfl, hK1⟩
  · have e : ¬ r.2.1 = 1 := fun z => by rw [if_pos z] at h; exact absurd h (by decide)
    rw [if_neg e] at hK1
    refine a_iconst (v := nI 1) dX11_seekAll_37 (by decide) ?_
    refine a_goto (tgt := 42) dX11_seekAll_38 (by decide) ?_
    exact a_zreturn dX11_seekAll_42 (by first | exact Or.inl rfl | exact Or.inr rfl) ⟨_, rfl, hK1⟩

theorem l_seekAllh {G : am_G} {d : Nat} {I : am_I} {J : am_J} {K : Int32 → am_I → am_J → Prop} {N n lim : Nat} {F T : Nat → Nat} {S : Nat → Bool} {C : Type} {step : C → (Nat → Nat) → C × Bool} {Rel : C → am_I → Prop} {cb : C → Nat} {GP : Nat → Bool} {c : C} (hq : cqP I N n F T S) (hG : goP G (d + 36 - (skL I N n F T S).length) 8 yX0_hasEnough step Rel cb GP (skQ I N n F T S) (skL I N n F T S).length) (hlim : lim ≤ 20000) (hRel : ∀ I', frZ I' I → Rel c I') (hcb : cb c = 0) (hK : ∀ I' r, r = runS step lim 0 (evI I N n F T S) c → saQ Rel cb GP N n F T S lim I r I' → K (if r.2.1 = 1 then 0 else 1) I' J) : CMi G (d + 40) yX11_seekAll [.ref 0, .ref 8, .int (nI lim)] I J K := by
  have hlen : (skL I N n F T S).length ≤ 36 := Nat.le_trans (sqL_len _ _ _ _) (Nat.mul_le_mul hq.2.1 hq.2.1)
  have := l_seekAll0h hq hG hlim hRel hcb hK
  rw [show d + 36 - (skL I N n F T S).length + (skL I N n F T S).length + 4 = d + 40 by omega] at this
  exact this
theorem cq_fr {I I' : am_I} {N n : Nat} {F T : Nat → Nat} {S : Nat → Bool} (h : cqP I N n F T S) (h1 : I' 1 = I 1) (h2 : I' 2 = I 2) (h44 : I' 44 = I 44) (h45 : I' 45 = I 45) (h13 : I' 13 = I 13) (h70 : I' 70 = I 70) (h72 : I' 72 = I 72) (hl : ∀ l, l < 12 → I' (20 + l) 5 = I (20 + l) 5) : cqP I' N n F T S := by
  obtain ⟨a1, a2, a3, a4, a5, a6, a7, a8, a9⟩ := h
  refine ⟨a1, a2, by rw [h1]; exact a3, by rw [h1]; exact a4, a5, a6, ?_, fun l hlt => ?_, fun p hp => ?_⟩
  · unfold rvC
    rw [h2, h44, h45]
    exact a7
  · rw [hl l (by omega), h70]; exact a8 l hlt
  · rw [h13, h72]; exact a9 p hp
theorem sk_fr {I I' : am_I} (h70 : I' 70 = I 70) (h72 : I' 72 = I 72) (N n : Nat) (F T : Nat → Nat) (S : Nat → Bool) : evI I' N n F T S = evI I N n F T S ∧ skQ I' N n F T S = skQ I N n F T S ∧ skL I' N n F T S = skL I N n F T S := by
  have e0 : tlI I' = tlI I := by unfold tlI; rw [h70]
  have e1 : skL I' N n F T S = skL I N n F T S := by unfold skL skT; rw [e0, h72]
  have e2 : skQ I' N n F T S = skQ I N n F T S := by funext k; unfold skQ; rw [e1]
  have e3 : skG I' N n F T S = skG I N n F T S := by funext k; unfold skG skT; rw [e0, e2]
  have e4 : skA I' N n F T S = skA I N n F T S := by unfold skA; rw [e3, e1]
  have e5 : skX I' N n F T S = skX I N n F T S := by funext k; unfold skX; rw [e2, h72]
  have e6 : skF I' = skF I := by funext l; unfold skF; rw [h70]
  refine ⟨?_, e2, e1⟩
  unfold evI
  rw [e0, e1, e3, e4, e5, e6]
set_option maxHeartbeats 4000000 in
set_option maxRecDepth 100000 in
theorem l_keepFit56 {G : am_G} {d : Nat} {I : am_I} {J : am_J} {K : am_I → am_J → Prop}  (hK : K (am_up (am_cp I 10 (I 56) 0 0 36) 0 10 (nI 1)) J) : CMv G (d + 1) yX11_keepFit [.ref 0, .ref 56] I J K := by
  refine CM.of (L0 := [_, _]) cX11_keepFit 2 none (by decide) (by decide) kcX11_keepFit (Nat.le_of_ble_eq_true rfl) rfl ?_
  refine a_aload_n dX11_keepFit_0 rfl ?_
  refine a_iconst (v := nI 0) dX11_keepFit_1 (by decide) ?_
  refine a_aload_n dX11_keepFit_2 rfl ?_
  refine a_getr dX11_keepFit_3 kf_X11_76 ⟨by decide, _, rfl, rfl⟩ ?_
  refine a_iconst (v := nI 0) dX11_keepFit_6 (by decide) ?_
  refine a_bipush (v := nI 36) dX11_keepFit_7 (by decide) ?_
  refine a_copy dX11_keepFit_9 kl_X11_287 kn_copy ks_copy ki_System ⟨by decide, rfl⟩ ⟨by decide, rfl⟩ (by decide) (by decide) (by decide) (fun e => absurd e (by decide)) (Nat.le_of_ble_eq_true rfl) ?_
  refine a_aload_n dX11_keepFit_12 rfl ?_
  refine a_iconst (v := nI 1) dX11_keepFit_13 (by decide) ?_
  refine a_putz dX11_keepFit_14 kp_X11_79 ⟨by decide, _, rfl, rfl⟩ (by first | exact Or.inl rfl | exact Or.inr rfl) ?_
  exact a_vreturn dX11_keepFit_17 ⟨rfl, hK⟩

set_option maxHeartbeats 4000000 in
set_option maxRecDepth 100000 in
theorem l_keepFit59 {G : am_G} {d : Nat} {I : am_I} {J : am_J} {K : am_I → am_J → Prop}  (hK : K (am_up (am_cp I 10 (I 59) 0 0 36) 0 10 (nI 1)) J) : CMv G (d + 1) yX11_keepFit [.ref 0, .ref 59] I J K := by
  refine CM.of (L0 := [_, _]) cX11_keepFit 2 none (by decide) (by decide) kcX11_keepFit (Nat.le_of_ble_eq_true rfl) rfl ?_
  refine a_aload_n dX11_keepFit_0 rfl ?_
  refine a_iconst (v := nI 0) dX11_keepFit_1 (by decide) ?_
  refine a_aload_n dX11_keepFit_2 rfl ?_
  refine a_getr dX11_keepFit_3 kf_X11_76 ⟨by decide, _, rfl, rfl⟩ ?_
  refine a_iconst (v := nI 0) dX11_keepFit_6 (by decide) ?_
  refine a_bipush (v := nI 36) dX11_keepFit_7 (by decide) ?_
  refine a_copy dX11_keepFit_9 kl_X11_287 kn_copy ks_copy ki_System ⟨by decide, rfl⟩ ⟨by decide, rfl⟩ (by decide) (by decide) (by decide) (fun e => absurd e (by decide)) (Nat.le_of_ble_eq_true rfl) ?_
  refine a_aload_n dX11_keepFit_12 rfl ?_
  refine a_iconst (v := nI 1) dX11_keepFit_13 (by decide) ?_
  refine a_putz dX11_keepFit_14 kp_X11_79 ⟨by decide, _, rfl, rfl⟩ (by first | exact Or.inl rfl | exact Or.inr rfl) ?_
  exact a_vreturn dX11_keepFit_17 ⟨rfl, hK⟩

set_option maxHeartbeats 4000000 in
set_option maxRecDepth 100000 in
theorem l_keepFit60 {G : am_G} {d : Nat} {I : am_I} {J : am_J} {K : am_I → am_J → Prop}  (hK : K (am_up (am_cp I 10 (I 60) 0 0 36) 0 10 (nI 1)) J) : CMv G (d + 1) yX11_keepFit [.ref 0, .ref 60] I J K := by
  refine CM.of (L0 := [_, _]) cX11_keepFit 2 none (by decide) (by decide) kcX11_keepFit (Nat.le_of_ble_eq_true rfl) rfl ?_
  refine a_aload_n dX11_keepFit_0 rfl ?_
  refine a_iconst (v := nI 0) dX11_keepFit_1 (by decide) ?_
  refine a_aload_n dX11_keepFit_2 rfl ?_
  refine a_getr dX11_keepFit_3 kf_X11_76 ⟨by decide, _, rfl, rfl⟩ ?_
  refine a_iconst (v := nI 0) dX11_keepFit_6 (by decide) ?_
  refine a_bipush (v := nI 36) dX11_keepFit_7 (by decide) ?_
  refine a_copy dX11_keepFit_9 kl_X11_287 kn_copy ks_copy ki_System ⟨by decide, rfl⟩ ⟨by decide, rfl⟩ (by decide) (by decide) (by decide) (fun e => absurd e (by decide)) (Nat.le_of_ble_eq_true rfl) ?_
  refine a_aload_n dX11_keepFit_12 rfl ?_
  refine a_iconst (v := nI 1) dX11_keepFit_13 (by decide) ?_
  refine a_putz dX11_keepFit_14 kp_X11_79 ⟨by decide, _, rfl, rfl⟩ (by first | exact Or.inl rfl | exact Or.inr rfl) ?_
  exact a_vreturn dX11_keepFit_17 ⟨rfl, hK⟩

set_option maxHeartbeats 4000000 in
set_option maxRecDepth 100000 in
theorem l_found {G : am_G} {d : Nat} {I : am_I} {J : am_J} {K : Int32 → am_I → am_J → Prop} {f : Nat} (hf : f < 6) (hK : K (-3) (am_up (am_up I 0 13 (nI f)) 11 f (I 11 f + 1)) J) : CMi G d yX11_found [.ref 0, .int (nI f)] I J K := by
  refine CM.of (L0 := [_, _]) cX11_found 2 (some .int) (by decide) (by decide) kcX11_found (Nat.le_of_ble_eq_true rfl) rfl ?_
  refine a_aload_n dX11_found_0 rfl ?_
  refine a_iload_n dX11_found_1 rfl ?_
  refine a_puti dX11_found_2 kp_X11_91 ⟨by decide, _, rfl, rfl⟩ ?_
  refine a_aload_n dX11_found_5 rfl ?_
  refine a_getr dX11_found_6 kf_X11_94 ⟨by decide, _, rfl, rfl⟩ ?_
  refine a_iload_n dX11_found_9 rfl ?_
  refine a_dup2 dX11_found_10 rfl rfl ?_
  refine a_iald dX11_found_11 ⟨by decide, rfl⟩ (by omega) rfl ?_
  refine a_iconst (v := nI 1) dX11_found_12 (by decide) ?_
  refine a_iadd dX11_found_13 rfl ?_
  refine a_iast dX11_found_14 ⟨by decide, rfl⟩ (by omega) ?_
  refine a_bipush (v := (-3)) dX11_found_15 (by decide) ?_
  exact a_ireturn dX11_found_17 ⟨_, rfl, hK⟩

set_option maxHeartbeats 4000000 in
set_option maxRecDepth 100000 in
theorem l_seekBestf {G : am_G} {d : Nat} {I : am_I} {J : am_J} {K : Int32 → am_I → am_J → Prop} {N n lim : Nat} {F T : Nat → Nat} {S : Nat → Bool} {C : Type} {step : C → (Nat → Nat) → C × Bool} {Rel : C → am_I → Prop} {cb : C → Nat} {GP : Nat → Bool} {c : C} {an : C → Bool} (hq : cqP I N n F T S) (hG : goP G (d + 36 - (skL I N n F T S).length) 7 yX0_hasEnough step Rel cb GP (skQ I N n F T S) (skL I N n F T S).length) (hlim : lim ≤ 20000) (hRel : ∀ I', frZ I' (am_up I 0 10 (nI 0)) → Rel c I') (hcb : cb c = 0) (hany : ∀ c I, Rel c I → I 7 1 = bI (an c)) (hr : ∀ c I x, Rel c I → Rel c (am_up I 0 11 x)) (h1 : ∀ I' r, r = runS step lim 0 (evI I N n F T S) c → saQ Rel cb GP N n F T S lim (am_up I 0 10 (nI 0)) r I' → r.2.1 = 1 → K 0 I' J) (h2 : ∀ I' r, r = runS step lim 0 (evI I N n F T S) c → saQ Rel cb GP N n F T S lim (am_up I 0 10 (nI 0)) r I' → r.2.1 ≠ 1 → an r.2.2 = false → K 1 I' J) (h3 : ∀ I' r, r = runS step lim 0 (evI I N n F T S) c → saQ Rel cb GP N n F T S lim (am_up I 0 10 (nI 0)) r I' → r.2.1 ≠ 1 → an r.2.2 = true → K 1 (am_up (am_cp I' 10 (I' 59) 0 0 36) 0 10 (nI 1)) J) : CMi G (d + 41) yX11_seekBest [.ref 0, .ref 7, .int (nI lim)] I J K := by
  refine CM.of (L0 := [_, _, _]) cX11_seekBest 3 (some .boolean) (by decide) (by decide) kcX11_seekBest (Nat.le_of_ble_eq_true rfl) rfl ?_
  refine a_aload_n dX11_seekBest_0 rfl ?_
  refine a_iconst (v := nI 0) dX11_seekBest_1 (by decide) ?_
  refine a_putz dX11_seekBest_2 kp_X11_79 ⟨by decide, _, rfl, rfl⟩ (by first | exact Or.inl rfl | exact Or.inr rfl) ?_
  refine a_aload_n dX11_seekBest_5 rfl ?_
  refine a_aload_n dX11_seekBest_6 rfl ?_
  refine a_iload_n dX11_seekBest_7 rfl ?_
  refine a_callVi (As := [_, _]) dX11_seekBest_8 km_X11_201 ⟨by decide, _, _, _, rfl, rfl⟩ rfl rfl (Nat.le_of_ble_eq_true rfl) ?_
  have hq1 : cqP (am_up I 0 10 (nI 0)) N n F T S := cq_fr hq (am_up_ne (by decide)) (am_up_ne (by decide)) (am_up_ne (by decide)) (am_up_ne (by decide)) (am_up_ne (by decide)) (am_up_ne (by decide)) (am_up_ne (by decide)) (fun l _ => by rw [am_up_ne (by omega)])
  refine l_seekAllf (d := d) (I := am_up I 0 10 (nI 0)) (N := N) (n := n) (F := F) (T := T) (S := S) hq1 hG hlim hRel hcb (fun I' r hr' hQ => ?_)
  refine a_if_ne (tgt := 16) dX11_seekBest_11 (by decide) (fun h => ?_) (fun h => ?_)
  · have e : r.2.1 ≠ 1 := fun z => by rw [if_pos z] at h; exact h rfl
    have hA := hany _ _ (sa_rel hQ hr)
    refine a_aload_n dX11_seekBest_16 rfl ?_
    refine a_geti dX11_seekBest_17 kf_X11_324_c0 ⟨by decide, _, rfl, rfl⟩ hA ?_
    refine a_if_eq (tgt := 31) dX11_seekBest_20 (by decide) (fun g => ?_) (fun g => ?_)
    · have ea : an r.2.2 = false := by
        rcases hb : an r.2.2 with _ | _
        · rfl
        · rw [hb] at g; exact absurd g (by decide)
      refine a_iconst (v := nI 1) dX11_seekBest_31 (by decide) ?_
      exact a_zreturn dX11_seekBest_32 (by first | exact Or.inl rfl | exact Or.inr rfl) ⟨_, rfl, (h2 I' r hr' hQ e ea)⟩
    · have ea : an r.2.2 = true := by
        rcases hb : an r.2.2 with _ | _
        · rw [hb] at g; exact absurd rfl g
        · rfl
      refine a_aload_n dX11_seekBest_23 rfl ?_
      refine a_aload_n dX11_seekBest_24 rfl ?_
      refine a_getr dX11_seekBest_25 kf_X11_327_c0 ⟨by decide, _, rfl, rfl⟩ ?_
      refine a_callVv (As := [_]) dX11_seekBest_28 km_X11_211 ⟨by decide, _, _, _, rfl, rfl⟩ rfl rfl (Nat.le_of_ble_eq_true rfl) ?_
      refine l_keepFit59 ?_
      refine a_iconst (v := nI 1) dX11_seekBest_31 (by decide) ?_
      exact a_zreturn dX11_seekBest_32 (by first | exact Or.inl rfl | exact Or.inr rfl) ⟨_, rfl, (h3 I' r hr' hQ e ea)⟩
  · have e : r.2.1 = 1 := Classical.byContradiction (fun z => by rw [if_neg z] at h; exact absurd h (by decide))
    refine a_iconst (v := nI 0) dX11_seekBest_14 (by decide) ?_
    exact a_zreturn dX11_seekBest_15 (by first | exact Or.inl rfl | exact Or.inr rfl) ⟨_, rfl, (h1 I' r hr' hQ e)⟩

set_option maxHeartbeats 4000000 in
set_option maxRecDepth 100000 in
theorem l_seekBesth {G : am_G} {d : Nat} {I : am_I} {J : am_J} {K : Int32 → am_I → am_J → Prop} {N n lim : Nat} {F T : Nat → Nat} {S : Nat → Bool} {C : Type} {step : C → (Nat → Nat) → C × Bool} {Rel : C → am_I → Prop} {cb : C → Nat} {GP : Nat → Bool} {c : C} {an : C → Bool} (hq : cqP I N n F T S) (hG : goP G (d + 36 - (skL I N n F T S).length) 8 yX0_hasEnough step Rel cb GP (skQ I N n F T S) (skL I N n F T S).length) (hlim : lim ≤ 20000) (hRel : ∀ I', frZ I' (am_up I 0 10 (nI 0)) → Rel c I') (hcb : cb c = 0) (hany : ∀ c I, Rel c I → I 8 1 = bI (an c)) (hr : ∀ c I x, Rel c I → Rel c (am_up I 0 11 x)) (h1 : ∀ I' r, r = runS step lim 0 (evI I N n F T S) c → saQ Rel cb GP N n F T S lim (am_up I 0 10 (nI 0)) r I' → r.2.1 = 1 → K 0 I' J) (h2 : ∀ I' r, r = runS step lim 0 (evI I N n F T S) c → saQ Rel cb GP N n F T S lim (am_up I 0 10 (nI 0)) r I' → r.2.1 ≠ 1 → an r.2.2 = false → K 1 I' J) (h3 : ∀ I' r, r = runS step lim 0 (evI I N n F T S) c → saQ Rel cb GP N n F T S lim (am_up I 0 10 (nI 0)) r I' → r.2.1 ≠ 1 → an r.2.2 = true → K 1 (am_up (am_cp I' 10 (I' 60) 0 0 36) 0 10 (nI 1)) J) : CMi G (d + 41) yX11_seekBest [.ref 0, .ref 8, .int (nI lim)] I J K := by
  refine CM.of (L0 := [_, _, _]) cX11_seekBest 3 (some .boolean) (by decide) (by decide) kcX11_seekBest (Nat.le_of_ble_eq_true rfl) rfl ?_
  refine a_aload_n dX11_seekBest_0 rfl ?_
  refine a_iconst (v := nI 0) dX11_seekBest_1 (by decide) ?_
  refine a_putz dX11_seekBest_2 kp_X11_79 ⟨by decide, _, rfl, rfl⟩ (by first | exact Or.inl rfl | exact Or.inr rfl) ?_
  refine a_aload_n dX11_seekBest_5 rfl ?_
  refine a_aload_n dX11_seekBest_6 rfl ?_
  refine a_iload_n dX11_seekBest_7 rfl ?_
  refine a_callVi (As := [_, _]) dX11_seekBest_8 km_X11_201 ⟨by decide, _, _, _, rfl, rfl⟩ rfl rfl (Nat.le_of_ble_eq_true rfl) ?_
  have hq1 : cqP (am_up I 0 10 (nI 0)) N n F T S := cq_fr hq (am_up_ne (by decide)) (am_up_ne (by decide)) (am_up_ne (by decide)) (am_up_ne (by decide)) (am_up_ne (by decide)) (am_up_ne (by decide)) (am_up_ne (by decide)) (fun l _ => by rw [am_up_ne (by omega)])
  refine l_seekAllh (d := d) (I := am_up I 0 10 (nI 0)) (N := N) (n := n) (F := F) (T := T) (S := S) hq1 hG hlim hRel hcb (fun I' r hr' hQ => ?_)
  refine a_if_ne (tgt := 16) dX11_seekBest_11 (by decide) (fun h => ?_) (fun h => ?_)
  · have e : r.2.1 ≠ 1 := fun z => by rw [if_pos z] at h; exact h rfl
    have hA := hany _ _ (sa_rel hQ hr)
    refine a_aload_n dX11_seekBest_16 rfl ?_
    refine a_geti dX11_seekBest_17 kf_X11_324_c1 ⟨by decide, _, rfl, rfl⟩ hA ?_
    refine a_if_eq (tgt := 31) dX11_seekBest_20 (by decide) (fun g => ?_) (fun g => ?_)
    · have ea : an r.2.2 = false := by
        rcases hb : an r.2.2 with _ | _
        · rfl
        · rw [hb] at g; exact absurd g (by decide)
      refine a_iconst (v := nI 1) dX11_seekBest_31 (by decide) ?_
      exact a_zreturn dX11_seekBest_32 (by first | exact Or.inl rfl | exact Or.inr rfl) ⟨_, rfl, (h2 I' r hr' hQ e ea)⟩
    · have ea : an r.2.2 = true := by
        rcases hb : an r.2.2 with _ | _
        · rw [hb] at g; exact absurd rfl g
        · rfl
      refine a_aload_n dX11_seekBest_23 rfl ?_
      refine a_aload_n dX11_seekBest_24 rfl ?_
      refine a_getr dX11_seekBest_25 kf_X11_327_c1 ⟨by decide, _, rfl, rfl⟩ ?_
      refine a_callVv (As := [_]) dX11_seekBest_28 km_X11_211 ⟨by decide, _, _, _, rfl, rfl⟩ rfl rfl (Nat.le_of_ble_eq_true rfl) ?_
      refine l_keepFit60 ?_
      refine a_iconst (v := nI 1) dX11_seekBest_31 (by decide) ?_
      exact a_zreturn dX11_seekBest_32 (by first | exact Or.inl rfl | exact Or.inr rfl) ⟨_, rfl, (h3 I' r hr' hQ e ea)⟩
  · have e : r.2.1 = 1 := Classical.byContradiction (fun z => by rw [if_neg z] at h; exact absurd h (by decide))
    refine a_iconst (v := nI 0) dX11_seekBest_14 (by decide) ?_
    exact a_zreturn dX11_seekBest_15 (by first | exact Or.inl rfl | exact Or.inr rfl) ⟨_, rfl, (h1 I' r hr' hQ e)⟩

