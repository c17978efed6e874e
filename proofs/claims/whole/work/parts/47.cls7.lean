/-! ===== the system: Seeker, its numbers ===== -/
set_option maxHeartbeats 4000000 in
set_option maxRecDepth 100000 in
theorem lp_ln {G : am_G} {d : Nat} {I : am_I} {J : am_J} {K : Int32 → am_I → am_J → Prop} {n m M k : Nat} {R : Nat → Option (List Nat)} {g la : Nat → Nat} {fx : Nat → Option Nat} {sq : Nat → Nat} {tl : Nat → Bool} {lf : Nat → Nat} {l : List Nat} (h : scP I n m M R g la fx sq tl) (hlc : lcP I n tl lf) (hf : ∀ l, lf l ≤ 200) (hk : k < m) (hl : R (sq k) = some l) : ∀ (xs : List Nat) (i v : Nat) (v5 : Option Value), l.drop i = xs → i ≤ l.length → v ≤ 200 → K (nI (lsN tl (la k) lf v xs)) I J → AW G cX8_leastNumber 6 RX8 (d + 1) (am_ex G (some .int) (fun r I J => ∃ x, r = some (.int x) ∧ K x I J)) 14 [some (.ref 4), some (.int (nI k)), some (.int (nI (sq k))), some (.int (nI v)), some (.int (nI i)), v5] [] I J := by
  obtain ⟨a1, a2, a3, a4, a5, a6, a7, a8⟩ := h
  obtain ⟨b1, b2, b3, b4, l0, b5, b6, b7, b8⟩ := a8 k hk
  obtain rfl : l = l0 := by rw [hl] at b5; cases b5; rfl
  obtain ⟨c1, c2, c3, c4⟩ := (a3 (sq k) b2).2 l hl
  intro xs
  induction xs with
  | nil =>
    intro i v v5 hd hi hv hK
    have hd1 := drop_nil hd
    refine a_iload dX8_leastNumber_14 rfl ?_
    refine a_aload_n dX8_leastNumber_16 rfl ?_
    refine a_getr dX8_leastNumber_17 kf_X8_48 ⟨by decide, _, rfl, rfl⟩ ?_
    refine a_getr dX8_leastNumber_20 kf_X8_132 ⟨by decide, _, rfl, rfl⟩ ?_
    refine a_iload_n dX8_leastNumber_23 rfl ?_
    refine a_iald dX8_leastNumber_24 ⟨by decide, rfl⟩ (by omega) c1 ?_
    refine a_icmp_geN (tgt := 81) dX8_leastNumber_25 (by decide) (by omega) (by omega) (fun h => ?_) (fun h => ?_)
    · refine a_iload_n dX8_leastNumber_81 rfl ?_
      exact a_ireturn dX8_leastNumber_82 ⟨_, rfl, hK⟩
    · exact absurd h (by omega)
  | cons x xs ih =>
    intro i v v5 hd hi hv hK
    obtain ⟨d1, d2, d3⟩ := drop_cons hd
    have hx := c4 x (List.mem_of_getElem? d1)
    have hxm := List.mem_of_getElem? d1
    have ht := lc_told hlc hf hx
    have hfx := hf x
    rw [lsN] at hK
    refine a_iload dX8_leastNumber_14 rfl ?_
    refine a_aload_n dX8_leastNumber_16 rfl ?_
    refine a_getr dX8_leastNumber_17 kf_X8_48 ⟨by decide, _, rfl, rfl⟩ ?_
    refine a_getr dX8_leastNumber_20 kf_X8_132 ⟨by decide, _, rfl, rfl⟩ ?_
    refine a_iload_n dX8_leastNumber_23 rfl ?_
    refine a_iald dX8_leastNumber_24 ⟨by decide, rfl⟩ (by omega) c1 ?_
    refine a_icmp_geN (tgt := 81) dX8_leastNumber_25 (by decide) (by omega) (by omega) (fun h => ?_) (fun h => ?_)
    · exact absurd h (by omega)
    · refine a_aload_n dX8_leastNumber_28 rfl ?_
      refine a_getr dX8_leastNumber_29 kf_X8_48 ⟨by decide, _, rfl, rfl⟩ ?_
      refine a_iload_n dX8_leastNumber_32 rfl ?_
      refine a_iload dX8_leastNumber_33 rfl ?_
      refine a_callVi (As := [_, _]) dX8_leastNumber_35 km_X8_135 ⟨by decide, _, _, _, rfl, rfl⟩ rfl rfl (Nat.le_of_ble_eq_true rfl) ?_
      refine r_lineAta a3 b2 a4 hl d1 ?_
      refine a_istore (L' := [_, _, _, _, _, _]) dX8_leastNumber_38 (Nat.le_of_ble_eq_true rfl) rfl ?_
      refine a_aload_n dX8_leastNumber_40 rfl ?_
      refine a_getr dX8_leastNumber_41 kf_X8_21 ⟨by decide, _, rfl, rfl⟩ ?_
      refine a_iload dX8_leastNumber_44 rfl ?_
      refine a_iald dX8_leastNumber_46 ⟨by decide, rfl⟩ (by omega) rfl ?_
      refine a_bipush (v := (-9)) dX8_leastNumber_47 (by decide) ?_
      refine a_icmp_eq (tgt := 75) dX8_leastNumber_49 (by decide) (fun g => ?_) (fun g => ?_)
      · have e : ¬ tl x = true := fun q => (ht.mpr q) g
        rw [if_neg (fun q => e q.1)] at hK
        refine a_iinc (L' := [_, _, _, _, _, _]) dX8_leastNumber_75 rfl (nI_inc _) rfl ?_
        refine a_goto (tgt := 14) dX8_leastNumber_78 (by decide) ?_
        exact ih (i + 1) v _ d3 (by omega) hv hK
      · have e : tl x = true := ht.mp g
        have e53 := hlc x hx
        rw [if_pos e] at e53
        refine a_aload_n dX8_leastNumber_52 rfl ?_
        refine a_getr dX8_leastNumber_53 kf_X8_18 ⟨by decide, _, rfl, rfl⟩ ?_
        refine a_iload dX8_leastNumber_56 rfl ?_
        refine a_iald dX8_leastNumber_58 ⟨by decide, rfl⟩ (by omega) rfl ?_
        refine a_iload_n dX8_leastNumber_59 rfl ?_
        refine a_icmp_ne (tgt := 75) dX8_leastNumber_60 (by decide) (fun q => ?_) (fun q => ?_)
        · rw [if_neg (fun z => q ((b8 x hxm e).mp z.2))] at hK
          refine a_iinc (L' := [_, _, _, _, _, _]) dX8_leastNumber_75 rfl (nI_inc _) rfl ?_
          refine a_goto (tgt := 14) dX8_leastNumber_78 (by decide) ?_
          exact ih (i + 1) v _ d3 (by omega) hv hK
        · rw [if_pos ⟨e, (b8 x hxm e).mpr q⟩] at hK
          refine a_iload_n dX8_leastNumber_63 rfl ?_
          refine a_aload_n dX8_leastNumber_64 rfl ?_
          refine a_getr dX8_leastNumber_65 kf_X8_21 ⟨by decide, _, rfl, rfl⟩ ?_
          refine a_iload dX8_leastNumber_68 rfl ?_
          refine a_iald dX8_leastNumber_70 ⟨by decide, rfl⟩ (by omega) e53 ?_
          refine a_mmax dX8_leastNumber_71 kl_X8_160 ks_max ki_Math kc_max (Nat.le_of_ble_eq_true rfl) (show _ = nI (max v (lf x)) by simp only [nI_ltI (show v < 2 ^ 31 by omega) (show lf x < 2 ^ 31 by omega)]; split <;> congr 1 <;> omega) ?_
          refine a_istore_n (L' := [_, _, _, _, _, _]) dX8_leastNumber_74 (Nat.le_of_ble_eq_true rfl) rfl ?_
          refine a_iinc (L' := [_, _, _, _, _, _]) dX8_leastNumber_75 rfl (nI_inc _) rfl ?_
          refine a_goto (tgt := 14) dX8_leastNumber_78 (by decide) ?_
          exact ih (i + 1) (max v (lf x)) _ d3 (by omega) (by omega) hK

set_option maxHeartbeats 4000000 in
set_option maxRecDepth 100000 in
theorem s_least {G : am_G} {d : Nat} {I : am_I} {J : am_J} {K : Int32 → am_I → am_J → Prop} {n m M k : Nat} {R : Nat → Option (List Nat)} {g la : Nat → Nat} {fx : Nat → Option Nat} {sq : Nat → Nat} {tl : Nat → Bool} {lf : Nat → Nat} {l : List Nat} (h : scP I n m M R g la fx sq tl) (hlc : lcP I n tl lf) (hf : ∀ l, lf l ≤ 200) (hk : k < m) (hl : R (sq k) = some l) (hK : K (nI (lsN tl (la k) lf ((fx k).getD 0) l)) I J) : CMi G (d + 1) yX8_leastNumber [.ref 4, .int (nI k), .int (nI (sq k))] I J K := by
  refine CM.of (L0 := [_, _, _, _, _, _]) cX8_leastNumber 6 (some .int) (by decide) (by decide) kcX8_leastNumber (Nat.le_of_ble_eq_true rfl) rfl ?_
  have h' := h
  obtain ⟨a1, a2, a3, a4, a5, a6, a7, a8⟩ := h
  obtain ⟨b1, b2, b3, b4, l0, b5, b6, b7, b8⟩ := a8 k hk
  obtain rfl : l = l0 := by rw [hl] at b5; cases b5; rfl
  obtain ⟨c1, c2, c3, c4⟩ := (a3 (sq k) b2).2 l hl
  have hm : (if fxI (fx k) < nI 0 then nI 0 else fxI (fx k)) = nI ((fx k).getD 0) ∧ (fx k).getD 0 ≤ 200 := by
    rcases e : fx k with _ | f
    · exact ⟨rfl, Nat.zero_le _⟩
    · have := b4 f e
      show (if nI f < nI 0 then nI 0 else nI f) = _ ∧ _
      rw [if_neg (fun q => by have := (nI_ltI (by omega) (by decide)).mp q; omega)]
      exact ⟨rfl, this⟩
  refine a_aload_n dX8_leastNumber_0 rfl ?_
  refine a_getr dX8_leastNumber_1 kf_X8_24 ⟨by decide, _, rfl, rfl⟩ ?_
  refine a_iload_n dX8_leastNumber_4 rfl ?_
  refine a_iald dX8_leastNumber_5 ⟨by decide, rfl⟩ (by omega) b3 ?_
  refine a_iconst (v := nI 0) dX8_leastNumber_6 (by decide) ?_
  refine a_mmax dX8_leastNumber_7 kl_X8_160 ks_max ki_Math kc_max (Nat.le_of_ble_eq_true rfl) hm.1 ?_
  refine a_istore_n (L' := [_, _, _, _, _, _]) dX8_leastNumber_10 (Nat.le_of_ble_eq_true rfl) rfl ?_
  refine a_iconst (v := nI 0) dX8_leastNumber_11 (by decide) ?_
  refine a_istore (L' := [_, _, _, _, _, _]) dX8_leastNumber_12 (Nat.le_of_ble_eq_true rfl) rfl ?_
  exact lp_ln h' hlc hf hk hl l 0 _ _ rfl (by omega) hm.2 hK

set_option maxHeartbeats 4000000 in
set_option maxRecDepth 100000 in
theorem lp_mn {G : am_G} {d : Nat} {I : am_I} {J : am_J} {K : Int32 → am_I → am_J → Prop} {n m M k : Nat} {R : Nat → Option (List Nat)} {g la : Nat → Nat} {fx : Nat → Option Nat} {sq : Nat → Nat} {tl : Nat → Bool} {lf : Nat → Nat} {l : List Nat} (h : scP I n m M R g la fx sq tl) (hlc : lcP I n tl lf) (hf : ∀ l, lf l ≤ 200) (hk : k < m) (hl : R (sq k) = some l) : ∀ (xs : List Nat) (i v : Nat) (v4 : Option Value), l.drop i = xs → i ≤ l.length → v ≤ 200 → K (nI (msN tl lf v xs)) I J → AW G cX8_mostNumber 5 RX8 (d + 1) (am_ex G (some .int) (fun r I J => ∃ x, r = some (.int x) ∧ K x I J)) 26 [some (.ref 4), some (.int (nI (sq k))), some (.int (nI v)), some (.int (nI i)), v4] [] I J := by
  obtain ⟨a1, a2, a3, a4, a5, a6, a7, a8⟩ := h
  obtain ⟨b1, b2, b3, b4, l0, b5, b6, b7, b8⟩ := a8 k hk
  obtain rfl : l = l0 := by rw [hl] at b5; cases b5; rfl
  obtain ⟨c1, c2, c3, c4⟩ := (a3 (sq k) b2).2 l hl
  intro xs
  induction xs with
  | nil =>
    intro i v v4 hd hi hv hK
    have hd1 := drop_nil hd
    refine a_iload_n dX8_mostNumber_26 rfl ?_
    refine a_aload_n dX8_mostNumber_27 rfl ?_
    refine a_getr dX8_mostNumber_28 kf_X8_48 ⟨by decide, _, rfl, rfl⟩ ?_
    refine a_getr dX8_mostNumber_31 kf_X8_132 ⟨by decide, _, rfl, rfl⟩ ?_
    refine a_iload_n dX8_mostNumber_34 rfl ?_
    refine a_iald dX8_mostNumber_35 ⟨by decide, rfl⟩ (by omega) c1 ?_
    refine a_icmp_geN (tgt := 80) dX8_mostNumber_36 (by decide) (by omega) (by omega) (fun h => ?_) (fun h => ?_)
    · refine a_iload_n dX8_mostNumber_80 rfl ?_
      exact a_ireturn dX8_mostNumber_81 ⟨_, rfl, hK⟩
    · exact absurd h (by omega)
  | cons x xs ih =>
    intro i v v4 hd hi hv hK
    obtain ⟨d1, d2, d3⟩ := drop_cons hd
    have hx := c4 x (List.mem_of_getElem? d1)
    have hxm := List.mem_of_getElem? d1
    have ht := lc_told hlc hf hx
    have hfx := hf x
    rw [msN] at hK
    refine a_iload_n dX8_mostNumber_26 rfl ?_
    refine a_aload_n dX8_mostNumber_27 rfl ?_
    refine a_getr dX8_mostNumber_28 kf_X8_48 ⟨by decide, _, rfl, rfl⟩ ?_
    refine a_getr dX8_mostNumber_31 kf_X8_132 ⟨by decide, _, rfl, rfl⟩ ?_
    refine a_iload_n dX8_mostNumber_34 rfl ?_
    refine a_iald dX8_mostNumber_35 ⟨by decide, rfl⟩ (by omega) c1 ?_
    refine a_icmp_geN (tgt := 80) dX8_mostNumber_36 (by decide) (by omega) (by omega) (fun h => ?_) (fun h => ?_)
    · exact absurd h (by omega)
    · refine a_aload_n dX8_mostNumber_39 rfl ?_
      refine a_getr dX8_mostNumber_40 kf_X8_48 ⟨by decide, _, rfl, rfl⟩ ?_
      refine a_iload_n dX8_mostNumber_43 rfl ?_
      refine a_iload_n dX8_mostNumber_44 rfl ?_
      refine a_callVi (As := [_, _]) dX8_mostNumber_45 km_X8_135 ⟨by decide, _, _, _, rfl, rfl⟩ rfl rfl (Nat.le_of_ble_eq_true rfl) ?_
      refine r_lineAta a3 b2 a4 hl d1 ?_
      refine a_istore (L' := [_, _, _, _, _]) dX8_mostNumber_48 (Nat.le_of_ble_eq_true rfl) rfl ?_
      refine a_aload_n dX8_mostNumber_50 rfl ?_
      refine a_getr dX8_mostNumber_51 kf_X8_21 ⟨by decide, _, rfl, rfl⟩ ?_
      refine a_iload dX8_mostNumber_54 rfl ?_
      refine a_iald dX8_mostNumber_56 ⟨by decide, rfl⟩ (by omega) rfl ?_
      refine a_bipush (v := (-9)) dX8_mostNumber_57 (by decide) ?_
      refine a_icmp_eq (tgt := 74) dX8_mostNumber_59 (by decide) (fun g => ?_) (fun g => ?_)
      · have e : ¬ tl x = true := fun q => (ht.mpr q) g
        rw [if_neg e] at hK
        refine a_iinc (L' := [_, _, _, _, _]) dX8_mostNumber_74 rfl (nI_inc _) rfl ?_
        refine a_goto (tgt := 26) dX8_mostNumber_77 (by decide) ?_
        exact ih (i + 1) v _ d3 (by omega) hv hK
      · have e : tl x = true := ht.mp g
        have e53 := hlc x hx
        rw [if_pos e] at e53
        rw [if_pos e] at hK
        refine a_iload_n dX8_mostNumber_62 rfl ?_
        refine a_aload_n dX8_mostNumber_63 rfl ?_
        refine a_getr dX8_mostNumber_64 kf_X8_21 ⟨by decide, _, rfl, rfl⟩ ?_
        refine a_iload dX8_mostNumber_67 rfl ?_
        refine a_iald dX8_mostNumber_69 ⟨by decide, rfl⟩ (by omega) e53 ?_
        refine a_mmin dX8_mostNumber_70 kl_X8_165 ks_min ki_Math kc_min (Nat.le_of_ble_eq_true rfl) (show _ = nI (min v (lf x)) by simp only [nI_ltI (show lf x < 2 ^ 31 by omega) (show v < 2 ^ 31 by omega)]; split <;> congr 1 <;> omega) ?_
        refine a_istore_n (L' := [_, _, _, _, _]) dX8_mostNumber_73 (Nat.le_of_ble_eq_true rfl) rfl ?_
        refine a_iinc (L' := [_, _, _, _, _]) dX8_mostNumber_74 rfl (nI_inc _) rfl ?_
        refine a_goto (tgt := 26) dX8_mostNumber_77 (by decide) ?_
        exact ih (i + 1) (min v (lf x)) _ d3 (by omega) (by omega) hK

set_option maxHeartbeats 4000000 in
set_option maxRecDepth 100000 in
theorem s_most {G : am_G} {d : Nat} {I : am_I} {J : am_J} {K : Int32 → am_I → am_J → Prop} {n m M k : Nat} {R : Nat → Option (List Nat)} {g la : Nat → Nat} {fx : Nat → Option Nat} {sq : Nat → Nat} {tl : Nat → Bool} {lf : Nat → Nat} {l : List Nat} (h : scP I n m M R g la fx sq tl) (hlc : lcP I n tl lf) (hf : ∀ l, lf l ≤ 200) (hk : k < m) (hl : R (sq k) = some l) (hK : K (nI (msN tl lf ((fx k).getD 200) l)) I J) : CMi G (d + 1) yX8_mostNumber [.ref 4, .int (nI (sq k))] I J K := by
  refine CM.of (L0 := [_, _, _, _, _]) cX8_mostNumber 5 (some .int) (by decide) (by decide) kcX8_mostNumber (Nat.le_of_ble_eq_true rfl) rfl ?_
  have h' := h
  obtain ⟨a1, a2, a3, a4, a5, a6, a7, a8⟩ := h
  obtain ⟨b1, b2, b3, b4, l0, b5, b6, b7, b8⟩ := a8 k hk
  obtain rfl : l = l0 := by rw [hl] at b5; cases b5; rfl
  obtain ⟨c1, c2, c3, c4⟩ := (a3 (sq k) b2).2 l hl
  have hm : (fx k).getD 200 ≤ 200 := by
    rcases e : fx k with _ | f
    · exact Nat.le_refl _
    · exact b4 f e
  refine a_aload_n dX8_mostNumber_0 rfl ?_
  refine a_getr dX8_mostNumber_1 kf_X8_24 ⟨by decide, _, rfl, rfl⟩ ?_
  refine a_iload_n dX8_mostNumber_4 rfl ?_
  refine a_iald dX8_mostNumber_5 ⟨by decide, rfl⟩ (by omega) b3 ?_
  refine a_bipush (v := (-9)) dX8_mostNumber_6 (by decide) ?_
  refine a_icmp_eq (tgt := 20) dX8_mostNumber_8 (by decide) (fun g => ?_) (fun g => ?_)
  · have e : fx k = none := by
      rcases e : fx k with _ | f
      · rfl
      · rw [e] at g
        have := b4 f e
        exact absurd g (nI_ne_neg (by omega) (by decide))
    rw [e] at hK hm
    refine a_sipush (v := nI 200) dX8_mostNumber_20 (by decide) ?_
    refine a_istore_n (L' := [_, _, _, _, _]) dX8_mostNumber_23 (Nat.le_of_ble_eq_true rfl) rfl ?_
    refine a_iconst (v := nI 0) dX8_mostNumber_24 (by decide) ?_
    refine a_istore_n (L' := [_, _, _, _, _]) dX8_mostNumber_25 (Nat.le_of_ble_eq_true rfl) rfl ?_
    exact lp_mn h' hlc hf hk hl l 0 200 _ rfl (by omega) hm hK
  · obtain ⟨f, e⟩ : ∃ f, fx k = some f := by
      rcases e : fx k with _ | f
      · rw [e] at g; exact absurd rfl g
      · exact ⟨f, rfl⟩
    rw [e] at hK hm
    refine a_aload_n dX8_mostNumber_11 rfl ?_
    refine a_getr dX8_mostNumber_12 kf_X8_24 ⟨by decide, _, rfl, rfl⟩ ?_
    refine a_iload_n dX8_mostNumber_15 rfl ?_
    refine a_iald dX8_mostNumber_16 ⟨by decide, rfl⟩ (by omega) (show _ = nI f by rw [b3, e]; rfl) ?_
    refine a_goto (tgt := 23) dX8_mostNumber_17 (by decide) ?_
    refine a_istore_n (L' := [_, _, _, _, _]) dX8_mostNumber_23 (Nat.le_of_ble_eq_true rfl) rfl ?_
    refine a_iconst (v := nI 0) dX8_mostNumber_24 (by decide) ?_
    refine a_istore_n (L' := [_, _, _, _, _]) dX8_mostNumber_25 (Nat.le_of_ble_eq_true rfl) rfl ?_
    exact lp_mn h' hlc hf hk hl l 0 f _ rfl (by omega) hm hK

set_option maxHeartbeats 4000000 in
set_option maxRecDepth 100000 in
theorem lp_tk {G : am_G} {d : Nat} {J : am_J} {K : am_I → am_J → Prop} {n M p : Nat} {R : Nat → Option (List Nat)} {x : Int32} {l : List Nat} (hM : M ≤ 36) (hn : n ≤ 12) (hp : p < M) (hl : R p = some l) : ∀ (ys : List Nat) (i : Nat) (v4 : Option Value) (I : am_I), rlP 44 45 n M R I → l.drop i = ys → i ≤ l.length → ys.Nodup → K (mTe I ys x) J → AW G cX8_take 5 RX8 (d + 1) (am_ex G none (fun r I J => r = none ∧ K I J)) 2 [some (.ref 4), some (.int (nI p)), some (.int x), some (.int (nI i)), v4] [] I J := by
  intro ys
  induction ys with
  | nil =>
    intro i v4 I hR hd hi hno hK
    obtain ⟨c1, c2, c3, c4⟩ := (hR p hp).2 l hl
    have hd1 := drop_nil hd
    rw [mTe_0] at hK
    refine a_iload_n dX8_take_2 rfl ?_
    refine a_aload_n dX8_take_3 rfl ?_
    refine a_getr dX8_take_4 kf_X8_48 ⟨by decide, _, rfl, rfl⟩ ?_
    refine a_getr dX8_take_7 kf_X8_132 ⟨by decide, _, rfl, rfl⟩ ?_
    refine a_iload_n dX8_take_10 rfl ?_
    refine a_iald dX8_take_11 ⟨by decide, rfl⟩ (by omega) c1 ?_
    refine a_icmp_geN (tgt := 55) dX8_take_12 (by decide) (by omega) (by omega) (fun h => ?_) (fun h => ?_)
    · exact a_vreturn dX8_take_55 ⟨rfl, hK⟩
    · exact absurd h (by omega)
  | cons y ys ih =>
    intro i v4 I hR hd hi hno hK
    obtain ⟨c1, c2, c3, c4⟩ := (hR p hp).2 l hl
    obtain ⟨d1, d2, d3⟩ := drop_cons hd
    have hx := c4 y (List.mem_of_getElem? d1)
    obtain ⟨n1, n2⟩ := List.nodup_cons.mp hno
    refine a_iload_n dX8_take_2 rfl ?_
    refine a_aload_n dX8_take_3 rfl ?_
    refine a_getr dX8_take_4 kf_X8_48 ⟨by decide, _, rfl, rfl⟩ ?_
    refine a_getr dX8_take_7 kf_X8_132 ⟨by decide, _, rfl, rfl⟩ ?_
    refine a_iload_n dX8_take_10 rfl ?_
    refine a_iald dX8_take_11 ⟨by decide, rfl⟩ (by omega) c1 ?_
    refine a_icmp_geN (tgt := 55) dX8_take_12 (by decide) (by omega) (by omega) (fun h => ?_) (fun h => ?_)
    · exact absurd h (by omega)
    · refine a_aload_n dX8_take_15 rfl ?_
      refine a_getr dX8_take_16 kf_X8_48 ⟨by decide, _, rfl, rfl⟩ ?_
      refine a_iload_n dX8_take_19 rfl ?_
      refine a_iload_n dX8_take_20 rfl ?_
      refine a_callVi (As := [_, _]) dX8_take_21 km_X8_135 ⟨by decide, _, _, _, rfl, rfl⟩ rfl rfl (Nat.le_of_ble_eq_true rfl) ?_
      refine r_lineAta hR hp hM hl d1 ?_
      refine a_istore (L' := [_, _, _, _, _]) dX8_take_24 (Nat.le_of_ble_eq_true rfl) rfl ?_
      refine a_aload_n dX8_take_26 rfl ?_
      refine a_getr dX8_take_27 kf_X8_21 ⟨by decide, _, rfl, rfl⟩ ?_
      refine a_iload dX8_take_30 rfl ?_
      refine a_iald dX8_take_32 ⟨by decide, rfl⟩ (by omega) rfl ?_
      refine a_bipush (v := (-9)) dX8_take_33 (by decide) ?_
      refine a_icmp_eq (tgt := 49) dX8_take_35 (by decide) (fun g => ?_) (fun g => ?_)
      · refine a_iinc (L' := [_, _, _, _, _]) dX8_take_49 rfl (nI_inc _) rfl ?_
        refine a_goto (tgt := 2) dX8_take_52 (by decide) ?_
        exact ih (i + 1) _ I hR d3 (by omega) n2 (by rw [mTe_no g]; exact hK)
      · refine a_aload_n dX8_take_38 rfl ?_
        refine a_getr dX8_take_39 kf_X8_21 ⟨by decide, _, rfl, rfl⟩ ?_
        refine a_iload dX8_take_42 rfl ?_
        refine a_dup2 dX8_take_44 rfl rfl ?_
        refine a_iald dX8_take_45 ⟨by decide, rfl⟩ (by omega) rfl ?_
        refine a_iload_n dX8_take_46 rfl ?_
        refine a_isub dX8_take_47 rfl ?_
        refine a_iast dX8_take_48 ⟨by decide, rfl⟩ (by omega) ?_
        refine a_iinc (L' := [_, _, _, _, _]) dX8_take_49 rfl (nI_inc _) rfl ?_
        refine a_goto (tgt := 2) dX8_take_52 (by decide) ?_
        exact ih (i + 1) _ _ (rl_fr hR (am_up_ne (by decide)) (am_up_ne (by decide))) d3 (by omega) n2 (by rw [mTe_s g n1]; exact hK)

set_option maxHeartbeats 4000000 in
set_option maxRecDepth 100000 in
theorem s_take {G : am_G} {d : Nat} {I : am_I} {J : am_J} {K : am_I → am_J → Prop} {n M p : Nat} {R : Nat → Option (List Nat)} {x : Int32} {l : List Nat} (hR : rlP 44 45 n M R I) (hM : M ≤ 36) (hn : n ≤ 12) (hp : p < M) (hl : R p = some l) (hno : l.Nodup) (hK : K (mTe I l x) J) : CMv G (d + 1) yX8_take [.ref 4, .int (nI p), .int x] I J K := by
  refine CM.of (L0 := [_, _, _, _, _]) cX8_take 5 none (by decide) (by decide) kcX8_take (Nat.le_of_ble_eq_true rfl) rfl ?_
  refine a_iconst (v := nI 0) dX8_take_0 (by decide) ?_
  refine a_istore_n (L' := [_, _, _, _, _]) dX8_take_1 (Nat.le_of_ble_eq_true rfl) rfl ?_
  exact lp_tk hM hn hp hl l 0 _ I hR rfl (by omega) hno hK

set_option maxHeartbeats 4000000 in
set_option maxRecDepth 100000 in
theorem lp_no {G : am_G} {d : Nat} {I : am_I} {J : am_J} {K : Int32 → am_I → am_J → Prop} {n : Nat} {tl : Nat → Bool} {lf : Nat → Nat} (hn : I 1 1 = nI n) (hn12 : n ≤ 12) (hlc : lcP I n tl lf) (hf : ∀ l, lf l ≤ 200) (h1 : allB (fun l => !tl l || lf l == 0) n = true → K 1 I J) (h0 : ¬ allB (fun l => !tl l || lf l == 0) n = true → K 0 I J) : ∀ i, i ≤ n → (∀ j, j < i → (!tl j || lf j == 0) = true) → AW G cX8_isNothingLeft 2 RX8 d (am_ex G (some .boolean) (fun r I J => ∃ x, r = some (.int x) ∧ K x I J)) 2 [some (.ref 4), some (.int (nI i))] [] I J := by
  refine am_dn n (fun i hi ih => ?_)
  intro hj
  refine a_iload_n dX8_isNothingLeft_2 rfl ?_
  refine a_aload_n dX8_isNothingLeft_3 rfl ?_
  refine a_getr dX8_isNothingLeft_4 kf_X8_44 ⟨by decide, _, rfl, rfl⟩ ?_
  refine a_geti dX8_isNothingLeft_7 kf_X8_69 ⟨by decide, _, rfl, rfl⟩ hn ?_
  refine a_icmp_geN (tgt := 30) dX8_isNothingLeft_10 (by decide) (by omega) (by omega) (fun h => ?_) (fun h => ?_)
  · obtain rfl : i = n := by omega
    refine a_iconst (v := nI 1) dX8_isNothingLeft_30 (by decide) ?_
    exact a_zreturn dX8_isNothingLeft_31 (by first | exact Or.inl rfl | exact Or.inr rfl) ⟨_, rfl, (h1 ((allB_iff _ _).mpr hj))⟩
  · have e53 := hlc i h
    have hfi := hf i
    refine a_aload_n dX8_isNothingLeft_13 rfl ?_
    refine a_getr dX8_isNothingLeft_14 kf_X8_21 ⟨by decide, _, rfl, rfl⟩ ?_
    refine a_iload_n dX8_isNothingLeft_17 rfl ?_
    refine a_iald dX8_isNothingLeft_18 ⟨by decide, rfl⟩ (by omega) rfl ?_
    refine a_if_le (tgt := 24) dX8_isNothingLeft_19 (by decide) (fun g => ?_) (fun g => ?_)
    · refine a_iinc (L' := [_, _]) dX8_isNothingLeft_24 rfl (nI_inc _) rfl ?_
      refine a_goto (tgt := 2) dX8_isNothingLeft_27 (by decide) ?_
      exact ih (i + 1) (by omega) (by omega) (fun j hj1 => by
        by_cases e : j = i
        · subst e
          rw [e53] at g
          by_cases q : tl j = true
          · rw [if_pos q, ← nI_0] at g
            have := (nI_leI (by omega) (by decide)).mp g
            simp [q]; omega
          · simp [q]
        · exact hj j (by omega))
    · refine a_iconst (v := nI 0) dX8_isNothingLeft_22 (by decide) ?_
      exact a_zreturn dX8_isNothingLeft_23 (by first | exact Or.inl rfl | exact Or.inr rfl) ⟨_, rfl, (h0 (fun z => by
      have z1 := (allB_iff _ _).mp z i h
      rw [e53] at g
      by_cases q : tl i = true
      · rw [if_pos q] at g
        simp [q] at z1
        rw [z1] at g
        exact g (by decide)
      · rw [if_neg q] at g
        exact g (by decide)))⟩

set_option maxHeartbeats 4000000 in
set_option maxRecDepth 100000 in
theorem s_nothing {G : am_G} {d : Nat} {I : am_I} {J : am_J} {K : Int32 → am_I → am_J → Prop} {n : Nat} {tl : Nat → Bool} {lf : Nat → Nat} (hn : I 1 1 = nI n) (hn12 : n ≤ 12) (hlc : lcP I n tl lf) (hf : ∀ l, lf l ≤ 200) (h1 : allB (fun l => !tl l || lf l == 0) n = true → K 1 I J) (h0 : ¬ allB (fun l => !tl l || lf l == 0) n = true → K 0 I J) : CMi G d yX8_isNothingLeft [.ref 4] I J K := by
  refine CM.of (L0 := [_, _]) cX8_isNothingLeft 2 (some .boolean) (by decide) (by decide) kcX8_isNothingLeft (Nat.le_of_ble_eq_true rfl) rfl ?_
  refine a_iconst (v := nI 0) dX8_isNothingLeft_0 (by decide) ?_
  refine a_istore_n (L' := [_, _]) dX8_isNothingLeft_1 (Nat.le_of_ble_eq_true rfl) rfl ?_
  exact lp_no hn hn12 hlc hf h1 h0 0 (by omega) (fun j q => by omega)

