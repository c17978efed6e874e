/-! ===== the reference: setBounds, bound, sure ===== -/
def bdS (sq A : Nat → Nat) (met : Bool) (r : (Nat → Int32) × (Nat → Int32)) : Nat → (Nat → Int32) × (Nat → Int32)
  | 0 => r
  | k + 1 => (upd (bdS sq A met r k).1 (sq k) (if met = false ∨ nI (A k) < (bdS sq A met r k).1 (sq k) then nI (A k) else (bdS sq A met r k).1 (sq k)), upd (bdS sq A met r k).2 (sq k) (if (bdS sq A met r k).2 (sq k) < nI (A k) then nI (A k) else (bdS sq A met r k).2 (sq k)))
def bdP (sq : Nat → Nat) (m : Nat) (c : Bool × (Nat → Int32) × (Nat → Int32)) (A : Nat → Nat) : (Bool × (Nat → Int32) × (Nat → Int32)) × Bool := ((true, bdS sq A c.1 c.2 m), false)
def bd0 : Bool × (Nat → Int32) × (Nat → Int32) := (false, (fun _ => nI 0), (fun _ => nI 0))
def bI (b : Bool) : Int32 := if b = true then nI 1 else nI 0
/-- the rows of LEAST and MOST show r -/
def rwB (I : am_I) (r : (Nat → Int32) × (Nat → Int32)) : Prop := ∀ p, p < 36 → I 86 p = r.1 p ∧ I 87 p = r.2 p
def frB (I I1 : am_I) : Prop := ∀ a, a ≠ 86 → a ≠ 87 → I a = I1 a
theorem sel_le (a b : Int32) : (if a ≤ b then b else a) = if b < a then a else b := by
  by_cases h : a ≤ b
  · rw [if_pos h, if_neg (Int32.not_lt.mpr h)]
  · rw [if_neg h, if_pos (Int32.not_le.mp h)]
theorem rwB_step {I : am_I} {sq A : Nat → Nat} {met : Bool} {r : (Nat → Int32) × (Nat → Int32)} {k : Nat} (hs : sq k < 36) (h : rwB I (bdS sq A met r k)) : rwB (am_up (am_up I 86 (sq k) (if met = false ∨ nI (A k) < (bdS sq A met r k).1 (sq k) then nI (A k) else (bdS sq A met r k).1 (sq k))) 87 (sq k) (if (bdS sq A met r k).2 (sq k) < nI (A k) then nI (A k) else (bdS sq A met r k).2 (sq k))) (bdS sq A met r (k + 1)) := fun p hp => by
  obtain ⟨h1, h2⟩ := h p hp
  by_cases e : p = sq k
  · subst e
    simp [am_up, bdS, upd]
  · simp [am_up, bdS, upd, e, h1, h2]
theorem frB_up {I I1 : am_I} (h : frB I I1) (j j' : Nat) (x x' : Int32) : frB (am_up (am_up I 86 j x) 87 j' x') I1 := fun a h1 h2 => by
  rw [am_up_ne h2, am_up_ne h1]
  exact h a h1 h2
set_option maxHeartbeats 4000000 in
set_option maxRecDepth 100000 in
theorem lp_sb2 {G : am_G} {d : Nat} {I1 : am_I} {J : am_J} {Ex : am_Ex} {x : Int32} {m : Nat} {sq A : Nat → Nat} {met : Bool} {r : (Nat → Int32) × (Nat → Int32)} (hm : I1 63 20 = nI m) (hm36 : m ≤ 36) (hsq : ∀ k, k < m → I1 77 k = nI (sq k) ∧ sq k < 36 ∧ I1 83 k = nI (A k)) (kx : ∀ I v5, frB I I1 → rwB I (bdS sq A met r m) → AW G cX12_setBounds 6 RX12 d Ex 159 [some (.ref 63), some (.int x), some (.int (bI met)), some (.int (nI 1)), some (.int (nI m)), v5] [] I J) : ∀ i, i ≤ m → ∀ I v5, frB I I1 → rwB I (bdS sq A met r i) → AW G cX12_setBounds 6 RX12 d Ex 49 [some (.ref 63), some (.int x), some (.int (bI met)), some (.int (nI 1)), some (.int (nI i)), v5] [] I J := by
  refine am_dn m (fun i hi ih => ?_)
  intro I v5 hf hw
  have em : I 63 20 = nI m := by rw [hf 63 (by decide) (by decide)]; exact hm
  refine a_iload dX12_setBounds_49 rfl ?_
  refine a_aload_n dX12_setBounds_51 rfl ?_
  refine a_geti dX12_setBounds_52 kf_X12_178 ⟨by decide, _, rfl, rfl⟩ em ?_
  refine a_icmp_geN (tgt := 159) dX12_setBounds_55 (by decide) (by omega) (by omega) (fun h => ?_) (fun h => ?_)
  · obtain rfl : i = m := by omega
    exact kx I _ hf hw
  · obtain ⟨q1, q2, q3⟩ := hsq i h
    have e77 : I 77 i = nI (sq i) := by rw [hf 77 (by decide) (by decide)]; exact q1
    have e83 : I 83 i = nI (A i) := by rw [hf 83 (by decide) (by decide)]; exact q3
    obtain ⟨w1, w2⟩ := hw (sq i) q2
    refine a_aload_n dX12_setBounds_58 rfl ?_
    refine a_getr dX12_setBounds_59 kf_X12_54 ⟨by decide, _, rfl, rfl⟩ ?_
    refine a_iload dX12_setBounds_62 rfl ?_
    refine a_iald dX12_setBounds_64 ⟨by decide, rfl⟩ (by omega) e77 ?_
    refine a_istore (L' := [_, _, _, _, _, _]) dX12_setBounds_65 (Nat.le_of_ble_eq_true rfl) rfl ?_
    refine a_aload_n dX12_setBounds_67 rfl ?_
    refine a_getr dX12_setBounds_68 kf_X12_81 ⟨by decide, _, rfl, rfl⟩ ?_
    refine a_iload dX12_setBounds_71 rfl ?_
    refine a_join 111 [.int (if met = false ∨ nI (A i) < (bdS sq A met r i).1 (sq i) then nI (A i) else (bdS sq A met r i).1 (sq i)), .int (nI (sq i)), .ref 86] ?_ (fun kj => ?_)
    · refine a_iast dX12_setBounds_111 ⟨by decide, rfl⟩ (by omega) ?_
      refine a_aload_n dX12_setBounds_112 rfl ?_
      refine a_getr dX12_setBounds_113 kf_X12_84 ⟨by decide, _, rfl, rfl⟩ ?_
      refine a_iload dX12_setBounds_116 rfl ?_
      refine a_aload_n dX12_setBounds_118 rfl ?_
      refine a_getr dX12_setBounds_119 kf_X12_72 ⟨by decide, _, rfl, rfl⟩ ?_
      refine a_iload dX12_setBounds_122 rfl ?_
      refine a_iald dX12_setBounds_124 ⟨by decide, rfl⟩ (by omega) e83 ?_
      refine a_aload_n dX12_setBounds_125 rfl ?_
      refine a_getr dX12_setBounds_126 kf_X12_84 ⟨by decide, _, rfl, rfl⟩ ?_
      refine a_iload dX12_setBounds_129 rfl ?_
      refine a_iald dX12_setBounds_131 ⟨by decide, rfl⟩ (by omega) w2 ?_
      refine a_ticmp_le (tgt := 145) (pj := 152) (a := ((bdS sq A met r i).2 (sq i))) (b := (nI (A i))) dX12_setBounds_132 (by decide) (fun kj => ?_) (fun kj => ?_) ?_
      · refine a_aload_n dX12_setBounds_145 rfl ?_
        refine a_getr dX12_setBounds_146 kf_X12_84 ⟨by decide, _, rfl, rfl⟩ ?_
        refine a_iload dX12_setBounds_149 rfl ?_
        refine a_iald dX12_setBounds_151 ⟨by decide, rfl⟩ (by omega) w2 ?_
        exact kj
      · refine a_aload_n dX12_setBounds_135 rfl ?_
        refine a_getr dX12_setBounds_136 kf_X12_72 ⟨by decide, _, rfl, rfl⟩ ?_
        refine a_iload dX12_setBounds_139 rfl ?_
        refine a_iald dX12_setBounds_141 ⟨by decide, rfl⟩ (by omega) e83 ?_
        refine a_goto (tgt := 152) dX12_setBounds_142 (by decide) ?_
        exact kj
      refine a_topi (sel_le _ _) ?_
      refine a_iast dX12_setBounds_152 ⟨by decide, rfl⟩ (by omega) ?_
      refine a_iinc (L' := [_, _, _, _, _, _]) dX12_setBounds_153 rfl (nI_inc _) rfl ?_
      refine a_goto (tgt := 49) dX12_setBounds_156 (by decide) ?_
      exact ih (i + 1) (by omega) (by omega) _ _ (frB_up hf _ _ _ _) (rwB_step q2 hw)
    · refine a_iload_n dX12_setBounds_73 rfl ?_
      refine a_if_eq (tgt := 94) dX12_setBounds_74 (by decide) (fun h74 => ?_) (fun h74 => ?_)
      · have hmet : met = false := by cases met with
          | false => rfl
          | true => exact absurd h74 (by decide)
        refine a_aload_n dX12_setBounds_94 rfl ?_
        refine a_getr dX12_setBounds_95 kf_X12_72 ⟨by decide, _, rfl, rfl⟩ ?_
        refine a_iload dX12_setBounds_98 rfl ?_
        refine a_iald dX12_setBounds_100 ⟨by decide, rfl⟩ (by omega) e83 ?_
        refine a_goto (tgt := 111) dX12_setBounds_101 (by decide) ?_
        exact a_topi (by rw [if_pos (Or.inl hmet)]) kj
      · have hmet : met = true := by cases met with
          | true => rfl
          | false => exact absurd rfl h74
        refine a_aload_n dX12_setBounds_77 rfl ?_
        refine a_getr dX12_setBounds_78 kf_X12_72 ⟨by decide, _, rfl, rfl⟩ ?_
        refine a_iload dX12_setBounds_81 rfl ?_
        refine a_iald dX12_setBounds_83 ⟨by decide, rfl⟩ (by omega) e83 ?_
        refine a_aload_n dX12_setBounds_84 rfl ?_
        refine a_getr dX12_setBounds_85 kf_X12_81 ⟨by decide, _, rfl, rfl⟩ ?_
        refine a_iload dX12_setBounds_88 rfl ?_
        refine a_iald dX12_setBounds_90 ⟨by decide, rfl⟩ (by omega) w1 ?_
        refine a_icmp_ge (tgt := 104) dX12_setBounds_91 (by decide) (fun h91 => ?_) (fun h91 => ?_)
        · refine a_aload_n dX12_setBounds_104 rfl ?_
          refine a_getr dX12_setBounds_105 kf_X12_81 ⟨by decide, _, rfl, rfl⟩ ?_
          refine a_iload dX12_setBounds_108 rfl ?_
          refine a_iald dX12_setBounds_110 ⟨by decide, rfl⟩ (by omega) w1 ?_
          exact a_topi (by rw [if_neg (fun q => q.elim (fun z => by rw [hmet] at z; cases z) (fun z => Int32.not_lt.mpr h91 z))]) kj
        · refine a_aload_n dX12_setBounds_94 rfl ?_
          refine a_getr dX12_setBounds_95 kf_X12_72 ⟨by decide, _, rfl, rfl⟩ ?_
          refine a_iload dX12_setBounds_98 rfl ?_
          refine a_iald dX12_setBounds_100 ⟨by decide, rfl⟩ (by omega) e83 ?_
          refine a_goto (tgt := 111) dX12_setBounds_101 (by decide) ?_
          exact a_topi (by rw [if_pos (Or.inr (Int32.not_le.mp h91))]) kj

/-- what lasts over next() and the bounds -/
def frT (I I1 : am_I) : Prop := ∀ k j, k ≠ 82 → k ≠ 83 → k ≠ 84 → k ≠ 85 → k ≠ 86 → k ≠ 87 → (k = 63 → j ≠ 29 ∧ j ≠ 31) → I k j = I1 k j
theorem frT_S {I I1 I2 : am_I} (h : frS I I1) (h2 : frT I1 I2) : frT I I2 := fun k j a b c d e f g => (h k j a b c d g).trans (h2 k j a b c d e f g)
theorem frT_B {I I1 I2 : am_I} (h : frB I I1) (h2 : frT I1 I2) : frT I I2 := fun k j a b c d e f g => (by rw [h k e f] : I k j = I1 k j).trans (h2 k j a b c d e f g)
theorem rwB_S {I I1 : am_I} {r : (Nat → Int32) × (Nat → Int32)} (h : frS I I1) (hw : rwB I1 r) : rwB I r := fun p hp => by
  rw [frS_row h (by decide) (by decide) (by decide) (by decide) (by decide), frS_row h (k := 87) (by decide) (by decide) (by decide) (by decide) (by decide)]
  exact hw p hp
theorem fsP_B {g la : Nat → Nat} {fx : Nat → Option Nat} {sq : Nat → Nat} {tl : Nat → Bool} {lf0 : Nat → Nat} {n m lim t : Nat} {A : Nat → Nat} {I I1 : am_I} (h : fsP g la fx sq tl lf0 n m lim t A I1) (hf : frB I I1) : fsP g la fx sq tl lf0 n m lim t A I := by
  obtain ⟨⟨a1, a2, a3, a4, a5, a6, a7⟩, h2, h3, h4, h5, h6, h7, h8⟩ := h
  have e (k : Nat) (a : k ≠ 86 := by decide) (b : k ≠ 87 := by decide) : I k = I1 k := hf k a b
  refine ⟨⟨by rw [e 63]; exact a1, a2, by rw [e 63]; exact a3, a4, fun k hk => by rw [e 79, e 80, e 77, e 81]; exact a5 k hk, fun l hl => by rw [e 70]; exact a6 l hl, a7⟩, by rw [e 63]; exact h2, h3, by rw [e 63]; exact h4, h5, by rw [e 63]; exact h6, fun j hj => by rw [e 83, e 84, e 85]; exact h7 j hj, fun l hl => by rw [e 82]; exact h8 l hl⟩
theorem fsP_sq {g la : Nat → Nat} {fx : Nat → Option Nat} {sq : Nat → Nat} {tl : Nat → Bool} {lf0 : Nat → Nat} {n m lim t : Nat} {A : Nat → Nat} {I : am_I} (h : fsP g la fx sq tl lf0 n m lim t A I) : I 63 20 = nI m ∧ m ≤ 36 ∧ ∀ k, k < m → I 77 k = nI (sq k) ∧ sq k < 36 ∧ I 83 k = nI (A k) := by
  obtain ⟨⟨a1, a2, a3, a4, a5, a6, a7⟩, h2, h3, h4, h5, h6, h7, h8⟩ := h
  exact ⟨a3, a4, fun k hk => ⟨(a5 k hk).2.2.2.2.1, (a5 k hk).2.2.2.2.2.1, (h7 k hk).1⟩⟩
set_option maxHeartbeats 4000000 in
set_option maxRecDepth 100000 in
theorem lp_sb1 {G : am_G} {d : Nat} {I1 : am_I} {J : am_J} {K : Int32 → am_I → am_J → Prop} {x : Int32} {n m lim : Nat} {g la : Nat → Nat} {fx : Nat → Option Nat} {sq : Nat → Nat} {tl : Nat → Bool} {lf0 : Nat → Nat} {t1 st : Nat} {c1 : Bool × (Nat → Int32) × (Nat → Int32)} (h0 : st = 0 → ∀ I', frT I' I1 → I' 63 29 = nI t1 → rwB I' c1.2 → K (bI c1.1) I' J) (hS : st = 1 → ∀ I', frT I' I1 → I' 63 29 = nI t1 → K (-6) I' J) : ∀ M, ∀ (I : am_I) (A : Nat → Nat) (t : Nat) (c : Bool × (Nat → Int32) × (Nat → Int32)) (v4 v5 : Option Value), frT I I1 → fsP g la fx sq tl lf0 n m lim t A I → rwB I c.2 → (bkE g la fx tl n m lf0 A m).length < M → runS (bdP sq m) lim t (bkE g la fx tl n m lf0 A m) (true, bdS sq A c.1 c.2 m) = (t1, st, c1) → AW G cX12_setBounds 6 RX12 (d + 3) (am_ex G (some .int) (fun r I J => ∃ x, r = some (.int x) ∧ K x I J)) 41 [some (.ref 63), some (.int x), some (.int (bI c.1)), some (.int (nI 1)), v4, v5] [] I J := by
  intro M
  induction M with
  | zero => intro I A t c v4 v5 _ _ _ h; omega
  | succ M ih =>
    intro I A t c v4 v5 hf hfs hw hM hrun
    obtain ⟨hm, hm36, hsq⟩ := fsP_sq hfs
    refine a_iload_n dX12_setBounds_41 rfl ?_
    refine a_iconst (v := nI 1) dX12_setBounds_42 (by decide) ?_
    refine a_icmp_ne (tgt := 170) dX12_setBounds_43 (by decide) (fun h43 => ?_) (fun h43 => ?_)
    · exact absurd rfl h43
    · refine a_iconst (v := nI 0) dX12_setBounds_46 (by decide) ?_
      refine a_istore (L' := [_, _, _, _, _, _]) dX12_setBounds_47 (Nat.le_of_ble_eq_true rfl) rfl ?_
      refine lp_sb2 hm hm36 hsq (fun IB v5 hfB hw2 => ?_) 0 (by omega) I _ (fun _ _ _ => rfl) hw
      refine a_iconst (v := nI 1) dX12_setBounds_159 (by decide) ?_
      refine a_istore_n (L' := [_, _, _, _, _, _]) dX12_setBounds_160 (Nat.le_of_ble_eq_true rfl) rfl ?_
      refine a_aload_n dX12_setBounds_161 rfl ?_
      refine a_iconst (v := nI 0) dX12_setBounds_162 (by decide) ?_
      refine a_callVi (As := [_]) dX12_setBounds_163 km_X12_212 ⟨by decide, _, _, _, rfl, rfl⟩ rfl rfl (Nat.le_of_ble_eq_true rfl) ?_
      refine c_nextF (fsP_B hfs hfB) (fun I2 t2 hf2 ht2 e => ?_) (fun I2 t2 hf2 ht2 e => ?_) (fun I2 t2 A2 hf2 e hfs2 => ?_)
      · rw [runS_nx, e] at hrun
        obtain ⟨rfl, rfl, rfl⟩ : t2 = t1 ∧ 0 = st ∧ (true, bdS sq A c.1 c.2 m) = c1 := by simpa [runM] using hrun
        refine a_istore_n (L' := [_, _, _, _, _, _]) dX12_setBounds_166 (Nat.le_of_ble_eq_true rfl) rfl ?_
        refine a_goto (tgt := 41) dX12_setBounds_167 (by decide) ?_
        refine a_iload_n dX12_setBounds_41 rfl ?_
        refine a_iconst (v := nI 1) dX12_setBounds_42 (by decide) ?_
        refine a_icmp_ne (tgt := 170) dX12_setBounds_43 (by decide) (fun h43 => ?_) (fun h43 => ?_)
        · refine a_iload_n dX12_setBounds_170 rfl ?_
          refine a_if_ge (tgt := 178) dX12_setBounds_171 (by decide) (fun h171 => ?_) (fun h171 => ?_)
          · refine a_iload_n dX12_setBounds_178 rfl ?_
            exact a_ireturn dX12_setBounds_179 ⟨_, rfl, (h0 rfl I2 (frT_S hf2 (frT_B hfB hf)) ht2 (rwB_S hf2 hw2))⟩
          · exact absurd (show (0 : Int32) ≤ nI 0 by decide) h171
        · exact absurd h43 (by decide)
      · rw [runS_nx, e] at hrun
        obtain ⟨rfl, rfl, rfl⟩ : t2 = t1 ∧ 1 = st ∧ (true, bdS sq A c.1 c.2 m) = c1 := by simpa [runM] using hrun
        refine a_istore_n (L' := [_, _, _, _, _, _]) dX12_setBounds_166 (Nat.le_of_ble_eq_true rfl) rfl ?_
        refine a_goto (tgt := 41) dX12_setBounds_167 (by decide) ?_
        refine a_iload_n dX12_setBounds_41 rfl ?_
        refine a_iconst (v := nI 1) dX12_setBounds_42 (by decide) ?_
        refine a_icmp_ne (tgt := 170) dX12_setBounds_43 (by decide) (fun h43 => ?_) (fun h43 => ?_)
        · refine a_iload_n dX12_setBounds_170 rfl ?_
          refine a_if_ge (tgt := 178) dX12_setBounds_171 (by decide) (fun h171 => ?_) (fun h171 => ?_)
          · exact absurd h171 (by decide)
          · refine a_iload_n dX12_setBounds_174 rfl ?_
            refine a_goto (tgt := 179) dX12_setBounds_175 (by decide) ?_
            exact a_ireturn dX12_setBounds_179 ⟨_, rfl, (hS rfl I2 (frT_S hf2 (frT_B hfB hf)) ht2)⟩
        · exact absurd h43 (by decide)
      · rw [runS_nx, e] at hrun
        have hlen := nxE_len _ _ _ _ _ e
        refine a_istore_n (L' := [_, _, _, _, _, _]) dX12_setBounds_166 (Nat.le_of_ble_eq_true rfl) rfl ?_
        refine a_goto (tgt := 41) dX12_setBounds_167 (by decide) ?_
        exact ih I2 A2 t2 (true, bdS sq A c.1 c.2 m) _ _ (frT_S hf2 (frT_B hfB hf)) hfs2 (rwB_S hf2 hw2) (by omega) (by simpa [bdP, runM] using hrun)

def mB0 (I : am_I) (i : Nat) : am_I := fun a b => if (a = 86 ∨ a = 87) ∧ b < i then nI 0 else I a b
theorem mB0_s (I : am_I) (i : Nat) : am_up (am_up (mB0 I i) 86 i (nI 0)) 87 i (nI 0) = mB0 I (i + 1) := by
  funext a b
  simp only [am_up, mB0]
  by_cases h1 : a = 87
  · subst h1
    by_cases h2 : b = i
    · subst h2; simp
    · by_cases h3 : b < i
      · simp [h2, h3, show b < i + 1 by omega]
      · simp [h2, h3, show ¬ b < i + 1 by omega]
  · by_cases h1 : a = 86
    · subst h1
      by_cases h2 : b = i
      · subst h2; simp
      · by_cases h3 : b < i
        · simp [h2, h3, show b < i + 1 by omega]
        · simp [h2, h3, show ¬ b < i + 1 by omega]
    · simp [*]
set_option maxHeartbeats 4000000 in
set_option maxRecDepth 100000 in
theorem lp_sb0 {G : am_G} {d : Nat} {I0 : am_I} {J : am_J} {Ex : am_Ex} {x : Int32} (kx : AW G cX12_setBounds 6 RX12 d Ex 35 [some (.ref 63), some (.int x), some (.int (nI 0)), some (.int (nI 36)), none, none] [] (mB0 I0 36) J) : ∀ i, i ≤ 36 → AW G cX12_setBounds 6 RX12 d Ex 9 [some (.ref 63), some (.int x), some (.int (nI 0)), some (.int (nI i)), none, none] [] (mB0 I0 i) J := by
  refine am_dn 36 (fun i hi ih => ?_)
  refine a_iload_n dX12_setBounds_9 rfl ?_
  refine a_bipush (v := nI 36) dX12_setBounds_10 (by decide) ?_
  refine a_icmp_geN (tgt := 35) dX12_setBounds_12 (by decide) (by omega) (by omega) (fun h => ?_) (fun h => ?_)
  · obtain rfl : i = 36 := by omega
    exact kx
  · refine a_aload_n dX12_setBounds_15 rfl ?_
    refine a_getr dX12_setBounds_16 kf_X12_81 ⟨by decide, _, rfl, rfl⟩ ?_
    refine a_iload_n dX12_setBounds_19 rfl ?_
    refine a_iconst (v := nI 0) dX12_setBounds_20 (by decide) ?_
    refine a_iast dX12_setBounds_21 ⟨by decide, rfl⟩ (by omega) ?_
    refine a_aload_n dX12_setBounds_22 rfl ?_
    refine a_getr dX12_setBounds_23 kf_X12_84 ⟨by decide, _, rfl, rfl⟩ ?_
    refine a_iload_n dX12_setBounds_26 rfl ?_
    refine a_iconst (v := nI 0) dX12_setBounds_27 (by decide) ?_
    refine a_iast dX12_setBounds_28 ⟨by decide, rfl⟩ (by omega) ?_
    refine a_mem (mB0_s I0 i) ?_
    refine a_iinc (L' := [_, _, _, _, _, _]) dX12_setBounds_29 rfl (nI_inc _) rfl ?_
    refine a_goto (tgt := 9) dX12_setBounds_32 (by decide) ?_
    exact ih (i + 1) (by omega) (by omega)

theorem skP_mB0 {I : am_I} {n m : Nat} {g la : Nat → Nat} {fx : Nat → Option Nat} {sq : Nat → Nat} {tl : Nat → Bool} {lf0 : Nat → Nat} (h : skP I n m g la fx sq tl lf0) : skP (mB0 I 36) n m g la fx sq tl lf0 := by
  obtain ⟨a1, a2, a3, a4, a5, a6, a7⟩ := h
  exact ⟨a1, a2, a3, a4, fun k hk => a5 k hk, fun l hl => a6 l hl, a7⟩
/-- what setBounds leaves: all that lasts, the gone, the bounds -/
def sbP (I' I : am_I) (N n : Nat) (F T : Nat → Nat) (S : Nat → Bool) : Prop := prP I' I ∧ I' 63 15 = I 63 15 ∧ I' 74 = I 74 ∧ ∀ p, p < N * N → I' 78 p = fxI (rbO F T S n N p)
theorem sbP_of {I I1 I2 : am_I} {N n : Nat} {F T : Nat → Nat} {S : Nat → Bool} {x : Int32} (h : opQ I1 I I N n F T S x) (hf : frT I2 (mB0 I1 36)) : sbP I2 I N n F T S := by
  have e : ∀ k j, (k < 75 ∨ k = 78 ∨ 87 < k) → (k = 63 → j ≠ 29 ∧ j ≠ 31) → I2 k j = I1 k j := fun k j h1 h2 => by
    rw [hf k j (by omega) (by omega) (by omega) (by omega) (by omega) (by omega) h2]
    simp [mB0, show k ≠ 86 by omega, show k ≠ 87 by omega]
  refine ⟨fun k j a b => ?_, ?_, ?_, fun p hp => ?_⟩
  · rw [e k j (by omega) (fun e => by have := b e; omega)]
    exact opQ_pr h k j a b
  · rw [e 63 15 (by omega) (by omega)]
    exact h.1 63 15 (by omega) (by decide) (by decide)
  · funext j
    rw [e 74 j (by omega) (by omega)]
    exact h.1 74 j (by omega) (by decide) (fun e => absurd e (by decide))
  · rw [e 78 p (by omega) (by omega)]
    exact (h.2.2.1 p hp).1
set_option maxHeartbeats 4000000 in
set_option maxRecDepth 100000 in
theorem c_setBounds {G : am_G} {d : Nat} {I : am_I} {J : am_J} {K : Int32 → am_I → am_J → Prop} {N n : Nat} {F T : Nat → Nat} {S : Nat → Bool} {lim : Nat} (hR : rwR I (-9) N n F T S) (hme : ∀ p, p < 36 → vlP (I 72 p)) (hca : ∀ l, l < n → vlP (I 70 l)) (hl1 : 1 ≤ lim) (hl2 : lim ≤ 20000) (h1 : ∀ I' t c, sbP I' I N n F T S → I' 63 29 = nI t → rwB I' c.2 → runS (bdP (skQ I N n F T S) (skL I N n F T S).length) lim 0 (evI I N n F T S) bd0 = (t, 0, c) → K (bI c.1) I' J) (h2 : ∀ I' t c, sbP I' I N n F T S → I' 63 29 = nI t → runS (bdP (skQ I N n F T S) (skL I N n F T S).length) lim 0 (evI I N n F T S) bd0 = (t, 1, c) → K (-6) I' J) : CMi G (d + 4) yX12_setBounds [.ref 63, .int (nI lim)] I J K := by
  refine CM.of (L0 := [_, _, _, _, _, _]) cX12_setBounds 6 (some .int) (by decide) (by decide) kcX12_setBounds (Nat.le_of_ble_eq_true rfl) rfl ?_
  refine a_aload_n dX12_setBounds_0 rfl ?_
  refine a_iload_n dX12_setBounds_1 rfl ?_
  refine a_callVv (As := [_]) dX12_setBounds_2 km_X12_209 ⟨by decide, _, _, _, rfl, rfl⟩ rfl rfl (Nat.le_of_ble_eq_true rfl) ?_
  refine c_openQ (N := N) (n := n) (F := F) (T := T) (S := S) hR hme hca (fun _ _ _ _ => rfl) (fun I1 hop' => ?_)
  obtain ⟨o1, o2, o3, o4, o5, o6⟩ := id hop'
  have hz : rwB (mB0 I1 36) bd0.2 := fun p hp => by simp [mB0, hp, bd0]
  refine a_iconst (v := nI 0) dX12_setBounds_5 (by decide) ?_
  refine a_istore_n (L' := [_, _, _, _, _, _]) dX12_setBounds_6 (Nat.le_of_ble_eq_true rfl) rfl ?_
  refine a_iconst (v := nI 0) dX12_setBounds_7 (by decide) ?_
  refine a_istore_n (L' := [_, _, _, _, _, _]) dX12_setBounds_8 (Nat.le_of_ble_eq_true rfl) rfl ?_
  refine a_mem (I' := mB0 I1 0) (by funext a b; simp [mB0]) ?_
  refine lp_sb0 ?_ 0 (by omega)
  refine a_aload_n dX12_setBounds_35 rfl ?_
  refine a_iconst (v := nI 1) dX12_setBounds_36 (by decide) ?_
  refine a_callVi (As := [_]) dX12_setBounds_37 km_X12_212 ⟨by decide, _, _, _, rfl, rfl⟩ rfl rfl (Nat.le_of_ble_eq_true rfl) ?_
  refine c_nextS (skP_mB0 o2) o5 hl2 o4 (by omega) (fun _ => o6 0 (by decide)) (fun _ => 0) (fun I' t' hf' ht' e => ?_) (fun I' t' hf' ht' e => ?_) (fun I' t' A' hf' e hfs' => ?_)
  · refine a_istore_n (L' := [_, _, _, _, _, _]) dX12_setBounds_40 (Nat.le_of_ble_eq_true rfl) rfl ?_
    refine a_iload_n dX12_setBounds_41 rfl ?_
    refine a_iconst (v := nI 1) dX12_setBounds_42 (by decide) ?_
    refine a_icmp_ne (tgt := 170) dX12_setBounds_43 (by decide) (fun h43 => ?_) (fun h43 => ?_)
    · refine a_iload_n dX12_setBounds_170 rfl ?_
      refine a_if_ge (tgt := 178) dX12_setBounds_171 (by decide) (fun h171 => ?_) (fun h171 => ?_)
      · refine a_iload_n dX12_setBounds_178 rfl ?_
        exact a_ireturn dX12_setBounds_179 ⟨_, rfl, (h1 I' t' bd0 (sbP_of hop' (frT_S hf' (fun _ _ _ _ _ _ _ _ _ => rfl))) ht' (rwB_S hf' hz) (by rw [runS_nx, evI, e]; rfl))⟩
      · exact absurd (show (0 : Int32) ≤ nI 0 by decide) h171
    · exact absurd h43 (by decide)
  · refine a_istore_n (L' := [_, _, _, _, _, _]) dX12_setBounds_40 (Nat.le_of_ble_eq_true rfl) rfl ?_
    refine a_iload_n dX12_setBounds_41 rfl ?_
    refine a_iconst (v := nI 1) dX12_setBounds_42 (by decide) ?_
    refine a_icmp_ne (tgt := 170) dX12_setBounds_43 (by decide) (fun h43 => ?_) (fun h43 => ?_)
    · refine a_iload_n dX12_setBounds_170 rfl ?_
      refine a_if_ge (tgt := 178) dX12_setBounds_171 (by decide) (fun h171 => ?_) (fun h171 => ?_)
      · exact absurd h171 (by decide)
      · refine a_iload_n dX12_setBounds_174 rfl ?_
        refine a_goto (tgt := 179) dX12_setBounds_175 (by decide) ?_
        exact a_ireturn dX12_setBounds_179 ⟨_, rfl, (h2 I' t' bd0 (sbP_of hop' (frT_S hf' (fun _ _ _ _ _ _ _ _ _ => rfl))) ht' (by rw [runS_nx, evI, e]; rfl))⟩
    · exact absurd h43 (by decide)
  · refine a_istore_n (L' := [_, _, _, _, _, _]) dX12_setBounds_40 (Nat.le_of_ble_eq_true rfl) rfl ?_
    have hrun : runS (bdP (skQ I N n F T S) (skL I N n F T S).length) lim 0 (evI I N n F T S) bd0 = runS (bdP (skQ I N n F T S) (skL I N n F T S).length) lim t' (bkE (skG I N n F T S) (skA I N n F T S) (skX I N n F T S) (tlI I) n (skL I N n F T S).length (skF I) A' (skL I N n F T S).length) (true, bdS (skQ I N n F T S) A' false bd0.2 (skL I N n F T S).length) := by
      rw [runS_nx, evI, e]; rfl
    obtain ⟨t1, st, c1, hr⟩ : ∃ t1 st c1, runS (bdP (skQ I N n F T S) (skL I N n F T S).length) lim t' (bkE (skG I N n F T S) (skA I N n F T S) (skX I N n F T S) (tlI I) n (skL I N n F T S).length (skF I) A' (skL I N n F T S).length) (true, bdS (skQ I N n F T S) A' false bd0.2 (skL I N n F T S).length) = (t1, st, c1) := ⟨_, _, _, rfl⟩
    exact lp_sb1 (d := d + 1) (I1 := mB0 I1 36) (fun e0 I2 hf ht hw => h1 I2 _ _ (sbP_of hop' hf) ht hw (by rw [hrun, hr, e0])) (fun e0 I2 hf ht => h2 I2 _ c1 (sbP_of hop' hf) ht (by rw [hrun, hr, e0])) _ I' A' t' bd0 _ _ (frT_S hf' (fun _ _ _ _ _ _ _ _ _ => rfl)) hfs' (rwB_S hf' hz) (Nat.lt_succ_self _) hr

