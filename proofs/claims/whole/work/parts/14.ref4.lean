/-! ===== the reference: ROUTES ===== -/
def mRt (I : am_I) (c v : Int32) : am_I := am_up (am_up I 63 18 c) 63 19 v
theorem mRt_s (I : am_I) (c v c' v' : Int32) : am_up (am_up (mRt I c v) 63 19 v') 63 18 c' = mRt I c' v' := by
  funext a b
  simp only [mRt, am_up]
  by_cases h1 : a = 63
  · subst h1
    by_cases h2 : b = 18
    · subst h2; simp
    · by_cases h3 : b = 19 <;> simp [h2, h3]
  · simp [h1]
/-- LINE i of a list, counted from k on -/
def lnAt (i : Int32) : List Nat → Nat → Int32 → Int32
  | [], _, v => v
  | l :: ls, k, v => lnAt i ls (k + 1) (if nI k = i then nI l else v)
/-- the rows of the LINES show F, T, S -/
def rwR (I : am_I) (oth : Int32) (N n : Nat) (F T : Nat → Nat) (S : Nat → Bool) : Prop := I 63 3 = nI N ∧ 2 ≤ N ∧ N ≤ 6 ∧ I 63 4 = nI n ∧ n ≤ 12 ∧ (∀ l, l < n → I 66 l = nI (F l) ∧ F l < N ∧ I 67 l = nI (T l) ∧ T l < N) ∧ ∀ l, l < n → S l = decide (I 68 l ≠ 0 ∨ nI l = oth)
set_option maxHeartbeats 4000000 in
set_option maxRecDepth 100000 in
theorem lp_ro2 {G : am_G} {d : Nat} {I : am_I} {J : am_J} {Ex : am_Ex} {N n b x s : Nat} {a0 oth i c v : Int32} {F T : Nat → Nat} {S : Nat → Bool} {D : Nat → Nat} (hR : rwR I oth N n F T S) (hb : b < N) (hw : ∀ a, a < 6 → I 76 (6 * a + b) = nI (D a)) (hD : ∀ a, D a ≤ 100) (hx : x < N) (hx1 : 1 ≤ D x) {m : Nat} (hm : m < n) (hp : ldP F T S D x m = true) (hq : ∀ j, j < m → ldP F T S D x j = false)
    (kx : AW G cX12_routeOf 8 RX12 d Ex 94 [some (.ref 63), some (.int a0), some (.int (nI b)), some (.int oth), some (.int i), some (.int (nI s)), some (.int (nI x)), some (.int (nI m))] [] (mRt I c v) J) : ∀ j, j ≤ m → AW G cX12_routeOf 8 RX12 d Ex 26 [some (.ref 63), some (.int a0), some (.int (nI b)), some (.int oth), some (.int i), some (.int (nI s)), some (.int (nI x)), some (.int (nI j))] [] (mRt I c v) J := by
  obtain ⟨r1, r2, r3, r4, r5, r6, r7⟩ := hR
  refine am_dn m (fun j hj ih => ?_)
  obtain ⟨f1, f2, f3, f4⟩ := r6 j (by omega)
  have fS := r7 j (by omega)
  have hpj : j = m → (S j = false ∧ F j = x ∧ D (T j) + 1 = D x) := fun e => by
    subst e
    simpa [ldP] using hp
  refine a_aload_n dX12_routeOf_26 rfl ?_
  refine a_getr dX12_routeOf_27 kf_X12_26 ⟨by decide, _, rfl, rfl⟩ ?_
  refine a_iload dX12_routeOf_30 rfl ?_
  refine a_zald dX12_routeOf_32 ⟨by decide, rfl⟩ (by omega) rfl ?_
  refine a_if_ne (tgt := 88) dX12_routeOf_33 (by decide) (fun h33 => ?_) (fun h33 => ?_)
  · have hjm : j < m := by
      rcases Nat.lt_or_ge j m with q | q
      · exact q
      · exfalso
        obtain ⟨z1, z2, z3⟩ := hpj (by omega)
        rw [fS] at z1
        simp at z1
        exact h33 z1.1
    refine a_iinc (L' := [_, _, _, _, _, _, _, _]) dX12_routeOf_88 rfl (nI_inc _) rfl ?_
    refine a_goto (tgt := 26) dX12_routeOf_91 (by decide) ?_
    exact ih (j + 1) (by omega) (by omega)
  · refine a_iload dX12_routeOf_36 rfl ?_
    refine a_iload_n dX12_routeOf_38 rfl ?_
    refine a_icmp_eq (tgt := 88) dX12_routeOf_39 (by decide) (fun h39 => ?_) (fun h39 => ?_)
    · have hjm : j < m := by
        rcases Nat.lt_or_ge j m with q | q
        · exact q
        · exfalso
          obtain ⟨z1, z2, z3⟩ := hpj (by omega)
          rw [fS] at z1
          simp at z1
          exact z1.2 h39
      refine a_iinc (L' := [_, _, _, _, _, _, _, _]) dX12_routeOf_88 rfl (nI_inc _) rfl ?_
      refine a_goto (tgt := 26) dX12_routeOf_91 (by decide) ?_
      exact ih (j + 1) (by omega) (by omega)
    · refine a_aload_n dX12_routeOf_42 rfl ?_
      refine a_getr dX12_routeOf_43 kf_X12_20 ⟨by decide, _, rfl, rfl⟩ ?_
      refine a_iload dX12_routeOf_46 rfl ?_
      refine a_iald dX12_routeOf_48 ⟨by decide, rfl⟩ (by omega) f1 ?_
      refine a_iload dX12_routeOf_49 rfl ?_
      refine a_icmp_neN (tgt := 88) dX12_routeOf_51 (by decide) (by omega) (by omega) (fun h51 => ?_) (fun h51 => ?_)
      · have hjm : j < m := by
          rcases Nat.lt_or_ge j m with q | q
          · exact q
          · exfalso
            obtain ⟨z1, z2, z3⟩ := hpj (by omega)
            exact h51 z2
        refine a_iinc (L' := [_, _, _, _, _, _, _, _]) dX12_routeOf_88 rfl (nI_inc _) rfl ?_
        refine a_goto (tgt := 26) dX12_routeOf_91 (by decide) ?_
        exact ih (j + 1) (by omega) (by omega)
      · refine a_aload_n dX12_routeOf_54 rfl ?_
        refine a_getr dX12_routeOf_55 kf_X12_51 ⟨by decide, _, rfl, rfl⟩ ?_
        refine a_bipush (v := nI 6) dX12_routeOf_58 (by decide) ?_
        refine a_aload_n dX12_routeOf_60 rfl ?_
        refine a_getr dX12_routeOf_61 kf_X12_23 ⟨by decide, _, rfl, rfl⟩ ?_
        refine a_iload dX12_routeOf_64 rfl ?_
        refine a_iald dX12_routeOf_66 ⟨by decide, rfl⟩ (by omega) f3 ?_
        refine a_imul dX12_routeOf_67 (by first | exact pk_mul _ _ | rfl) ?_
        refine a_iload_n dX12_routeOf_68 rfl ?_
        refine a_iadd dX12_routeOf_69 (by first | exact nI_add _ _ | rfl) ?_
        refine a_iald dX12_routeOf_70 ⟨by decide, rfl⟩ (by omega) (hw (T j) (by omega)) ?_
        refine a_aload_n dX12_routeOf_71 rfl ?_
        refine a_getr dX12_routeOf_72 kf_X12_51 ⟨by decide, _, rfl, rfl⟩ ?_
        refine a_bipush (v := nI 6) dX12_routeOf_75 (by decide) ?_
        refine a_iload dX12_routeOf_77 rfl ?_
        refine a_imul dX12_routeOf_79 (by first | exact pk_mul _ _ | rfl) ?_
        refine a_iload_n dX12_routeOf_80 rfl ?_
        refine a_iadd dX12_routeOf_81 (by first | exact nI_add _ _ | rfl) ?_
        refine a_iald dX12_routeOf_82 ⟨by decide, rfl⟩ (by omega) (hw x (by omega)) ?_
        refine a_iconst (v := nI 1) dX12_routeOf_83 (by decide) ?_
        refine a_isub dX12_routeOf_84 (pk_sub hx1) ?_
        refine a_icmp_eqN (tgt := 94) dX12_routeOf_85 (by decide) (by have := hD (T j); omega) (by have := hD x; omega) (fun h85 => ?_) (fun h85 => ?_)
        · have e : j = m := by
            rcases Nat.lt_or_ge j m with q | q
            · exfalso
              have z := hq j q
              have z2 : S j = false := by
                rw [fS]
                simp
                exact ⟨h33, h39⟩
              simp [ldP, z2, h51] at z
              omega
            · omega
          subst e
          exact kx
        · have hjm : j < m := by
            rcases Nat.lt_or_ge j m with q | q
            · exact q
            · exfalso
              obtain ⟨z1, z2, z3⟩ := hpj (by omega)
              omega
          refine a_iinc (L' := [_, _, _, _, _, _, _, _]) dX12_routeOf_88 rfl (nI_inc _) rfl ?_
          refine a_goto (tgt := 26) dX12_routeOf_91 (by decide) ?_
          exact ih (j + 1) (by omega) (by omega)

set_option maxHeartbeats 4000000 in
set_option maxRecDepth 100000 in
theorem lp_ro1 {G : am_G} {d : Nat} {I : am_I} {J : am_J} {K : Int32 → am_I → am_J → Prop} {N n b : Nat} {a0 oth i : Int32} {F T : Nat → Nat} {S : Nat → Bool} (hR : rwR I oth N n F T S) (hb : b < N) (hw : ∀ a, a < 6 → I 76 (6 * a + b) = nI (wyR F T S n b N a)) :
    ∀ (f x s c : Nat) (v : Int32) (x7 : Option Value), wyR F T S n b N x = f → f < 100 → x < N → s < 2 ^ 12 → K (nI (s ||| bN (rtL F T S n b (wyR F T S n b N) f x))) (mRt I (nI (c + (rtL F T S n b (wyR F T S n b N) f x).length)) (lnAt i (rtL F T S n b (wyR F T S n b N) f x) c v)) J → AW G cX12_routeOf 8 RX12 d (am_ex G (some .int) (fun r I J => ∃ x, r = some (.int x) ∧ K x I J)) 17 [some (.ref 63), some (.int a0), some (.int (nI b)), some (.int oth), some (.int i), some (.int (nI s)), some (.int (nI x)), x7] [] (mRt I (nI c) v) J := by
  have hR' := hR
  obtain ⟨r1, r2, r3, r4, r5, r6, r7⟩ := hR'
  have hto : ∀ l, l < n → T l < N := fun l hl => (r6 l hl).2.2.2
  intro f
  induction f with
  | zero =>
    intro x s c v x7 hf _ hx hs hK
    have exb : x = b := Classical.byContradiction fun q => by
      have := wy_pos (fr := F) (to := T) (sh := S) (n := n) (N := N) q
      omega
    subst exb
    refine a_iload dX12_routeOf_17 rfl ?_
    refine a_iload_n dX12_routeOf_19 rfl ?_
    refine a_icmp_eqN (tgt := 147) dX12_routeOf_20 (by decide) (by omega) (by omega) (fun h20 => ?_) (fun h20 => ?_)
    · refine a_iload dX12_routeOf_147 rfl ?_
      exact a_ireturn dX12_routeOf_149 ⟨_, rfl, (by simpa [rtL, bN, lnAt] using hK)⟩
    · exact absurd rfl h20
  | succ f ih =>
    intro x s c v x7 hf hlt hx hs hK
    have exb : x ≠ b := fun q => by
      subst q
      rw [wy_b] at hf
      omega
    obtain ⟨l0, q1, q2, q3, q4⟩ := wy_next (fr := F) (to := T) (sh := S) (n := n) hb hto hx (by omega) exb
    obtain ⟨m1, m2, m3, m4⟩ := fnd_spec (ldP F T S (wyR F T S n b N) x) n 0 ⟨l0, by omega, by omega, by simp [ldP, q2, q3, q4]⟩
    rw [rtL, if_neg exb] at hK
    generalize fnd (ldP F T S (wyR F T S n b N) x) n 0 = m at m1 m2 m3 m4 hK
    have hm : m < n := by omega
    obtain ⟨f1, f2, f3, f4⟩ := r6 m hm
    have m5 : S m = false ∧ F m = x ∧ wyR F T S n b N (T m) + 1 = wyR F T S n b N x := by simpa [ldP] using m1
    refine a_iload dX12_routeOf_17 rfl ?_
    refine a_iload_n dX12_routeOf_19 rfl ?_
    refine a_icmp_eqN (tgt := 147) dX12_routeOf_20 (by decide) (by omega) (by omega) (fun h20 => ?_) (fun h20 => ?_)
    · exact absurd h20 exb
    · refine a_iconst (v := nI 0) dX12_routeOf_23 (by decide) ?_
      refine a_istore (L' := [_, _, _, _, _, _, _, _]) dX12_routeOf_24 (Nat.le_of_ble_eq_true rfl) rfl ?_
      refine lp_ro2 hR hb hw (fun a => wyR_le ..) hx (by omega) hm m1 (fun j hj => m4 j (by omega) hj) ?_ 0 (by omega)
      refine a_aload_n dX12_routeOf_94 rfl ?_
      refine a_aload_n dX12_routeOf_95 rfl ?_
      refine a_geti dX12_routeOf_96 kf_X12_168 ⟨by decide, _, rfl, rfl⟩ rfl ?_
      refine a_iload dX12_routeOf_99 rfl ?_
      refine a_ticmp_ne (tgt := 109) (pj := 113) (a := v) (b := (nI m)) dX12_routeOf_101 (by decide) (fun kj => ?_) (fun kj => ?_) ?_
      · refine a_aload_n dX12_routeOf_109 rfl ?_
        refine a_geti dX12_routeOf_110 kf_X12_171 ⟨by decide, _, rfl, rfl⟩ rfl ?_
        exact kj
      · refine a_iload dX12_routeOf_104 rfl ?_
        refine a_goto (tgt := 113) dX12_routeOf_106 (by decide) ?_
        exact kj
      refine a_puti dX12_routeOf_113 kp_X12_171 ⟨by decide, _, rfl, rfl⟩ ?_
      refine a_iload dX12_routeOf_116 rfl ?_
      refine a_iconst (v := nI 1) dX12_routeOf_118 (by decide) ?_
      refine a_iload dX12_routeOf_119 rfl ?_
      refine a_ishl dX12_routeOf_121 (bx_shl (by omega)) ?_
      refine a_ior dX12_routeOf_122 (bx_or _ _) ?_
      refine a_istore (L' := [_, _, _, _, _, _, _, _]) dX12_routeOf_123 (Nat.le_of_ble_eq_true rfl) rfl ?_
      refine a_aload_n dX12_routeOf_125 rfl ?_
      refine a_getr dX12_routeOf_126 kf_X12_23 ⟨by decide, _, rfl, rfl⟩ ?_
      refine a_iload dX12_routeOf_129 rfl ?_
      refine a_iald dX12_routeOf_131 ⟨by decide, rfl⟩ (by omega) f3 ?_
      refine a_istore (L' := [_, _, _, _, _, _, _, _]) dX12_routeOf_132 (Nat.le_of_ble_eq_true rfl) rfl ?_
      refine a_aload_n dX12_routeOf_134 rfl ?_
      refine a_dup dX12_routeOf_135 rfl ?_
      refine a_geti dX12_routeOf_136 kf_X12_168 ⟨by decide, _, rfl, rfl⟩ rfl ?_
      refine a_iconst (v := nI 1) dX12_routeOf_139 (by decide) ?_
      refine a_iadd dX12_routeOf_140 (by first | exact nI_add _ _ | rfl) ?_
      refine a_puti dX12_routeOf_141 kp_X12_168 ⟨by decide, _, rfl, rfl⟩ ?_
      refine a_mem (mRt_s I (nI c) v _ _) ?_
      refine a_goto (tgt := 17) dX12_routeOf_144 (by decide) ?_
      refine ih (T m) (s ||| 2 ^ m) (c + 1) _ _ (by omega) (by omega) f4 (bx_lt hs (by omega)) ?_
      rw [bN, ← Nat.or_assoc, List.length_cons, lnAt, show c + ((rtL F T S n b (wyR F T S n b N) f (T m)).length + 1) = c + 1 + (rtL F T S n b (wyR F T S n b N) f (T m)).length by omega] at hK
      exact hK

def rtO (F T : Nat → Nat) (S : Nat → Bool) (n N a b : Nat) : List Nat := rtL F T S n b (wyR F T S n b N) (wyR F T S n b N a) a
set_option maxHeartbeats 4000000 in
set_option maxRecDepth 100000 in
theorem c_routeOf {G : am_G} {d : Nat} {I : am_I} {J : am_J} {K : Int32 → am_I → am_J → Prop} {N n a b : Nat} {oth i : Int32} {F T : Nat → Nat} {S : Nat → Bool} (hR : rwR I oth N n F T S) (ha : a < N) (hb : b < N) (hw : ∀ a, a < 6 → I 76 (6 * a + b) = nI (wyR F T S n b N a)) (hlt : wyR F T S n b N a < 100) (hK : K (nI (bN (rtO F T S n N a b))) (mRt I (nI (rtO F T S n N a b).length) (lnAt i (rtO F T S n N a b) 0 (-9))) J) : CMi G d yX12_routeOf [.ref 63, .int (nI a), .int (nI b), .int oth, .int i] I J K := by
  refine CM.of (L0 := [_, _, _, _, _, _, _, _]) cX12_routeOf 8 (some .int) (by decide) (by decide) kcX12_routeOf (Nat.le_of_ble_eq_true rfl) rfl ?_
  refine a_iconst (v := nI 0) dX12_routeOf_0 (by decide) ?_
  refine a_istore (L' := [_, _, _, _, _, _, _, _]) dX12_routeOf_1 (Nat.le_of_ble_eq_true rfl) rfl ?_
  refine a_iload_n dX12_routeOf_3 rfl ?_
  refine a_istore (L' := [_, _, _, _, _, _, _, _]) dX12_routeOf_4 (Nat.le_of_ble_eq_true rfl) rfl ?_
  refine a_aload_n dX12_routeOf_6 rfl ?_
  refine a_iconst (v := nI 0) dX12_routeOf_7 (by decide) ?_
  refine a_puti dX12_routeOf_8 kp_X12_168 ⟨by decide, _, rfl, rfl⟩ ?_
  refine a_aload_n dX12_routeOf_11 rfl ?_
  refine a_bipush (v := (-9)) dX12_routeOf_12 (by decide) ?_
  refine a_puti dX12_routeOf_14 kp_X12_171 ⟨by decide, _, rfl, rfl⟩ ?_
  refine lp_ro1 hR hb hw _ a 0 0 (-9) none rfl hlt ha (by decide) ?_
  simpa [rtO] using hK

