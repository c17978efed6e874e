/-! ===== the reference: take, begin, isNothingLeft, beginSeeking ===== -/
def mTk (I : am_I) (g : Nat) (x : Int32) (i : Nat) : am_I := fun a b => if a = 82 ∧ b < i then I 82 b - (if g.testBit b = true then x else nI 0) else I a b
theorem mTk_s (I : am_I) (g : Nat) (x : Int32) (i : Nat) : am_up (mTk I g x i) 82 i (I 82 i - (if g.testBit i = true then x else nI 0)) = mTk I g x (i + 1) := by
  funext a b
  simp only [am_up, mTk]
  by_cases h1 : a = 82
  · subst h1
    by_cases h2 : b = i
    · subst h2
      simp
    · by_cases h3 : b < i
      · simp [h2, h3, show b < i + 1 by omega]
      · simp [h2, h3, show ¬ b < i + 1 by omega]
  · simp [h1]
theorem mTk_at (I : am_I) (g : Nat) (x : Int32) (i : Nat) : mTk I g x i 82 i = I 82 i := by simp [mTk]
set_option maxHeartbeats 4000000 in
set_option maxRecDepth 100000 in
theorem lp_take {G : am_G} {d : Nat} {I0 : am_I} {J : am_J} {K : am_I → am_J → Prop} {n k g : Nat} {x : Int32} (hn : I0 63 4 = nI n) (hn12 : n ≤ 12) (hk : I0 63 31 = nI k) (hk36 : k < 36) (hg : I0 79 k = nI g) (hg12 : g < 2 ^ 12) (hK : K (mTk I0 g x n) J) : ∀ i, i ≤ n → AW G cX12_take 3 RX12 d (am_ex G none (fun r I J => r = none ∧ K I J)) 2 [some (.ref 63), some (.int x), some (.int (nI i))] [] (mTk I0 g x i) J := by
  refine am_dn (n) (fun i hi ih => ?_)
  refine a_iload_n dX12_take_2 rfl ?_
  refine a_aload_n dX12_take_3 rfl ?_
  refine a_geti dX12_take_4 kf_X12_115 ⟨by decide, _, rfl, rfl⟩ hn ?_
  refine a_icmp_geN (tgt := 47) dX12_take_7 (by decide) (by omega) (by omega) (fun h => ?_) (fun h => ?_)
  · obtain rfl : i = n := by omega
    exact a_vreturn dX12_take_47 ⟨rfl, hK⟩
  · refine a_aload_n dX12_take_10 rfl ?_
    refine a_getr dX12_take_11 kf_X12_69 ⟨by decide, _, rfl, rfl⟩ ?_
    refine a_iload_n dX12_take_14 rfl ?_
    refine a_dup2 dX12_take_15 rfl rfl ?_
    refine a_iald dX12_take_16 ⟨by decide, rfl⟩ (by omega) (mTk_at I0 g x i) ?_
    refine a_aload_n dX12_take_17 rfl ?_
    refine a_getr dX12_take_18 kf_X12_60 ⟨by decide, _, rfl, rfl⟩ ?_
    refine a_aload_n dX12_take_21 rfl ?_
    refine a_geti dX12_take_22 kf_X12_181 ⟨by decide, _, rfl, rfl⟩ hk ?_
    refine a_iald dX12_take_25 ⟨by decide, rfl⟩ (by omega) hg ?_
    refine a_iload_n dX12_take_26 rfl ?_
    refine a_ishr dX12_take_27 rfl ?_
    refine a_iconst (v := nI 1) dX12_take_28 (by decide) ?_
    refine a_iand dX12_take_29 rfl ?_
    refine a_iconst (v := nI 1) dX12_take_30 (by decide) ?_
    refine a_ticmp_ne (tgt := 38) (pj := 39) (a := (nI 0)) (b := x) dX12_take_31 (by decide) (fun kj => ?_) (fun kj => ?_) ?_
    · refine a_iconst (v := nI 0) dX12_take_38 (by decide) ?_
      exact kj
    · refine a_iload_n dX12_take_34 rfl ?_
      refine a_goto (tgt := 39) dX12_take_35 (by decide) ?_
      exact kj
    refine a_topi (v := if g.testBit i = true then x else nI 0) (by simp only [bx_bit1 (show g < 2 ^ 31 by omega) (show i < 31 by omega)]) ?_
    refine a_isub dX12_take_39 rfl ?_
    refine a_iast dX12_take_40 ⟨by decide, rfl⟩ (by omega) ?_
    refine a_mem (mTk_s I0 g x i) ?_
    refine a_iinc (L' := [_, _, _]) dX12_take_41 rfl (nI_inc _) rfl ?_
    refine a_goto (tgt := 2) dX12_take_44 (by decide) ?_
    exact ih (i + 1) (by omega) (by omega)

set_option maxHeartbeats 4000000 in
set_option maxRecDepth 100000 in
theorem c_take {G : am_G} {d : Nat} {I : am_I} {J : am_J} {K : am_I → am_J → Prop} {n k g : Nat} {x : Int32} (hn : I 63 4 = nI n) (hn12 : n ≤ 12) (hk : I 63 31 = nI k) (hk36 : k < 36) (hg : I 79 k = nI g) (hg12 : g < 2 ^ 12) (hK : K (mTk I g x n) J) : CMv G d yX12_take [.ref 63, .int x] I J K := by
  refine CM.of (L0 := [_, _, _]) cX12_take 3 none (by decide) (by decide) kcX12_take (Nat.le_of_ble_eq_true rfl) rfl ?_
  refine a_iconst (v := nI 0) dX12_take_0 (by decide) ?_
  refine a_istore_n (L' := [_, _, _]) dX12_take_1 (Nat.le_of_ble_eq_true rfl) rfl ?_
  refine a_mem (I' := mTk I g x 0) (by funext a b; simp [mTk]) ?_
  exact lp_take hn hn12 hk hk36 hg hg12 hK 0 (by omega)

theorem allB_s (q : Nat → Bool) (i : Nat) : allB q (i + 1) = (allB q i && q i) := rfl
theorem nl_f {q : Nat → Bool} {i : Nat} (h : (if allB q i = true then nI 1 else nI 0) = 0) : nI 0 = (if allB q (i + 1) = true then nI 1 else nI 0) := by
  rw [allB_s]
  by_cases e : allB q i = true
  · rw [if_pos e] at h
    exact absurd h (by decide)
  · simp [e]
theorem min_sel {a b : Nat} (ha : a < 2 ^ 31) (hb : b < 2 ^ 31) : (if nI b ≤ nI a then nI b else nI a) = nI (if a < b then a else b) := by
  by_cases q : a < b
  · rw [if_neg (fun z => by have := (nI_leI hb ha).mp z; omega), if_pos q]
  · rw [if_pos ((nI_leI hb ha).mpr (by omega)), if_neg q]
def nlQ (I : am_I) : Nat → Bool := fun l => decide (I 70 l = -9) || decide (I 82 l = 0)
set_option maxHeartbeats 4000000 in
set_option maxRecDepth 100000 in
theorem lp_nl {G : am_G} {d : Nat} {I0 : am_I} {J : am_J} {K : Int32 → am_I → am_J → Prop} {n : Nat} (hn : I0 63 4 = nI n) (hn12 : n ≤ 12) (hK : K (if allB (nlQ I0) n = true then nI 1 else nI 0) I0 J) : ∀ i, i ≤ n → AW G cX12_isNothingLeft 3 RX12 d (am_ex G (some .boolean) (fun r I J => ∃ x, r = some (.int x) ∧ K x I J)) 4 [some (.ref 63), some (.int (if allB (nlQ I0) i = true then nI 1 else nI 0)), some (.int (nI i))] [] I0 J := by
  refine am_dn (n) (fun i hi ih => ?_)
  refine a_iload_n dX12_isNothingLeft_4 rfl ?_
  refine a_aload_n dX12_isNothingLeft_5 rfl ?_
  refine a_geti dX12_isNothingLeft_6 kf_X12_115 ⟨by decide, _, rfl, rfl⟩ hn ?_
  refine a_icmp_geN (tgt := 48) dX12_isNothingLeft_9 (by decide) (by omega) (by omega) (fun h => ?_) (fun h => ?_)
  · obtain rfl : i = n := by omega
    refine a_iload_n dX12_isNothingLeft_48 rfl ?_
    exact a_zreturn dX12_isNothingLeft_49 (by split; exact Or.inr rfl; exact Or.inl rfl) ⟨_, rfl, hK⟩
  · refine a_join 41 [.int (if allB (nlQ I0) (i + 1) = true then nI 1 else nI 0)] ?_ (fun kj => ?_)
    · refine a_istore_n (L' := [_, _, _]) dX12_isNothingLeft_41 (Nat.le_of_ble_eq_true rfl) rfl ?_
      refine a_iinc (L' := [_, _, _]) dX12_isNothingLeft_42 rfl (nI_inc _) rfl ?_
      refine a_goto (tgt := 4) dX12_isNothingLeft_45 (by decide) ?_
      exact ih (i + 1) (by omega) (by omega)
    · refine a_iload_n dX12_isNothingLeft_12 rfl ?_
      refine a_if_eq (tgt := 40) dX12_isNothingLeft_13 (by decide) (fun h13 => ?_) (fun h13 => ?_)
      · refine a_iconst (v := nI 0) dX12_isNothingLeft_40 (by decide) ?_
        exact a_topi (nl_f h13) kj
      · have e : allB (nlQ I0) i = true := Classical.byContradiction fun q => h13 (by rw [if_neg q]; rfl)
        refine a_aload_n dX12_isNothingLeft_16 rfl ?_
        refine a_getr dX12_isNothingLeft_17 kf_X12_33 ⟨by decide, _, rfl, rfl⟩ ?_
        refine a_iload_n dX12_isNothingLeft_20 rfl ?_
        refine a_iald dX12_isNothingLeft_21 ⟨by decide, rfl⟩ (by omega) rfl ?_
        refine a_bipush (v := (-9)) dX12_isNothingLeft_22 (by decide) ?_
        refine a_icmp_eq (tgt := 36) dX12_isNothingLeft_24 (by decide) (fun h24 => ?_) (fun h24 => ?_)
        · refine a_iconst (v := nI 1) dX12_isNothingLeft_36 (by decide) ?_
          refine a_goto (tgt := 41) dX12_isNothingLeft_37 (by decide) ?_
          exact a_topi (by rw [allB_s, e]; simp [nlQ, h24]) kj
        · refine a_aload_n dX12_isNothingLeft_27 rfl ?_
          refine a_getr dX12_isNothingLeft_28 kf_X12_69 ⟨by decide, _, rfl, rfl⟩ ?_
          refine a_iload_n dX12_isNothingLeft_31 rfl ?_
          refine a_iald dX12_isNothingLeft_32 ⟨by decide, rfl⟩ (by omega) rfl ?_
          refine a_if_ne (tgt := 40) dX12_isNothingLeft_33 (by decide) (fun h33 => ?_) (fun h33 => ?_)
          · refine a_iconst (v := nI 0) dX12_isNothingLeft_40 (by decide) ?_
            exact a_topi (by rw [allB_s, e]; simp [nlQ, h24, h33]) kj
          · refine a_iconst (v := nI 1) dX12_isNothingLeft_36 (by decide) ?_
            refine a_goto (tgt := 41) dX12_isNothingLeft_37 (by decide) ?_
            exact a_topi (by rw [allB_s, e]; simp [nlQ, h33]) kj

set_option maxHeartbeats 4000000 in
set_option maxRecDepth 100000 in
theorem c_nl {G : am_G} {d : Nat} {I : am_I} {J : am_J} {K : Int32 → am_I → am_J → Prop} {n : Nat} (hn : I 63 4 = nI n) (hn12 : n ≤ 12) (hK : K (if allB (nlQ I) n = true then nI 1 else nI 0) I J) : CMi G d yX12_isNothingLeft [.ref 63] I J K := by
  refine CM.of (L0 := [_, _, _]) cX12_isNothingLeft 3 (some .boolean) (by decide) (by decide) kcX12_isNothingLeft (Nat.le_of_ble_eq_true rfl) rfl ?_
  refine a_iconst (v := nI 1) dX12_isNothingLeft_0 (by decide) ?_
  refine a_istore_n (L' := [_, _, _]) dX12_isNothingLeft_1 (Nat.le_of_ble_eq_true rfl) rfl ?_
  refine a_iconst (v := nI 0) dX12_isNothingLeft_2 (by decide) ?_
  refine a_istore_n (L' := [_, _, _]) dX12_isNothingLeft_3 (Nat.le_of_ble_eq_true rfl) rfl ?_
  exact lp_nl hn hn12 hK 0 (by omega)

def fxI : Option Nat → Int32
  | none => -9
  | some f => nI f
theorem prd_eq {a b : Nat} (ha : a < 2 ^ 30) (hb : b < 2 ^ 30) : nI a - nI 1 = nI b - nI 1 ↔ a = b := by
  rw [← Int32.toInt_inj, pk_sub_toInt ha (by decide), pk_sub_toInt hb (by decide)]
  omega
theorem prd_le {a b : Nat} (ha : a < 2 ^ 30) (hb : b < 2 ^ 30) : nI a - nI 1 ≤ nI b - nI 1 ↔ a ≤ b := by
  rw [Int32.le_iff_toInt_le, pk_sub_toInt ha (by decide), pk_sub_toInt hb (by decide)]
  omega
theorem prd_s (a : Nat) : nI (a + 1) - nI 1 = nI a := nI_pred a
set_option maxHeartbeats 4000000 in
set_option maxRecDepth 100000 in
theorem lp_beg {G : am_G} {d : Nat} {I0 : am_I} {J : am_J} {Ex : am_Ex} {n k g la : Nat} {lf : Nat → Nat} (hn : I0 63 4 = nI n) (hn12 : n ≤ 12) (hk : I0 63 31 = nI k) (hk36 : k < 36) (hg : I0 79 k = nI g) (hg12 : g < 2 ^ 12) (hla : I0 80 k = nI la) (hla12 : la < 2 ^ 12) (hlf : ∀ l, l < n → g.testBit l = true → I0 82 l = nI (lf l)) (hlf2 : ∀ l, lf l ≤ 200) (kx : ∀ v4, AW G cX12_begin 5 RX12 d Ex 110 [some (.ref 63), some (.int (nI (begN g la lf n).1)), some (.int (nI (begN g la lf n).2)), some (.int (nI n)), v4] [] I0 J) : ∀ i, i ≤ n → ∀ v4, AW G cX12_begin 5 RX12 d Ex 20 [some (.ref 63), some (.int (nI (begN g la lf i).1)), some (.int (nI (begN g la lf i).2)), some (.int (nI i)), v4] [] I0 J := by
  refine am_dn n (fun i hi ih => ?_)
  intro v4
  have b1 := (begN_le g la lf i).1
  have b2 := begN_lo g la lf 200 hlf2 i
  have b3 := hlf2 i
  refine a_iload_n dX12_begin_20 rfl ?_
  refine a_aload_n dX12_begin_21 rfl ?_
  refine a_geti dX12_begin_22 kf_X12_115 ⟨by decide, _, rfl, rfl⟩ hn ?_
  refine a_icmp_geN (tgt := 110) dX12_begin_25 (by decide) (by omega) (by omega) (fun h => ?_) (fun h => ?_)
  · obtain rfl : i = n := by omega
    exact kx _
  · refine a_aload_n dX12_begin_28 rfl ?_
    refine a_getr dX12_begin_29 kf_X12_60 ⟨by decide, _, rfl, rfl⟩ ?_
    refine a_aload_n dX12_begin_32 rfl ?_
    refine a_geti dX12_begin_33 kf_X12_181 ⟨by decide, _, rfl, rfl⟩ hk ?_
    refine a_iald dX12_begin_36 ⟨by decide, rfl⟩ (by omega) hg ?_
    refine a_iload_n dX12_begin_37 rfl ?_
    refine a_ishr dX12_begin_38 rfl ?_
    refine a_iconst (v := nI 1) dX12_begin_39 (by decide) ?_
    refine a_iand dX12_begin_40 rfl ?_
    refine a_iconst (v := nI 1) dX12_begin_41 (by decide) ?_
    refine a_icmp_ne (tgt := 104) dX12_begin_42 (by decide) (fun h42 => ?_) (fun h42 => ?_)
    · refine a_iinc (L' := [_, _, _, _, _]) dX12_begin_104 rfl (nI_inc _) rfl ?_
      refine a_goto (tgt := 20) dX12_begin_107 (by decide) ?_
      have z := ih (i + 1) (by omega) (by omega) v4
      rw [begN, if_neg (fun q => h42 ((bx_bit1 (by omega) (by omega)).mpr q))] at z
      exact z
    · have hgb : g.testBit i = true := (bx_bit1 (by omega) (by omega)).mp h42
      have e82 := hlf i h hgb
      refine a_aload_n dX12_begin_45 rfl ?_
      refine a_getr dX12_begin_46 kf_X12_69 ⟨by decide, _, rfl, rfl⟩ ?_
      refine a_iload_n dX12_begin_49 rfl ?_
      refine a_iald dX12_begin_50 ⟨by decide, rfl⟩ (by omega) e82 ?_
      refine a_iload_n dX12_begin_51 rfl ?_
      refine a_ticmp_ge (tgt := 64) (pj := 65) (a := (nI (begN g la lf i).2)) (b := (nI (lf i))) dX12_begin_52 (by decide) (fun kj => ?_) (fun kj => ?_) ?_
      · refine a_iload_n dX12_begin_64 rfl ?_
        exact kj
      · refine a_aload_n dX12_begin_55 rfl ?_
        refine a_getr dX12_begin_56 kf_X12_69 ⟨by decide, _, rfl, rfl⟩ ?_
        refine a_iload_n dX12_begin_59 rfl ?_
        refine a_iald dX12_begin_60 ⟨by decide, rfl⟩ (by omega) e82 ?_
        refine a_goto (tgt := 65) dX12_begin_61 (by decide) ?_
        exact kj
      refine a_topi (v := nI (if lf i < (begN g la lf i).2 then lf i else (begN g la lf i).2)) (min_sel (by omega) (by omega)) ?_
      refine a_istore_n (L' := [_, _, _, _, _]) dX12_begin_65 (Nat.le_of_ble_eq_true rfl) rfl ?_
      refine a_join 103 [.int (nI (if la.testBit i = true ∧ (begN g la lf i).1 < lf i then lf i else (begN g la lf i).1))] ?_ (fun kj => ?_)
      · refine a_istore_n (L' := [_, _, _, _, _]) dX12_begin_103 (Nat.le_of_ble_eq_true rfl) rfl ?_
        refine a_iinc (L' := [_, _, _, _, _]) dX12_begin_104 rfl (nI_inc _) rfl ?_
        refine a_goto (tgt := 20) dX12_begin_107 (by decide) ?_
        have z := ih (i + 1) (by omega) (by omega) v4
        rw [begN, if_pos hgb] at z
        exact z
      · refine a_aload_n dX12_begin_66 rfl ?_
        refine a_getr dX12_begin_67 kf_X12_63 ⟨by decide, _, rfl, rfl⟩ ?_
        refine a_aload_n dX12_begin_70 rfl ?_
        refine a_geti dX12_begin_71 kf_X12_181 ⟨by decide, _, rfl, rfl⟩ hk ?_
        refine a_iald dX12_begin_74 ⟨by decide, rfl⟩ (by omega) hla ?_
        refine a_iload_n dX12_begin_75 rfl ?_
        refine a_ishr dX12_begin_76 rfl ?_
        refine a_iconst (v := nI 1) dX12_begin_77 (by decide) ?_
        refine a_iand dX12_begin_78 rfl ?_
        refine a_iconst (v := nI 1) dX12_begin_79 (by decide) ?_
        refine a_icmp_ne (tgt := 102) dX12_begin_80 (by decide) (fun h80 => ?_) (fun h80 => ?_)
        · refine a_iload_n dX12_begin_102 rfl ?_
          exact a_topi (by rw [if_neg (fun q => h80 ((bx_bit1 (by omega) (by omega)).mpr q.1))]) kj
        · have hlb : la.testBit i = true := (bx_bit1 (by omega) (by omega)).mp h80
          refine a_aload_n dX12_begin_83 rfl ?_
          refine a_getr dX12_begin_84 kf_X12_69 ⟨by decide, _, rfl, rfl⟩ ?_
          refine a_iload_n dX12_begin_87 rfl ?_
          refine a_iald dX12_begin_88 ⟨by decide, rfl⟩ (by omega) e82 ?_
          refine a_iload_n dX12_begin_89 rfl ?_
          refine a_icmp_leN (tgt := 102) dX12_begin_90 (by decide) (by omega) (by omega) (fun h90 => ?_) (fun h90 => ?_)
          · refine a_iload_n dX12_begin_102 rfl ?_
            exact a_topi (by rw [if_neg (fun q => by omega)]) kj
          · refine a_aload_n dX12_begin_93 rfl ?_
            refine a_getr dX12_begin_94 kf_X12_69 ⟨by decide, _, rfl, rfl⟩ ?_
            refine a_iload_n dX12_begin_97 rfl ?_
            refine a_iald dX12_begin_98 ⟨by decide, rfl⟩ (by omega) e82 ?_
            refine a_goto (tgt := 103) dX12_begin_99 (by decide) ?_
            exact a_topi (by rw [if_pos ⟨hlb, h90⟩]) kj

def mBg (I : am_I) (k : Nat) (r : Nat × Nat) : am_I := am_up (am_up I 83 k (nI r.1 - nI 1)) 84 k (nI r.2 - nI 1)
set_option maxHeartbeats 4000000 in
set_option maxRecDepth 100000 in
theorem c_begin {G : am_G} {d : Nat} {I : am_I} {J : am_J} {K : am_I → am_J → Prop} {n m k g la s : Nat} {lf : Nat → Nat} {fx : Option Nat} (hn : I 63 4 = nI n) (hn12 : n ≤ 12) (hk : I 63 31 = nI k) (hk36 : k < 36) (hg : I 79 k = nI g) (hg12 : g < 2 ^ 12) (hla : I 80 k = nI la) (hla12 : la < 2 ^ 12) (hlf : ∀ l, l < n → g.testBit l = true → I 82 l = nI (lf l)) (hlf2 : ∀ l, lf l ≤ 200) (hm : I 63 20 = nI m) (hkm : k < m) (hm36 : m ≤ 36) (hs : I 77 k = nI s) (hs36 : s < 36) (hfx : I 81 s = fxI fx) (hfx2 : ∀ f, fx = some f → f ≤ 200) (hK : K (mBg I k (rgN fx (begN g la lf n))) J) : CMv G d yX12_begin [.ref 63] I J K := by
  refine CM.of (L0 := [_, _, _, _, _]) cX12_begin 5 none (by decide) (by decide) kcX12_begin (Nat.le_of_ble_eq_true rfl) rfl ?_
  refine a_aload_n dX12_begin_0 rfl ?_
  refine a_geti dX12_begin_1 kf_X12_181 ⟨by decide, _, rfl, rfl⟩ hk ?_
  refine a_aload_n dX12_begin_4 rfl ?_
  refine a_geti dX12_begin_5 kf_X12_178 ⟨by decide, _, rfl, rfl⟩ hm ?_
  refine a_icmp_ltN (tgt := 12) dX12_begin_8 (by decide) (by omega) (by omega) (fun h8 => ?_) (fun h8 => ?_)
  · refine a_iconst (v := nI 0) dX12_begin_12 (by decide) ?_
    refine a_istore_n (L' := [_, _, _, _, _]) dX12_begin_13 (Nat.le_of_ble_eq_true rfl) rfl ?_
    refine a_sipush (v := nI 200) dX12_begin_14 (by decide) ?_
    refine a_istore_n (L' := [_, _, _, _, _]) dX12_begin_17 (Nat.le_of_ble_eq_true rfl) rfl ?_
    refine a_iconst (v := nI 0) dX12_begin_18 (by decide) ?_
    refine a_istore_n (L' := [_, _, _, _, _]) dX12_begin_19 (Nat.le_of_ble_eq_true rfl) rfl ?_
    refine lp_beg hn hn12 hk hk36 hg hg12 hla hla12 hlf hlf2 (fun v4 => ?_) 0 (by omega) none
    have b1 := (begN_le g la lf n).1
    have b2 := begN_lo g la lf 200 hlf2 n
    cases fx with
    | none =>
      refine a_aload_n dX12_begin_110 rfl ?_
      refine a_getr dX12_begin_111 kf_X12_66 ⟨by decide, _, rfl, rfl⟩ ?_
      refine a_aload_n dX12_begin_114 rfl ?_
      refine a_getr dX12_begin_115 kf_X12_54 ⟨by decide, _, rfl, rfl⟩ ?_
      refine a_aload_n dX12_begin_118 rfl ?_
      refine a_geti dX12_begin_119 kf_X12_181 ⟨by decide, _, rfl, rfl⟩ hk ?_
      refine a_iald dX12_begin_122 ⟨by decide, rfl⟩ (by omega) hs ?_
      refine a_iald dX12_begin_123 ⟨by decide, rfl⟩ (by omega) hfx ?_
      refine a_istore_n (L' := [_, _, _, _, _]) dX12_begin_124 (Nat.le_of_ble_eq_true rfl) rfl ?_
      refine a_iload_n dX12_begin_125 rfl ?_
      refine a_bipush (v := (-9)) dX12_begin_126 (by decide) ?_
      refine a_icmp_eq (tgt := 163) dX12_begin_128 (by decide) (fun h128 => ?_) (fun h128 => ?_)
      · refine a_aload_n dX12_begin_163 rfl ?_
        refine a_getr dX12_begin_164 kf_X12_72 ⟨by decide, _, rfl, rfl⟩ ?_
        refine a_aload_n dX12_begin_167 rfl ?_
        refine a_geti dX12_begin_168 kf_X12_181 ⟨by decide, _, rfl, rfl⟩ hk ?_
        refine a_iload_n dX12_begin_171 rfl ?_
        refine a_iconst (v := nI 1) dX12_begin_172 (by decide) ?_
        refine a_isub dX12_begin_173 rfl ?_
        refine a_topi (v := nI (rgN none (begN g la lf n)).1 - nI 1) rfl ?_
        refine a_iast dX12_begin_174 ⟨by decide, rfl⟩ (by omega) ?_
        refine a_aload_n dX12_begin_175 rfl ?_
        refine a_getr dX12_begin_176 kf_X12_75 ⟨by decide, _, rfl, rfl⟩ ?_
        refine a_aload_n dX12_begin_179 rfl ?_
        refine a_geti dX12_begin_180 kf_X12_181 ⟨by decide, _, rfl, rfl⟩ hk ?_
        refine a_iload_n dX12_begin_183 rfl ?_
        refine a_topi (v := nI (rgN none (begN g la lf n)).2 - nI 1) (prd_s _).symm ?_
        refine a_iast dX12_begin_184 ⟨by decide, rfl⟩ (by omega) ?_
        exact a_vreturn dX12_begin_185 ⟨rfl, hK⟩
      · exact absurd rfl h128
    | some f =>
      have hf := hfx2 f rfl
      by_cases hc : (begN g la lf n).1 ≤ f ∧ f ≤ (begN g la lf n).2
      · refine a_aload_n dX12_begin_110 rfl ?_
        refine a_getr dX12_begin_111 kf_X12_66 ⟨by decide, _, rfl, rfl⟩ ?_
        refine a_aload_n dX12_begin_114 rfl ?_
        refine a_getr dX12_begin_115 kf_X12_54 ⟨by decide, _, rfl, rfl⟩ ?_
        refine a_aload_n dX12_begin_118 rfl ?_
        refine a_geti dX12_begin_119 kf_X12_181 ⟨by decide, _, rfl, rfl⟩ hk ?_
        refine a_iald dX12_begin_122 ⟨by decide, rfl⟩ (by omega) hs ?_
        refine a_iald dX12_begin_123 ⟨by decide, rfl⟩ (by omega) hfx ?_
        refine a_istore_n (L' := [_, _, _, _, _]) dX12_begin_124 (Nat.le_of_ble_eq_true rfl) rfl ?_
        refine a_iload_n dX12_begin_125 rfl ?_
        refine a_bipush (v := (-9)) dX12_begin_126 (by decide) ?_
        refine a_icmp_eq (tgt := 163) dX12_begin_128 (by decide) (fun h128 => ?_) (fun h128 => ?_)
        · exact absurd h128 (nI_ne_neg (by omega) (by decide))
        · refine a_iload_n dX12_begin_131 rfl ?_
          refine a_iload_n dX12_begin_132 rfl ?_
          refine a_icmp_ltN (tgt := 145) dX12_begin_133 (by decide) (by omega) (by omega) (fun h133 => ?_) (fun h133 => ?_)
          · exact absurd hc.1 (by omega)
          · refine a_iload_n dX12_begin_136 rfl ?_
            refine a_iload_n dX12_begin_137 rfl ?_
            refine a_icmp_gtN (tgt := 145) dX12_begin_138 (by decide) (by omega) (by omega) (fun h138 => ?_) (fun h138 => ?_)
            · exact absurd hc.2 (by omega)
            · refine a_iconst (v := nI 1) dX12_begin_141 (by decide) ?_
              refine a_goto (tgt := 146) dX12_begin_142 (by decide) ?_
              refine a_istore (L' := [_, _, _, _, _]) dX12_begin_146 (Nat.le_of_ble_eq_true rfl) rfl ?_
              refine a_iload_n dX12_begin_148 rfl ?_
              refine a_istore_n (L' := [_, _, _, _, _]) dX12_begin_149 (Nat.le_of_ble_eq_true rfl) rfl ?_
              refine a_iload dX12_begin_150 rfl ?_
              refine a_if_eq (tgt := 159) dX12_begin_152 (by decide) (fun h152 => ?_) (fun h152 => ?_)
              · exact absurd h152 (by decide)
              · refine a_iload_n dX12_begin_155 rfl ?_
                refine a_goto (tgt := 162) dX12_begin_156 (by decide) ?_
                refine a_istore_n (L' := [_, _, _, _, _]) dX12_begin_162 (Nat.le_of_ble_eq_true rfl) rfl ?_
                refine a_aload_n dX12_begin_163 rfl ?_
                refine a_getr dX12_begin_164 kf_X12_72 ⟨by decide, _, rfl, rfl⟩ ?_
                refine a_aload_n dX12_begin_167 rfl ?_
                refine a_geti dX12_begin_168 kf_X12_181 ⟨by decide, _, rfl, rfl⟩ hk ?_
                refine a_iload_n dX12_begin_171 rfl ?_
                refine a_iconst (v := nI 1) dX12_begin_172 (by decide) ?_
                refine a_isub dX12_begin_173 rfl ?_
                refine a_topi (v := nI (rgN (some f) (begN g la lf n)).1 - nI 1) rfl ?_
                refine a_iast dX12_begin_174 ⟨by decide, rfl⟩ (by omega) ?_
                refine a_aload_n dX12_begin_175 rfl ?_
                refine a_getr dX12_begin_176 kf_X12_75 ⟨by decide, _, rfl, rfl⟩ ?_
                refine a_aload_n dX12_begin_179 rfl ?_
                refine a_geti dX12_begin_180 kf_X12_181 ⟨by decide, _, rfl, rfl⟩ hk ?_
                refine a_iload_n dX12_begin_183 rfl ?_
                refine a_topi (v := nI (rgN (some f) (begN g la lf n)).2 - nI 1) (by rw [rgN]; simp only [if_pos hc]; exact (prd_s f).symm) ?_
                refine a_iast dX12_begin_184 ⟨by decide, rfl⟩ (by omega) ?_
                exact a_vreturn dX12_begin_185 ⟨rfl, hK⟩
      · refine a_aload_n dX12_begin_110 rfl ?_
        refine a_getr dX12_begin_111 kf_X12_66 ⟨by decide, _, rfl, rfl⟩ ?_
        refine a_aload_n dX12_begin_114 rfl ?_
        refine a_getr dX12_begin_115 kf_X12_54 ⟨by decide, _, rfl, rfl⟩ ?_
        refine a_aload_n dX12_begin_118 rfl ?_
        refine a_geti dX12_begin_119 kf_X12_181 ⟨by decide, _, rfl, rfl⟩ hk ?_
        refine a_iald dX12_begin_122 ⟨by decide, rfl⟩ (by omega) hs ?_
        refine a_iald dX12_begin_123 ⟨by decide, rfl⟩ (by omega) hfx ?_
        refine a_istore_n (L' := [_, _, _, _, _]) dX12_begin_124 (Nat.le_of_ble_eq_true rfl) rfl ?_
        refine a_iload_n dX12_begin_125 rfl ?_
        refine a_bipush (v := (-9)) dX12_begin_126 (by decide) ?_
        refine a_icmp_eq (tgt := 163) dX12_begin_128 (by decide) (fun h128 => ?_) (fun h128 => ?_)
        · exact absurd h128 (nI_ne_neg (by omega) (by decide))
        · refine a_iload_n dX12_begin_131 rfl ?_
          refine a_iload_n dX12_begin_132 rfl ?_
          refine a_icmp_ltN (tgt := 145) dX12_begin_133 (by decide) (by omega) (by omega) (fun h133 => ?_) (fun h133 => ?_)
          · refine a_iconst (v := nI 0) dX12_begin_145 (by decide) ?_
            refine a_istore (L' := [_, _, _, _, _]) dX12_begin_146 (Nat.le_of_ble_eq_true rfl) rfl ?_
            refine a_iload_n dX12_begin_148 rfl ?_
            refine a_istore_n (L' := [_, _, _, _, _]) dX12_begin_149 (Nat.le_of_ble_eq_true rfl) rfl ?_
            refine a_iload dX12_begin_150 rfl ?_
            refine a_if_eq (tgt := 159) dX12_begin_152 (by decide) (fun h152 => ?_) (fun h152 => ?_)
            · refine a_iload_n dX12_begin_159 rfl ?_
              refine a_iconst (v := nI 1) dX12_begin_160 (by decide) ?_
              refine a_isub dX12_begin_161 rfl ?_
              refine a_istore_n (L' := [_, _, _, _, _]) dX12_begin_162 (Nat.le_of_ble_eq_true rfl) rfl ?_
              refine a_aload_n dX12_begin_163 rfl ?_
              refine a_getr dX12_begin_164 kf_X12_72 ⟨by decide, _, rfl, rfl⟩ ?_
              refine a_aload_n dX12_begin_167 rfl ?_
              refine a_geti dX12_begin_168 kf_X12_181 ⟨by decide, _, rfl, rfl⟩ hk ?_
              refine a_iload_n dX12_begin_171 rfl ?_
              refine a_iconst (v := nI 1) dX12_begin_172 (by decide) ?_
              refine a_isub dX12_begin_173 rfl ?_
              refine a_topi (v := nI (rgN (some f) (begN g la lf n)).1 - nI 1) rfl ?_
              refine a_iast dX12_begin_174 ⟨by decide, rfl⟩ (by omega) ?_
              refine a_aload_n dX12_begin_175 rfl ?_
              refine a_getr dX12_begin_176 kf_X12_75 ⟨by decide, _, rfl, rfl⟩ ?_
              refine a_aload_n dX12_begin_179 rfl ?_
              refine a_geti dX12_begin_180 kf_X12_181 ⟨by decide, _, rfl, rfl⟩ hk ?_
              refine a_iload_n dX12_begin_183 rfl ?_
              refine a_topi (v := nI (rgN (some f) (begN g la lf n)).2 - nI 1) (by rw [rgN]; simp only [if_neg hc]; rfl) ?_
              refine a_iast dX12_begin_184 ⟨by decide, rfl⟩ (by omega) ?_
              exact a_vreturn dX12_begin_185 ⟨rfl, hK⟩
            · exact absurd rfl h152
          · refine a_iload_n dX12_begin_136 rfl ?_
            refine a_iload_n dX12_begin_137 rfl ?_
            refine a_icmp_gtN (tgt := 145) dX12_begin_138 (by decide) (by omega) (by omega) (fun h138 => ?_) (fun h138 => ?_)
            · refine a_iconst (v := nI 0) dX12_begin_145 (by decide) ?_
              refine a_istore (L' := [_, _, _, _, _]) dX12_begin_146 (Nat.le_of_ble_eq_true rfl) rfl ?_
              refine a_iload_n dX12_begin_148 rfl ?_
              refine a_istore_n (L' := [_, _, _, _, _]) dX12_begin_149 (Nat.le_of_ble_eq_true rfl) rfl ?_
              refine a_iload dX12_begin_150 rfl ?_
              refine a_if_eq (tgt := 159) dX12_begin_152 (by decide) (fun h152 => ?_) (fun h152 => ?_)
              · refine a_iload_n dX12_begin_159 rfl ?_
                refine a_iconst (v := nI 1) dX12_begin_160 (by decide) ?_
                refine a_isub dX12_begin_161 rfl ?_
                refine a_istore_n (L' := [_, _, _, _, _]) dX12_begin_162 (Nat.le_of_ble_eq_true rfl) rfl ?_
                refine a_aload_n dX12_begin_163 rfl ?_
                refine a_getr dX12_begin_164 kf_X12_72 ⟨by decide, _, rfl, rfl⟩ ?_
                refine a_aload_n dX12_begin_167 rfl ?_
                refine a_geti dX12_begin_168 kf_X12_181 ⟨by decide, _, rfl, rfl⟩ hk ?_
                refine a_iload_n dX12_begin_171 rfl ?_
                refine a_iconst (v := nI 1) dX12_begin_172 (by decide) ?_
                refine a_isub dX12_begin_173 rfl ?_
                refine a_topi (v := nI (rgN (some f) (begN g la lf n)).1 - nI 1) rfl ?_
                refine a_iast dX12_begin_174 ⟨by decide, rfl⟩ (by omega) ?_
                refine a_aload_n dX12_begin_175 rfl ?_
                refine a_getr dX12_begin_176 kf_X12_75 ⟨by decide, _, rfl, rfl⟩ ?_
                refine a_aload_n dX12_begin_179 rfl ?_
                refine a_geti dX12_begin_180 kf_X12_181 ⟨by decide, _, rfl, rfl⟩ hk ?_
                refine a_iload_n dX12_begin_183 rfl ?_
                refine a_topi (v := nI (rgN (some f) (begN g la lf n)).2 - nI 1) (by rw [rgN]; simp only [if_neg hc]; rfl) ?_
                refine a_iast dX12_begin_184 ⟨by decide, rfl⟩ (by omega) ?_
                exact a_vreturn dX12_begin_185 ⟨rfl, hK⟩
              · exact absurd rfl h152
            · exact absurd ⟨h133, h138⟩ hc
  · exact absurd hkm (by omega)

set_option maxHeartbeats 4000000 in
set_option maxRecDepth 100000 in
theorem c_begin0 {G : am_G} {d : Nat} {I : am_I} {J : am_J} {K : am_I → am_J → Prop} {m k : Nat} (hk : I 63 31 = nI k) (hm : I 63 20 = nI m) (hkm : m ≤ k) (hk36 : k ≤ 36) (hK : K I J) : CMv G d yX12_begin [.ref 63] I J K := by
  refine CM.of (L0 := [_, _, _, _, _]) cX12_begin 5 none (by decide) (by decide) kcX12_begin (Nat.le_of_ble_eq_true rfl) rfl ?_
  refine a_aload_n dX12_begin_0 rfl ?_
  refine a_geti dX12_begin_1 kf_X12_181 ⟨by decide, _, rfl, rfl⟩ hk ?_
  refine a_aload_n dX12_begin_4 rfl ?_
  refine a_geti dX12_begin_5 kf_X12_178 ⟨by decide, _, rfl, rfl⟩ hm ?_
  refine a_icmp_ltN (tgt := 12) dX12_begin_8 (by decide) (by omega) (by omega) (fun h8 => ?_) (fun h8 => ?_)
  · exact absurd h8 (by omega)
  · exact a_vreturn dX12_begin_11 ⟨rfl, hK⟩

def mLf (I : am_I) (i : Nat) : am_I := fun a b => if a = 82 ∧ b < i then I 70 b else I a b
theorem mLf_s (I : am_I) (i : Nat) : am_up (mLf I i) 82 i (I 70 i) = mLf I (i + 1) := by
  funext a b
  simp only [am_up, mLf]
  by_cases h1 : a = 82
  · subst h1
    by_cases h2 : b = i
    · subst h2
      simp
    · by_cases h3 : b < i
      · simp [h2, h3, show b < i + 1 by omega]
      · simp [h2, h3, show ¬ b < i + 1 by omega]
  · simp [h1]
set_option maxHeartbeats 4000000 in
set_option maxRecDepth 100000 in
theorem lp_bs {G : am_G} {d : Nat} {I0 : am_I} {J : am_J} {K : am_I → am_J → Prop} {n : Nat} (hn : I0 63 4 = nI n) (hn12 : n ≤ 12) (hK : CMv G d yX12_begin [.ref 63] (am_up (mLf I0 n) 63 31 (nI 0)) J K) : ∀ i, i ≤ n → AW G cX12_beginSeeking 2 RX12 (d + 1) (am_ex G none (fun r I J => r = none ∧ K I J)) 2 [some (.ref 63), some (.int (nI i))] [] (mLf I0 i) J := by
  refine am_dn n (fun i hi ih => ?_)
  refine a_iload_n dX12_beginSeeking_2 rfl ?_
  refine a_aload_n dX12_beginSeeking_3 rfl ?_
  refine a_geti dX12_beginSeeking_4 kf_X12_115 ⟨by decide, _, rfl, rfl⟩ hn ?_
  refine a_icmp_geN (tgt := 28) dX12_beginSeeking_7 (by decide) (by omega) (by omega) (fun h => ?_) (fun h => ?_)
  · obtain rfl : i = n := by omega
    refine a_aload_n dX12_beginSeeking_28 rfl ?_
    refine a_iconst (v := nI 0) dX12_beginSeeking_29 (by decide) ?_
    refine a_puti dX12_beginSeeking_30 kp_X12_181 ⟨by decide, _, rfl, rfl⟩ ?_
    refine a_aload_n dX12_beginSeeking_33 rfl ?_
    refine a_callVv (As := []) dX12_beginSeeking_34 km_X12_184 ⟨by decide, _, _, _, rfl, rfl⟩ rfl rfl (Nat.le_of_ble_eq_true rfl) ?_
    refine CMv.mono hK (fun I J hK => ?_)
    exact a_vreturn dX12_beginSeeking_37 ⟨rfl, hK⟩
  · refine a_aload_n dX12_beginSeeking_10 rfl ?_
    refine a_getr dX12_beginSeeking_11 kf_X12_69 ⟨by decide, _, rfl, rfl⟩ ?_
    refine a_iload_n dX12_beginSeeking_14 rfl ?_
    refine a_aload_n dX12_beginSeeking_15 rfl ?_
    refine a_getr dX12_beginSeeking_16 kf_X12_33 ⟨by decide, _, rfl, rfl⟩ ?_
    refine a_iload_n dX12_beginSeeking_19 rfl ?_
    refine a_iald dX12_beginSeeking_20 ⟨by decide, rfl⟩ (by omega) rfl ?_
    refine a_iast dX12_beginSeeking_21 ⟨by decide, rfl⟩ (by omega) ?_
    refine a_mem (mLf_s I0 i) ?_
    refine a_iinc (L' := [_, _]) dX12_beginSeeking_22 rfl (nI_inc _) rfl ?_
    refine a_goto (tgt := 2) dX12_beginSeeking_25 (by decide) ?_
    exact ih (i + 1) (by omega) (by omega)

set_option maxHeartbeats 4000000 in
set_option maxRecDepth 100000 in
theorem c_bs {G : am_G} {d : Nat} {I : am_I} {J : am_J} {K : am_I → am_J → Prop} {n : Nat} (hn : I 63 4 = nI n) (hn12 : n ≤ 12) (hK : CMv G d yX12_begin [.ref 63] (am_up (mLf I n) 63 31 (nI 0)) J K) : CMv G (d + 1) yX12_beginSeeking [.ref 63] I J K := by
  refine CM.of (L0 := [_, _]) cX12_beginSeeking 2 none (by decide) (by decide) kcX12_beginSeeking (Nat.le_of_ble_eq_true rfl) rfl ?_
  refine a_iconst (v := nI 0) dX12_beginSeeking_0 (by decide) ?_
  refine a_istore_n (L' := [_, _]) dX12_beginSeeking_1 (Nat.le_of_ble_eq_true rfl) rfl ?_
  refine a_mem (I' := mLf I 0) (by funext a b; simp [mLf]) ?_
  exact lp_bs hn hn12 hK 0 (by omega)

