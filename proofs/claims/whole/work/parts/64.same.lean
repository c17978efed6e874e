/-! ===== the same numbers ===== -/
theorem nI_wrap (n : Nat) : nI (n + 2 ^ 32) = nI n := by
  apply Int32.toBitVec_inj.mp
  show BitVec.ofNat 32 (n + 2 ^ 32) = BitVec.ofNat 32 n
  apply BitVec.eq_of_toNat_eq
  rw [BitVec.toNat_ofNat, BitVec.toNat_ofNat, Nat.add_mod_right]
theorem nI_subw {a b : Nat} (ha : a ≤ 2 ^ 32) : nI b - nI a = nI (b + (2 ^ 32 - a)) := by
  have h : nI (b + (2 ^ 32 - a)) + nI a = nI b := by rw [nI_add, show b + (2 ^ 32 - a) + a = b + 2 ^ 32 by omega, nI_wrap]
  rw [← h, i_ac]
theorem msk {v e : Nat} : nI v &&& (nI (2 ^ e) - nI 1) = nI (v % 2 ^ e) := by
  rw [pk_sub (Nat.two_pow_pos e), bx_and, Nat.and_two_pow_sub_one_eq_mod]
theorem rem_eq {v e : Nat} (hv : v < 2 ^ 31) (he : e ≤ 16) : nI v - nI v / nI (2 ^ e) * nI (2 ^ e) = nI (v % 2 ^ e) := by
  have h1 : 2 ^ e ≤ 2 ^ 16 := Nat.pow_le_pow_right (by decide) he
  rw [pk_div hv (Nat.two_pow_pos e) (by omega), pk_mul, pk_sub (Nat.div_mul_le_self _ _)]
  congr 1
  have := Nat.div_add_mod v (2 ^ e)
  rw [Nat.mul_comm] at this
  omega
theorem ct_cases {I : am_I} {l : Nat} (h0 : I (20 + l) 0 = I 65 l) (hk : kdC I l) : ∃ e, (e = 8 ∨ e = 16) ∧ ctC I l = nI (2 ^ e) ∧ ctR I l = nI (2 ^ e) ∧ (if I 65 l = nI 1 then 256 else 65536) = 2 ^ e := by
  unfold ctC ctR
  rw [h0]
  rcases hk with e | e
  · exact ⟨8, Or.inl rfl, by rw [e, if_neg (by decide)], by rw [e, if_pos rfl], by rw [e, if_pos rfl]⟩
  · exact ⟨16, Or.inr rfl, by rw [e, if_pos rfl], by rw [e, if_neg (by decide)], by rw [e, if_neg (by decide)]⟩
theorem kp_eq {I : am_I} {l : Nat} {z : Int32} (h0 : I (20 + l) 0 = I 65 l) (hk : kdC I l) (hz : 0 ≤ z ∨ z = -9) : kpC I l z = (if z = -9 then -9 else z - z / ctR I l * ctR I l) ∧ (kpC I l z = -9 ∨ ∃ v, v < (if I 65 l = nI 1 then 256 else 65536) ∧ kpC I l z = nI v) := by
  obtain ⟨e, he, c1, c2, c3⟩ := ct_cases h0 hk
  unfold kpC
  by_cases q : z = -9
  · rw [if_pos q, if_pos q]; exact ⟨rfl, Or.inl rfl⟩
  · rw [if_neg q, if_neg q, c1, c2, c3]
    obtain ⟨v, hv, rfl⟩ := nI_of (Int32.not_lt.mpr (hz.resolve_right q))
    rw [msk, rem_eq hv (by omega)]
    exact ⟨rfl, Or.inr ⟨_, Nat.mod_lt _ (Nat.two_pow_pos e), rfl⟩⟩
theorem ld_eq {I : am_I} {l i j a b : Nat} (h0 : I (20 + l) 0 = I 65 l) (hk : kdC I l) (hi : I (32 + l) i = I 71 (24 * l + i)) (hj : I (32 + l) j = I 71 (24 * l + j)) (ha : I 71 (24 * l + i) = nI a) (hb : I 71 (24 * l + j) = nI b) (ha2 : a < (if I 65 l = nI 1 then 256 else 65536)) (hb2 : b < (if I 65 l = nI 1 then 256 else 65536)) : lbC I l i j = ldR I l i j := by
  obtain ⟨e, he, c1, c2, c3⟩ := ct_cases h0 hk
  have h16 : 2 ^ e ≤ 2 ^ 16 := Nat.pow_le_pow_right (by decide) (by omega)
  have hp := Nat.two_pow_pos e
  rw [c3] at ha2 hb2
  unfold lbC ldR
  rw [hi, hj, ha, hb, c1, c2]
  by_cases q : a ≤ b
  · rw [pk_sub q, msk, if_pos (nI_pos' (by omega)), Nat.mod_eq_of_lt (by omega)]
  · rw [if_neg]
    · rw [nI_subw (by omega), msk, nI_add, show b + (2 ^ 32 - a) + 2 ^ e = (2 ^ e + b - a) + 2 ^ 32 by omega, nI_wrap]
      congr 1
      have h32 : (2 : Nat) ^ 32 = 2 ^ e * 2 ^ (32 - e) := by rw [← Nat.pow_add]; congr 1; omega
      have h32' : 2 ^ 32 = 2 ^ e * (2 ^ (32 - e) - 1) + 2 ^ e := by
        have hp2 : 0 < 2 ^ (32 - e) := Nat.two_pow_pos _
        obtain ⟨c, hc⟩ : ∃ c, 2 ^ (32 - e) = c + 1 := ⟨2 ^ (32 - e) - 1, by omega⟩
        rw [hc, Nat.add_sub_cancel, ← Nat.mul_succ]
        rw [hc] at h32
        exact h32
      rw [show b + (2 ^ 32 - a) = (2 ^ e + b - a) + 2 ^ e * (2 ^ (32 - e) - 1) by omega, Nat.add_mul_mod_self_left, Nat.mod_eq_of_lt (by omega)]
    · intro z
      rw [Int32.le_iff_toInt_le, pk_sub_toInt (by omega) (by omega)] at z
      have : (0 : Int32).toInt = 0 := by decide
      omega
/-- readings of a counter, up to an hour -/
def rdU (I : am_I) (l : Nat) (h : Nat) (r : Int32 × Int32 × Int32) : Prop := (cN (rkC I l) h = 0 ∧ r.1 = -9 ∧ r.2.1 = -9) ∨ ∃ i j, i ≤ j ∧ j < h ∧ r.1 = nI i ∧ r.2.1 = nI j ∧ I (32 + l) j ≠ -9 ∧ (cN (rkC I l) h < 2 ↔ i = j) ∧ cN (rkC I l) h ≠ 0
theorem mean_eq {I : am_I} {N l f t : Nat} {s : Bool} (hK : cpK I N l f t s) (hk : kdC I l) : ∀ h, h ≤ 24 → mcS I l h = mnS I l h ∧ rdU I l h (mcS I l h)
  | 0, _ => ⟨rfl, Or.inl ⟨rfl, rfl, rfl⟩⟩
  | h + 1, hh => by
    obtain ⟨i1, i2⟩ := mean_eq hK hk h (by omega)
    obtain ⟨a1, a2, a3, a4, a5, a6, a7, a8, a9, a10, a11, a12, a13, a14, a15, a16⟩ := hK
    have e0 := (a16 h (by omega)).1
    by_cases e : I (32 + l) h = -9
    · rw [mcS_lost e, mnS_lost (by rw [← e0]; exact e)]
      refine ⟨i1, ?_⟩
      have hc : cN (rkC I l) (h + 1) = cN (rkC I l) h := by rw [cN_s, if_neg (by simp [rkC, e]), Nat.add_zero]
      unfold rdU at i2 ⊢
      rw [hc]
      rcases i2 with q | ⟨i, j, q1, q2, q3⟩
      · exact Or.inl q
      · exact Or.inr ⟨i, j, q1, by omega, q3⟩
    · have hc : cN (rkC I l) (h + 1) = cN (rkC I l) h + 1 := by rw [cN_s, if_pos (by simp [rkC, e])]
      have e71 : ¬ I 71 (24 * l + h) = -9 := by rw [← e0]; exact e
      rcases i2 with ⟨q1, q2, q3⟩ | ⟨i, j, q1, q2, q3, q4, q5, q6, q7⟩
      · rw [mcS_first e q3]
        refine ⟨?_, Or.inr ⟨h, h, Nat.le_refl _, Nat.lt_succ_self _, rfl, rfl, e, by rw [hc, q1]; simp, by omega⟩⟩
        rw [mnS, if_neg e71, ← i1, q2, q3, if_neg (by decide), if_pos (by decide)]
        congr 2
        exact (Int32.add_zero _).symm
      · have n1 : ¬ nI j < 0 := nI_pos (by omega)
        have n2 : ¬ nI j = -9 := nI_ne_neg (by omega) (by decide)
        rw [mcS_next e (by rw [q4]; exact n2)]
        refine ⟨?_, Or.inr ⟨i, h, by omega, Nat.lt_succ_self _, q3, rfl, e, ?_, by omega⟩⟩
        · rw [mnS, if_neg e71, ← i1, q3, q4, if_pos (nI_pos' (by omega)), if_neg n1, nI_clamp (by omega)]
          congr 3
          obtain ⟨v, hv, ev⟩ := (a16 h (by omega)).2.resolve_left e71
          obtain ⟨u, hu, eu⟩ := (a16 j (by omega)).2.resolve_left (by rw [← (a16 j (by omega)).1]; exact q5)
          exact ld_eq a1 hk (a16 j (by omega)).1 e0 eu ev hu hv
        · rw [hc]
          constructor
          · intro z; omega
          · intro z; omega
theorem sI_add {f g : Nat → Int32} : ∀ n, sI (fun i => f i + g i) n = sI f n + sI g n
  | 0 => by simp only [sI]; rfl
  | n + 1 => by
    rw [sI, sI, sI, sI_add n]
    rw [Int32.add_assoc, Int32.add_assoc, ← Int32.add_assoc (sI g n), Int32.add_comm (sI g n) (f n), Int32.add_assoc]
theorem sI_one {k : Nat} {v : Int32} : ∀ n, k < n → sI (fun a => if a = k then v else nI 0) n = v
  | 0, h => by omega
  | n + 1, h => by
    rw [sI]
    by_cases e : k = n
    · subst e
      rw [sI_zero k (fun i hi => by rw [if_neg (by omega)]), if_pos rfl, nI_0, Int32.zero_add]
    · rw [sI_one n (by omega), if_neg (fun z => e z.symm), nI_0, Int32.add_zero]
theorem cf_eq {I : am_I} {N l f t : Nat} {s : Bool} (hK : cpK I N l f t s) (x : Int32) : cfC I 1 x l = goR I x l ∧ cfC I 2 x l = giR I x l := by
  obtain ⟨a1, a2, a3, a4, a5, a6, a7, a8, a9, a10, a11, a12, a13, a14, a15, a16⟩ := hK
  unfold cfC goR giR cvR
  rw [a3, a4, a6, a7, a14]
  constructor
  · by_cases q : nI f = x <;> by_cases z : I 70 l = -9 <;> simp [q, z]
  · by_cases q : nI t = x <;> by_cases z : I 70 l = -9 <;> simp [q, z]
theorem all_eq {I : am_I} {N : Nat} {F T : Nat → Nat} {S : Nat → Bool} (hN : N ≤ 6) : ∀ n, cpL I N n F T S → sI (fun a => sI (cfC I 1 (nI a)) n) N = sI (cvR I) n
  | 0, _ => by
    exact sI_zero N (fun i _ => rfl)
  | n + 1, h => by
    have e : sI (fun a => sI (cfC I 1 (nI a)) (n + 1)) N = sI (fun a => sI (cfC I 1 (nI a)) n + cfC I 1 (nI a) n) N := rfl
    rw [e, sI_add, all_eq hN n (fun l hl => h l (by omega)), sI]
    congr 1
    have hK := h n (by omega)
    rw [sI_congr (g := fun a => if a = F n then cvR I n else nI 0) N (fun a ha => by
      rw [(cf_eq hK (nI a)).1]
      obtain ⟨a1, a2, a3, a4, a5, _⟩ := hK
      unfold goR
      rw [a4]
      by_cases q : a = F n
      · rw [q, if_pos rfl, if_pos rfl]
      · rw [if_neg q, if_neg (fun z => q (nI_inj (by omega) (by omega) z).symm)])]
    exact sI_one N hK.2.2.2.2.1
theorem cA_cN {q : Nat → Nat → Bool} {N : Nat} (hN : 0 < N) : ∀ a, cA q N a = cN (fun p => q (p / N) (p % N)) (N * a)
  | 0 => rfl
  | a + 1 => by
    rw [cA, cA_cN hN a, Nat.mul_succ, cN_split]
    congr 1
    refine cN_congr N (fun i hi => ?_)
    show _ = q ((N * a + i) / N) ((N * a + i) % N)
    rw [Nat.mul_add_div hN, Nat.div_eq_of_lt hi, Nat.add_zero, Nat.mul_add_mod, Nat.mod_eq_of_lt hi]
theorem tc_eq {I : am_I} {J : am_J} {N n : Nat} {F T : Nat → Nat} {S : Nat → Bool} (hc : cpP I J N n F T S) {w : Nat} (hw : w ≤ 4) : tcK I (RoC F T S n N) N n w = tcR I N n (rbO F T S n N) w := by
  obtain ⟨⟨hN2, hN6, hn12, k1, k2, k3, k4⟩, hL, hM, hF, hT, hS, hR, ht, hJ⟩ := hc
  unfold tcK tcR
  have hc5 : w = 0 ∨ w = 1 ∨ w = 2 ∨ w = 3 ∨ w = 4 := by omega
  rcases hc5 with rfl | rfl | rfl | rfl | rfl
  · rfl
  · rfl
  · simp only [show ¬ (2 : Nat) = 0 by decide, show ¬ (2 : Nat) = 1 by decide, if_false, if_true]
    congr 1
    refine cN_congr n (fun l hl => ?_)
    unfold tlC tlI
    obtain ⟨_, _, _, _, _, _, _, _, _, _, _, _, _, c14, _⟩ := hL l hl
    rw [c14]
  · simp only [show ¬ (3 : Nat) = 0 by decide, show ¬ (3 : Nat) = 1 by decide, show ¬ (3 : Nat) = 2 by decide, if_false, if_true]
    congr 1
    rw [cA_cN (by omega), cN_ext (a := N * N) 36 (sq_le hN6) (fun p q1 q2 => by
      unfold mtQ
      rw [(hM p q2).1, ((hM p q2).2.2.2.2 (fun z => by unfold prq at z; omega)).1]
      decide)]
    refine cN_congr _ (fun p hp => ?_)
    have hp36 : p < 36 := Nat.lt_of_lt_of_le hp (sq_le hN6)
    unfold mtQ q34
    rw [Nat.div_add_mod, (hM p hp36).1]
    by_cases e : p / N = p % N
    · rw [((hM p hp36).2.2.2.2 (fun z => z.2 e)).1]
      simp [e]
    · simp [e]
  · simp only [show ¬ (4 : Nat) = 0 by decide, show ¬ (4 : Nat) = 1 by decide, show ¬ (4 : Nat) = 2 by decide, show ¬ (4 : Nat) = 3 by decide, if_false]
    congr 1
    rw [cA_cN (by omega)]
    refine cN_congr _ (fun p hp => ?_)
    unfold cuQ q34 RoC rbO
    rw [Nat.div_add_mod]
    by_cases e : p / N = p % N
    · rw [e, wy_b]
      simp
    · by_cases q : wyR F T S n (p % N) N (p / N) < 100
      · simp [e, q, show ¬ 100 ≤ wyR F T S n (p % N) N (p / N) by omega]
      · simp [e, q, show 100 ≤ wyR F T S n (p % N) N (p / N) by omega]
theorem tl_eq {I : am_I} {N l f t : Nat} {s : Bool} (hK : cpK I N l f t s) (j : Nat) : tlK I l j = tlR I l j := by
  obtain ⟨a1, a2, a3, a4, a5, a6, a7, a8, a9, a10, a11, a12, a13, a14, a15, a16⟩ := hK
  unfold tlK tlR
  rw [a1, a3, a4, a6, a7, a9, a12, a14]
theorem dgF_congr {f g : Nat → Int32} {h : Int64} : ∀ n, (∀ i, i < n → f i = g i) → dgF f h n = dgF g h n
  | 0, _ => rfl
  | n + 1, hh => by rw [dgF, dgF, dgF_congr n (fun i hi => hh i (by omega)), hh n (by omega)]
theorem dgL_eq {I : am_I} {N : Nat} {F T : Nat → Nat} {S : Nat → Bool} {h : Int64} : ∀ n, cpL I N n F T S → dgLk I h n = dgLn (fun l => I 65 l = nI 1 ∨ I 65 l = nI 2) (tlR I) (fun l h => I 71 (24 * l + h)) h n
  | 0, _ => rfl
  | n + 1, hL => by
    have hK := hL n (by omega)
    rw [dgLk, dgLn, dgL_eq n (fun l hl => hL l (by omega))]
    unfold dgL1
    rw [show tlK I n = tlR I n from funext (tl_eq hK)]
    obtain ⟨a1, a2, a3, a4, a5, a6, a7, a8, a9, a10, a11, a12, a13, a14, a15, a16⟩ := hK
    rw [a1]
    by_cases q : I 65 n = nI 1 ∨ I 65 n = nI 2
    · rw [if_pos q, if_pos q]
      exact dgF_congr 24 (fun i hi => (a16 i hi).1)
    · rw [if_neg q, if_neg q]
theorem dgPb_congr {N a : Nat} {me ba me' ba' : Nat → Int32} {h : Int64} : ∀ b, (∀ i, i < b → me (N * a + i) = me' (N * a + i) ∧ ba (N * a + i) = ba' (N * a + i)) → dgPb N a me ba h b = dgPb N a me' ba' h b
  | 0, _ => rfl
  | b + 1, hh => by rw [dgPb, dgPb, dgPb_congr b (fun i hi => hh i (by omega)), (hh b (by omega)).1, (hh b (by omega)).2]
theorem dgPa_congr {N : Nat} {me ba me' ba' : Nat → Int32} {h : Int64} (hN : N ≤ 6) (hh : ∀ p, p < 36 → me p = me' p ∧ ba p = ba' p) : ∀ a, a ≤ N → dgPa N me ba h a = dgPa N me' ba' h a
  | 0, _ => rfl
  | a + 1, ha => by rw [dgPa, dgPa, dgPa_congr hN hh a (by omega), dgPb_congr N (fun i hi => hh _ (ix_lt hN (by omega) hi))]
theorem dgS_eq {I : am_I} {h : Int64} (hS : cpS I) : ∀ s, s ≤ 4 → dgSk I h s = dgSh (I 91) (fun s k => I 92 (24 * s + k)) h s
  | 0, _ => rfl
  | s + 1, hs => by
    rw [dgSk, dgSh, dgS_eq hS s (by omega)]
    unfold dgS1
    obtain ⟨h1, h2⟩ := hS s (by omega)
    rcases h1 with ⟨e1, e2⟩ | ⟨n, hn, e1, e2⟩
    · rw [e1, e2, if_neg (by decide)]
      rfl
    · rw [e1, e2, if_pos (nI_pos' (by omega)), nI_clamp (by omega)]
      exact dgF_congr n (fun i hi => (h2 i (by omega)).1)
theorem dg_eq {I : am_I} {J : am_J} {N n : Nat} {F T : Nat → Nat} {S : Nat → Bool} (hc : cpP I J N n F T S) : dgK I (RoC F T S n N) N n = dgR I N n (rbO F T S n N) := by
  obtain ⟨⟨hN2, hN6, hn12, k1, k2, k3, k4⟩, hL, hM, hF, hT, hS, hR, ht, hJ⟩ := id hc
  unfold dgK dgR
  rw [dgS_eq hS 4 (Nat.le_refl _), dgL_eq n hL, dgF_congr (f := tcK I (RoC F T S n N) N n) 5 (fun w hw => tc_eq hc (by omega)), dgPa_congr (me := I 13) (ba := I 14) hN6 (fun p hp => ⟨(hM p hp).1, (hM p hp).2.2.1⟩) N (Nat.le_refl _)]
