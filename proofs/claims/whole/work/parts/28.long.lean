/-! ===== longs as numbers ===== -/
theorem lx_s : ∀ n, n < 64 → (((nI n).toInt64 &&& 63).toBitVec.smod 64).toNat = n := by decide +kernel
theorem lx_u : ∀ n, n < 64 → (((nI n).toInt64.toUInt64 &&& Int64.toUInt64 63).toBitVec % 64).toNat = n := by decide +kernel
theorem lx_tn {n : Nat} (h : n < 2 ^ 64) : (lN n).toBitVec.toNat = n := by
  show (BitVec.ofNat 64 n).toNat = n
  rw [BitVec.toNat_ofNat, Nat.mod_eq_of_lt h]
theorem lx_eq {x : Int64} {n : Nat} (h : x.toBitVec.toNat = n) : x = lN n := by
  apply Int64.toBitVec_inj.mp
  apply BitVec.eq_of_toNat_eq
  have h1 : n < 2 ^ 64 := by rw [← h]; exact x.toBitVec.isLt
  rw [lx_tn h1, h]
theorem lx_and (a b : Nat) : lN a &&& lN b = lN (a &&& b) := by
  apply Int64.toBitVec_inj.1
  show BitVec.ofNat 64 a &&& BitVec.ofNat 64 b = BitVec.ofNat 64 (a &&& b)
  apply BitVec.eq_of_getLsbD_eq
  intro i hi
  simp [hi]
theorem lx_or (a b : Nat) : lN a ||| lN b = lN (a ||| b) := by
  apply Int64.toBitVec_inj.1
  show BitVec.ofNat 64 a ||| BitVec.ofNat 64 b = BitVec.ofNat 64 (a ||| b)
  apply BitVec.eq_of_getLsbD_eq
  intro i hi
  simp [hi]
theorem lx_xor (a b : Nat) : lN a ^^^ lN b = lN (a ^^^ b) := by
  apply Int64.toBitVec_inj.1
  show BitVec.ofNat 64 a ^^^ BitVec.ofNat 64 b = BitVec.ofNat 64 (a ^^^ b)
  apply BitVec.eq_of_getLsbD_eq
  intro i hi
  simp [hi]
theorem lx_shl {n k : Nat} (hk : k < 64) (h : n * 2 ^ k < 2 ^ 64) : lN n <<< ((nI k).toInt64 &&& 63) = lN (n * 2 ^ k) := by
  apply lx_eq
  rw [Int64.toBitVec_shiftLeft]
  show ((lN n).toBitVec <<< (((nI k).toInt64 &&& 63).toBitVec.smod 64).toNat).toNat = _
  have hn : n < 2 ^ 64 := Nat.lt_of_le_of_lt (Nat.le_mul_of_pos_right n (Nat.two_pow_pos k)) h
  rw [lx_s k hk, BitVec.toNat_shiftLeft, lx_tn hn, Nat.shiftLeft_eq, Nat.mod_eq_of_lt h]
theorem lx_shr {n k : Nat} (hk : k < 64) (h : n < 2 ^ 63) : lN n >>> ((nI k).toInt64 &&& 63) = lN (n / 2 ^ k) := by
  apply Int64.toInt_inj.mp
  have h2 : n / 2 ^ k ≤ n := Nat.div_le_self _ _
  rw [pk_lT (by omega : n / 2 ^ k < 2 ^ 63)]
  show ((lN n).toBitVec.sshiftRight (((nI k).toInt64 &&& 63).toBitVec.smod 64).toNat).toInt = _
  rw [lx_s k hk, BitVec.toInt_sshiftRight]
  have e : (lN n).toBitVec.toInt = (n : Int) := pk_lT h
  rw [e, Int.shiftRight_eq_div_pow]
  rfl
theorem lx_ushr {n k : Nat} (hk : k < 64) (h : n < 2 ^ 64) : ((lN n).toUInt64 >>> ((nI k).toInt64.toUInt64 &&& Int64.toUInt64 63)).toInt64 = lN (n / 2 ^ k) := by
  apply lx_eq
  show ((lN n).toUInt64.toBitVec >>> (((nI k).toInt64.toUInt64 &&& Int64.toUInt64 63).toBitVec % 64)).toNat = _
  rw [BitVec.ushiftRight_eq', lx_u k hk, BitVec.toNat_ushiftRight, Nat.shiftRight_eq_div_pow]
  congr 1
  exact lx_tn h
theorem lx_neg {s : Nat} (h0 : 0 < s) (h : s < 2 ^ 64) : -lN s = lN (2 ^ 64 - s) := by
  apply lx_eq
  rw [Int64.toBitVec_neg, BitVec.toNat_neg, lx_tn h, Nat.mod_eq_of_lt (by omega)]
/-- the lowest bit -/
theorem lx_low {a j : Nat} (h : 2 ^ j * (2 * a + 1) < 2 ^ 63) : (2 ^ j * (2 * a + 1)) &&& (2 ^ 64 - 2 ^ j * (2 * a + 1)) = 2 ^ j := by
  have hj : j < 63 := by
    rcases Nat.lt_or_ge j 63 with q | q
    · exact q
    · have h1 : 2 ^ 63 ≤ 2 ^ j := Nat.pow_le_pow_right (by decide) q
      have h2 : 2 ^ j * 1 ≤ 2 ^ j * (2 * a + 1) := Nat.mul_le_mul_left _ (by omega)
      omega
  have e64 : 2 ^ 64 = 2 ^ j * (2 * 2 ^ (63 - j)) := by
    rw [← Nat.pow_succ', ← Nat.pow_add]
    congr 1
    omega
  have ha : 2 * a + 1 < 2 * 2 ^ (63 - j) := by
    have h3 : 2 ^ j * (2 * a + 1) < 2 ^ j * (2 * 2 ^ (63 - j)) := by rw [← e64]; omega
    exact Nat.lt_of_mul_lt_mul_left h3
  have e2 : 2 ^ 64 - 2 ^ j * (2 * a + 1) = 2 ^ j * (2 * (2 ^ (63 - j) - (a + 1)) + 1) := by
    rw [e64, ← Nat.mul_sub]
    congr 1
    omega
  rw [e2]
  apply Nat.eq_of_testBit_eq
  intro i
  rw [Nat.testBit_and, Nat.mul_comm (2 ^ j), Nat.mul_comm (2 ^ j), Nat.testBit_mul_two_pow, Nat.testBit_mul_two_pow, Nat.testBit_two_pow]
  by_cases hi : j ≤ i
  · simp only [hi, decide_true, Bool.true_and]
    by_cases e : i = j
    · subst e
      simp
    · obtain ⟨c, hc⟩ : ∃ c, i - j = c + 1 := ⟨i - j - 1, by omega⟩
      rw [hc, Nat.testBit_succ, Nat.testBit_succ, show (2 * a + 1) / 2 = a by omega, show (2 * (2 ^ (63 - j) - (a + 1)) + 1) / 2 = 2 ^ (63 - j) - (a + 1) by omega, Nat.testBit_two_pow_sub_succ (by omega)]
      simp [show ¬ j = i by omega]
      intro q _
      exact q
  · simp [hi, show ¬ j = i by omega]
theorem low_ex : ∀ s, 0 < s → ∃ j a, s = 2 ^ j * (2 * a + 1) := by
  intro s
  induction s using Nat.strongRecOn with
  | ind s ih =>
    intro h
    rcases Nat.mod_two_eq_zero_or_one s with e | e
    · obtain ⟨j, a, h1⟩ := ih (s / 2) (by omega) (by omega)
      refine ⟨j + 1, a, ?_⟩
      rw [Nat.pow_succ, Nat.mul_assoc, Nat.mul_left_comm, ← h1]
      omega
    · exact ⟨0, s / 2, by omega⟩
/-- the next set of as many -/
def nxS (j s : Nat) : Nat := (s + 2 ^ j) ||| ((s ^^^ (s + 2 ^ j)) / 2 ^ (j + 2))
theorem nxS_gt (j s : Nat) : s < nxS j s := Nat.lt_of_lt_of_le (Nat.lt_add_of_pos_right (Nat.two_pow_pos j)) Nat.left_le_or
