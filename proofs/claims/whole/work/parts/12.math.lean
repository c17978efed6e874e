/-! ===== bits as numbers ===== -/
theorem bx_sl : ∀ n, n < 32 → ((nI n &&& 31).toBitVec.smod 32).toNat = n := by decide +kernel
theorem bx_or (a b : Nat) : nI a ||| nI b = nI (a ||| b) := by
  apply Int32.toBitVec_inj.1
  show BitVec.ofNat 32 a ||| BitVec.ofNat 32 b = BitVec.ofNat 32 (a ||| b)
  apply BitVec.eq_of_getLsbD_eq
  intro i hi
  simp [hi]
theorem bx_and (a b : Nat) : nI a &&& nI b = nI (a &&& b) := by
  apply Int32.toBitVec_inj.1
  show BitVec.ofNat 32 a &&& BitVec.ofNat 32 b = BitVec.ofNat 32 (a &&& b)
  apply BitVec.eq_of_getLsbD_eq
  intro i hi
  simp [hi]
theorem bx_xor (a b : Nat) : nI a ^^^ nI b = nI (a ^^^ b) := by
  apply Int32.toBitVec_inj.1
  show BitVec.ofNat 32 a ^^^ BitVec.ofNat 32 b = BitVec.ofNat 32 (a ^^^ b)
  apply BitVec.eq_of_getLsbD_eq
  intro i hi
  simp [hi]
theorem bx_shl {l : Nat} (h : l < 31) : nI 1 <<< (nI l &&& 31) = nI (2 ^ l) := by
  have h2 : 2 ^ l < 2 ^ 32 := Nat.pow_lt_pow_right (by decide) (by omega)
  rw [pk_shlN (nI l &&& 31) l (bx_sl l (by omega)) (by rw [Nat.one_mul]; exact h2), Nat.one_mul]
theorem bx_bit {s l : Nat} (hs : s < 2 ^ 31) (h : l < 31) : (nI s >>> (nI l &&& 31)) &&& nI 1 = nI (if s.testBit l then 1 else 0) := by
  rw [pk_shrN hs (nI l &&& 31) l (bx_sl l (by omega)), bx_and, Nat.and_one_is_mod]
  congr 1
  rw [Nat.testBit_eq_decide_div_mod_eq]
  have := Nat.mod_two_eq_zero_or_one (s / 2 ^ l)
  rcases this with e | e <;> simp [e]
theorem bx_bit1 {s l : Nat} (hs : s < 2 ^ 31) (h : l < 31) : (nI s >>> (nI l &&& 31)) &&& nI 1 = nI 1 ↔ s.testBit l = true := by
  rw [bx_bit hs h]
  by_cases e : s.testBit l = true
  · simp [e]
  · simp only [e]
    constructor
    · intro q
      exact absurd (nI_inj (by decide) (by decide) q) (by decide)
    · intro q
      exact absurd q (by simp)
theorem bx_lt {a n : Nat} (ha : a < 2 ^ n) {l : Nat} (hl : l < n) : a ||| 2 ^ l < 2 ^ n := Nat.or_lt_two_pow ha (Nat.pow_lt_pow_right (by decide) hl)
/-- the bits of a list of places -/
def bN : List Nat → Nat
  | [] => 0
  | l :: ls => 2 ^ l ||| bN ls
theorem bN_test (ls : List Nat) (j : Nat) : (bN ls).testBit j = ls.contains j := by
  induction ls with
  | nil => simp [bN]
  | cons l ls ih =>
    rw [bN, Nat.testBit_or, ih, List.contains_cons, Nat.testBit_two_pow]
    congr 1
    by_cases e : l = j
    · simp [e]
    · simp [e, Ne.symm e]
theorem bN_lt {ls : List Nat} {n : Nat} (h : ∀ l ∈ ls, l < n) : bN ls < 2 ^ n := by
  induction ls with
  | nil => exact Nat.two_pow_pos n
  | cons l ls ih =>
    rw [bN, Nat.or_comm]
    exact bx_lt (ih (fun x hx => h x (List.mem_cons_of_mem _ hx))) (h l List.mem_cons_self)
/-! ===== ROUTES ===== -/
/-- one LINE made use of: what is the way from x -/
def rlx (fr to : Nat → Nat) (sh : Nat → Bool) (D : Nat → Nat) (l : Nat) : Nat → Nat := fun x => if sh l = false ∧ x = fr l ∧ D (to l) + 1 < D x then D (to l) + 1 else D x
/-- the first l LINES, one behind the other -/
def rnd (fr to : Nat → Nat) (sh : Nat → Bool) (D : Nat → Nat) : Nat → Nat → Nat
  | 0 => D
  | l + 1 => rlx fr to sh (rnd fr to sh D l) l
/-- r rounds of n LINES, to the KNOT b -/
def wyR (fr to : Nat → Nat) (sh : Nat → Bool) (n b : Nat) : Nat → Nat → Nat
  | 0 => fun x => if x = b then 0 else 100
  | r + 1 => rnd fr to sh (wyR fr to sh n b r) n
theorem rlx_le (fr to : Nat → Nat) (sh : Nat → Bool) (D : Nat → Nat) (l x : Nat) : rlx fr to sh D l x ≤ D x := by
  unfold rlx
  split <;> omega
theorem rnd_le (fr to : Nat → Nat) (sh : Nat → Bool) (D : Nat → Nat) (l x : Nat) : rnd fr to sh D l x ≤ D x := by
  induction l with
  | zero => exact Nat.le_refl _
  | succ l ih => exact Nat.le_trans (rlx_le ..) ih
theorem wyR_le (fr to : Nat → Nat) (sh : Nat → Bool) (n b r x : Nat) : wyR fr to sh n b r x ≤ 100 := by
  induction r with
  | zero => unfold wyR; split <;> omega
  | succ r ih => exact Nat.le_trans (rnd_le ..) ih
theorem rndw_le (fr to : Nat → Nat) (sh : Nat → Bool) (n b r l x : Nat) : rnd fr to sh (wyR fr to sh n b r) l x ≤ 100 := Nat.le_trans (rnd_le ..) (wyR_le ..)
