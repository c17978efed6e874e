/-! ===== how many bits ===== -/
def popN (x L : Nat) : Nat := cN (fun i => x.testBit i) L
theorem cN_split (p : Nat → Bool) (k : Nat) : ∀ L, cN p (k + L) = cN p k + cN (fun i => p (k + i)) L
  | 0 => by simp [cN]
  | L + 1 => by
    rw [show k + (L + 1) = k + L + 1 by omega, cN_s, cN_s, cN_split p k L]
    omega
theorem pop_app {k x y : Nat} (hy : y < 2 ^ k) (L : Nat) : popN (2 ^ k * x + y) (k + L) = popN y k + popN x L := by
  unfold popN
  rw [cN_split]
  congr 1
  · refine cN_congr k (fun i hi => ?_)
    rw [Nat.testBit_two_pow_mul_add _ hy, if_pos hi]
  · refine cN_congr L (fun i hi => ?_)
    rw [Nat.testBit_two_pow_mul_add _ hy, if_neg (by omega), Nat.add_sub_cancel_left]
theorem pop_ext {x k L : Nat} (hx : x < 2 ^ k) (h : k ≤ L) : popN x L = popN x k := by
  unfold popN
  exact cN_ext L h (fun i a b => Nat.testBit_lt_two_pow (Nat.lt_of_lt_of_le hx (Nat.pow_le_pow_right (by decide) a)))
theorem pop_ones : ∀ k, popN (2 ^ k - 1) k = k := by
  intro k
  unfold popN
  have : ∀ L, L ≤ k → cN (fun i => (2 ^ k - 1).testBit i) L = L := by
    intro L
    induction L with
    | zero => intro _; rfl
    | succ L ih =>
      intro h
      rw [cN_s, ih (by omega), Nat.testBit_two_pow_sub_one]
      simp [show L < k by omega]
  exact this k (Nat.le_refl _)
theorem pop_0 (L : Nat) : popN 0 L = 0 := by
  unfold popN
  induction L with
  | zero => rfl
  | succ L ih => rw [cN_s, ih]; simp
/-- ones at the end, a nought ahead of them -/
theorem ones_ex : ∀ a, ∃ r b, 2 * a + 1 = 2 ^ (r + 2) * b + (2 ^ (r + 1) - 1) := by
  intro a
  induction a using Nat.strongRecOn with
  | _ a ih =>
    rcases Nat.mod_two_eq_zero_or_one a with h | h
    · refine ⟨0, a / 2, ?_⟩
      rw [show (2 : Nat) ^ (0 + 2) = 4 from rfl, show (2 : Nat) ^ (0 + 1) - 1 = 1 from rfl]
      omega
    · obtain ⟨r, b, e⟩ := ih (a / 2) (by omega)
      refine ⟨r + 1, b, ?_⟩
      have h1 : 2 ^ (r + 1 + 2) = 2 * 2 ^ (r + 2) := by rw [Nat.pow_succ, Nat.mul_comm]
      have h2 : 2 ^ (r + 1 + 1) = 2 * 2 ^ (r + 1) := by rw [Nat.pow_succ, Nat.mul_comm]
      have h3 : 0 < 2 ^ (r + 1) := Nat.two_pow_pos _
      have h4 : 2 ^ (r + 1 + 2) * b = 2 * (2 ^ (r + 2) * b) := by rw [h1, Nat.mul_assoc]
      rw [h4]
      generalize 2 ^ (r + 2) * b = P at e ⊢
      rw [h2]
      omega
theorem or_low {k x y : Nat} (hy : y < 2 ^ k) : (2 ^ k * x) ||| y = 2 ^ k * x + y := by
  apply Nat.eq_of_testBit_eq
  intro i
  rw [Nat.testBit_or, Nat.testBit_two_pow_mul_add _ hy, Nat.testBit_two_pow_mul]
  by_cases h : i < k
  · rw [if_pos h]
    simp [show ¬ k ≤ i by omega]
  · rw [if_neg h, Nat.testBit_lt_two_pow (x := y) (Nat.lt_of_lt_of_le hy (Nat.pow_le_pow_right (by decide) (by omega)))]
    simp [show k ≤ i by omega]
theorem nxS_eq (j r b : Nat) : nxS j (2 ^ j * (2 ^ (r + 2) * b + (2 ^ (r + 1) - 1))) = 2 ^ (j + r + 1) * (2 * b + 1) + (2 ^ r - 1) := by
  have h3 : 0 < 2 ^ r := Nat.two_pow_pos _
  have p1 : 2 ^ (r + 1) = 2 * 2 ^ r := by rw [Nat.pow_succ, Nat.mul_comm]
  have p2 : 2 ^ (r + 2) = 4 * 2 ^ r := by rw [Nat.pow_succ, p1]; omega
  have e1 : 2 ^ j * (2 ^ (r + 2) * b + (2 ^ (r + 1) - 1)) + 2 ^ j = 2 ^ j * (2 ^ (r + 2) * b + 2 ^ (r + 1)) := by
    rw [← Nat.mul_succ]
    congr 1
    omega
  have e2 : (2 ^ j * (2 ^ (r + 2) * b + (2 ^ (r + 1) - 1))) ^^^ (2 ^ j * (2 ^ (r + 2) * b + 2 ^ (r + 1))) = 2 ^ j * (2 ^ (r + 2) - 1) := by
    apply Nat.eq_of_testBit_eq
    intro i
    rw [Nat.testBit_xor, Nat.testBit_two_pow_mul, Nat.testBit_two_pow_mul, Nat.testBit_two_pow_mul]
    by_cases h : j ≤ i
    · simp only [h, decide_true, Bool.true_and]
      rw [Nat.testBit_two_pow_mul_add _ (by omega), Nat.testBit_two_pow_mul_add _ (by omega), Nat.testBit_two_pow_sub_one]
      by_cases q : i - j < r + 2
      · rw [if_pos q, if_pos q, Nat.testBit_two_pow_sub_one, Nat.testBit_two_pow]
        by_cases z : i - j = r + 1
        · simp [z]
        · simp [show i - j < r + 1 by omega, q, show ¬ r + 1 = i - j by omega]
      · rw [if_neg q, if_neg q]
        simp [q]
    · simp [h]
  have e3 : 2 ^ j * (2 ^ (r + 2) - 1) / 2 ^ (j + 2) = 2 ^ r - 1 := by
    rw [Nat.pow_add 2 j 2, ← Nat.div_div_eq_div_mul, Nat.mul_div_cancel_left _ (Nat.two_pow_pos j)]
    rw [show (2 : Nat) ^ 2 = 4 from rfl]
    omega
  have e4 : 2 ^ j * (2 ^ (r + 2) * b + 2 ^ (r + 1)) = 2 ^ (j + r + 1) * (2 * b + 1) := by
    rw [show j + r + 1 = j + (r + 1) by omega, Nat.pow_add 2 j (r + 1), Nat.mul_assoc, p2, p1]
    congr 1
    rw [Nat.mul_add, Nat.mul_one, ← Nat.mul_assoc (2 * 2 ^ r) 2 b]
    congr 2
    omega
  unfold nxS
  rw [e1, e2, e3, e4]
  exact or_low (Nat.lt_of_lt_of_le (show 2 ^ r - 1 < 2 ^ r by omega) (Nat.pow_le_pow_right (by decide) (by omega)))
theorem pow_lt_L {x s L : Nat} (h : 2 ^ x ≤ s) (hs : s < 2 ^ L) : x < L := by
  rcases Nat.lt_or_ge x L with q | q
  · exact q
  · have := Nat.pow_le_pow_right (n := 2) (by decide) q
    omega
theorem pop_mul (k x L : Nat) : popN (2 ^ k * x) (k + L) = popN x L := by
  have := pop_app (k := k) (x := x) (y := 0) (Nat.two_pow_pos k) L
  rw [Nat.add_zero, pop_0, Nat.zero_add] at this
  exact this
/-- the next set has as many -/
theorem pop_nx {j a s L : Nat} (hs : s = 2 ^ j * (2 * a + 1)) (h : s < 2 ^ L) (h2 : nxS j s < 2 ^ (L + 2)) : popN (nxS j s) (L + 2) = popN s L := by
  obtain ⟨r, b, e⟩ := ones_ex a
  have p1 : 2 ^ (r + 1) = 2 * 2 ^ r := by rw [Nat.pow_succ, Nat.mul_comm]
  have h3 : 0 < 2 ^ r := Nat.two_pow_pos _
  have hjr : j + r < L := by
    refine pow_lt_L (s := s) ?_ h
    rw [hs, e, Nat.pow_add]
    refine Nat.mul_le_mul_left _ ?_
    omega
  have hs1 : popN s L = r + 1 + popN b (L - j - (r + 1) - 1) := by
    rw [hs, e]
    have z := pop_mul j (2 ^ (r + 2) * b + (2 ^ (r + 1) - 1)) (L - j)
    rw [show j + (L - j) = L by omega] at z
    rw [z]
    have hb2 : 2 ^ (r + 2) * b + (2 ^ (r + 1) - 1) = 2 ^ (r + 1) * (2 * b) + (2 ^ (r + 1) - 1) := by
      congr 1
      rw [show r + 2 = r + 1 + 1 by omega, Nat.pow_succ 2 (r + 1), Nat.mul_assoc]
    rw [hb2]
    have z2 := pop_app (k := r + 1) (x := 2 * b) (y := 2 ^ (r + 1) - 1) (by omega) (L - j - (r + 1))
    rw [show r + 1 + (L - j - (r + 1)) = L - j by omega] at z2
    rw [z2, pop_ones]
    congr 1
    rcases Nat.eq_zero_or_pos (L - j - (r + 1)) with q | q
    · rw [q]
      show popN (2 * b) 0 = popN b 0
      rfl
    · have z3 := pop_mul 1 b (L - j - (r + 1) - 1)
      rw [show 1 + (L - j - (r + 1) - 1) = L - j - (r + 1) by omega, Nat.pow_one] at z3
      exact z3
  rw [hs1]
  rw [hs, e, nxS_eq] at h2 ⊢
  have z := pop_app (k := j + r + 1) (x := 2 * b + 1) (y := 2 ^ r - 1) (Nat.lt_of_lt_of_le (show 2 ^ r - 1 < 2 ^ r by omega) (Nat.pow_le_pow_right (by decide) (by omega))) (L + 2 - (j + r + 1))
  rw [show j + r + 1 + (L + 2 - (j + r + 1)) = L + 2 by omega] at z
  rw [z, pop_ext (k := r) (show 2 ^ r - 1 < 2 ^ r by omega) (by omega), pop_ones]
  have z2 := pop_app (k := 1) (x := b) (y := 1) (by decide) (L + 2 - (j + r + 1) - 1)
  rw [show 1 + (L + 2 - (j + r + 1) - 1) = L + 2 - (j + r + 1) by omega, Nat.pow_one, show popN 1 1 = 1 from rfl] at z2
  rw [z2]
  have hb : popN b (L + 2 - (j + r + 1) - 1) = popN b (L - j - (r + 1) - 1) := by
    rcases Nat.lt_or_ge (j + r + 1) L with q | q
    · refine pop_ext ?_ (by omega)
      -- b is small, since s is
      have hb3 : 2 ^ (j + r + 2) * b ≤ s := by
        rw [hs, e, show j + r + 2 = j + (r + 2) by omega, Nat.pow_add, Nat.mul_assoc]
        exact Nat.mul_le_mul_left _ (Nat.le_add_right _ _)
      have hL : 2 ^ L = 2 ^ (j + r + 2) * 2 ^ (L - j - (r + 1) - 1) := by
        rw [← Nat.pow_add]
        congr 1
        omega
      have : 2 ^ (j + r + 2) * b < 2 ^ (j + r + 2) * 2 ^ (L - j - (r + 1) - 1) := by omega
      exact Nat.lt_of_mul_lt_mul_left this
    · have hb0 : b = 0 := by
        rcases Nat.eq_zero_or_pos b with z | z
        · exact z
        · exfalso
          have hb3 : 2 ^ (j + r + 2) * b ≤ s := by
            rw [hs, e, show j + r + 2 = j + (r + 2) by omega, Nat.pow_add, Nat.mul_assoc]
            exact Nat.mul_le_mul_left _ (Nat.le_add_right _ _)
          have hb4 : 2 ^ (j + r + 2) * 1 ≤ 2 ^ (j + r + 2) * b := Nat.mul_le_mul_left _ z
          have := pow_lt_L (x := j + r + 2) (s := s) (L := L) (by omega) h
          omega
      rw [hb0, pop_0, pop_0]
  rw [hb]
  omega
/-- PAIRS of a set: as many bits -/
theorem pop_bt {fr : Nat → Nat} {s f : Nat} (hi : ∀ i j, i < f → j < f → fr i = fr j → i = j) (hl : ∀ i, i < f → fr i < 36) : ∀ k, k ≤ f → popN (btN fr s k) 40 = popN s k ∧ ∀ x, (btN fr s k).testBit x = true → ∃ i, i < k ∧ fr i = x
  | 0, _ => ⟨by rw [btN, pop_0]; rfl, fun x h => by rw [btN, Nat.zero_testBit] at h; cases h⟩
  | k + 1, hk => by
    obtain ⟨h1, h2⟩ := pop_bt hi hl k (by omega)
    have hs : popN s (k + 1) = popN s k + (if s.testBit k = true then 1 else 0) := rfl
    rw [btN]
    by_cases e : s.testBit k = true
    · rw [if_pos e] at hs ⊢
      have hn : (btN fr s k).testBit (fr k) = false := by
        rcases q : (btN fr s k).testBit (fr k) with _ | _
        · rfl
        · obtain ⟨i, a, b⟩ := h2 _ q
          have := hi i k (by omega) (by omega) b
          omega
      have hb : ∀ x, (btN fr s k ||| 2 ^ fr k).testBit x = ((btN fr s k).testBit x || decide (fr k = x)) := fun x => by
        rw [Nat.testBit_or, Nat.testBit_two_pow]
      refine ⟨?_, fun x hx => ?_⟩
      · have key := cN_upd (p0 := fun i => (btN fr s k).testBit i) (p1 := fun i => (btN fr s k ||| 2 ^ fr k).testBit i) (q := fr k) (fun i hi => by simp only [hb]; simp [fun z : fr k = i => hi z.symm]; intro z; exact absurd z.symm hi) 40 (by have := hl k (by omega); omega)
        simp only [hn, hb] at key
        unfold popN at h1 hs ⊢
        simp only [hb]
        simp at key
        omega
      · rw [hb] at hx
        rcases q : (btN fr s k).testBit x with _ | _
        · rw [q] at hx
          simp at hx
          exact ⟨k, by omega, hx⟩
        · obtain ⟨i, a, b⟩ := h2 _ q
          exact ⟨i, by omega, b⟩
    · rw [if_neg e] at hs ⊢
      rw [Nat.or_zero]
      exact ⟨by rw [h1, hs]; rfl, fun x hx => by obtain ⟨i, a, b⟩ := h2 x hx; exact ⟨i, by omega, b⟩⟩
/-- bytes, the least ahead -/
def toB : List Nat → Nat
  | [] => 0
  | b :: bs => 256 * toB bs + b
theorem and_byte (X Y c : Nat) (hc : c < 256) : X &&& (256 * Y + c) = 256 * ((X / 256) &&& Y) + ((X % 256) &&& c) := by
  have hlt : (X % 256) &&& c < 2 ^ 8 := Nat.lt_of_le_of_lt Nat.and_le_right hc
  apply Nat.eq_of_testBit_eq
  intro i
  rw [show (256 : Nat) = 2 ^ 8 from rfl] at *
  rw [Nat.testBit_and, Nat.testBit_two_pow_mul_add _ hc, Nat.testBit_two_pow_mul_add _ hlt]
  by_cases h : i < 8
  · rw [if_pos h, if_pos h, Nat.testBit_and, Nat.testBit_mod_two_pow]
    simp [h]
  · rw [if_neg h, if_neg h, Nat.testBit_and, Nat.testBit_div_two_pow, Nat.sub_add_cancel (by omega)]
def rpB (c : Nat) : Nat → Nat
  | 0 => 0
  | n + 1 => 256 * rpB c n + c
def pb1 (b : Nat) : Nat := b - ((b / 2) &&& 85)
def pb2 (b : Nat) : Nat := (b &&& 51) + ((b / 4) &&& 51)
def pb3 (b : Nat) : Nat := (b + b / 16) &&& 15
theorem pb_t1 : ∀ t, t < 2 → ∀ u, u < 128 → (128 * t + u) &&& 85 = u &&& 85 := by decide +kernel
theorem pb_t2 : ∀ t, t < 4 → ∀ u, u < 64 → (64 * t + u) &&& 51 = u &&& 51 := by decide +kernel
theorem pb_t3 : ∀ t, t < 5 → ∀ u, u < 80 → (16 * t + u) &&& 15 = u &&& 15 := by decide +kernel
theorem pb_all : ∀ b, b < 256 → pb1 b < 256 ∧ pb2 (pb1 b) < 69 ∧ pb2 (pb1 b) % 16 < 5 ∧ pb3 (pb2 (pb1 b)) = popN b 8 ∧ pb3 (pb2 (pb1 b)) < 9 := by decide +kernel
theorem tb_1 : ∀ (n : Nat) (bs : List Nat), bs.length ≤ n → (∀ b ∈ bs, b < 256) → toB bs - ((toB bs / 2) &&& rpB 85 n) = toB (bs.map pb1) ∧ ((toB bs / 2) &&& rpB 85 n) ≤ toB bs
  | n, [], _, _ => by simp [toB]
  | 0, b :: bs, h, _ => by simp at h
  | n + 1, b :: bs, h, hb => by
    have hlen : bs.length ≤ n := by simpa using h
    obtain ⟨i1, i2⟩ := tb_1 n bs hlen (fun x hx => hb x (List.mem_cons_of_mem _ hx))
    have hb1 := hb b List.mem_cons_self
    have e : (256 * toB bs + b) / 2 &&& rpB 85 (n + 1) = 256 * ((toB bs / 2) &&& rpB 85 n) + ((b / 2) &&& 85) := by
      rw [rpB, and_byte _ _ _ (by decide), show (256 * toB bs + b) / 2 / 256 = toB bs / 2 by omega, show (256 * toB bs + b) / 2 % 256 = 128 * (toB bs % 2) + b / 2 by omega, pb_t1 _ (by omega) _ (by omega)]
    have hle : (b / 2) &&& 85 ≤ b := Nat.le_trans Nat.and_le_left (Nat.div_le_self _ _)
    rw [toB, List.map_cons, toB, ← i1, e]
    unfold pb1
    omega
theorem tb_2 : ∀ (n : Nat) (bs : List Nat), bs.length ≤ n → (∀ b ∈ bs, b < 256) → (toB bs &&& rpB 51 n) + ((toB bs / 4) &&& rpB 51 n) = toB (bs.map pb2)
  | n, [], _, _ => by simp [toB]
  | 0, b :: bs, h, _ => by simp at h
  | n + 1, b :: bs, h, hb => by
    have hlen : bs.length ≤ n := by simpa using h
    have i1 := tb_2 n bs hlen (fun x hx => hb x (List.mem_cons_of_mem _ hx))
    have hb1 := hb b List.mem_cons_self
    rw [toB, List.map_cons, toB, ← i1, rpB, and_byte _ _ _ (by decide), and_byte _ _ _ (by decide), show (256 * toB bs + b) / 4 / 256 = toB bs / 4 by omega, show (256 * toB bs + b) / 4 % 256 = 64 * (toB bs % 4) + b / 4 by omega, pb_t2 _ (by omega) _ (by omega), show (256 * toB bs + b) / 256 = toB bs by omega, show (256 * toB bs + b) % 256 = b by omega]
    unfold pb2
    omega
theorem tb_3 : ∀ (n : Nat) (bs : List Nat), bs.length ≤ n → (∀ b ∈ bs, b < 69 ∧ b % 16 < 5) → (toB bs + toB bs / 16) &&& rpB 15 n = toB (bs.map pb3)
  | n, [], _, _ => by simp [toB]
  | 0, b :: bs, h, _ => by simp at h
  | n + 1, b :: bs, h, hb => by
    have hlen : bs.length ≤ n := by simpa using h
    have i1 := tb_3 n bs hlen (fun x hx => hb x (List.mem_cons_of_mem _ hx))
    have hb1 := hb b List.mem_cons_self
    have hh : toB bs % 16 < 5 := by
      cases bs with
      | nil => decide
      | cons c cs =>
        have := (hb c (by simp)).2
        rw [toB]
        omega
    rw [toB, List.map_cons, toB, ← i1, rpB, and_byte _ _ _ (by decide), show (256 * toB bs + b + (256 * toB bs + b) / 16) / 256 = toB bs + toB bs / 16 by omega, show (256 * toB bs + b + (256 * toB bs + b) / 16) % 256 = 16 * (toB bs % 16) + (b + b / 16) by omega, pb_t3 _ hh _ (by omega)]
    rfl
theorem bc_pop {x : Nat} (hx : x < 2 ^ 36) : bcN x = popN x 40 := by
  obtain ⟨a0, a1, a2, a3, a4, e, h0, h1, h2, h3, h4⟩ : ∃ a0 a1 a2 a3 a4, x = toB [a0, a1, a2, a3, a4] ∧ a0 < 256 ∧ a1 < 256 ∧ a2 < 256 ∧ a3 < 256 ∧ a4 < 256 := by
    refine ⟨x % 256, x / 256 % 256, x / 65536 % 256, x / 16777216 % 256, x / 4294967296, ?_, by omega, by omega, by omega, by omega, by omega⟩
    simp only [toB]
    omega
  have hb : ∀ b ∈ [a0, a1, a2, a3, a4], b < 256 := by simp [h0, h1, h2, h3, h4]
  have s1 : bc1 x = toB ([a0, a1, a2, a3, a4].map pb1) := by
    rw [e]; exact (tb_1 8 _ (by simp) hb).1
  have s2 : bc2 (bc1 x) = toB (([a0, a1, a2, a3, a4].map pb1).map pb2) := by
    rw [s1]
    exact tb_2 8 _ (by simp) (fun b hb2 => by
      obtain ⟨c, q1, q2⟩ := List.mem_map.mp hb2
      rw [← q2]; exact (pb_all c (hb c q1)).1)
  have s3 : bc3 (bc2 (bc1 x)) = toB ((([a0, a1, a2, a3, a4].map pb1).map pb2).map pb3) := by
    rw [s2]
    exact tb_3 8 _ (by simp) (fun b hb2 => by
      rw [List.map_map] at hb2
      obtain ⟨c, q1, q2⟩ := List.mem_map.mp hb2
      rw [← q2]; exact ⟨(pb_all c (hb c q1)).2.1, (pb_all c (hb c q1)).2.2.1⟩)
  have hp : popN x 40 = popN a0 8 + (popN a1 8 + (popN a2 8 + (popN a3 8 + popN a4 8))) := by
    rw [e]
    simp only [toB]
    have z0 := pop_app (k := 8) (x := 256 * (256 * (256 * (256 * 0 + a4) + a3) + a2) + a1) (y := a0) h0 32
    have z1 := pop_app (k := 8) (x := 256 * (256 * (256 * 0 + a4) + a3) + a2) (y := a1) h1 24
    have z2 := pop_app (k := 8) (x := 256 * (256 * 0 + a4) + a3) (y := a2) h2 16
    have z3 := pop_app (k := 8) (x := 256 * 0 + a4) (y := a3) h3 8
    have z4 : 256 * 0 + a4 = a4 := by omega
    rw [show (2 : Nat) ^ 8 = 256 from rfl] at z0 z1 z2 z3
    rw [z0, z1, z2, z3, z4]
  rw [hp]
  unfold bcN
  rw [s3]
  obtain ⟨_, _, _, p0, q0⟩ := pb_all a0 h0
  obtain ⟨_, _, _, p1, q1⟩ := pb_all a1 h1
  obtain ⟨_, _, _, p2, q2⟩ := pb_all a2 h2
  obtain ⟨_, _, _, p3, q3⟩ := pb_all a3 h3
  obtain ⟨_, _, _, p4, q4⟩ := pb_all a4 h4
  simp only [List.map_cons, List.map_nil, toB]
  rw [p0] at q0 ⊢
  rw [p1] at q1 ⊢
  rw [p2] at q2 ⊢
  rw [p3] at q3 ⊢
  rw [p4] at q4 ⊢
  generalize popN a0 8 = c0 at q0 ⊢
  generalize popN a1 8 = c1 at q1 ⊢
  generalize popN a2 8 = c2 at q2 ⊢
  generalize popN a3 8 = c3 at q3 ⊢
  generalize popN a4 8 = c4 at q4 ⊢
  have y0 : bc4 (256 * (256 * (256 * (256 * (256 * 0 + c4) + c3) + c2) + c1) + c0) = (c0 + c1) + 256 * (c1 + c2) + 65536 * (c2 + c3) + 16777216 * (c3 + c4) + 4294967296 * c4 := by
    unfold bc4
    rw [show (2 : Nat) ^ 8 = 256 from rfl]
    omega
  have y1 : bc5 ((c0 + c1) + 256 * (c1 + c2) + 65536 * (c2 + c3) + 16777216 * (c3 + c4) + 4294967296 * c4) = (c0 + c1 + c2 + c3) + 256 * (c1 + c2 + c3 + c4) + 65536 * (c2 + c3 + c4) + 16777216 * (c3 + c4) + 4294967296 * c4 := by
    unfold bc5
    rw [show (2 : Nat) ^ 16 = 65536 from rfl]
    omega
  rw [y0, y1]
  unfold bc6
  rw [show (2 : Nat) ^ 32 = 4294967296 from rfl]
  have y2 : ((c0 + c1 + c2 + c3) + 256 * (c1 + c2 + c3 + c4) + 65536 * (c2 + c3 + c4) + 16777216 * (c3 + c4) + 4294967296 * c4) / 4294967296 = c4 := by omega
  rw [y2]
  omega
