/-! ===== numbers, loops, shapes of the many ===== -/
theorem nI_inc (i : Nat) : nI i + Int32.ofInt 1 = nI (i + 1) := nI_1 i
/-- downwards from N -/
theorem am_dn {P : Nat → Prop} (N : Nat) (h : ∀ i, i ≤ N → (∀ j, i < j → j ≤ N → P j) → P i) : ∀ i, i ≤ N → P i := by
  have key : ∀ k i, i + k = N → ∀ j, i ≤ j → j ≤ N → P j := by
    intro k
    induction k with
    | zero =>
      intro i hi j h1 h2
      have : j = N := by omega
      subst this
      exact h j (Nat.le_refl _) (fun q h3 h4 => by omega)
    | succ k ih =>
      intro i hi j h1 h2
      by_cases e : i < j
      · exact ih (i + 1) (by omega) j (by omega) h2
      · have : j = i := by omega
        subst this
        exact h j h2 (fun q h3 h4 => ih (j + 1) (by omega) q (by omega) h4)
  intro i hi
  exact key (N - i) i (by omega) i (Nat.le_refl _) hi
/-- by a measure -/
theorem am_wf {S : Type} {P : S → Prop} (μ : S → Nat) (h : ∀ s, (∀ s', μ s' < μ s → P s') → P s) : ∀ s, P s := by
  have key : ∀ n s, μ s < n → P s := by
    intro n
    induction n with
    | zero => intro s hs; omega
    | succ n ih => intro s hs; exact h s (fun s' h' => ih s' (by omega))
  intro s
  exact key (μ s + 1) s (by omega)
def nM : Int32 := -9
theorem nI_ne_neg {n : Nat} (h : n < 2 ^ 31) {x : Int32} (hx : x < 0) : nI n ≠ x := fun e => nI_pos h (e ▸ hx)
theorem nI_inj {a b : Nat} (ha : a < 2 ^ 31) (hb : b < 2 ^ 31) (h : nI a = nI b) : a = b := (nI_eq ha hb).mp h
section AWN
variable {G : am_G} {cc : ByteArray} {nL : Nat} {own : String} {d : Nat} {Ex : am_Ex} {pc : Nat} {L L' : List (Option Value)} {st : List Value} {I : am_I} {J : am_J}
theorem a_icmp_eqN {x y : Nat} {off : Int} {tgt : Nat} (hd : decode cc pc = .ok (.if_icmp .eq off, 3)) (ht : (pc : Int) + off = (tgt : Int)) (hx : x < 2 ^ 31) (hy : y < 2 ^ 31) (kt : x = y → AW G cc nL own d Ex tgt L st I J) (kf : x ≠ y → AW G cc nL own d Ex (pc + 3) L st I J) : AW G cc nL own d Ex pc L (.int (nI y) :: .int (nI x) :: st) I J := a_icmp_eq hd ht (fun h => kt ((nI_eq hx hy).mp h)) (fun h => kf (fun e => h ((nI_eq hx hy).mpr e)))
theorem a_icmp_neN {x y : Nat} {off : Int} {tgt : Nat} (hd : decode cc pc = .ok (.if_icmp .ne off, 3)) (ht : (pc : Int) + off = (tgt : Int)) (hx : x < 2 ^ 31) (hy : y < 2 ^ 31) (kt : x ≠ y → AW G cc nL own d Ex tgt L st I J) (kf : x = y → AW G cc nL own d Ex (pc + 3) L st I J) : AW G cc nL own d Ex pc L (.int (nI y) :: .int (nI x) :: st) I J := a_icmp_ne hd ht (fun h => kt (fun e => h ((nI_eq hx hy).mpr e))) (fun h => kf ((nI_eq hx hy).mp h))
theorem a_icmp_ltN {x y : Nat} {off : Int} {tgt : Nat} (hd : decode cc pc = .ok (.if_icmp .lt off, 3)) (ht : (pc : Int) + off = (tgt : Int)) (hx : x < 2 ^ 31) (hy : y < 2 ^ 31) (kt : x < y → AW G cc nL own d Ex tgt L st I J) (kf : y ≤ x → AW G cc nL own d Ex (pc + 3) L st I J) : AW G cc nL own d Ex pc L (.int (nI y) :: .int (nI x) :: st) I J := a_icmp_lt hd ht (fun h => kt ((nI_ltI hx hy).mp h)) (fun h => kf (by have := mt (nI_ltI hx hy).mpr h; omega))
theorem a_icmp_geN {x y : Nat} {off : Int} {tgt : Nat} (hd : decode cc pc = .ok (.if_icmp .ge off, 3)) (ht : (pc : Int) + off = (tgt : Int)) (hx : x < 2 ^ 31) (hy : y < 2 ^ 31) (kt : y ≤ x → AW G cc nL own d Ex tgt L st I J) (kf : x < y → AW G cc nL own d Ex (pc + 3) L st I J) : AW G cc nL own d Ex pc L (.int (nI y) :: .int (nI x) :: st) I J := a_icmp_ge hd ht (fun h => kt ((nI_leI hy hx).mp h)) (fun h => kf (by have := mt (nI_leI hy hx).mpr h; omega))
theorem a_icmp_gtN {x y : Nat} {off : Int} {tgt : Nat} (hd : decode cc pc = .ok (.if_icmp .gt off, 3)) (ht : (pc : Int) + off = (tgt : Int)) (hx : x < 2 ^ 31) (hy : y < 2 ^ 31) (kt : y < x → AW G cc nL own d Ex tgt L st I J) (kf : x ≤ y → AW G cc nL own d Ex (pc + 3) L st I J) : AW G cc nL own d Ex pc L (.int (nI y) :: .int (nI x) :: st) I J := a_icmp_gt hd ht (fun h => kt ((nI_ltI hy hx).mp h)) (fun h => kf (by have := mt (nI_ltI hy hx).mpr h; omega))
theorem a_icmp_leN {x y : Nat} {off : Int} {tgt : Nat} (hd : decode cc pc = .ok (.if_icmp .le off, 3)) (ht : (pc : Int) + off = (tgt : Int)) (hx : x < 2 ^ 31) (hy : y < 2 ^ 31) (kt : x ≤ y → AW G cc nL own d Ex tgt L st I J) (kf : y < x → AW G cc nL own d Ex (pc + 3) L st I J) : AW G cc nL own d Ex pc L (.int (nI y) :: .int (nI x) :: st) I J := a_icmp_le hd ht (fun h => kt ((nI_leI hx hy).mp h)) (fun h => kf (by have := mt (nI_leI hx hy).mpr h; omega))
theorem a_ticmp_eq {x y a b : Int32} {off : Int} {tgt pj : Nat} (hd : decode cc pc = .ok (.if_icmp .eq off, 3)) (ht : (pc : Int) + off = (tgt : Int)) (kt : AW G cc nL own d Ex pj L (.int a :: st) I J → AW G cc nL own d Ex tgt L st I J) (kf : AW G cc nL own d Ex pj L (.int b :: st) I J → AW G cc nL own d Ex (pc + 3) L st I J) (k : AW G cc nL own d Ex pj L (.int (if x = y then a else b) :: st) I J) : AW G cc nL own d Ex pc L (.int y :: .int x :: st) I J := a_icmp_eq hd ht (fun h => by rw [if_pos h] at k; exact kt k) (fun h => by rw [if_neg h] at k; exact kf k)
theorem a_tif_eq {x a b : Int32} {off : Int} {tgt pj : Nat} (hd : decode cc pc = .ok (.ifCond .eq off, 3)) (ht : (pc : Int) + off = (tgt : Int)) (kt : AW G cc nL own d Ex pj L (.int a :: st) I J → AW G cc nL own d Ex tgt L st I J) (kf : AW G cc nL own d Ex pj L (.int b :: st) I J → AW G cc nL own d Ex (pc + 3) L st I J) (k : AW G cc nL own d Ex pj L (.int (if x = 0 then a else b) :: st) I J) : AW G cc nL own d Ex pc L (.int x :: st) I J := a_if_eq hd ht (fun h => by rw [if_pos h] at k; exact kt k) (fun h => by rw [if_neg h] at k; exact kf k)
theorem a_ticmp_ne {x y a b : Int32} {off : Int} {tgt pj : Nat} (hd : decode cc pc = .ok (.if_icmp .ne off, 3)) (ht : (pc : Int) + off = (tgt : Int)) (kt : AW G cc nL own d Ex pj L (.int a :: st) I J → AW G cc nL own d Ex tgt L st I J) (kf : AW G cc nL own d Ex pj L (.int b :: st) I J → AW G cc nL own d Ex (pc + 3) L st I J) (k : AW G cc nL own d Ex pj L (.int (if x = y then b else a) :: st) I J) : AW G cc nL own d Ex pc L (.int y :: .int x :: st) I J := a_icmp_ne hd ht (fun h => by rw [if_neg h] at k; exact kt k) (fun h => by rw [if_pos h] at k; exact kf k)
theorem a_tif_ne {x a b : Int32} {off : Int} {tgt pj : Nat} (hd : decode cc pc = .ok (.ifCond .ne off, 3)) (ht : (pc : Int) + off = (tgt : Int)) (kt : AW G cc nL own d Ex pj L (.int a :: st) I J → AW G cc nL own d Ex tgt L st I J) (kf : AW G cc nL own d Ex pj L (.int b :: st) I J → AW G cc nL own d Ex (pc + 3) L st I J) (k : AW G cc nL own d Ex pj L (.int (if x = 0 then b else a) :: st) I J) : AW G cc nL own d Ex pc L (.int x :: st) I J := a_if_ne hd ht (fun h => by rw [if_neg h] at k; exact kt k) (fun h => by rw [if_pos h] at k; exact kf k)
theorem a_ticmp_lt {x y a b : Int32} {off : Int} {tgt pj : Nat} (hd : decode cc pc = .ok (.if_icmp .lt off, 3)) (ht : (pc : Int) + off = (tgt : Int)) (kt : AW G cc nL own d Ex pj L (.int a :: st) I J → AW G cc nL own d Ex tgt L st I J) (kf : AW G cc nL own d Ex pj L (.int b :: st) I J → AW G cc nL own d Ex (pc + 3) L st I J) (k : AW G cc nL own d Ex pj L (.int (if x < y then a else b) :: st) I J) : AW G cc nL own d Ex pc L (.int y :: .int x :: st) I J := a_icmp_lt hd ht (fun h => by rw [if_pos h] at k; exact kt k) (fun h => by rw [if_neg h] at k; exact kf k)
theorem a_tif_lt {x a b : Int32} {off : Int} {tgt pj : Nat} (hd : decode cc pc = .ok (.ifCond .lt off, 3)) (ht : (pc : Int) + off = (tgt : Int)) (kt : AW G cc nL own d Ex pj L (.int a :: st) I J → AW G cc nL own d Ex tgt L st I J) (kf : AW G cc nL own d Ex pj L (.int b :: st) I J → AW G cc nL own d Ex (pc + 3) L st I J) (k : AW G cc nL own d Ex pj L (.int (if x < 0 then a else b) :: st) I J) : AW G cc nL own d Ex pc L (.int x :: st) I J := a_if_lt hd ht (fun h => by rw [if_pos h] at k; exact kt k) (fun h => by rw [if_neg h] at k; exact kf k)
theorem a_ticmp_ge {x y a b : Int32} {off : Int} {tgt pj : Nat} (hd : decode cc pc = .ok (.if_icmp .ge off, 3)) (ht : (pc : Int) + off = (tgt : Int)) (kt : AW G cc nL own d Ex pj L (.int a :: st) I J → AW G cc nL own d Ex tgt L st I J) (kf : AW G cc nL own d Ex pj L (.int b :: st) I J → AW G cc nL own d Ex (pc + 3) L st I J) (k : AW G cc nL own d Ex pj L (.int (if y ≤ x then a else b) :: st) I J) : AW G cc nL own d Ex pc L (.int y :: .int x :: st) I J := a_icmp_ge hd ht (fun h => by rw [if_pos h] at k; exact kt k) (fun h => by rw [if_neg h] at k; exact kf k)
theorem a_tif_ge {x a b : Int32} {off : Int} {tgt pj : Nat} (hd : decode cc pc = .ok (.ifCond .ge off, 3)) (ht : (pc : Int) + off = (tgt : Int)) (kt : AW G cc nL own d Ex pj L (.int a :: st) I J → AW G cc nL own d Ex tgt L st I J) (kf : AW G cc nL own d Ex pj L (.int b :: st) I J → AW G cc nL own d Ex (pc + 3) L st I J) (k : AW G cc nL own d Ex pj L (.int (if 0 ≤ x then a else b) :: st) I J) : AW G cc nL own d Ex pc L (.int x :: st) I J := a_if_ge hd ht (fun h => by rw [if_pos h] at k; exact kt k) (fun h => by rw [if_neg h] at k; exact kf k)
theorem a_ticmp_gt {x y a b : Int32} {off : Int} {tgt pj : Nat} (hd : decode cc pc = .ok (.if_icmp .gt off, 3)) (ht : (pc : Int) + off = (tgt : Int)) (kt : AW G cc nL own d Ex pj L (.int a :: st) I J → AW G cc nL own d Ex tgt L st I J) (kf : AW G cc nL own d Ex pj L (.int b :: st) I J → AW G cc nL own d Ex (pc + 3) L st I J) (k : AW G cc nL own d Ex pj L (.int (if y < x then a else b) :: st) I J) : AW G cc nL own d Ex pc L (.int y :: .int x :: st) I J := a_icmp_gt hd ht (fun h => by rw [if_pos h] at k; exact kt k) (fun h => by rw [if_neg h] at k; exact kf k)
theorem a_tif_gt {x a b : Int32} {off : Int} {tgt pj : Nat} (hd : decode cc pc = .ok (.ifCond .gt off, 3)) (ht : (pc : Int) + off = (tgt : Int)) (kt : AW G cc nL own d Ex pj L (.int a :: st) I J → AW G cc nL own d Ex tgt L st I J) (kf : AW G cc nL own d Ex pj L (.int b :: st) I J → AW G cc nL own d Ex (pc + 3) L st I J) (k : AW G cc nL own d Ex pj L (.int (if 0 < x then a else b) :: st) I J) : AW G cc nL own d Ex pc L (.int x :: st) I J := a_if_gt hd ht (fun h => by rw [if_pos h] at k; exact kt k) (fun h => by rw [if_neg h] at k; exact kf k)
theorem a_ticmp_le {x y a b : Int32} {off : Int} {tgt pj : Nat} (hd : decode cc pc = .ok (.if_icmp .le off, 3)) (ht : (pc : Int) + off = (tgt : Int)) (kt : AW G cc nL own d Ex pj L (.int a :: st) I J → AW G cc nL own d Ex tgt L st I J) (kf : AW G cc nL own d Ex pj L (.int b :: st) I J → AW G cc nL own d Ex (pc + 3) L st I J) (k : AW G cc nL own d Ex pj L (.int (if x ≤ y then a else b) :: st) I J) : AW G cc nL own d Ex pc L (.int y :: .int x :: st) I J := a_icmp_le hd ht (fun h => by rw [if_pos h] at k; exact kt k) (fun h => by rw [if_neg h] at k; exact kf k)
theorem a_tif_le {x a b : Int32} {off : Int} {tgt pj : Nat} (hd : decode cc pc = .ok (.ifCond .le off, 3)) (ht : (pc : Int) + off = (tgt : Int)) (kt : AW G cc nL own d Ex pj L (.int a :: st) I J → AW G cc nL own d Ex tgt L st I J) (kf : AW G cc nL own d Ex pj L (.int b :: st) I J → AW G cc nL own d Ex (pc + 3) L st I J) (k : AW G cc nL own d Ex pj L (.int (if x ≤ 0 then a else b) :: st) I J) : AW G cc nL own d Ex pc L (.int x :: st) I J := a_if_le hd ht (fun h => by rw [if_pos h] at k; exact kt k) (fun h => by rw [if_neg h] at k; exact kf k)
theorem a_join (pj : Nat) (st0 : List Value) (h : AW G cc nL own d Ex pj L st0 I J) (k : AW G cc nL own d Ex pj L st0 I J → AW G cc nL own d Ex pc L st I J) : AW G cc nL own d Ex pc L st I J := k h
end AWN
theorem sh_line {i : Nat} (h : i < 12) : am_sh (20 + i) = .inl (2, [none, none, none, none, none, none, some (some (32 + i))]) := match i, h with
  | 0, _ => rfl
  | 1, _ => rfl
  | 2, _ => rfl
  | 3, _ => rfl
  | 4, _ => rfl
  | 5, _ => rfl
  | 6, _ => rfl
  | 7, _ => rfl
  | 8, _ => rfl
  | 9, _ => rfl
  | 10, _ => rfl
  | 11, _ => rfl
  | i + 12, h => absurd h (by omega)
theorem sh_read {i : Nat} (h : i < 12) : am_ar (32 + i) 0 24 := ⟨by unfold am_N; omega, match i, h with
  | 0, _ => rfl
  | 1, _ => rfl
  | 2, _ => rfl
  | 3, _ => rfl
  | 4, _ => rfl
  | 5, _ => rfl
  | 6, _ => rfl
  | 7, _ => rfl
  | 8, _ => rfl
  | 9, _ => rfl
  | 10, _ => rfl
  | 11, _ => rfl
  | i + 12, h => absurd h (by omega)⟩
theorem sh_byte {i : Nat} (h : i < 4) : am_ar (16 + i) 2 24 := ⟨by unfold am_N; omega, match i, h with
  | 0, _ => rfl
  | 1, _ => rfl
  | 2, _ => rfl
  | 3, _ => rfl
  | i + 4, h => absurd h (by omega)⟩
theorem sh_at {i j : Nat} {q : am_F} (h : i < 12) (hq : ([none, none, none, none, none, none, some (some (32 + i))] : List am_F)[j]? = some q) : am_at (20 + i) 2 j q := ⟨by unfold am_N; omega, _, sh_line h, hq⟩
theorem sh_ob {i : Nat} (h : i < 12) : am_ob (20 + i) RX4 := ⟨by unfold am_N; omega, _, _, _, sh_line h, rfl⟩
/-- a LINE's number, a PAIR's numbers -/
def isLn (n : Nat) (x : Int32) : Prop := ∃ l, l < n ∧ x = nI l
def isPr (N : Nat) (a b : Int32) : Prop := ∃ p q, p < N ∧ q < N ∧ p ≠ q ∧ a = nI p ∧ b = nI q
theorem rg_iff {x : Int32} {n : Nat} (hn : n < 2 ^ 31) : (0 ≤ x ∧ x < nI n) ↔ ∃ j, j < n ∧ x = nI j := by
  constructor
  · rintro ⟨h1, h2⟩
    obtain ⟨j, hj, e⟩ := nI_of (Int32.not_lt.mpr h1)
    exact ⟨j, by rw [e] at h2; exact (nI_ltI hj hn).mp h2, e⟩
  · rintro ⟨j, h1, rfl⟩
    exact ⟨nI_pos' (by omega), (nI_ltI (by omega) hn).mpr h1⟩
theorem rg_iff1 {x : Int32} {n : Nat} (hn : n < 2 ^ 31) : (0 ≤ x ∧ x ≤ nI n) ↔ ∃ j, j ≤ n ∧ x = nI j := by
  constructor
  · rintro ⟨h1, h2⟩
    obtain ⟨j, hj, e⟩ := nI_of (Int32.not_lt.mpr h1)
    exact ⟨j, by rw [e] at h2; exact (nI_leI hj hn).mp h2, e⟩
  · rintro ⟨j, h1, rfl⟩
    exact ⟨nI_pos' (by omega), (nI_leI (by omega) hn).mpr h1⟩
theorem rg_sub {x : Int32} {n : Nat} (hn : n < 2 ^ 31) : (0 ≤ x ∧ x ≤ nI n - 1) ↔ ∃ j, j < n ∧ x = nI j := by
  cases n with
  | zero =>
    constructor
    · rintro ⟨h1, h2⟩
      exact absurd (Int32.le_trans h1 h2) (by decide)
    · rintro ⟨j, h, -⟩
      omega
  | succ n =>
    rw [nI_pred, rg_iff1 (by omega)]
    exact ⟨fun ⟨j, h, e⟩ => ⟨j, by omega, e⟩, fun ⟨j, h, e⟩ => ⟨j, by omega, e⟩⟩
/-- how many below n -/
def cN (p : Nat → Bool) : Nat → Nat
  | 0 => 0
  | n + 1 => cN p n + (if p n then 1 else 0)
theorem cN_s (p : Nat → Bool) (n : Nat) : cN p (n + 1) = cN p n + (if p n then 1 else 0) := rfl
theorem cN_le (p : Nat → Bool) : ∀ n, cN p n ≤ n
  | 0 => Nat.le_refl _
  | n + 1 => by
    have := cN_le p n
    unfold cN
    split <;> omega
theorem ix_lt {N a b : Nat} (hN : N ≤ 6) (ha : a < N) (hb : b < N) : N * a + b < 36 := by
  have h1 : N * a ≤ N * (N - 1) := Nat.mul_le_mul_left N (by omega)
  have h2 : N * (N - 1) ≤ 6 * 5 := Nat.mul_le_mul hN (by omega)
  have h3 : N * (N - 1) + N = N * N := by
    rw [Nat.mul_sub, Nat.mul_one, Nat.sub_add_cancel]
    exact Nat.le_mul_of_pos_left N (by omega)
  have h4 : N * N ≤ 6 * 6 := Nat.mul_le_mul hN hN
  omega
theorem ix_lt2 {N a b : Nat} (ha : a < N) (hb : b < N) : N * a + b < N * N := by
  have h1 : N * (a + 1) ≤ N * N := Nat.mul_le_mul_left N (by omega)
  rw [Nat.mul_add] at h1
  omega
theorem sq_le {N : Nat} (hN : N ≤ 6) : N * N ≤ 36 := Nat.mul_le_mul hN hN
theorem cN_congr {p q : Nat → Bool} : ∀ n, (∀ i, i < n → p i = q i) → cN p n = cN q n
  | 0, _ => rfl
  | n + 1, h => by
    unfold cN
    rw [cN_congr n (fun i hi => h i (by omega)), h n (by omega)]
