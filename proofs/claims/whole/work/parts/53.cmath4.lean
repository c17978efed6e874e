/-! ===== goals beside the reference's: bounds, changes, worst ===== -/
theorem kpR_ne {base : Nat → Int32} {sq A : Nat → Nat} {p : Nat} : ∀ k, (∀ j, j < k → sq j ≠ p) → kpR base sq A k p = base p
  | 0, _ => rfl
  | k + 1, h => by
    rw [kpR]
    have : upd (kpR base sq A k) (sq k) (nI (A k)) p = kpR base sq A k p := by simp only [upd]; rw [if_neg (fun z => h k (by omega) z.symm)]
    rw [this, kpR_ne k (fun j hj => h j (by omega))]
theorem kpR_at {base : Nat → Int32} {sq A : Nat → Nat} {q : Nat} : ∀ k, q < k → (∀ j, j < k → j ≠ q → sq j ≠ sq q) → kpR base sq A k (sq q) = nI (A q)
  | 0, h, _ => by omega
  | k + 1, h, hj => by
    rw [kpR]
    by_cases e : q = k
    · subst e; simp [upd]
    · have : upd (kpR base sq A k) (sq k) (nI (A k)) (sq q) = kpR base sq A k (sq q) := by simp only [upd]; rw [if_neg (fun z => hj k (by omega) (fun z => e z.symm) z.symm)]
      rw [this]
      exact kpR_at k (by omega) (fun j a b => hj j (by omega) b)
theorem bdS_ne {sq A : Nat → Nat} {met : Bool} {r : (Nat → Int32) × (Nat → Int32)} {p : Nat} : ∀ k, (∀ j, j < k → sq j ≠ p) → (bdS sq A met r k).1 p = r.1 p ∧ (bdS sq A met r k).2 p = r.2 p
  | 0, _ => ⟨rfl, rfl⟩
  | k + 1, h => by
    rw [bdS]
    have hne : ¬ p = sq k := fun z => h k (by omega) z.symm
    obtain ⟨i1, i2⟩ := bdS_ne (r := r) (met := met) (A := A) k (fun j hj => h j (by omega))
    simp only [upd, hne, if_false]
    exact ⟨i1, i2⟩
theorem bdS_at {sq A : Nat → Nat} {met : Bool} {r : (Nat → Int32) × (Nat → Int32)} {q : Nat} : ∀ k, q < k → (∀ i j, i < k → j < k → sq i = sq j → i = j) → (bdS sq A met r k).1 (sq q) = (if met = false ∨ nI (A q) < r.1 (sq q) then nI (A q) else r.1 (sq q)) ∧ (bdS sq A met r k).2 (sq q) = (if r.2 (sq q) < nI (A q) then nI (A q) else r.2 (sq q))
  | 0, h, _ => by omega
  | k + 1, h, hj => by
    rw [bdS]
    by_cases e : q = k
    · subst e
      obtain ⟨i1, i2⟩ := bdS_ne (r := r) (met := met) (A := A) (sq := sq) (p := sq q) q (fun j a z => by have := hj j q (by omega) (by omega) z; omega)
      simp only [upd, if_true]
      rw [i1, i2]
      exact ⟨rfl, rfl⟩
    · have hne : ¬ sq q = sq k := fun z => e (hj q k (by omega) (by omega) z)
      simp only [upd, hne, if_false]
      exact bdS_at k (by omega) (fun i j a b => hj i j (by omega) (by omega))
def rgL (sq : Nat → Nat) (m : Nat) (c e : RgC) : Prop := c.1 = e.1 ∧ (c.1 = false → c = ra0 ∧ e = bd0) ∧ (c.1 = true → ∀ p, p < 36 → c.2.1 p = e.2.1 p ∧ c.2.2 p = e.2.2 p ∧ ((∀ j, j < m → sq j ≠ p) → c.2.1 p = nI 0 ∧ c.2.2 p = nI 0))
theorem rg_step {sq : Nat → Nat} {m : Nat} (hj : ∀ i j, i < m → j < m → sq i = sq j → i = j) (c e : RgC) (A : Nat → Nat) (hA : ∀ j, j < m → A j ≤ 200) (h : rgL sq m c e) : rgL sq m (raP sq m c A).1 (bdP sq m e A).1 ∧ (raP sq m c A).2 = (bdP sq m e A).2 := by
  refine ⟨⟨rfl, fun z => absurd z (show ¬ true = false by decide), fun _ p hp => ?_⟩, rfl⟩
  obtain ⟨h1, h2, h3⟩ := h
  show iMn (c.2.1 p) (kp0 sq m A p) = (bdS sq A e.1 e.2 m).1 p ∧ iMx (c.2.2 p) (kp0 sq m A p) = (bdS sq A e.1 e.2 m).2 p ∧ ((∀ j, j < m → sq j ≠ p) → iMn (c.2.1 p) (kp0 sq m A p) = nI 0 ∧ iMx (c.2.2 p) (kp0 sq m A p) = nI 0)
  by_cases hs : ∃ k, k < m ∧ sq k = p
  · obtain ⟨k, hk, rfl⟩ := hs
    have hk0 : kp0 sq m A (sq k) = nI (A k) := kpR_at m hk (fun j a b z => b (hj j k a hk z))
    obtain ⟨b1, b2⟩ := bdS_at (A := A) (met := e.1) (r := e.2) m hk hj
    rw [hk0, b1, b2]
    refine ⟨?_, ?_, fun z => absurd rfl (z k hk)⟩
    · rcases hc : c.1 with _ | _
      · obtain ⟨rfl, rfl⟩ := h2 hc
        rw [if_pos (show bd0.1 = false ∨ nI (A k) < bd0.2.1 (sq k) from Or.inl rfl)]
        show (if nI (A k) < nI 200 then nI (A k) else nI 200) = nI (A k)
        have := hA k hk
        by_cases q : A k < 200
        · rw [if_pos ((nI_ltI (by omega) (by decide)).mpr q)]
        · rw [if_neg (fun z => q ((nI_ltI (by omega) (by decide)).mp z)), show A k = 200 by omega]
      · have he : e.1 = true := by rw [← h1]; exact hc
        rw [(h3 hc _ hp).1]
        unfold iMn
        by_cases q : nI (A k) < e.2.1 (sq k)
        · rw [if_pos q, if_pos (Or.inr q)]
        · rw [if_neg q, if_neg (fun z => z.elim (fun z => by rw [he] at z; cases z) q)]
    · rcases hc : c.1 with _ | _
      · obtain ⟨rfl, rfl⟩ := h2 hc
        rfl
      · rw [(h3 hc _ hp).2.1]
        rfl
  · have hn : ∀ j, j < m → sq j ≠ p := fun j a z => hs ⟨j, a, z⟩
    have hk0 : kp0 sq m A p = nI 0 := kpR_ne m hn
    obtain ⟨b1, b2⟩ := bdS_ne (A := A) (met := e.1) (r := e.2) m hn
    rw [hk0, b1, b2]
    rcases hc : c.1 with _ | _
    · obtain ⟨rfl, rfl⟩ := h2 hc
      exact ⟨(by decide : iMn (nI 200) (nI 0) = nI 0), (by decide : iMx (nI 0) (nI 0) = nI 0), fun _ => ⟨(by decide : iMn (nI 200) (nI 0) = nI 0), (by decide : iMx (nI 0) (nI 0) = nI 0)⟩⟩
    · obtain ⟨z1, z2, z3⟩ := h3 hc p hp
      obtain ⟨y1, y2⟩ := z3 hn
      rw [← z1, ← z2, y1, y2]
      exact ⟨by decide, by decide, fun _ => ⟨by decide, by decide⟩⟩
theorem cN_upd {p0 p1 : Nat → Bool} {q : Nat} (h : ∀ i, i ≠ q → p1 i = p0 i) : ∀ n, q < n → cN p1 n + (if p0 q = true then 1 else 0) = cN p0 n + (if p1 q = true then 1 else 0)
  | 0, hq => by omega
  | n + 1, hq => by
    rw [cN_s, cN_s]
    by_cases e : q = n
    · subst e
      rw [cN_congr q (fun i hi => h i (by omega))]
      omega
    · have := cN_upd h n (by omega)
      rw [h n (fun z => e z.symm)]
      omega
theorem cN_ext {p : Nat → Bool} {a : Nat} : ∀ b, a ≤ b → (∀ i, a ≤ i → i < b → p i = false) → cN p b = cN p a
  | 0, h, _ => by rw [show a = 0 by omega]
  | b + 1, h, hp => by
    by_cases e : a = b + 1
    · rw [e]
    · rw [cN_s, hp b (by omega) (by omega), cN_ext b (by omega) (fun i x y => hp i x (by omega))]
      rfl
theorem i_as (a b c : Int32) : a + (b - c) = a + b - c := by rw [Int32.sub_eq_add_neg, Int32.sub_eq_add_neg, Int32.add_assoc]
theorem i_ac (a b : Int32) : a + b - b = a := by rw [Int32.sub_eq_add_neg, Int32.add_assoc, Int32.add_right_neg, Int32.add_zero]
theorem ch_va {ba : Nat → Int32} {NN m : Nat} {sq A : Nat → Nat} (hj : ∀ i j, i < m → j < m → sq i = sq j → i = j) (hs : ∀ j, j < m → sq j < 36) (hN : NN ≤ 36) (hb : ∀ p, NN ≤ p → p < 36 → ba p = nI 0) : ∀ k, k ≤ m → chR ba NN sq A k = nI (cN (fun p => decide (kpR (fun _ => nI 0) sq A k p ≠ ba p)) 36)
  | 0, _ => by
    rw [chR]
    congr 1
    rw [cN_ext (a := NN) 36 hN (fun i a b => by simp only [kpR]; rw [hb i a b]; simp)]
    refine cN_congr NN (fun i hi => ?_)
    unfold bsQ
    simp only [kpR]
    rw [nI_0]
    by_cases q : ba i = 0
    · simp [q]
    · have q2 : ¬ 0 = ba i := fun z => q z.symm
      simp [q, q2]
  | k + 1, hk => by
    rw [chR, ch_va hj hs hN hb k (by omega)]
    have hq := hs k (by omega)
    have hn : kpR (fun _ => nI 0) sq A k (sq k) = nI 0 := kpR_ne k (fun j a z => by have := hj j k (by omega) (by omega) z; omega)
    have h1 : kpR (fun _ => nI 0) sq A (k + 1) (sq k) = nI (A k) := by rw [kpR]; simp [upd]
    have key := cN_upd (p0 := fun p => decide (kpR (fun _ => nI 0) sq A k p ≠ ba p)) (p1 := fun p => decide (kpR (fun _ => nI 0) sq A (k + 1) p ≠ ba p)) (q := sq k) (fun i hi => by simp only [kpR, upd, hi, if_false]) 36 hq
    simp only [hn, h1] at key
    generalize cN (fun p => decide (kpR (fun _ => nI 0) sq A (k + 1) p ≠ ba p)) 36 = Y at key ⊢
    generalize cN (fun p => decide (kpR (fun _ => nI 0) sq A k p ≠ ba p)) 36 = X at key ⊢
    have eu : (if nI (A k) = ba (sq k) then nI 0 else nI 1) = nI (if decide (nI (A k) ≠ ba (sq k)) = true then 1 else 0) := by
      by_cases q : nI (A k) = ba (sq k)
      · simp [q]
      · simp [q]
    have ev : (if ba (sq k) = 0 then nI 0 else nI 1) = nI (if decide (nI 0 ≠ ba (sq k)) = true then 1 else 0) := by
      rw [nI_0]
      by_cases q : ba (sq k) = 0
      · simp [q, nI_0]
      · have q2 : ¬ 0 = ba (sq k) := fun z => q z.symm
        simp [q, q2]
    rw [eu, ev, i_as, nI_add, ← key, ← nI_add, i_ac]
theorem sI_upd {f0 f1 : Nat → Int32} {q : Nat} (h : ∀ i, i ≠ q → f1 i = f0 i) (h0 : f0 q = nI 0) : ∀ n, q < n → sI f1 n = sI f0 n + f1 q
  | 0, hq => by omega
  | n + 1, hq => by
    rw [sI, sI]
    by_cases e : q = n
    · subst e
      rw [sI_congr q (fun i hi => h i (by omega)), h0, nI_0, Int32.add_zero]
    · rw [sI_upd h h0 n (by omega), h n (fun z => e z.symm), Int32.add_assoc, Int32.add_assoc, Int32.add_comm (f1 q)]
theorem sI_zero {f : Nat → Int32} : ∀ n, (∀ i, i < n → f i = nI 0) → sI f n = nI 0
  | 0, _ => rfl
  | n + 1, h => by rw [sI, sI_zero n (fun i hi => h i (by omega)), h n (by omega)]; rfl
theorem ws_va {go : Nat → Int32} {th : Nat → Nat} {m : Nat} {sq A : Nat → Nat} (hj : ∀ i j, i < m → j < m → sq i = sq j → i = j) (hs : ∀ j, j < m → sq j < 36) (hg : ∀ p, p < 36 → go p = nI (th p) ∧ th p ≤ 1) : ∀ k, k ≤ m → sI (fun p => if go p = 0 then nI 0 else kpR (fun _ => nI 0) sq A k p) 36 = nI (wsN th sq A k)
  | 0, _ => by
    rw [wsN]
    refine sI_zero 36 (fun i _ => ?_)
    show (if go i = 0 then nI 0 else nI 0) = nI 0
    split <;> rfl
  | k + 1, hk => by
    have hq := hs k (by omega)
    have hn : kpR (fun _ => nI 0) sq A k (sq k) = nI 0 := kpR_ne k (fun j a z => by have := hj j k (by omega) (by omega) z; omega)
    have h1 : kpR (fun _ => nI 0) sq A (k + 1) (sq k) = nI (A k) := by rw [kpR]; simp [upd]
    rw [sI_upd (f0 := fun p => if go p = 0 then nI 0 else kpR (fun _ => nI 0) sq A k p) (q := sq k) (fun i hi => by simp only [kpR, upd, hi, if_false]) (by simp only [hn]; split <;> rfl) 36 hq, ws_va hj hs hg k (by omega), wsN, ← nI_add]
    congr 1
    simp only [h1]
    obtain ⟨g1, g2⟩ := hg _ hq
    rw [g1]
    rcases Nat.eq_zero_or_pos (th (sq k)) with z | z
    · rw [z, nI_0, if_pos rfl, Nat.zero_mul]
      rfl
    · rw [show th (sq k) = 1 by omega, if_neg (by decide), Nat.one_mul]
theorem wsN_le {th : Nat → Nat} {sq A : Nat → Nat} {m : Nat} (hA : ∀ j, j < m → A j ≤ 200) (ht : ∀ j, j < m → th (sq j) ≤ 1) : ∀ k, k ≤ m → wsN th sq A k ≤ 200 * k
  | 0, _ => by rw [wsN]; omega
  | k + 1, hk => by
    rw [wsN]
    have := wsN_le hA ht k (by omega)
    have h1 : th (sq k) * A k ≤ 1 * 200 := Nat.mul_le_mul (ht k (by omega)) (hA k (by omega))
    omega
theorem i_neg_le {u v : Nat} (hu : u < 2 ^ 31) (hv : v < 2 ^ 31) : -(nI v) ≤ -(nI u) ↔ u ≤ v := by
  rw [Int32.le_iff_toInt_le, Int32.toInt_neg, Int32.toInt_neg, nI_toInt hu, nI_toInt hv]
  rw [Int.bmod_eq_of_le (by omega) (by omega), Int.bmod_eq_of_le (by omega) (by omega)]
  omega
def fwL (c : BsC) (e : Int32 × Option (Nat → Nat)) : Prop := (c.1 = false → e = (-9, none)) ∧ (c.1 = true → e = (c.2.1, some c.2.2) ∧ ∃ v, v ≤ 36 ∧ c.2.1 = nI v)
theorem fw_step {val val' : (Nat → Nat) → Int32} (c : BsC) (e : Int32 × Option (Nat → Nat)) (A : Nat → Nat) (hA : val A = val' A ∧ ∃ v, v ≤ 36 ∧ val A = nI v) (h : fwL c e) : fwL (bsP val c A).1 (beP btC val' e A).1 ∧ (bsP val c A).2 = (beP btC val' e A).2 := by
  refine ⟨?_, rfl⟩
  obtain ⟨h1, h2⟩ := h
  obtain ⟨hv, v, hv1, hv2⟩ := hA
  show fwL (if c.1 = true ∧ c.2.1 ≤ val A then c else (true, val A, A)) (if btC e.1 (val' A) = true then (val' A, some A) else e)
  rcases hc : c.1 with _ | _
  · rw [if_neg (fun z => by cases z.1), h1 hc, if_pos (by unfold btC; simp), ← hv]
    exact ⟨fun z => (by cases z), fun _ => ⟨rfl, v, hv1, hv2⟩⟩
  · obtain ⟨he, u, hu1, hu2⟩ := h2 hc
    rw [he, ← hv]
    by_cases q : c.2.1 ≤ val A
    · rw [if_pos ⟨rfl, q⟩, if_neg]
      · exact ⟨fun z => (by rw [hc] at z; cases z), fun _ => ⟨rfl, u, hu1, hu2⟩⟩
      · unfold btC
        rw [decide_eq_true_iff, hu2]
        rintro (z | z)
        · exact nI_pos (by omega) z
        · rw [hu2] at q; exact absurd q (Int32.not_le.mpr z)
    · rw [if_neg (fun z => q z.2), if_pos]
      · exact ⟨fun z => (by cases z), fun _ => ⟨rfl, v, hv1, hv2⟩⟩
      · unfold btC
        rw [decide_eq_true_iff]
        exact Or.inr (Int32.not_le.mp q)
def hvL (c : BsC) (e : Int32 × Option (Nat → Nat)) : Prop := (c.1 = false → e = (-9, none)) ∧ (c.1 = true → ∃ v, v ≤ 7200 ∧ c.2.1 = -(nI v) ∧ e = (nI v, some c.2.2))
theorem hv_step {val val' : (Nat → Nat) → Int32} (c : BsC) (e : Int32 × Option (Nat → Nat)) (A : Nat → Nat) (hA : ∃ v, v ≤ 7200 ∧ val A = -(nI v) ∧ val' A = nI v) (h : hvL c e) : hvL (bsP val c A).1 (beP btW val' e A).1 ∧ (bsP val c A).2 = (beP btW val' e A).2 := by
  refine ⟨?_, rfl⟩
  obtain ⟨h1, h2⟩ := h
  obtain ⟨v, hv1, hv2, hv3⟩ := hA
  show hvL (if c.1 = true ∧ c.2.1 ≤ val A then c else (true, val A, A)) (if btW e.1 (val' A) = true then (val' A, some A) else e)
  rcases hc : c.1 with _ | _
  · rw [if_neg (fun z => by cases z.1), h1 hc, if_pos, hv3]
    · exact ⟨fun z => (by cases z), fun _ => ⟨v, hv1, hv2, rfl⟩⟩
    · unfold btW
      rw [decide_eq_true_iff, hv3]
      have := nI_pos' (n := v) (by omega)
      exact Int32.lt_of_lt_of_le (by decide) this
  · obtain ⟨u, hu1, hu2, he⟩ := h2 hc
    rw [he, hv3, hu2, hv2]
    by_cases q : v ≤ u
    · rw [if_pos ⟨rfl, (i_neg_le (by omega) (by omega)).mpr q⟩, if_neg]
      · exact ⟨fun z => (by rw [hc] at z; cases z), fun _ => ⟨u, hu1, hu2, rfl⟩⟩
      · unfold btW
        rw [decide_eq_true_iff]
        exact fun z => by have := (nI_ltI (by omega) (by omega)).mp z; omega
    · rw [if_neg (fun z => q ((i_neg_le (by omega) (by omega)).mp z.2)), if_pos]
      · exact ⟨fun z => (by cases z), fun _ => ⟨v, hv1, rfl, rfl⟩⟩
      · unfold btW
        rw [decide_eq_true_iff]
        exact (nI_ltI (by omega) (by omega)).mpr (by omega)
