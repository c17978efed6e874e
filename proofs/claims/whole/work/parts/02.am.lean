/-! ===== the abstract machine: places 0 .. 93, each with a fixed shape; what changes is I (ints, by place and slot) and J (longs) ===== -/
abbrev am_F : Type := Option (Option Nat)
abbrev am_Sh : Type := (Nat × List am_F) ⊕ (Nat × Nat × Option (Nat → Nat))
abbrev am_I : Type := Nat → Nat → Int32
abbrev am_J : Type := Nat → Nat → Int64
def am_N : Nat := 94
def am_tab : List am_Sh := [
  .inl (9, [some (some 1), some (some 2), some (some 3), some (some 4), some (some 5), some (some 6), some (some 7), some (some 8), some (some 9), some (some 10), none, none, some none, none, some (some 11)]),
  .inl (3, [none, none, some (some 12), some (some 13), some (some 14)]),
  .inl (5, [none, some (some 44), some (some 45), some (some 46)]),
  .inl (5, [none, some (some 47), some (some 48), some (some 49)]),
  .inl (6, [some (some 1), some (some 2), some (some 50), some (some 51), some (some 52), some (some 53), some (some 54), some (some 55), none, none, none, none]),
  .inl (8, [some (some 56), none, none]),
  .inl (4, [some (some 57), some (some 58), none]),
  .inl (0, [some (some 59), none, none, some (some 14)]),
  .inl (1, [some (some 60), none, none, some (some 61)]),
  .inl (7, [some (some 15), some (some 62)]),
  .inr (0, 36, none),
  .inr (0, 6, none),
  .inr (4, 12, some (fun i => 20 + i)),
  .inr (0, 36, none),
  .inr (0, 36, none),
  .inr (3, 4, some (fun i => 16 + i)),
  .inr (2, 24, none),
  .inr (2, 24, none),
  .inr (2, 24, none),
  .inr (2, 24, none),
  .inl (2, [none, none, none, none, none, none, some (some 32)]),
  .inl (2, [none, none, none, none, none, none, some (some 33)]),
  .inl (2, [none, none, none, none, none, none, some (some 34)]),
  .inl (2, [none, none, none, none, none, none, some (some 35)]),
  .inl (2, [none, none, none, none, none, none, some (some 36)]),
  .inl (2, [none, none, none, none, none, none, some (some 37)]),
  .inl (2, [none, none, none, none, none, none, some (some 38)]),
  .inl (2, [none, none, none, none, none, none, some (some 39)]),
  .inl (2, [none, none, none, none, none, none, some (some 40)]),
  .inl (2, [none, none, none, none, none, none, some (some 41)]),
  .inl (2, [none, none, none, none, none, none, some (some 42)]),
  .inl (2, [none, none, none, none, none, none, some (some 43)]),
  .inr (0, 24, none),
  .inr (0, 24, none),
  .inr (0, 24, none),
  .inr (0, 24, none),
  .inr (0, 24, none),
  .inr (0, 24, none),
  .inr (0, 24, none),
  .inr (0, 24, none),
  .inr (0, 24, none),
  .inr (0, 24, none),
  .inr (0, 24, none),
  .inr (0, 24, none),
  .inr (0, 36, none),
  .inr (0, 180, none),
  .inr (0, 6, none),
  .inr (0, 36, none),
  .inr (0, 180, none),
  .inr (0, 6, none),
  .inr (0, 36, none),
  .inr (0, 36, none),
  .inr (0, 12, none),
  .inr (0, 12, none),
  .inr (0, 36, none),
  .inr (0, 36, none),
  .inr (0, 36, none),
  .inr (0, 36, none),
  .inr (0, 36, none),
  .inr (0, 36, none),
  .inr (0, 36, none),
  .inr (1, 36, none),
  .inr (0, 4, none),
  .inl (10, [none, some (some 64), some none, none, none, some (some 65), some (some 66), some (some 67), some (some 68), some (some 69), some (some 70), some (some 71), some (some 72), some (some 73), some (some 74), none, some (some 75), some (some 76), none, none, none, some (some 77), some (some 78), some (some 79), some (some 80), some (some 81), some (some 82), some (some 83), some (some 84), none, none, none, some (some 85), some (some 86), some (some 87), some (some 88), some (some 89), some (some 90), some (some 91), some (some 92), some (some 93)]),
  .inr (0, 6, none),
  .inr (0, 12, none),
  .inr (0, 12, none),
  .inr (0, 12, none),
  .inr (1, 12, none),
  .inr (0, 12, none),
  .inr (0, 12, none),
  .inr (0, 288, none),
  .inr (0, 36, none),
  .inr (0, 36, none),
  .inr (0, 36, none),
  .inr (0, 36, none),
  .inr (0, 36, none),
  .inr (0, 36, none),
  .inr (0, 36, none),
  .inr (0, 36, none),
  .inr (0, 36, none),
  .inr (0, 36, none),
  .inr (0, 12, none),
  .inr (0, 36, none),
  .inr (0, 36, none),
  .inr (1, 36, none),
  .inr (0, 36, none),
  .inr (0, 36, none),
  .inr (0, 36, none),
  .inr (0, 36, none),
  .inr (0, 36, none),
  .inr (0, 4, none),
  .inr (0, 96, none),
  .inr (0, 24, none)]
def am_sh (k : Nat) : am_Sh := am_tab.getD k (.inr (0, 0, none))
def am_v (ad : Nat → Nat) (v : Value) : Value := match v with
  | .ref k => .ref (ad k)
  | v => v
def am_fv (ad : Nat → Nat) (I : am_I) (J : am_J) (k : Nat) (q : am_F) (j : Nat) : Value := match q with
  | none => .int (I k j)
  | some none => .long (J k j)
  | some (some r) => .ref (ad r)
def am_fs (ad : Nat → Nat) (I : am_I) (J : am_J) (k : Nat) : Nat → List am_F → List Value
  | _, [] => []
  | j, q :: qs => am_fv ad I J k q j :: am_fs ad I J k (j + 1) qs
def am_E (cI : Nat → ClassId) (ad : Nat → Nat) (I : am_I) (J : am_J) (k : Nat) (s : am_Sh) : va_E := match s with
  | .inl o => .inr (o.1, am_fs ad I J k 0 o.2)
  | .inr (t, n, none) => .inl (cI t, n, .inl (I k))
  | .inr (t, n, some f) => .inl (cI t, n, .inr (.inr (.inr (.inr (fun i => some (ad (f i)))))))
def am_W (cI : Nat → ClassId) (ad : Nat → Nat) (I : am_I) (J : am_J) : va_W := (List.range am_N).map fun k => (ad k, am_E cI ad I J k (am_sh k))
def am_up (I : am_I) (k j : Nat) (x : Int32) : am_I := fun a b => if a = k then (if b = j then x else I a b) else I a b
def am_upJ (J : am_J) (k j : Nat) (x : Int64) : am_J := fun a b => if a = k then (if b = j then x else J a b) else J a b
theorem am_up_ne {I : am_I} {k j a : Nat} {x : Int32} (h : a ≠ k) : am_up I k j x a = I a := by
  funext b; simp [am_up, h]
theorem am_up_row {I : am_I} {k j : Nat} {x : Int32} : am_up I k j x k = upd (I k) j x := by
  funext b; simp [am_up, upd]
theorem am_up_same {I : am_I} {k j : Nat} {x : Int32} : am_up I k j x k j = x := by simp [am_up]
theorem am_up_slot {I : am_I} {k j b : Nat} {x : Int32} (h : b ≠ j) : am_up I k j x k b = I k b := by simp [am_up, h]
theorem am_upJ_ne {J : am_J} {k j a : Nat} {x : Int64} (h : a ≠ k) : am_upJ J k j x a = J a := by
  funext b; simp [am_upJ, h]
theorem am_fs_get (ad : Nat → Nat) (I : am_I) (J : am_J) (k : Nat) : ∀ (fs : List am_F) (j0 j : Nat), (am_fs ad I J k j0 fs)[j]? = fs[j]?.map (fun q => am_fv ad I J k q (j0 + j))
  | [], j0, j => by simp [am_fs]
  | q :: qs, j0, 0 => by simp [am_fs]
  | q :: qs, j0, j + 1 => by
    have h := am_fs_get ad I J k qs (j0 + 1) j
    simp only [am_fs, List.getElem?_cons_succ, h]
    congr 1
    funext q
    congr 1
    omega
theorem am_fs_len (ad : Nat → Nat) (I : am_I) (J : am_J) (k : Nat) : ∀ (fs : List am_F) (j0 : Nat), (am_fs ad I J k j0 fs).length = fs.length
  | [], _ => rfl
  | _ :: qs, j0 => by simp [am_fs, am_fs_len ad I J k qs (j0 + 1)]
theorem am_fs_congr {ad : Nat → Nat} {I I' : am_I} {J J' : am_J} {k : Nat} (hI : I' k = I k) (hJ : J' k = J k) (fs : List am_F) (j0 : Nat) : am_fs ad I' J' k j0 fs = am_fs ad I J k j0 fs := by
  apply List.ext_getElem?
  intro j
  rw [am_fs_get, am_fs_get]
  congr 1
  funext q
  match q with
  | none => simp [am_fv, hI]
  | some none => simp [am_fv, hJ]
  | some (some r) => rfl
theorem am_fs_set {ad : Nat → Nat} {I : am_I} {J : am_J} {k j : Nat} {x : Int32} {fs : List am_F} (h : fs[j]? = some none) : (am_fs ad I J k 0 fs).set j (.int x) = am_fs ad (am_up I k j x) J k 0 fs := by
  have hl : j < fs.length := (List.getElem?_eq_some_iff.mp h).1
  apply List.ext_getElem?
  intro b
  rw [am_fs_get, List.getElem?_set, am_fs_get]
  by_cases hb : j = b
  · subst hb
    rw [if_pos rfl, if_pos (by rw [am_fs_len]; exact hl), h]
    simp [am_fv, am_up]
  · rw [if_neg hb]
    congr 1
    funext q
    match q with
    | none => simp [am_fv, am_up, show ¬ b = j from fun e => hb e.symm]
    | some none => rfl
    | some (some r) => rfl
theorem am_fs_setJ {ad : Nat → Nat} {I : am_I} {J : am_J} {k j : Nat} {x : Int64} {fs : List am_F} (h : fs[j]? = some (some none)) : (am_fs ad I J k 0 fs).set j (.long x) = am_fs ad I (am_upJ J k j x) k 0 fs := by
  have hl : j < fs.length := (List.getElem?_eq_some_iff.mp h).1
  apply List.ext_getElem?
  intro b
  rw [am_fs_get, List.getElem?_set, am_fs_get]
  by_cases hb : j = b
  · subst hb
    rw [if_pos rfl, if_pos (by rw [am_fs_len]; exact hl), h]
    simp [am_fv, am_upJ]
  · rw [if_neg hb]
    congr 1
    funext q
    match q with
    | none => rfl
    | some none => simp [am_fv, am_upJ, show ¬ b = j from fun e => hb e.symm]
    | some (some r) => rfl
theorem am_E_congr {cI : Nat → ClassId} {ad : Nat → Nat} {I I' : am_I} {J J' : am_J} {k : Nat} (hI : I' k = I k) (hJ : J' k = J k) (s : am_Sh) : am_E cI ad I' J' k s = am_E cI ad I J k s := by
  match s with
  | .inl o => simp only [am_E, am_fs_congr hI hJ]
  | .inr (t, n, none) => simp only [am_E, hI]
  | .inr (t, n, some f) => rfl
theorem am_W_get {cI : Nat → ClassId} {ad : Nat → Nat} {I : am_I} {J : am_J} {k : Nat} (hk : k < am_N) : (am_W cI ad I J)[k]? = some (ad k, am_E cI ad I J k (am_sh k)) := by
  simp [am_W, hk]
theorem am_W_lt {cI : Nat → ClassId} {ad : Nat → Nat} {I : am_I} {J : am_J} {k : Nat} {q : Nat × va_E} (h : (am_W cI ad I J)[k]? = some q) : k < am_N ∧ q = (ad k, am_E cI ad I J k (am_sh k)) := by
  have hl : k < (am_W cI ad I J).length := (List.getElem?_eq_some_iff.mp h).1
  have hk : k < am_N := by simpa [am_W] using hl
  rw [am_W_get hk] at h
  exact ⟨hk, (Option.some.inj h).symm⟩
theorem am_W_set {cI : Nat → ClassId} {ad : Nat → Nat} {I I' : am_I} {J J' : am_J} {k : Nat} (hI : ∀ a, a ≠ k → I' a = I a) (hJ : ∀ a, a ≠ k → J' a = J a) {E : va_E} (hE : E = am_E cI ad I' J' k (am_sh k)) : (am_W cI ad I J).set k (ad k, E) = am_W cI ad I' J' := by
  apply List.ext_getElem?
  intro b
  rw [List.getElem?_set]
  by_cases hb : k = b
  · subst hb
    by_cases hk : k < am_N
    · rw [am_W_get hk]
      simp [am_W, hk, hE]
    · have h1 : ¬ k < (am_W cI ad I J).length := by simpa [am_W] using hk
      have h2 : ¬ k < (am_W cI ad I' J').length := by simpa [am_W] using hk
      simp [List.getElem?_eq_none (Nat.not_lt.mp h2), h1]
  · rw [if_neg hb]
    by_cases hk : b < am_N
    · rw [am_W_get hk, am_W_get hk, am_E_congr (hI b (fun e => hb e.symm)) (hJ b (fun e => hb e.symm))]
    · have h1 : ¬ b < (am_W cI ad I J).length := by simpa [am_W] using hk
      have h2 : ¬ b < (am_W cI ad I' J').length := by simpa [am_W] using hk
      rw [List.getElem?_eq_none (Nat.not_lt.mp h2), List.getElem?_eq_none (Nat.not_lt.mp h1)]
theorem am_cat (ad : Nat → Nat) (v : Value) : (am_v ad v).category = v.category := by cases v <;> rfl
theorem am_cats (ad : Nat → Nat) (st : List Value) : ((st.map (am_v ad)).map fun v => v.category) = st.map fun v => v.category := by
  rw [List.map_map]
  congr 1
  funext v
  exact am_cat ad v
/-! locals -/
def am_L (ad : Nat → Nat) (ls : Array Slot) (n : Nat) (L : List (Option Value)) : Prop := ls.size = n ∧ L.length = n ∧ lv_wf ls ∧ ∀ (i : Nat) (v : Value), L[i]? = some (some v) → ls[i]? = some (.val (am_v ad v))
def am_kill (L : List (Option Value)) (i : Nat) : List (Option Value) := match i with
  | 0 => L
  | i + 1 => match L[i]? with
    | some (some (.long _)) => L.set i none
    | some (some (.double _)) => L.set i none
    | _ => L
def am_set (L : List (Option Value)) (i : Nat) (v : Value) : List (Option Value) := (am_kill L i).set i (some v)
def am_set2 (L : List (Option Value)) (i : Nat) (v : Value) : List (Option Value) := ((am_kill L i).set (i + 1) none).set i (some v)
def am_lv (ad : Nat → Nat) (L : List (Option Value)) : List (Nat × Value) := (List.range L.length).filterMap fun i => (L[i]?.join).map fun v => (i, am_v ad v)
theorem am_lv_mem {ad : Nat → Nat} {L : List (Option Value)} {q : Nat × Value} : q ∈ am_lv ad L ↔ ∃ v, L[q.1]? = some (some v) ∧ q.2 = am_v ad v := by
  unfold am_lv
  rw [List.mem_filterMap]
  constructor
  · rintro ⟨i, hi, h⟩
    rw [Option.map_eq_some_iff] at h
    obtain ⟨v, h1, h2⟩ := h
    subst h2
    exact ⟨v, by rw [Option.join_eq_some_iff] at h1; exact h1, rfl⟩
  · rintro ⟨v, h1, h2⟩
    refine ⟨q.1, List.mem_range.mpr (List.getElem?_eq_some_iff.mp h1).1, ?_⟩
    rw [h1]
    obtain ⟨a, b⟩ := q
    simp only at h2
    subst h2
    rfl
theorem am_L_has {ad : Nat → Nat} {ls : Array Slot} {n : Nat} {L : List (Option Value)} (h : am_L ad ls n L) : lv_has ls n (am_lv ad L) := by
  refine ⟨h.1, h.2.2.1, fun q hq => ?_⟩
  obtain ⟨v, h1, h2⟩ := am_lv_mem.mp hq
  rw [h2]
  exact h.2.2.2 _ _ h1
theorem am_kill_len (L : List (Option Value)) (i : Nat) : (am_kill L i).length = L.length := by
  unfold am_kill
  split
  · rfl
  · split <;> simp
theorem am_kill_get {L : List (Option Value)} {i b : Nat} {v : Value} (h : (am_kill L i)[b]? = some (some v)) : L[b]? = some (some v) ∧ ¬ (b + 1 = i ∧ v.category = 2) := by
  unfold am_kill at h
  split at h
  · exact ⟨h, fun q => by omega⟩
  · rename_i j
    split at h
    · rename_i x hx
      rw [List.getElem?_set] at h
      by_cases hb : j = b
      · subst hb
        simp at h
      · rw [if_neg hb] at h
        exact ⟨h, fun q => hb (by omega)⟩
    · rename_i x hx
      rw [List.getElem?_set] at h
      by_cases hb : j = b
      · subst hb
        simp at h
      · rw [if_neg hb] at h
        exact ⟨h, fun q => hb (by omega)⟩
    · rename_i h1 h2
      refine ⟨h, fun q => ?_⟩
      obtain ⟨q1, q2⟩ := q
      have hb : b = j := by omega
      subst hb
      cases v with
      | long x => exact h1 x h
      | double x => exact h2 x h
      | _ => simp [Value.category] at q2
theorem am_L_set {ad : Nat → Nat} {ls ls' : Array Slot} {n : Nat} {L : List (Option Value)} {i : Nat} {v : Value} (h : am_L ad ls n L) (hi : i < L.length) (h1 : lv_has ls' n ((i, am_v ad v) :: (am_lv ad L).filter (fun q => !(q.1 == i) && !(q.1 + 1 == i && q.2.category == 2)))) : am_L ad ls' n (am_set L i v) := by
  refine ⟨h1.1, ?_, h1.2.1, fun b x hb => ?_⟩
  · rw [am_set, List.length_set, am_kill_len]; exact h.2.1
  · refine h1.2.2 (b, am_v ad x) ?_
    unfold am_set at hb
    rw [List.getElem?_set] at hb
    by_cases he : i = b
    · subst he
      simp [am_kill_len, hi] at hb
      subst hb
      exact List.mem_cons_self
    · rw [if_neg he] at hb
      obtain ⟨g1, g2⟩ := am_kill_get hb
      refine List.mem_cons_of_mem _ (List.mem_filter.mpr ⟨am_lv_mem.mpr ⟨x, g1, rfl⟩, ?_⟩)
      have h3 : ¬ b = i := fun e => he e.symm
      by_cases h4 : b + 1 = i
      · have h5 : ¬ x.category = 2 := fun e => g2 ⟨h4, e⟩
        simp [h3, am_cat, h5]
      · simp [h3, h4]
theorem am_L_set2 {ad : Nat → Nat} {ls ls' : Array Slot} {n : Nat} {L : List (Option Value)} {i : Nat} {v : Value} (h : am_L ad ls n L) (hi : i + 1 < L.length) (h1 : lv_has ls' n ((i, am_v ad v) :: (am_lv ad L).filter (fun q => !(q.1 == i) && (!(q.1 == i + 1) && !(q.1 + 1 == i && q.2.category == 2))))) : am_L ad ls' n (am_set2 L i v) := by
  refine ⟨h1.1, ?_, h1.2.1, fun b x hb => ?_⟩
  · rw [am_set2, List.length_set, List.length_set, am_kill_len]; exact h.2.1
  · refine h1.2.2 (b, am_v ad x) ?_
    unfold am_set2 at hb
    rw [List.getElem?_set] at hb
    by_cases he : i = b
    · subst he
      simp [am_kill_len, show i < L.length by omega] at hb
      subst hb
      exact List.mem_cons_self
    · rw [if_neg he, List.getElem?_set] at hb
      by_cases he2 : i + 1 = b
      · subst he2
        simp at hb
      · rw [if_neg he2] at hb
        obtain ⟨g1, g2⟩ := am_kill_get hb
        refine List.mem_cons_of_mem _ (List.mem_filter.mpr ⟨am_lv_mem.mpr ⟨x, g1, rfl⟩, ?_⟩)
        have h3 : ¬ b = i := fun e => he e.symm
        have h3' : ¬ b = i + 1 := fun e => he2 e.symm
        by_cases h4 : b + 1 = i
        · have h5 : ¬ x.category = 2 := fun e => g2 ⟨h4, e⟩
          simp [h3, h3', am_cat, h5]
        · simp [h3, h3', h4]
