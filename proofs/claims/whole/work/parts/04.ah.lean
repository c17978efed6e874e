/-! ===== fields ===== -/
/-- the reference idx of the system own's pool names slot j of the objects of system ci -/
def am_fl (own : String) (idx ci j : Nat) : Prop := ∃ (C : String) (T : u_T) (N : Nat) (ref : String), vwCl[ci]? = some (C, T, N) ∧ j < N ∧ (∀ w ∈ u_ws C T N, w ∈ am_ws) ∧ Cond.fieldLink own idx ref (T j).2.1 (T j).2.2.1 ∈ am_ws ∧ ((T j).1 = ref ∨ Cond.sameField ref (T j).1 (T j).2.1 (T j).2.2.1 ∈ am_ws)
def am_flp (own : String) (idx ci j : Nat) (ty : FieldType) : Prop := ∃ (C : String) (T : u_T) (N : Nat) (ref : String) (ty0 : Nat → FieldType), vwCl[ci]? = some (C, T, N) ∧ j < N ∧ (∀ w ∈ u_ws C T N, w ∈ am_ws) ∧ Cond.fieldLink own idx ref (T j).2.1 (T j).2.2.1 ∈ am_ws ∧ ((T j).1 = ref ∨ Cond.sameField ref (T j).1 (T j).2.1 (T j).2.2.1 ∈ am_ws) ∧ (∀ k, k < N → parseFieldDescriptor (T k).2.2.1 = some (ty0 k)) ∧ (∀ a, a < N → ∀ b, b < N → a ≠ b → (T a).2.1 ≠ (T b).2.1) ∧ (T j).2.2.2 = false ∧ parseFieldDescriptor (T j).2.2.1 = some ty
def am_at (k ci j : Nat) (q : am_F) : Prop := k < am_N ∧ ∃ fs, am_sh k = .inl (ci, fs) ∧ fs[j]? = some q
def am_ar (k t n : Nat) : Prop := k < am_N ∧ am_sh k = .inr (t, n, none)
def am_rr (k t n : Nat) (f : Nat → Nat) : Prop := k < am_N ∧ am_sh k = .inr (t, n, some f)
theorem am_all : (am_tab.all fun s => match s with | .inl _ => true | .inr (_, n, _) => decide (n ≤ 288)) = true := by decide +kernel
theorem am_len {k t n : Nat} {f : Option (Nat → Nat)} (h : am_sh k = .inr (t, n, f)) : n ≤ 288 := by
  unfold am_sh at h
  rw [List.getD_eq_getElem?_getD] at h
  cases hk : am_tab[k]? with
  | none =>
    rw [hk] at h
    simp at h
    omega
  | some x =>
    rw [hk] at h
    simp at h
    subst h
    have h1 := List.all_eq_true.mp am_all _ (List.mem_of_getElem? hk)
    simpa using h1
theorem am_W_at {cI : Nat → ClassId} {ad : Nat → Nat} {I : am_I} {J : am_J} {k ci : Nat} {fs : List am_F} (hk : k < am_N) (h : am_sh k = .inl (ci, fs)) : (am_W cI ad I J)[k]? = some (ad k, .inr (ci, am_fs ad I J k 0 fs)) := by
  rw [am_W_get hk, h]
  rfl
theorem am_W_ar {cI : Nat → ClassId} {ad : Nat → Nat} {I : am_I} {J : am_J} {k t n : Nat} (h : am_ar k t n) : (am_W cI ad I J)[k]? = some (ad k, .inl (cI t, n, .inl (I k))) := by
  rw [am_W_get h.1, h.2]
  rfl
theorem am_W_rr {cI : Nat → ClassId} {ad : Nat → Nat} {I : am_I} {J : am_J} {k t n : Nat} {f : Nat → Nat} (h : am_rr k t n f) : (am_W cI ad I J)[k]? = some (ad k, .inl (cI t, n, .inr (.inr (.inr (.inr (fun i => some (ad (f i)))))))) := by
  rw [am_W_get h.1, h.2]
  rfl
section AWH
variable {G : am_G} {cc : ByteArray} {nL : Nat} {own : String} {d : Nat} {Ex : am_Ex} {pc : Nat} {L L' : List (Option Value)} {st : List Value} {I : am_I} {J : am_J}
theorem am_same {own ref o n dd : String} {args : Array Value} {s : State} (hts : ∀ w ∈ am_ws, w.before args s = true) (h : o = ref ∨ Cond.sameField ref o n dd ∈ am_ws) : ∀ x, s.fieldFound? o n dd = some x → s.fieldFound? ref n dd = some x := by
  intro x hx
  rcases h with h | h
  · subst h
    exact hx
  · exact u_same (hts _ h) x hx
theorem a_geti {idx k ci j : Nat} {v : Int32} (hd : decode cc pc = .ok (.getfield idx, 3)) (hf : am_fl own idx ci j) (hs : am_at k ci j none) (hv : I k j = v) (kk : AW G cc nL own d Ex (pc + 3) L (.int v :: st) I J) : AW G cc nL own d Ex pc L (.ref k :: st) I J := by
  intro p e s m args below meth c A R ce sl Q H locs ls B hE hP hS hL
  subst hv
  obtain ⟨C, T, N, ref, h1, h2, h3, h4, h5⟩ := hf
  obtain ⟨g1, fs, g2, g3⟩ := hs
  exact va_get B.1 B.2.1 B.2.2.2.2.1 h3 B.2.2.2.1 B.2.2.2.2.2.1.1 hP k (am_W_at g1 g2) h1 j h2 (B.2.2.2.2.1 _ h4) (am_same (own := own) B.2.2.2.2.1 h5) (by rw [am_fs_get, g3, Nat.zero_add]; rfl) hd (kk _ _ _ _ _ _ _ _ _ _ _ _ _ _ _ _ B hE hP hS hL)
theorem a_getl {idx k ci j : Nat} {v : Int64} (hd : decode cc pc = .ok (.getfield idx, 3)) (hf : am_fl own idx ci j) (hs : am_at k ci j (some none)) (hv : J k j = v) (kk : AW G cc nL own d Ex (pc + 3) L (.long v :: st) I J) : AW G cc nL own d Ex pc L (.ref k :: st) I J := by
  intro p e s m args below meth c A R ce sl Q H locs ls B hE hP hS hL
  subst hv
  obtain ⟨C, T, N, ref, h1, h2, h3, h4, h5⟩ := hf
  obtain ⟨g1, fs, g2, g3⟩ := hs
  exact va_get B.1 B.2.1 B.2.2.2.2.1 h3 B.2.2.2.1 B.2.2.2.2.2.1.1 hP k (am_W_at g1 g2) h1 j h2 (B.2.2.2.2.1 _ h4) (am_same (own := own) B.2.2.2.2.1 h5) (by rw [am_fs_get, g3, Nat.zero_add]; rfl) hd (kk _ _ _ _ _ _ _ _ _ _ _ _ _ _ _ _ B hE hP hS hL)
theorem a_getr {idx k ci j : Nat} {r : Nat} (hd : decode cc pc = .ok (.getfield idx, 3)) (hf : am_fl own idx ci j) (hs : am_at k ci j (some (some r))) (kk : AW G cc nL own d Ex (pc + 3) L (.ref r :: st) I J) : AW G cc nL own d Ex pc L (.ref k :: st) I J := by
  intro p e s m args below meth c A R ce sl Q H locs ls B hE hP hS hL
  obtain ⟨C, T, N, ref, h1, h2, h3, h4, h5⟩ := hf
  obtain ⟨g1, fs, g2, g3⟩ := hs
  exact va_get B.1 B.2.1 B.2.2.2.2.1 h3 B.2.2.2.1 B.2.2.2.2.2.1.1 hP k (am_W_at g1 g2) h1 j h2 (B.2.2.2.2.1 _ h4) (am_same (own := own) B.2.2.2.2.1 h5) (by rw [am_fs_get, g3, Nat.zero_add]; rfl) hd (kk _ _ _ _ _ _ _ _ _ _ _ _ _ _ _ _ B hE hP hS hL)
theorem a_puti {idx k ci j : Nat} {x : Int32} (hd : decode cc pc = .ok (.putfield idx, 3)) (hf : am_flp own idx ci j .int) (hs : am_at k ci j none) (kk : AW G cc nL own d Ex (pc + 3) L st (am_up I k j x) J) : AW G cc nL own d Ex pc L (.int x :: .ref k :: st) I J := by
  intro p e s m args below meth c A R ce sl Q H locs ls B hE hP hS hL
  obtain ⟨C, T, N, ref, ty0, h1, h2, h3, h4, h5, h6, h7, h8, h9⟩ := hf
  obtain ⟨g1, fs, g2, g3⟩ := hs
  refine va_put (v := .int x) B.1 B.2.1 B.2.2.2.2.1 h3 ty0 h6 h7 B.2.2.2.1 B.2.2.2.2.2.1.1 hP (am_D B.2.2.2.2.2.2.1 B.2.2.2.2.2.2.2.1) hS k (am_W_at g1 g2) h1 j h2 (B.2.2.2.2.1 _ h4) (am_same (own := own) B.2.2.2.2.1 h5) h8 h9 rfl rfl (by rw [am_fs_len]; exact (List.getElem?_eq_some_iff.mp g3).1) hd (fun H1 locs1 hP1 hD1 hS1 => ?_)
  rw [am_fs_set g3, am_W_set (I' := (am_up I k j x)) (J' := J) (fun a h => am_up_ne h) (fun _ _ => rfl) (by rw [g2]; rfl)] at hP1
  exact (kk _ _ _ _ _ _ _ _ _ _ _ _ _ _ _ _ B hE hP1 hS1 hL)
theorem a_putz {idx k ci j : Nat} {x : Int32} (hd : decode cc pc = .ok (.putfield idx, 3)) (hf : am_flp own idx ci j .boolean) (hs : am_at k ci j none) (hx : x = 0 ∨ x = 1) (kk : AW G cc nL own d Ex (pc + 3) L st (am_up I k j x) J) : AW G cc nL own d Ex pc L (.int x :: .ref k :: st) I J := by
  intro p e s m args below meth c A R ce sl Q H locs ls B hE hP hS hL
  obtain ⟨C, T, N, ref, ty0, h1, h2, h3, h4, h5, h6, h7, h8, h9⟩ := hf
  obtain ⟨g1, fs, g2, g3⟩ := hs
  refine va_put (v := .int x) B.1 B.2.1 B.2.2.2.2.1 h3 ty0 h6 h7 B.2.2.2.1 B.2.2.2.2.2.1.1 hP (am_D B.2.2.2.2.2.2.1 B.2.2.2.2.2.2.2.1) hS k (am_W_at g1 g2) h1 j h2 (B.2.2.2.2.1 _ h4) (am_same (own := own) B.2.2.2.2.1 h5) h8 h9 (by rcases hx with rfl | rfl <;> rfl) (by rcases hx with rfl | rfl <;> rfl) (by rw [am_fs_len]; exact (List.getElem?_eq_some_iff.mp g3).1) hd (fun H1 locs1 hP1 hD1 hS1 => ?_)
  rw [am_fs_set g3, am_W_set (I' := (am_up I k j x)) (J' := J) (fun a h => am_up_ne h) (fun _ _ => rfl) (by rw [g2]; rfl)] at hP1
  exact (kk _ _ _ _ _ _ _ _ _ _ _ _ _ _ _ _ B hE hP1 hS1 hL)
theorem a_putl {idx k ci j : Nat} {x : Int64} (hd : decode cc pc = .ok (.putfield idx, 3)) (hf : am_flp own idx ci j .long) (hs : am_at k ci j (some none)) (kk : AW G cc nL own d Ex (pc + 3) L st I (am_upJ J k j x)) : AW G cc nL own d Ex pc L (.long x :: .ref k :: st) I J := by
  intro p e s m args below meth c A R ce sl Q H locs ls B hE hP hS hL
  obtain ⟨C, T, N, ref, ty0, h1, h2, h3, h4, h5, h6, h7, h8, h9⟩ := hf
  obtain ⟨g1, fs, g2, g3⟩ := hs
  refine va_put (v := .long x) B.1 B.2.1 B.2.2.2.2.1 h3 ty0 h6 h7 B.2.2.2.1 B.2.2.2.2.2.1.1 hP (am_D B.2.2.2.2.2.2.1 B.2.2.2.2.2.2.2.1) hS k (am_W_at g1 g2) h1 j h2 (B.2.2.2.2.1 _ h4) (am_same (own := own) B.2.2.2.2.1 h5) h8 h9 rfl rfl (by rw [am_fs_len]; exact (List.getElem?_eq_some_iff.mp g3).1) hd (fun H1 locs1 hP1 hD1 hS1 => ?_)
  rw [am_fs_setJ g3, am_W_set (I' := I) (J' := (am_upJ J k j x)) (fun _ _ => rfl) (fun a h => am_upJ_ne h) (by rw [g2]; rfl)] at hP1
  exact (kk _ _ _ _ _ _ _ _ _ _ _ _ _ _ _ _ B hE hP1 hS1 hL)
/-! ===== arrays ===== -/
theorem a_iald {k n i : Nat} {v : Int32} (hd : decode cc pc = .ok (.iaload, 1)) (hs : am_ar k 0 n) (hi : i < n) (hv : I k i = v) (kk : AW G cc nL own d Ex (pc + 1) L (.int v :: st) I J) : AW G cc nL own d Ex pc L (.int (nI i) :: .ref k :: st) I J := by
  intro p e s m args below meth c A R ce sl Q H locs ls B hE hP hS hL
  subst hv
  have hn : n ≤ 288 := am_len hs.2
  have hin : vp_in (nI i) n := vp_in_nI hi (by omega)
  refine va_iald B.1 B.2.1 B.2.2.2.2.2.1.1 hP k 0 (am_W_ar hs) rfl hin hd ?_
  rw [nI_clamp (by omega)]
  exact (kk _ _ _ _ _ _ _ _ _ _ _ _ _ _ _ _ B hE hP hS hL)
theorem a_bald {k n i : Nat} {v : Int32} (hd : decode cc pc = .ok (.baload, 1)) (hs : am_ar k 2 n) (hi : i < n) (hv : I k i = v) (kk : AW G cc nL own d Ex (pc + 1) L (.int v :: st) I J) : AW G cc nL own d Ex pc L (.int (nI i) :: .ref k :: st) I J := by
  intro p e s m args below meth c A R ce sl Q H locs ls B hE hP hS hL
  subst hv
  have hn : n ≤ 288 := am_len hs.2
  have hin : vp_in (nI i) n := vp_in_nI hi (by omega)
  refine va_bald B.1 B.2.1 B.2.2.2.2.2.1.1 hP k 2 (am_W_ar hs) rfl hin hd ?_
  rw [nI_clamp (by omega)]
  exact (kk _ _ _ _ _ _ _ _ _ _ _ _ _ _ _ _ B hE hP hS hL)
theorem a_zald {k n i : Nat} {v : Int32} (hd : decode cc pc = .ok (.baload, 1)) (hs : am_ar k 1 n) (hi : i < n) (hv : I k i = v) (kk : AW G cc nL own d Ex (pc + 1) L (.int v :: st) I J) : AW G cc nL own d Ex pc L (.int (nI i) :: .ref k :: st) I J := by
  intro p e s m args below meth c A R ce sl Q H locs ls B hE hP hS hL
  subst hv
  have hn : n ≤ 288 := am_len hs.2
  have hin : vp_in (nI i) n := vp_in_nI hi (by omega)
  refine va_zald B.1 B.2.1 B.2.2.2.2.2.1.1 hP k 1 (am_W_ar hs) rfl hin hd ?_
  rw [nI_clamp (by omega)]
  exact (kk _ _ _ _ _ _ _ _ _ _ _ _ _ _ _ _ B hE hP hS hL)
theorem a_iast {k n i : Nat} {x : Int32} (hd : decode cc pc = .ok (.iastore, 1)) (hs : am_ar k 0 n) (hi : i < n) (kk : AW G cc nL own d Ex (pc + 1) L st (am_up I k i (x)) J) : AW G cc nL own d Ex pc L (.int x :: .int (nI i) :: .ref k :: st) I J := by
  intro p e s m args below meth c A R ce sl Q H locs ls B hE hP hS hL
  have hn : n ≤ 288 := am_len hs.2
  have hin : vp_in (nI i) n := vp_in_nI hi (by omega)
  refine va_iast B.1 B.2.1 B.2.2.2.2.2.1.1 hP (am_D B.2.2.2.2.2.2.1 B.2.2.2.2.2.2.2.1) hS k 0 (am_W_ar hs) rfl hin hd (fun H1 locs1 hP1 hD1 hS1 => ?_)
  rw [nI_clamp (by omega), am_W_set (I' := am_up I k i (x)) (J' := J) (fun a h => am_up_ne h) (fun _ _ => rfl) (by rw [hs.2, am_E, am_up_row])] at hP1
  exact (kk _ _ _ _ _ _ _ _ _ _ _ _ _ _ _ _ B hE hP1 hS1 hL)
theorem a_bast {k n i : Nat} {x : Int32} (hd : decode cc pc = .ok (.bastore, 1)) (hs : am_ar k 2 n) (hi : i < n) (kk : AW G cc nL own d Ex (pc + 1) L st (am_up I k i (x.toInt8.toInt32)) J) : AW G cc nL own d Ex pc L (.int x :: .int (nI i) :: .ref k :: st) I J := by
  intro p e s m args below meth c A R ce sl Q H locs ls B hE hP hS hL
  have hn : n ≤ 288 := am_len hs.2
  have hin : vp_in (nI i) n := vp_in_nI hi (by omega)
  refine va_bast B.1 B.2.1 B.2.2.2.2.2.1.1 hP (am_D B.2.2.2.2.2.2.1 B.2.2.2.2.2.2.2.1) hS k 2 (am_W_ar hs) rfl hin hd (fun H1 locs1 hP1 hD1 hS1 => ?_)
  rw [vp_nar_byte] at hP1
  rw [nI_clamp (by omega), am_W_set (I' := am_up I k i (x.toInt8.toInt32)) (J' := J) (fun a h => am_up_ne h) (fun _ _ => rfl) (by rw [hs.2, am_E, am_up_row])] at hP1
  exact (kk _ _ _ _ _ _ _ _ _ _ _ _ _ _ _ _ B hE hP1 hS1 hL)
theorem a_zast {k n i : Nat} {x : Int32} (hd : decode cc pc = .ok (.bastore, 1)) (hs : am_ar k 1 n) (hi : i < n) (hx : x = 0 ∨ x = 1) (kk : AW G cc nL own d Ex (pc + 1) L st (am_up I k i (x)) J) : AW G cc nL own d Ex pc L (.int x :: .int (nI i) :: .ref k :: st) I J := by
  intro p e s m args below meth c A R ce sl Q H locs ls B hE hP hS hL
  have hn : n ≤ 288 := am_len hs.2
  have hin : vp_in (nI i) n := vp_in_nI hi (by omega)
  refine va_zast B.1 B.2.1 B.2.2.2.2.2.1.1 hP (am_D B.2.2.2.2.2.2.1 B.2.2.2.2.2.2.2.1) hS k 1 (am_W_ar hs) rfl hin hd (fun H1 locs1 hP1 hD1 hS1 => ?_)
  rw [show vp_nar .boolean x = x by rcases hx with rfl | rfl <;> rfl] at hP1
  rw [nI_clamp (by omega), am_W_set (I' := am_up I k i (x)) (J' := J) (fun a h => am_up_ne h) (fun _ _ => rfl) (by rw [hs.2, am_E, am_up_row])] at hP1
  exact (kk _ _ _ _ _ _ _ _ _ _ _ _ _ _ _ _ B hE hP1 hS1 hL)
theorem a_aald {k n i t : Nat} {f : Nat → Nat} {r : Nat} (hd : decode cc pc = .ok (.aaload, 1)) (hs : am_rr k t n f) (ht : t = 3 ∨ t = 4) (hi : i < n) (hr : f i = r) (kk : AW G cc nL own d Ex (pc + 1) L (.ref r :: st) I J) : AW G cc nL own d Ex pc L (.int (nI i) :: .ref k :: st) I J := by
  intro p e s m args below meth c A R ce sl Q H locs ls B hE hP hS hL
  subst hr
  have hn : n ≤ 288 := am_len hs.2
  have hin : vp_in (nI i) n := vp_in_nI hi (by omega)
  have hcl : (nI i).toNatClampNeg = i := nI_clamp (by omega)
  have hc := hP k _ (am_W_rr hs)
  obtain ⟨ty, h1, h2⟩ : ∃ ty : FieldType, ty.isReference = true ∧ (am_tys G.2.2.1)[t]? = some (G.2.2.1 t, ty) := by
    rcases ht with rfl | rfl
    · exact ⟨_, rfl, rfl⟩
    · exact ⟨_, rfl, rfl⟩
  exact W.aald (v := .ref (G.2.2.2 (f i))) (ty := ty) B.1 B.2.1 hc ((B.2.2.2.2.2.1.1.2 t _ h2).1 n (fun j => va_rf (some (G.2.2.2 (f j))))) h1 (fun q => by cases q) (by show ¬ (nI i < 0 ∨ (arrV _ _ _).slots.size ≤ _); rw [arrV_size]; exact hin) (by show (arrV _ _ _).slots[_]? = _; rw [arrV_read _ _ (by rw [hcl]; exact hi), hcl]; rfl) rfl rfl hd (kk _ _ _ _ _ _ _ _ _ _ _ _ _ _ _ _ B hE hP hS hL)
theorem a_alen {k n t : Nat} {v : Int32} (hd : decode cc pc = .ok (.arraylength, 1)) (hs : am_ar k t n) (ht : t < 3) (hv : nI n = v) (kk : AW G cc nL own d Ex (pc + 1) L (.int v :: st) I J) : AW G cc nL own d Ex pc L (.ref k :: st) I J := by
  intro p e s m args below meth c A R ce sl Q H locs ls B hE hP hS hL
  obtain ⟨ty, h2⟩ : ∃ ty : FieldType, (am_tys G.2.2.1)[t]? = some (G.2.2.1 t, ty) := by
    rcases (show t = 0 ∨ t = 1 ∨ t = 2 by omega) with rfl | rfl | rfl
    · exact ⟨_, rfl⟩
    · exact ⟨_, rfl⟩
    · exact ⟨_, rfl⟩
  exact va_alen B.1 B.2.1 B.2.2.2.2.2.1.1 hP k t (am_W_ar hs) h2 (v := v) hv hd (kk _ _ _ _ _ _ _ _ _ _ _ _ _ _ _ _ B hE hP hS hL)
end AWH
