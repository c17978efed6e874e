/-! ===== the machine over the first 63 places ===== -/
def am_Nq : Nat := 63
def am_Wq (cI : Nat → ClassId) (ad : Nat → Nat) (I : am_I) (J : am_J) : va_W := (List.range am_Nq).map fun k => (ad k, am_E cI ad I J k (am_sh k))
theorem am_W_getq {cI : Nat → ClassId} {ad : Nat → Nat} {I : am_I} {J : am_J} {k : Nat} (hk : k < am_Nq) : (am_Wq cI ad I J)[k]? = some (ad k, am_E cI ad I J k (am_sh k)) := by
  simp [am_Wq, hk]
theorem am_W_ltq {cI : Nat → ClassId} {ad : Nat → Nat} {I : am_I} {J : am_J} {k : Nat} {q : Nat × va_E} (h : (am_Wq cI ad I J)[k]? = some q) : k < am_Nq ∧ q = (ad k, am_E cI ad I J k (am_sh k)) := by
  have hl : k < (am_Wq cI ad I J).length := (List.getElem?_eq_some_iff.mp h).1
  have hk : k < am_Nq := by simpa [am_Wq] using hl
  rw [am_W_getq hk] at h
  exact ⟨hk, (Option.some.inj h).symm⟩
theorem am_W_setq {cI : Nat → ClassId} {ad : Nat → Nat} {I I' : am_I} {J J' : am_J} {k : Nat} (hI : ∀ a, a ≠ k → I' a = I a) (hJ : ∀ a, a ≠ k → J' a = J a) {E : va_E} (hE : E = am_E cI ad I' J' k (am_sh k)) : (am_Wq cI ad I J).set k (ad k, E) = am_Wq cI ad I' J' := by
  apply List.ext_getElem?
  intro b
  rw [List.getElem?_set]
  by_cases hb : k = b
  · subst hb
    by_cases hk : k < am_Nq
    · rw [am_W_getq hk]
      simp [am_Wq, hk, hE]
    · have h1 : ¬ k < (am_Wq cI ad I J).length := by simpa [am_Wq] using hk
      have h2 : ¬ k < (am_Wq cI ad I' J').length := by simpa [am_Wq] using hk
      simp [List.getElem?_eq_none (Nat.not_lt.mp h2), h1]
  · rw [if_neg hb]
    by_cases hk : b < am_Nq
    · rw [am_W_getq hk, am_W_getq hk, am_E_congr (hI b (fun e => hb e.symm)) (hJ b (fun e => hb e.symm))]
    · have h1 : ¬ b < (am_Wq cI ad I J).length := by simpa [am_Wq] using hk
      have h2 : ¬ b < (am_Wq cI ad I' J').length := by simpa [am_Wq] using hk
      rw [List.getElem?_eq_none (Nat.not_lt.mp h2), List.getElem?_eq_none (Nat.not_lt.mp h1)]
def am_injq (G : am_G) : Prop := ∀ i j, i < am_Nq → j < am_Nq → G.2.2.2 i = G.2.2.2 j → i = j
def am_Pq (G : am_G) (I : am_I) (J : am_J) (H : Heap) : Prop := va_P G.2.1 vwCl (am_Wq G.2.2.1 G.2.2.2 I J) H
def am_Bq (G : am_G) (cc : ByteArray) (nL : Nat) (own : String) (d : Nat) (p : Program) (s : State) (m : MethodId) (args : Array Value) (c : Code) (A : Nat → Prop) (R : Room) (ce sl : Nat) : Prop :=
  p.tables.exec = Jvm.exec ∧ c.code = cc ∧ c.maxLocals = nL ∧ s.vm.findClass own = some m.cls ∧ (∀ w ∈ am_ws, w.before args s = true) ∧ am_K G s ∧ am_injq G ∧ (∀ k, k < am_Nq → A (G.2.2.2 k)) ∧ (d ≤ R.frames ∧ 40 * d ≤ R.locals) ∧ ce ≤ R.cells ∧ sl ≤ R.slots
theorem am_Dq {G : am_G} {A : Nat → Prop} {I : am_I} {J : am_J} (hi : am_injq G) (hA : ∀ k, k < am_Nq → A (G.2.2.2 k)) : va_D A (am_Wq G.2.2.1 G.2.2.2 I J) := by
  refine ⟨fun i j p q h1 h2 h3 => ?_, fun k q h => ?_⟩
  · obtain ⟨a1, rfl⟩ := am_W_ltq h1
    obtain ⟨a2, rfl⟩ := am_W_ltq h2
    exact hi i j a1 a2 h3
  · obtain ⟨a1, rfl⟩ := am_W_ltq h
    exact hA k a1
def AWq (G : am_G) (cc : ByteArray) (nL : Nat) (own : String) (d : Nat) (Ex : am_Ex) (pc : Nat) (L : List (Option Value)) (st : List Value) (I : am_I) (J : am_J) : Prop :=
  ∀ (p : Program) (e : Env) (s : State) (m : MethodId) (args : Array Value) (below : List Frame) (meth : Method) (c : Code) (A : Nat → Prop) (R : Room) (ce sl : Nat) (Q : State → Prop) (H : Heap) (locs : List Loc) (ls : Array Slot),
    am_Bq G cc nL own d p s m args c A R ce sl → Ex p e s m args below meth c A R ce sl Q → am_Pq G I J H → va_S A s.heap H locs → am_L G.2.2.2 ls nL L →
    W p G.1 e R s m args below meth c H locs ce sl Q (F0 m pc ls (st.map (am_v G.2.2.2)))
section AWRq
variable {G : am_G} {cc : ByteArray} {nL : Nat} {own : String} {d : Nat} {Ex : am_Ex} {pc : Nat} {L L' : List (Option Value)} {st : List Value} {I : am_I} {J : am_J}
theorem a_iconstq {n : Int} {v : Int32} (hd : decode cc pc = .ok (.iconst n, 1)) (hv : Int32.ofInt n = v) (k : AWq G cc nL own d Ex (pc + 1) L (.int v :: st) I J) : AWq G cc nL own d Ex pc L st I J := by
  intro p e s m args below meth c A R ce sl Q H locs ls B hE hP hS hL
  exact lv_iconst B.1 B.2.1 hd hv (k _ _ _ _ _ _ _ _ _ _ _ _ _ _ _ _ B hE hP hS hL)
theorem a_bipushq {n : Int} {v : Int32} (hd : decode cc pc = .ok (.bipush n, 2)) (hv : (Int8.ofInt n).toInt32 = v) (k : AWq G cc nL own d Ex (pc + 2) L (.int v :: st) I J) : AWq G cc nL own d Ex pc L st I J := by
  intro p e s m args below meth c A R ce sl Q H locs ls B hE hP hS hL
  exact lv_bipush B.1 B.2.1 hd hv (k _ _ _ _ _ _ _ _ _ _ _ _ _ _ _ _ B hE hP hS hL)
theorem a_iload_nq {q : Fin 4} {x : Int32} (hd : decode cc pc = .ok (.iload_n q, 1)) (hl : L[(q : Nat)]? = some (some (.int x))) (k : AWq G cc nL own d Ex (pc + 1) L (.int x :: st) I J) : AWq G cc nL own d Ex pc L st I J := by
  intro p e s m args below meth c A R ce sl Q H locs ls B hE hP hS hL
  exact lv_iload_n B.1 B.2.1 hd rfl (hL.2.2.2 _ _ hl) (k _ _ _ _ _ _ _ _ _ _ _ _ _ _ _ _ B hE hP hS hL)
theorem a_iloadq {q : Nat} {x : Int32} (hd : decode cc pc = .ok (.iload q, 2)) (hl : L[q]? = some (some (.int x))) (k : AWq G cc nL own d Ex (pc + 2) L (.int x :: st) I J) : AWq G cc nL own d Ex pc L st I J := by
  intro p e s m args below meth c A R ce sl Q H locs ls B hE hP hS hL
  exact lv_iload B.1 B.2.1 hd (hL.2.2.2 _ _ hl) (k _ _ _ _ _ _ _ _ _ _ _ _ _ _ _ _ B hE hP hS hL)
theorem a_aload_nq {q : Fin 4} {x : Nat} (hd : decode cc pc = .ok (.aload_n q, 1)) (hl : L[(q : Nat)]? = some (some (.ref x))) (k : AWq G cc nL own d Ex (pc + 1) L (.ref x :: st) I J) : AWq G cc nL own d Ex pc L st I J := by
  intro p e s m args below meth c A R ce sl Q H locs ls B hE hP hS hL
  exact lv_aload_n B.1 B.2.1 hd rfl (hL.2.2.2 _ _ hl) (k _ _ _ _ _ _ _ _ _ _ _ _ _ _ _ _ B hE hP hS hL)
theorem a_istore_nq {q : Fin 4} {x : Int32} (hd : decode cc pc = .ok (.istore_n q, 1)) (hn : (q : Nat) < L.length) (hl : am_set L (q : Nat) (.int x) = L') (k : AWq G cc nL own d Ex (pc + 1) L' st I J) : AWq G cc nL own d Ex pc L (.int x :: st) I J := by
  intro p e s m args below meth c A R ce sl Q H locs ls B hE hP hS hL
  subst hl
  exact lv_istore_n B.1 B.2.1 hd rfl (am_L_has hL) (by rw [← hL.2.1]; exact hn) rfl (fun ls' h' => k _ _ _ _ _ _ _ _ _ _ _ _ _ _ _ _ B hE hP hS (am_L_set (v := .int x) hL hn h'))
theorem a_istoreq {q : Nat} {x : Int32} (hd : decode cc pc = .ok (.istore q, 2)) (hn : (q : Nat) < L.length) (hl : am_set L (q : Nat) (.int x) = L') (k : AWq G cc nL own d Ex (pc + 2) L' st I J) : AWq G cc nL own d Ex pc L (.int x :: st) I J := by
  intro p e s m args below meth c A R ce sl Q H locs ls B hE hP hS hL
  subst hl
  exact lv_istore B.1 B.2.1 hd (am_L_has hL) (by rw [← hL.2.1]; exact hn) rfl (fun ls' h' => k _ _ _ _ _ _ _ _ _ _ _ _ _ _ _ _ B hE hP hS (am_L_set (v := .int x) hL hn h'))
theorem a_iincq {q : Nat} {n : Int} {x v : Int32} (hd : decode cc pc = .ok (.iinc q n, 3)) (hx : L[q]? = some (some (.int x))) (hv : x + Int32.ofInt n = v) (hl : am_set L q (.int v) = L') (k : AWq G cc nL own d Ex (pc + 3) L' st I J) : AWq G cc nL own d Ex pc L st I J := by
  intro p e s m args below meth c A R ce sl Q H locs ls B hE hP hS hL
  subst hl
  have hn : q < L.length := (List.getElem?_eq_some_iff.mp hx).1
  obtain ⟨k0, hk0⟩ := List.getElem?_of_mem (am_lv_mem (ad := G.2.2.2) (L := L) (q := (q, .int x)).mpr ⟨.int x, hx, rfl⟩)
  exact lv_iinc B.1 B.2.1 hd (am_L_has hL) hk0 hv (by rw [← hL.2.1]; exact hn) rfl (fun ls' h' => k _ _ _ _ _ _ _ _ _ _ _ _ _ _ _ _ B hE hP hS (am_L_set (v := .int v) hL hn h'))
theorem a_iaddq {x y v : Int32} (hd : decode cc pc = .ok (.iadd, 1)) (hv : x + y = v) (k : AWq G cc nL own d Ex (pc + 1) L (.int v :: st) I J) : AWq G cc nL own d Ex pc L (.int y :: .int x :: st) I J := by
  intro p e s m args below meth c A R ce sl Q H locs ls B hE hP hS hL
  subst hv
  exact lv_iadd B.1 B.2.1 hd (k _ _ _ _ _ _ _ _ _ _ _ _ _ _ _ _ B hE hP hS hL)
theorem a_isubq {x y v : Int32} (hd : decode cc pc = .ok (.isub, 1)) (hv : x - y = v) (k : AWq G cc nL own d Ex (pc + 1) L (.int v :: st) I J) : AWq G cc nL own d Ex pc L (.int y :: .int x :: st) I J := by
  intro p e s m args below meth c A R ce sl Q H locs ls B hE hP hS hL
  subst hv
  exact lv_isub B.1 B.2.1 hd (k _ _ _ _ _ _ _ _ _ _ _ _ _ _ _ _ B hE hP hS hL)
theorem a_imulq {x y v : Int32} (hd : decode cc pc = .ok (.imul, 1)) (hv : x * y = v) (k : AWq G cc nL own d Ex (pc + 1) L (.int v :: st) I J) : AWq G cc nL own d Ex pc L (.int y :: .int x :: st) I J := by
  intro p e s m args below meth c A R ce sl Q H locs ls B hE hP hS hL
  subst hv
  exact lv_imul B.1 B.2.1 hd (k _ _ _ _ _ _ _ _ _ _ _ _ _ _ _ _ B hE hP hS hL)
theorem a_icmp_eqq {x y : Int32} {off : Int} {tgt : Nat} (hd : decode cc pc = .ok (.if_icmp .eq off, 3)) (ht : (pc : Int) + off = (tgt : Int)) (kt : x = y → AWq G cc nL own d Ex tgt L st I J) (kf : ¬ x = y → AWq G cc nL own d Ex (pc + 3) L st I J) : AWq G cc nL own d Ex pc L (.int y :: .int x :: st) I J := by
  intro p e s m args below meth c A R ce sl Q H locs ls B hE hP hS hL
  exact lv_icmp_eq B.1 B.2.1 hd ht (fun h => kt h _ _ _ _ _ _ _ _ _ _ _ _ _ _ _ _ B hE hP hS hL) (fun h => kf h _ _ _ _ _ _ _ _ _ _ _ _ _ _ _ _ B hE hP hS hL)
theorem a_if_eqq {x : Int32} {off : Int} {tgt : Nat} (hd : decode cc pc = .ok (.ifCond .eq off, 3)) (ht : (pc : Int) + off = (tgt : Int)) (kt : x = 0 → AWq G cc nL own d Ex tgt L st I J) (kf : ¬ x = 0 → AWq G cc nL own d Ex (pc + 3) L st I J) : AWq G cc nL own d Ex pc L (.int x :: st) I J := by
  intro p e s m args below meth c A R ce sl Q H locs ls B hE hP hS hL
  exact lv_if_eq B.1 B.2.1 hd ht (fun h => kt h _ _ _ _ _ _ _ _ _ _ _ _ _ _ _ _ B hE hP hS hL) (fun h => kf h _ _ _ _ _ _ _ _ _ _ _ _ _ _ _ _ B hE hP hS hL)
theorem a_if_neq {x : Int32} {off : Int} {tgt : Nat} (hd : decode cc pc = .ok (.ifCond .ne off, 3)) (ht : (pc : Int) + off = (tgt : Int)) (kt : ¬ x = 0 → AWq G cc nL own d Ex tgt L st I J) (kf : x = 0 → AWq G cc nL own d Ex (pc + 3) L st I J) : AWq G cc nL own d Ex pc L (.int x :: st) I J := by
  intro p e s m args below meth c A R ce sl Q H locs ls B hE hP hS hL
  exact lv_if_ne B.1 B.2.1 hd ht (fun h => kt h _ _ _ _ _ _ _ _ _ _ _ _ _ _ _ _ B hE hP hS hL) (fun h => kf h _ _ _ _ _ _ _ _ _ _ _ _ _ _ _ _ B hE hP hS hL)
theorem a_icmp_geq {x y : Int32} {off : Int} {tgt : Nat} (hd : decode cc pc = .ok (.if_icmp .ge off, 3)) (ht : (pc : Int) + off = (tgt : Int)) (kt : y ≤ x → AWq G cc nL own d Ex tgt L st I J) (kf : ¬ y ≤ x → AWq G cc nL own d Ex (pc + 3) L st I J) : AWq G cc nL own d Ex pc L (.int y :: .int x :: st) I J := by
  intro p e s m args below meth c A R ce sl Q H locs ls B hE hP hS hL
  exact lv_icmp_ge B.1 B.2.1 hd ht (fun h => kt h _ _ _ _ _ _ _ _ _ _ _ _ _ _ _ _ B hE hP hS hL) (fun h => kf h _ _ _ _ _ _ _ _ _ _ _ _ _ _ _ _ B hE hP hS hL)
theorem a_gotoq {off : Int} {tgt : Nat} (hd : decode cc pc = .ok (.goto off, 3)) (ht : (pc : Int) + off = (tgt : Int)) (k : AWq G cc nL own d Ex tgt L st I J) : AWq G cc nL own d Ex pc L st I J := by
  intro p e s m args below meth c A R ce sl Q H locs ls B hE hP hS hL
  exact lv_goto B.1 B.2.1 hd ht (k _ _ _ _ _ _ _ _ _ _ _ _ _ _ _ _ B hE hP hS hL)
theorem a_memq {I' : am_I} (h : I = I') (k : AWq G cc nL own d Ex pc L st I' J) : AWq G cc nL own d Ex pc L st I J := h ▸ k
end AWRq
def am_atq (k ci j : Nat) (q : am_F) : Prop := k < am_Nq ∧ ∃ fs, am_sh k = .inl (ci, fs) ∧ fs[j]? = some q
def am_arq (k t n : Nat) : Prop := k < am_Nq ∧ am_sh k = .inr (t, n, none)
def am_rrq (k t n : Nat) (f : Nat → Nat) : Prop := k < am_Nq ∧ am_sh k = .inr (t, n, some f)
theorem am_W_atq {cI : Nat → ClassId} {ad : Nat → Nat} {I : am_I} {J : am_J} {k ci : Nat} {fs : List am_F} (hk : k < am_Nq) (h : am_sh k = .inl (ci, fs)) : (am_Wq cI ad I J)[k]? = some (ad k, .inr (ci, am_fs ad I J k 0 fs)) := by
  rw [am_W_getq hk, h]
  rfl
theorem am_W_arq {cI : Nat → ClassId} {ad : Nat → Nat} {I : am_I} {J : am_J} {k t n : Nat} (h : am_arq k t n) : (am_Wq cI ad I J)[k]? = some (ad k, .inl (cI t, n, .inl (I k))) := by
  rw [am_W_getq h.1, h.2]
  rfl
theorem am_W_rrq {cI : Nat → ClassId} {ad : Nat → Nat} {I : am_I} {J : am_J} {k t n : Nat} {f : Nat → Nat} (h : am_rrq k t n f) : (am_Wq cI ad I J)[k]? = some (ad k, .inl (cI t, n, .inr (.inr (.inr (.inr (fun i => some (ad (f i)))))))) := by
  rw [am_W_getq h.1, h.2]
  rfl
section AWHq
variable {G : am_G} {cc : ByteArray} {nL : Nat} {own : String} {d : Nat} {Ex : am_Ex} {pc : Nat} {L L' : List (Option Value)} {st : List Value} {I : am_I} {J : am_J}
theorem a_getiq {idx k ci j : Nat} {v : Int32} (hd : decode cc pc = .ok (.getfield idx, 3)) (hf : am_fl own idx ci j) (hs : am_atq k ci j none) (hv : I k j = v) (kk : AWq G cc nL own d Ex (pc + 3) L (.int v :: st) I J) : AWq G cc nL own d Ex pc L (.ref k :: st) I J := by
  intro p e s m args below meth c A R ce sl Q H locs ls B hE hP hS hL
  subst hv
  obtain ⟨C, T, N, ref, h1, h2, h3, h4, h5⟩ := hf
  obtain ⟨g1, fs, g2, g3⟩ := hs
  exact va_get B.1 B.2.1 B.2.2.2.2.1 h3 B.2.2.2.1 B.2.2.2.2.2.1.1 hP k (am_W_atq g1 g2) h1 j h2 (B.2.2.2.2.1 _ h4) (am_same (own := own) B.2.2.2.2.1 h5) (by rw [am_fs_get, g3, Nat.zero_add]; rfl) hd (kk _ _ _ _ _ _ _ _ _ _ _ _ _ _ _ _ B hE hP hS hL)
theorem a_getrq {idx k ci j : Nat} {r : Nat} (hd : decode cc pc = .ok (.getfield idx, 3)) (hf : am_fl own idx ci j) (hs : am_atq k ci j (some (some r))) (kk : AWq G cc nL own d Ex (pc + 3) L (.ref r :: st) I J) : AWq G cc nL own d Ex pc L (.ref k :: st) I J := by
  intro p e s m args below meth c A R ce sl Q H locs ls B hE hP hS hL
  obtain ⟨C, T, N, ref, h1, h2, h3, h4, h5⟩ := hf
  obtain ⟨g1, fs, g2, g3⟩ := hs
  exact va_get B.1 B.2.1 B.2.2.2.2.1 h3 B.2.2.2.1 B.2.2.2.2.2.1.1 hP k (am_W_atq g1 g2) h1 j h2 (B.2.2.2.2.1 _ h4) (am_same (own := own) B.2.2.2.2.1 h5) (by rw [am_fs_get, g3, Nat.zero_add]; rfl) hd (kk _ _ _ _ _ _ _ _ _ _ _ _ _ _ _ _ B hE hP hS hL)
theorem a_putiq {idx k ci j : Nat} {x : Int32} (hd : decode cc pc = .ok (.putfield idx, 3)) (hf : am_flp own idx ci j .int) (hs : am_atq k ci j none) (kk : AWq G cc nL own d Ex (pc + 3) L st (am_up I k j x) J) : AWq G cc nL own d Ex pc L (.int x :: .ref k :: st) I J := by
  intro p e s m args below meth c A R ce sl Q H locs ls B hE hP hS hL
  obtain ⟨C, T, N, ref, ty0, h1, h2, h3, h4, h5, h6, h7, h8, h9⟩ := hf
  obtain ⟨g1, fs, g2, g3⟩ := hs
  refine va_put (v := .int x) B.1 B.2.1 B.2.2.2.2.1 h3 ty0 h6 h7 B.2.2.2.1 B.2.2.2.2.2.1.1 hP (am_Dq B.2.2.2.2.2.2.1 B.2.2.2.2.2.2.2.1) hS k (am_W_atq g1 g2) h1 j h2 (B.2.2.2.2.1 _ h4) (am_same (own := own) B.2.2.2.2.1 h5) h8 h9 rfl rfl (by rw [am_fs_len]; exact (List.getElem?_eq_some_iff.mp g3).1) hd (fun H1 locs1 hP1 hD1 hS1 => ?_)
  rw [am_fs_set g3, am_W_setq (I' := (am_up I k j x)) (J' := J) (fun a h => am_up_ne h) (fun _ _ => rfl) (by rw [g2]; rfl)] at hP1
  exact (kk _ _ _ _ _ _ _ _ _ _ _ _ _ _ _ _ B hE hP1 hS1 hL)
theorem a_ialdq {k n i : Nat} {v : Int32} (hd : decode cc pc = .ok (.iaload, 1)) (hs : am_arq k 0 n) (hi : i < n) (hv : I k i = v) (kk : AWq G cc nL own d Ex (pc + 1) L (.int v :: st) I J) : AWq G cc nL own d Ex pc L (.int (nI i) :: .ref k :: st) I J := by
  intro p e s m args below meth c A R ce sl Q H locs ls B hE hP hS hL
  subst hv
  have hn : n ≤ 288 := am_len hs.2
  have hin : vp_in (nI i) n := vp_in_nI hi (by omega)
  refine va_iald B.1 B.2.1 B.2.2.2.2.2.1.1 hP k 0 (am_W_arq hs) rfl hin hd ?_
  rw [nI_clamp (by omega)]
  exact (kk _ _ _ _ _ _ _ _ _ _ _ _ _ _ _ _ B hE hP hS hL)
theorem a_iastq {k n i : Nat} {x : Int32} (hd : decode cc pc = .ok (.iastore, 1)) (hs : am_arq k 0 n) (hi : i < n) (kk : AWq G cc nL own d Ex (pc + 1) L st (am_up I k i (x)) J) : AWq G cc nL own d Ex pc L (.int x :: .int (nI i) :: .ref k :: st) I J := by
  intro p e s m args below meth c A R ce sl Q H locs ls B hE hP hS hL
  have hn : n ≤ 288 := am_len hs.2
  have hin : vp_in (nI i) n := vp_in_nI hi (by omega)
  refine va_iast B.1 B.2.1 B.2.2.2.2.2.1.1 hP (am_Dq B.2.2.2.2.2.2.1 B.2.2.2.2.2.2.2.1) hS k 0 (am_W_arq hs) rfl hin hd (fun H1 locs1 hP1 hD1 hS1 => ?_)
  rw [nI_clamp (by omega), am_W_setq (I' := am_up I k i (x)) (J' := J) (fun a h => am_up_ne h) (fun _ _ => rfl) (by rw [hs.2, am_E, am_up_row])] at hP1
  exact (kk _ _ _ _ _ _ _ _ _ _ _ _ _ _ _ _ B hE hP1 hS1 hL)
theorem a_aaldq {k n i t : Nat} {f : Nat → Nat} {r : Nat} (hd : decode cc pc = .ok (.aaload, 1)) (hs : am_rrq k t n f) (ht : t = 3 ∨ t = 4) (hi : i < n) (hr : f i = r) (kk : AWq G cc nL own d Ex (pc + 1) L (.ref r :: st) I J) : AWq G cc nL own d Ex pc L (.int (nI i) :: .ref k :: st) I J := by
  intro p e s m args below meth c A R ce sl Q H locs ls B hE hP hS hL
  subst hr
  have hn : n ≤ 288 := am_len hs.2
  have hin : vp_in (nI i) n := vp_in_nI hi (by omega)
  have hcl : (nI i).toNatClampNeg = i := nI_clamp (by omega)
  have hc := hP k _ (am_W_rrq hs)
  obtain ⟨ty, h1, h2⟩ : ∃ ty : FieldType, ty.isReference = true ∧ (am_tys G.2.2.1)[t]? = some (G.2.2.1 t, ty) := by
    rcases ht with rfl | rfl
    · exact ⟨_, rfl, rfl⟩
    · exact ⟨_, rfl, rfl⟩
  exact W.aald (v := .ref (G.2.2.2 (f i))) (ty := ty) B.1 B.2.1 hc ((B.2.2.2.2.2.1.1.2 t _ h2).1 n (fun j => va_rf (some (G.2.2.2 (f j))))) h1 (fun q => by cases q) (by show ¬ (nI i < 0 ∨ (arrV _ _ _).slots.size ≤ _); rw [arrV_size]; exact hin) (by show (arrV _ _ _).slots[_]? = _; rw [arrV_read _ _ (by rw [hcl]; exact hi), hcl]; rfl) rfl rfl hd (kk _ _ _ _ _ _ _ _ _ _ _ _ _ _ _ _ B hE hP hS hL)
theorem a_alenq {k n t : Nat} {v : Int32} (hd : decode cc pc = .ok (.arraylength, 1)) (hs : am_arq k t n) (ht : t < 3) (hv : nI n = v) (kk : AWq G cc nL own d Ex (pc + 1) L (.int v :: st) I J) : AWq G cc nL own d Ex pc L (.ref k :: st) I J := by
  intro p e s m args below meth c A R ce sl Q H locs ls B hE hP hS hL
  obtain ⟨ty, h2⟩ : ∃ ty : FieldType, (am_tys G.2.2.1)[t]? = some (G.2.2.1 t, ty) := by
    rcases (show t = 0 ∨ t = 1 ∨ t = 2 by omega) with rfl | rfl | rfl
    · exact ⟨_, rfl⟩
    · exact ⟨_, rfl⟩
    · exact ⟨_, rfl⟩
  exact va_alen B.1 B.2.1 B.2.2.2.2.2.1.1 hP k t (am_W_arq hs) h2 (v := v) hv hd (kk _ _ _ _ _ _ _ _ _ _ _ _ _ _ _ _ B hE hP hS hL)
end AWHq
def am_Aq (G : am_G) : Nat → Prop := fun q => ∃ k, k < am_Nq ∧ q = G.2.2.2 k
def am_Pcq (G : am_G) (As : List Value) (I : am_I) (J : am_J) : Array Value → State → Prop := fun a U => a = (As.map (am_v G.2.2.2)).toArray ∧ am_Pq G I J U.heap ∧ am_K G U ∧ am_injq G
def am_Qcq (G : am_G) (K : Option Value → am_I → am_J → Prop) : Array Value → State → Outcome → State → Prop := fun _ u o t => ∃ (r : Option Value) (I : am_I) (J : am_J), o = .returned r ∧ K r I J ∧ am_Pq G I J t.heap ∧ va_F (am_Aq G) u t
/-- the method y, called with As at the memory I, J, comes back, and K holds of its answer and of the memory then; d frames are enough -/
def CMq (G : am_G) (d : Nat) (y : MethodName) (As : List Value) (I : am_I) (J : am_J) (K : Option Value → am_I → am_J → Prop) : Prop :=
  ∃ (cc : ByteArray) (maxL : Nat) (ret : Option FieldType), maxL ≤ 21 ∧ Cond.code y cc maxL ret ∈ am_ws ∧ Met G.1 y (.code y cc maxL ret :: am_ws) (am_rm d) (am_Pcq G As I J) (am_Qcq G K) 0 0 (am_Aq G)
def CMiq (G : am_G) (d : Nat) (y : MethodName) (As : List Value) (I : am_I) (J : am_J) (K : Int32 → am_I → am_J → Prop) : Prop := CMq G d y As I J (fun r I J => ∃ x, r = some (.int x) ∧ K x I J)
def CMvq (G : am_G) (d : Nat) (y : MethodName) (As : List Value) (I : am_I) (J : am_J) (K : am_I → am_J → Prop) : Prop := CMq G d y As I J (fun r I J => r = none ∧ K I J)
def am_exq (G : am_G) (ret : Option FieldType) (K : Option Value → am_I → am_J → Prop) : am_Ex := fun p e s m args below meth c A R ce sl Q => meth.sig.returnType = ret ∧ meth.locks = false ∧ A = am_Aq G ∧ ce = 0 ∧ sl = 0 ∧ Q = MQ below (am_Qcq G K) args s 0 0 (am_Aq G)
theorem CMq.of {G : am_G} {d : Nat} {y : MethodName} {As : List Value} {I : am_I} {J : am_J} {K : Option Value → am_I → am_J → Prop} {L0 : List (Option Value)} (cc : ByteArray) (maxL : Nat) (ret : Option FieldType) (h0 : maxL ≤ 21) (hy : plainName y.cls = true) (hc : Cond.code y cc maxL ret ∈ am_ws)
    (hs : (am_l0 As).length ≤ maxL) (hL0 : am_l0 As ++ List.replicate (maxL - (am_l0 As).length) none = L0) (k : AWq G cc maxL y.cls d (am_exq G ret K) 0 L0 [] I J) : CMq G d y As I J K := by
  refine ⟨cc, maxL, ret, h0, hc, Met.ofW (cc := cc) (maxL := maxL) (ret := ret) hy rfl ?_⟩
  intro p e s m args below meth c s₁ B hml hv
  obtain ⟨rfl, hP, hK, hinj⟩ := hv
  have hts := atoms_spec (ws := .code y cc maxL ret :: am_ws) B.pre
  have hown : s.vm.findClass y.cls = some m.cls := findClass_of_methodNamed B.named
  have hl := lv_entry (As.map (am_v G.2.2.2)) (n := maxL) (by rw [am_l0_len]; exact hs)
  rw [lg_entry_eq]
  generalize (lg_sl (As.map (am_v G.2.2.2)) ++ List.replicate (maxL - (lg_sl (As.map (am_v G.2.2.2))).length) Slot.unset).toArray = ls at hl ⊢
  refine k p e s m _ below meth c (am_Aq G) (am_rm d) 0 0 _ s.heap [] ls ⟨B.exec, B.bytes, hml, hown, fun w h => hts w (List.mem_cons_of_mem _ h), hK, hinj, fun k hk => ⟨k, hk, rfl⟩, ⟨Nat.le_refl _, Nat.le_refl _⟩, Nat.le_refl _, Nat.le_refl _⟩ ⟨B.returns, B.notSynchronized, rfl, rfl, rfl, rfl⟩ hP va_S.rf ?_
  refine ⟨hl.1, ?_, hl.2.1, fun i v hv => ?_⟩
  · rw [← hL0, List.length_append, List.length_replicate]; omega
  · rw [← hL0, List.getElem?_append] at hv
    split at hv
    · have h1 := am_l0_mem G.2.2.2 As 0 i v hv
      rw [Nat.zero_add] at h1
      exact hl.2.2 _ h1
    · have h2 := List.mem_of_getElem? hv
      rw [List.mem_replicate] at h2
      exact absurd h2.2 (by simp)
theorem CMq.mono {G : am_G} {d : Nat} {y : MethodName} {As : List Value} {I : am_I} {J : am_J} {K K' : Option Value → am_I → am_J → Prop} (h : CMq G d y As I J K) (hK : ∀ r I J, K r I J → K' r I J) : CMq G d y As I J K' := by
  obtain ⟨cc, maxL, ret, h0, hc, hM⟩ := h
  refine ⟨cc, maxL, ret, h0, hc, ?_⟩
  intro p e ha hc hk s m args below hf happ hpre hX
  obtain ⟨k, o, h1, h2, h3, ⟨⟨r, I, J, e1, e2, e3, e4⟩, h5⟩⟩ := hM p e ha hc hk s m args below hf happ hpre hX
  exact ⟨k, o, h1, h2, h3, ⟨⟨r, I, J, e1, hK _ _ _ e2, e3, e4⟩, h5⟩⟩
theorem CMiq.mono {G : am_G} {d : Nat} {y : MethodName} {As : List Value} {I : am_I} {J : am_J} {K K' : Int32 → am_I → am_J → Prop} (h : CMiq G d y As I J K) (hK : ∀ r I J, K r I J → K' r I J) : CMiq G d y As I J K' := CMq.mono h (fun _ _ _ ⟨x, e, k⟩ => ⟨x, e, hK _ _ _ k⟩)
theorem CMvq.mono {G : am_G} {d : Nat} {y : MethodName} {As : List Value} {I : am_I} {J : am_J} {K K' : am_I → am_J → Prop} (h : CMvq G d y As I J K) (hK : ∀ I J, K I J → K' I J) : CMvq G d y As I J K' := CMq.mono h (fun _ _ _ ⟨e, k⟩ => ⟨e, hK _ _ k⟩)
section AWCq
variable {G : am_G} {cc : ByteArray} {nL : Nat} {own : String} {d : Nat} {Ex : am_Ex} {pc : Nat} {L L' : List (Option Value)} {st rest As : List Value} {I : am_I} {J : am_J} {K : Option Value → am_I → am_J → Prop}
theorem a_ireturnq {x : Int32} (hd : decode cc pc = .ok (.ireturn, 1)) (hK : K (some (.int x)) I J) : AWq G cc nL own d (am_exq G (some .int) K) pc L [.int x] I J := by
  intro p e s m args below meth c A R ce sl Q H locs ls B hE hP hS hL
  obtain ⟨h1, h2, rfl, rfl, rfl, rfl⟩ := hE
  exact W.iret B.1 B.2.1 h1 (fun t ht hW => ⟨_, I, J, rfl, hK, by rw [ht]; exact hP, hS.F ht⟩) hS.2.2 hd h2
theorem a_zreturnq {x : Int32} (hd : decode cc pc = .ok (.ireturn, 1)) (hx : x = 0 ∨ x = 1) (hK : K (some (.int x)) I J) : AWq G cc nL own d (am_exq G (some .boolean) K) pc L [.int x] I J := by
  intro p e s m args below meth c A R ce sl Q H locs ls B hE hP hS hL
  obtain ⟨h1, h2, rfl, rfl, rfl, rfl⟩ := hE
  exact W.zret B.1 B.2.1 h1 (by rcases hx with rfl | rfl <;> rfl) (fun t ht hW => ⟨_, I, J, rfl, hK, by rw [ht]; exact hP, hS.F ht⟩) hS.2.2 hd h2
theorem a_vreturnq (hd : decode cc pc = .ok (.return_, 1)) (hK : K none I J) : AWq G cc nL own d (am_exq G none K) pc L [] I J := by
  intro p e s m args below meth c A R ce sl Q H locs ls B hE hP hS hL
  obtain ⟨h1, h2, rfl, rfl, rfl, rfl⟩ := hE
  exact W.vret B.1 B.2.1 h1 (fun t ht hW => ⟨_, I, J, rfl, hK, by rw [ht]; exact hP, hS.F ht⟩) hS.2.2 hd h2
theorem am_afterq {p : Program} {e : Env} {s : State} {m : MethodId} {args : Array Value} {below : List Frame} {meth : Method} {c : Code} {A : Nat → Prop} {R : Room} {ce sl : Nat} {Q : State → Prop} {H : Heap} {locs : List Loc} {ls : Array Slot} {a : Array Value} {st0 rest : List Value}
    (hr : va_Run p G.1 e R s m args below meth c H locs ce sl 0 0 (F0 m pc ls st0) rest (am_Qcq G K a) (am_Aq G)) (hS : va_S A s.heap H locs) (hA : ∀ k, k < am_Nq → A (G.2.2.2 k))
    (kk : ∀ (r : Option Value) (I : am_I) (J : am_J) (H1 : Heap) (locs1 : List Loc), K r I J → am_Pq G I J H1 → va_S A s.heap H1 locs1 → W p G.1 e R s m args below meth c H1 locs1 ce sl Q (F0 m (pc + 3) ls (r.toList ++ rest))) : W p G.1 e R s m args below meth c H locs ce sl Q (F0 m pc ls st0) := by
  intro T hT X
  obtain ⟨v, st₀, t, T', L, h0, X', hL, e1, e2, ⟨r, I, J, ho, hK, hP, hF⟩, stp⟩ := hr T hT X
  cases ho
  have hAA : ∀ q, am_Aq G q → A q := fun q ⟨k, hk, e⟩ => e ▸ hA k hk
  obtain ⟨f1, f2⟩ := hF
  rw [h0] at f1 f2
  have hS' : va_S A s.heap T'.heap (locs ++ L) := by
    rw [e1]
    refine ⟨Nat.le_trans hS.1 f1, fun q h1 h2 => ?_, fun q hq => ?_⟩
    · rw [f2 q (Nat.lt_of_lt_of_le h1 hS.1) (fun h => h2 (hAA q h))]
      exact hS.2.1 q h1 h2
    · rcases List.mem_append.mp hq with h | h
      · exact hS.2.2 q h
      · exact hAA _ (hL q h)
  obtain ⟨t2, a1, b1⟩ := kk v I J T'.heap (locs ++ L) hK (by rw [e1]; exact hP) hS' T' rfl X'
  exact ⟨t2, stp t2 a1, b1⟩
theorem am_blindq {As : List Value} : FrameBlind (am_Pcq G As I J) := by
  intro a U g mk q
  obtain ⟨q1, q2, q3, q4⟩ := q
  exact ⟨q1, q2, ⟨va_K.moved (u := U) (U := U.calling g mk a) (Vm.Alike.refl U.vm) q3.1, va_tabs (A := #[]) (u := U) rfl rfl q3.2.1, va_tabs (A := #[]) (u := U) rfl rfl q3.2.2⟩, q4⟩
theorem am_preq {s : State} {H : Heap} {As : List Value} (hP : am_Pq G I J H) (hK : am_K G s) (hi : am_injq G) : ∀ U : State, U.heap = H → s.WarmedH U.vm → am_Pcq G As I J (As.map (am_v G.2.2.2)).toArray U :=
  fun U hU hW => ⟨rfl, by rw [hU]; exact hP, hK.warm hW, hi⟩
/-- an object of the system C -/
def am_obq (k : Nat) (C : String) : Prop := k < am_Nq ∧ ∃ (ci : Nat) (fs : List am_F) (q : u_T × Nat), am_sh k = .inl (ci, fs) ∧ vwCl[ci]? = some (C, q)
theorem am_recvq {s : State} {H : Heap} {k : Nat} {C : String} (hk : am_obq k C) (hP : am_Pq G I J H) (hK : am_K G s) : ∃ cell : Cell, H[G.2.2.2 k]? = some cell ∧ cell.vm.isStatics = false ∧ s.vm.findClass C = some cell.cls := by
  obtain ⟨h1, ci, fs, q, h2, h3⟩ := hk
  exact va_recv hK.1 hP (q := (C, q)) h3 (am_W_atq h1 h2)
theorem a_callViq {y : MethodName} {idx n k : Nat} {C : String} (hd : decode cc pc = .ok (.invokevirtual idx, 3)) (hm : am_mV own idx C y n) (hk : am_obq k C) (hn : As.length = n) (hst : st = As.reverse ++ .ref k :: rest) (hW : (rest.map fun v => v.category).sum ≤ 8) (kk : CMiq G d y (.ref k :: As) I J (fun x I J => AWq G cc nL own (d + 1) Ex (pc + 3) L (.int x :: rest) I J)) : AWq G cc nL own (d + 1) Ex pc L st I J := by
  intro p e s m args below meth c A R ce sl Q H locs ls B hE hP hS hL
  obtain ⟨cc', maxL, ret, h0, hc, hM⟩ := kk
  obtain ⟨m1, m2, m3, m4, m5⟩ := hm
  have hts := B.2.2.2.2.1
  subst hst
  refine am_afterq (a := (Value.ref (G.2.2.2 k) :: As.map (am_v G.2.2.2)).toArray) (rest := rest.map (am_v G.2.2.2)) (va_runV (Ts := am_ws) (nL := nL) (own := own) (C := C) (b := G.2.2.2 k) (As := As.map (am_v G.2.2.2)) ⟨B.1, B.2.1, B.2.2.1, B.2.2.2.1, hts⟩ hM ⟨am_cb hts B.2.2.2.2.2.2.2.2.1 h0 hc m1 m4 m5, hts _ m2, hts _ m3⟩ ⟨am_blindq, am_recvq hk hP B.2.2.2.2.2.1, am_preq hP B.2.2.2.2.2.1 B.2.2.2.2.2.2.1⟩ rfl (by rw [List.length_map]; exact hn) hL.1 (by show List.map _ _ = _; rw [List.map_append, List.map_reverse]; rfl) (am_rest hW) hd ⟨B.2.2.2.2.2.2.2.2.2.1, B.2.2.2.2.2.2.2.2.2.2⟩) hS B.2.2.2.2.2.2.2.1 (fun r I J H1 locs1 hq hP1 hS1 => by
    obtain ⟨x, rfl, hk⟩ := hq
    exact hk _ _ _ _ _ _ _ _ _ _ _ _ _ _ _ _ B hE hP1 hS1 hL)
theorem a_callSiq {y : MethodName} {idx n : Nat} (hd : decode cc pc = .ok (.invokestatic idx, 3)) (hm : am_mS own idx y n) (hn : As.length = n) (hst : st = As.reverse ++ rest) (hW : (rest.map fun v => v.category).sum ≤ 8) (kk : CMiq G d y As I J (fun x I J => AWq G cc nL own (d + 1) Ex (pc + 3) L (.int x :: rest) I J)) : AWq G cc nL own (d + 1) Ex pc L st I J := by
  intro p e s m args below meth c A R ce sl Q H locs ls B hE hP hS hL
  obtain ⟨cc', maxL, ret, h0, hc, hM⟩ := kk
  obtain ⟨m1, m2, m4, m5⟩ := hm
  have hts := B.2.2.2.2.1
  subst hst
  refine am_afterq (a := (As.map (am_v G.2.2.2)).toArray) (rest := rest.map (am_v G.2.2.2)) (va_runS (Ts := am_ws) (nL := nL) (own := own) (As := As.map (am_v G.2.2.2)) ⟨B.1, B.2.1, B.2.2.1, B.2.2.2.1, hts⟩ hM ⟨am_cb hts B.2.2.2.2.2.2.2.2.1 h0 hc m1 m4 m5, hts _ m2⟩ ⟨am_blindq, am_preq hP B.2.2.2.2.2.1 B.2.2.2.2.2.2.1⟩ rfl (by rw [List.length_map]; exact hn) hL.1 (by show List.map _ _ = _; rw [List.map_append, List.map_reverse]) (am_rest hW) hd ⟨B.2.2.2.2.2.2.2.2.2.1, B.2.2.2.2.2.2.2.2.2.2⟩) hS B.2.2.2.2.2.2.2.1 (fun r I J H1 locs1 hq hP1 hS1 => by
    obtain ⟨x, rfl, hk⟩ := hq
    exact hk _ _ _ _ _ _ _ _ _ _ _ _ _ _ _ _ B hE hP1 hS1 hL)
theorem a_callVvq {y : MethodName} {idx n k : Nat} {C : String} (hd : decode cc pc = .ok (.invokevirtual idx, 3)) (hm : am_mV own idx C y n) (hk : am_obq k C) (hn : As.length = n) (hst : st = As.reverse ++ .ref k :: rest) (hW : (rest.map fun v => v.category).sum ≤ 8) (kk : CMvq G d y (.ref k :: As) I J (fun I J => AWq G cc nL own (d + 1) Ex (pc + 3) L rest I J)) : AWq G cc nL own (d + 1) Ex pc L st I J := by
  intro p e s m args below meth c A R ce sl Q H locs ls B hE hP hS hL
  obtain ⟨cc', maxL, ret, h0, hc, hM⟩ := kk
  obtain ⟨m1, m2, m3, m4, m5⟩ := hm
  have hts := B.2.2.2.2.1
  subst hst
  refine am_afterq (a := (Value.ref (G.2.2.2 k) :: As.map (am_v G.2.2.2)).toArray) (rest := rest.map (am_v G.2.2.2)) (va_runV (Ts := am_ws) (nL := nL) (own := own) (C := C) (b := G.2.2.2 k) (As := As.map (am_v G.2.2.2)) ⟨B.1, B.2.1, B.2.2.1, B.2.2.2.1, hts⟩ hM ⟨am_cb hts B.2.2.2.2.2.2.2.2.1 h0 hc m1 m4 m5, hts _ m2, hts _ m3⟩ ⟨am_blindq, am_recvq hk hP B.2.2.2.2.2.1, am_preq hP B.2.2.2.2.2.1 B.2.2.2.2.2.2.1⟩ rfl (by rw [List.length_map]; exact hn) hL.1 (by show List.map _ _ = _; rw [List.map_append, List.map_reverse]; rfl) (am_rest hW) hd ⟨B.2.2.2.2.2.2.2.2.2.1, B.2.2.2.2.2.2.2.2.2.2⟩) hS B.2.2.2.2.2.2.2.1 (fun r I J H1 locs1 hq hP1 hS1 => by
    obtain ⟨rfl, hk⟩ := hq
    exact hk _ _ _ _ _ _ _ _ _ _ _ _ _ _ _ _ B hE hP1 hS1 hL)
theorem a_callSvq {y : MethodName} {idx n : Nat} (hd : decode cc pc = .ok (.invokestatic idx, 3)) (hm : am_mS own idx y n) (hn : As.length = n) (hst : st = As.reverse ++ rest) (hW : (rest.map fun v => v.category).sum ≤ 8) (kk : CMvq G d y As I J (fun I J => AWq G cc nL own (d + 1) Ex (pc + 3) L rest I J)) : AWq G cc nL own (d + 1) Ex pc L st I J := by
  intro p e s m args below meth c A R ce sl Q H locs ls B hE hP hS hL
  obtain ⟨cc', maxL, ret, h0, hc, hM⟩ := kk
  obtain ⟨m1, m2, m4, m5⟩ := hm
  have hts := B.2.2.2.2.1
  subst hst
  refine am_afterq (a := (As.map (am_v G.2.2.2)).toArray) (rest := rest.map (am_v G.2.2.2)) (va_runS (Ts := am_ws) (nL := nL) (own := own) (As := As.map (am_v G.2.2.2)) ⟨B.1, B.2.1, B.2.2.1, B.2.2.2.1, hts⟩ hM ⟨am_cb hts B.2.2.2.2.2.2.2.2.1 h0 hc m1 m4 m5, hts _ m2⟩ ⟨am_blindq, am_preq hP B.2.2.2.2.2.1 B.2.2.2.2.2.2.1⟩ rfl (by rw [List.length_map]; exact hn) hL.1 (by show List.map _ _ = _; rw [List.map_append, List.map_reverse]) (am_rest hW) hd ⟨B.2.2.2.2.2.2.2.2.2.1, B.2.2.2.2.2.2.2.2.2.2⟩) hS B.2.2.2.2.2.2.2.1 (fun r I J H1 locs1 hq hP1 hS1 => by
    obtain ⟨rfl, hk⟩ := hq
    exact hk _ _ _ _ _ _ _ _ _ _ _ _ _ _ _ _ B hE hP1 hS1 hL)
theorem a_mminq {idx : Nat} {x y v : Int32} (hd : decode cc pc = .ok (.invokestatic idx, 3)) (m1 : Cond.methodLink own idx Lib.Math.min.name ∈ am_ws) (m2 : Cond.static Lib.Math.min.name ∈ am_ws) (m3 : Cond.initialized "java/lang/Math" ∈ am_ws) (m4 : Cond.code Lib.Math.min.name Lib.Math.min.code 2 (some .int) ∈ am_ws) (hW : (st.map fun v => v.category).sum ≤ 8) (hv : (if y < x then y else x) = v) (kk : AWq G cc nL own (d + 1) Ex (pc + 3) L (.int v :: st) I J) : AWq G cc nL own (d + 1) Ex pc L (.int y :: .int x :: st) I J := by
  intro p e s m args below meth c A R ce sl Q H locs ls B hE hP hS hL
  subst hv
  have hts := B.2.2.2.2.1
  have hr := B.2.2.2.2.2.2.2.2.1
  exact va_mmin B.1 B.2.1 (by rw [B.2.2.1, hL.1]) B.2.2.2.1 (hts _ m1) (hts _ m2) (hts _ m3) (hts _ m4) (by omega) (by rw [am_cats]; omega) B.2.2.2.2.2.2.2.2.2.1 B.2.2.2.2.2.2.2.2.2.2 hd (kk _ _ _ _ _ _ _ _ _ _ _ _ _ _ _ _ B hE hP hS hL)
end AWCq
section AWNq
variable {G : am_G} {cc : ByteArray} {nL : Nat} {own : String} {d : Nat} {Ex : am_Ex} {pc : Nat} {L L' : List (Option Value)} {st : List Value} {I : am_I} {J : am_J}
theorem a_icmp_eqNq {x y : Nat} {off : Int} {tgt : Nat} (hd : decode cc pc = .ok (.if_icmp .eq off, 3)) (ht : (pc : Int) + off = (tgt : Int)) (hx : x < 2 ^ 31) (hy : y < 2 ^ 31) (kt : x = y → AWq G cc nL own d Ex tgt L st I J) (kf : x ≠ y → AWq G cc nL own d Ex (pc + 3) L st I J) : AWq G cc nL own d Ex pc L (.int (nI y) :: .int (nI x) :: st) I J := a_icmp_eqq hd ht (fun h => kt ((nI_eq hx hy).mp h)) (fun h => kf (fun e => h ((nI_eq hx hy).mpr e)))
theorem a_icmp_geNq {x y : Nat} {off : Int} {tgt : Nat} (hd : decode cc pc = .ok (.if_icmp .ge off, 3)) (ht : (pc : Int) + off = (tgt : Int)) (hx : x < 2 ^ 31) (hy : y < 2 ^ 31) (kt : y ≤ x → AWq G cc nL own d Ex tgt L st I J) (kf : x < y → AWq G cc nL own d Ex (pc + 3) L st I J) : AWq G cc nL own d Ex pc L (.int (nI y) :: .int (nI x) :: st) I J := a_icmp_geq hd ht (fun h => kt ((nI_leI hy hx).mp h)) (fun h => kf (by have := mt (nI_leI hy hx).mpr h; omega))
end AWNq
theorem sh_atq {i j : Nat} {q : am_F} (h : i < 12) (hq : ([none, none, none, none, none, none, some (some (32 + i))] : List am_F)[j]? = some q) : am_atq (20 + i) 2 j q := ⟨by unfold am_Nq; omega, _, sh_line h, hq⟩
set_option maxHeartbeats 4000000 in
set_option maxRecDepth 100000 in
theorem lp_fillq {G : am_G} {d : Nat} {I0 : am_I} {J : am_J} {K : am_I → am_J → Prop} {k n : Nat} {x : Int32} (hs : am_arq k 0 n) (hK : K (mFill I0 k n (x)) J) : ∀ i, i ≤ n → AWq G cJ7_fill_53178 4 RJ7 d (am_exq G none (fun r I J => r = none ∧ K I J)) 5 [some (.ref k), some (.int x), some (.int (nI i)), some (.int (nI n))] [] (mFill I0 k i (x)) J := by
  have hn := am_len hs.2
  refine am_dn n (fun i hi ih => ?_)
  refine a_iload_nq dJ7_fill_53178_5 rfl ?_
  refine a_iload_nq dJ7_fill_53178_6 rfl ?_
  refine a_icmp_geNq (tgt := 20) dJ7_fill_53178_7 (by decide) (by omega) (by omega) (fun h => ?_) (fun h => ?_)
  · obtain rfl : i = n := by omega
    exact a_vreturnq dJ7_fill_53178_20 ⟨rfl, hK⟩
  · refine a_aload_nq dJ7_fill_53178_10 rfl ?_
    refine a_iload_nq dJ7_fill_53178_11 rfl ?_
    refine a_iload_nq dJ7_fill_53178_12 rfl ?_
    refine a_iastq dJ7_fill_53178_13 hs (by omega) ?_
    refine a_memq (mFill_s I0 k i _) ?_
    refine a_iincq (L' := [_, _, _, _]) dJ7_fill_53178_14 rfl (nI_inc _) rfl ?_
    refine a_gotoq (tgt := 5) dJ7_fill_53178_17 (by decide) ?_
    exact ih (i + 1) (by omega) (by omega)

set_option maxHeartbeats 4000000 in
set_option maxRecDepth 100000 in
theorem c_fillq {G : am_G} {d : Nat} {I : am_I} {J : am_J} {K : am_I → am_J → Prop} {k n : Nat} {x : Int32} (hs : am_arq k 0 n) (hK : K (mFill I k n (x)) J) : CMvq G d yJ7_fill_53178 [.ref k, .int x] I J K := by
  refine CMq.of (L0 := [_, _, _, _]) cJ7_fill_53178 4 none (by decide) (by decide) kcJ7_fill_53178 (Nat.le_of_ble_eq_true rfl) rfl ?_
  refine a_iconstq (v := nI 0) dJ7_fill_53178_0 (by decide) ?_
  refine a_istore_nq (L' := [_, _, _, _]) dJ7_fill_53178_1 (Nat.le_of_ble_eq_true rfl) rfl ?_
  refine a_aload_nq dJ7_fill_53178_2 rfl ?_
  refine a_alenq dJ7_fill_53178_3 hs (by decide) rfl ?_
  refine a_istore_nq (L' := [_, _, _, _]) dJ7_fill_53178_4 (Nat.le_of_ble_eq_true rfl) rfl ?_
  refine a_memq (mFill_0 I k (x)) ?_
  exact lp_fillq hs hK 0 (by omega)

set_option maxHeartbeats 4000000 in
set_option maxRecDepth 100000 in
theorem n_pairNumberq {G : am_G} {d : Nat} {I : am_I} {J : am_J} {K : Int32 → am_I → am_J → Prop} {N a b : Nat} (hn : I 1 0 = nI N) (hK : K (nI (N * a + b)) I J) : CMiq G d yX5_pairNumber [.ref 1, .int (nI a), .int (nI b)] I J K := by
  refine CMq.of (L0 := [_, _, _]) cX5_pairNumber 3 (some .int) (by decide) (by decide) kcX5_pairNumber (Nat.le_of_ble_eq_true rfl) rfl ?_
  refine a_iload_nq dX5_pairNumber_0 rfl ?_
  refine a_aload_nq dX5_pairNumber_1 rfl ?_
  refine a_getiq dX5_pairNumber_2 kf_X5_9 ⟨by decide, _, rfl, rfl⟩ hn ?_
  refine a_imulq dX5_pairNumber_5 (show _ = nI (N * a) by rw [Nat.mul_comm]; exact pk_mul _ _) ?_
  refine a_iload_nq dX5_pairNumber_6 rfl ?_
  refine a_iaddq dX5_pairNumber_7 (by first | exact nI_add _ _ | rfl) ?_
  exact a_ireturnq dX5_pairNumber_8 ⟨_, rfl, hK⟩

set_option maxHeartbeats 4000000 in
set_option maxRecDepth 100000 in
theorem r_isShutq {G : am_G} {d : Nat} {I : am_I} {J : am_J} {K : Int32 → am_I → am_J → Prop} {N n l : Nat} {wo : Int32} {F T : Nat → Nat} {S : Nat → Bool} (hR : rwC I wo N n F T S) (hl : l < n) (h1 : S l = true → K 1 I J) (h0 : S l = false → K 0 I J) : CMiq G d yX7_isShut [.ref 1, .int wo, .int (nI l)] I J K := by
  refine CMq.of (L0 := [_, _, _]) cX7_isShut 3 (some .boolean) (by decide) (by decide) kcX7_isShut (Nat.le_of_ble_eq_true rfl) rfl ?_
  obtain ⟨r1, r2, r3, r4, r5, r6, r7⟩ := hR
  have hS := r7 l hl
  refine a_iload_nq dX7_isShut_0 rfl ?_
  refine a_iload_nq dX7_isShut_1 rfl ?_
  refine a_icmp_eqq (tgt := 17) dX7_isShut_2 (by decide) (fun h2 => ?_) (fun h2 => ?_)
  · refine a_iconstq (v := nI 1) dX7_isShut_17 (by decide) ?_
    refine a_gotoq (tgt := 22) dX7_isShut_18 (by decide) ?_
    exact a_zreturnq dX7_isShut_22 (by first | exact Or.inl rfl | exact Or.inr rfl) ⟨_, rfl, (h1 (by rw [hS]; simp; exact Or.inr h2))⟩
  · refine a_aload_nq dX7_isShut_5 rfl ?_
    refine a_getrq dX7_isShut_6 kf_X7_62 ⟨by decide, _, rfl, rfl⟩ ?_
    refine a_iload_nq dX7_isShut_9 rfl ?_
    refine a_aaldq dX7_isShut_10 ⟨by decide, rfl⟩ (by decide) (by omega) rfl ?_
    refine a_getiq dX7_isShut_11 kf_X7_79 (sh_atq (by omega) rfl) rfl ?_
    refine a_if_eqq (tgt := 21) dX7_isShut_14 (by decide) (fun h14 => ?_) (fun h14 => ?_)
    · refine a_iconstq (v := nI 0) dX7_isShut_21 (by decide) ?_
      exact a_zreturnq dX7_isShut_22 (by first | exact Or.inl rfl | exact Or.inr rfl) ⟨_, rfl, (h0 (by rw [hS]; simp; exact ⟨h14, h2⟩))⟩
    · refine a_iconstq (v := nI 1) dX7_isShut_17 (by decide) ?_
      refine a_gotoq (tgt := 22) dX7_isShut_18 (by decide) ?_
      exact a_zreturnq dX7_isShut_22 (by first | exact Or.inl rfl | exact Or.inr rfl) ⟨_, rfl, (h1 (by rw [hS]; simp; exact Or.inl h14))⟩

set_option maxHeartbeats 4000000 in
set_option maxRecDepth 100000 in
theorem lp_me2aq {G : am_G} {d : Nat} {I0 : am_I} {J : am_J} {wo : Int32} {N n b : Nat} {F T : Nat → Nat} {S : Nat → Bool} (hR : rwC I0 wo N n F T S) {Ex : am_Ex} {r : Nat} (kx : ∀ (I : am_I) (v6 : Option Value), frA 46 I I0 → awP 46 (rnd F T S (wyR F T S n b r) n) I → AWq G cX7_measure 7 RX7 (d + 1) Ex 105 [some (.ref 2), some (.ref 1), some (.int wo), some (.int (nI b)), some (.int (nI r)), some (.int (nI n)), v6] [] I J) : ∀ l, l ≤ n → ∀ (I : am_I) (v6 : Option Value), frA 46 I I0 → awP 46 (rnd F T S (wyR F T S n b r) l) I → AWq G cX7_measure 7 RX7 (d + 1) Ex 31 [some (.ref 2), some (.ref 1), some (.int wo), some (.int (nI b)), some (.int (nI r)), some (.int (nI l)), v6] [] I J := by
  refine am_dn n (fun l hl ih => ?_)
  intro I v6 hf hw
  have hR1 : rwC I wo N n F T S := rwC_fr hR (hf 1 (by decide)) (fun l hl => hf _ (by omega))
  obtain ⟨r1, r2, r3, r4, r5, r6, r7⟩ := id hR1
  refine a_iloadq dX7_measure_31 rfl ?_
  refine a_aload_nq dX7_measure_33 rfl ?_
  refine a_getiq dX7_measure_34 kf_X7_55 ⟨by decide, _, rfl, rfl⟩ r4 ?_
  refine a_icmp_geNq (tgt := 105) dX7_measure_37 (by decide) (by omega) (by omega) (fun h => ?_) (fun h => ?_)
  · obtain rfl : l = n := by omega
    exact kx I _ hf hw
  · obtain ⟨f1, f2, f3, f4⟩ := r6 l h
    have b1 := rndw_le F T S n b r l (F l)
    have b2 := rndw_le F T S n b r l (T l)
    refine a_aload_nq dX7_measure_40 rfl ?_
    refine a_iload_nq dX7_measure_41 rfl ?_
    refine a_iloadq dX7_measure_42 rfl ?_
    refine a_callSiq (As := [_, _, _]) dX7_measure_44 km_X7_58 rfl rfl (Nat.le_of_ble_eq_true rfl) ?_
    refine r_isShutq hR1 h (fun hs => ?_) (fun hs => ?_)
    · refine a_if_eqq (tgt := 53) dX7_measure_47 (by decide) (fun h47 => ?_) (fun h47 => ?_)
      · exact absurd h47 (by decide)
      · refine a_gotoq (tgt := 99) dX7_measure_50 (by decide) ?_
        refine a_iincq (L' := [_, _, _, _, _, _, _]) dX7_measure_99 rfl (nI_inc _) rfl ?_
        refine a_gotoq (tgt := 31) dX7_measure_102 (by decide) ?_
        exact ih (l + 1) (by omega) (by omega) I _ hf (aw_shut hs hw)
    · refine a_if_eqq (tgt := 53) dX7_measure_47 (by decide) (fun h47 => ?_) (fun h47 => ?_)
      · refine a_aload_nq dX7_measure_53 rfl ?_
        refine a_getrq dX7_measure_54 kf_X7_62 ⟨by decide, _, rfl, rfl⟩ ?_
        refine a_iloadq dX7_measure_57 rfl ?_
        refine a_aaldq dX7_measure_59 ⟨by decide, rfl⟩ (by decide) (by omega) rfl ?_
        refine a_getiq dX7_measure_60 kf_X7_66 (sh_atq (by omega) rfl) f1 ?_
        refine a_istoreq (L' := [_, _, _, _, _, _, _]) dX7_measure_63 (Nat.le_of_ble_eq_true rfl) rfl ?_
        refine a_aload_nq dX7_measure_65 rfl ?_
        refine a_getrq dX7_measure_66 kf_X7_22 ⟨by decide, _, rfl, rfl⟩ ?_
        refine a_iloadq dX7_measure_69 rfl ?_
        refine a_aload_nq dX7_measure_71 rfl ?_
        refine a_getrq dX7_measure_72 kf_X7_22 ⟨by decide, _, rfl, rfl⟩ ?_
        refine a_iloadq dX7_measure_75 rfl ?_
        refine a_ialdq dX7_measure_77 ⟨by decide, rfl⟩ (by omega) (hw (F l) (by omega)) ?_
        refine a_aload_nq dX7_measure_78 rfl ?_
        refine a_getrq dX7_measure_79 kf_X7_22 ⟨by decide, _, rfl, rfl⟩ ?_
        refine a_aload_nq dX7_measure_82 rfl ?_
        refine a_getrq dX7_measure_83 kf_X7_62 ⟨by decide, _, rfl, rfl⟩ ?_
        refine a_iloadq dX7_measure_86 rfl ?_
        refine a_aaldq dX7_measure_88 ⟨by decide, rfl⟩ (by decide) (by omega) rfl ?_
        refine a_getiq dX7_measure_89 kf_X7_71 (sh_atq (by omega) rfl) f3 ?_
        refine a_ialdq dX7_measure_92 ⟨by decide, rfl⟩ (by omega) (hw (T l) (by omega)) ?_
        refine a_iconstq (v := nI 1) dX7_measure_93 (by decide) ?_
        refine a_iaddq dX7_measure_94 (by first | exact nI_add _ _ | rfl) ?_
        refine a_mminq dX7_measure_95 kl_X7_74 ks_min ki_Math kc_min (Nat.le_of_ble_eq_true rfl) (show _ = nI (min 6 (rlx F T S (rnd F T S (wyR F T S n b r) l) l (F l))) by rw [rlx_at hs, aw_min]; simp only [nI_ltI (show min 6 (rnd F T S (wyR F T S n b r) l (T l)) + 1 < 2 ^ 31 by omega) (show min 6 (rnd F T S (wyR F T S n b r) l (F l)) < 2 ^ 31 by omega)]; split <;> rfl) ?_
        refine a_iastq dX7_measure_98 ⟨by decide, rfl⟩ (by omega) ?_
        refine a_iincq (L' := [_, _, _, _, _, _, _]) dX7_measure_99 rfl (nI_inc _) rfl ?_
        refine a_gotoq (tgt := 31) dX7_measure_102 (by decide) ?_
        exact ih (l + 1) (by omega) (by omega) _ _ (frA_up hf _ _) (aw_step hs (by omega) (by omega) hw)
      · exact absurd h47 (by decide)

set_option maxHeartbeats 4000000 in
set_option maxRecDepth 100000 in
theorem lp_me1aq {G : am_G} {d : Nat} {I0 : am_I} {J : am_J} {wo : Int32} {N n b : Nat} {F T : Nat → Nat} {S : Nat → Bool} (hR : rwC I0 wo N n F T S) {K : am_I → am_J → Prop} (hK : ∀ I, frA 46 I I0 → awP 46 (wyR F T S n b N) I → K I J) : ∀ r, r ≤ N → ∀ (I : am_I) (v5 v6 : Option Value), frA 46 I I0 → awP 46 (wyR F T S n b r) I → AWq G cX7_measure 7 RX7 (d + 1) (am_exq G none (fun r I J => r = none ∧ K I J)) 19 [some (.ref 2), some (.ref 1), some (.int wo), some (.int (nI b)), some (.int (nI r)), v5, v6] [] I J := by
  refine am_dn N (fun r hr ih => ?_)
  intro I v5 v6 hf hw
  have hR1 : rwC I wo N n F T S := rwC_fr hR (hf 1 (by decide)) (fun l hl => hf _ (by omega))
  obtain ⟨r1, r2, r3, r4, r5, r6, r7⟩ := id hR1
  refine a_iloadq dX7_measure_19 rfl ?_
  refine a_aload_nq dX7_measure_21 rfl ?_
  refine a_getiq dX7_measure_22 kf_X7_25 ⟨by decide, _, rfl, rfl⟩ r1 ?_
  refine a_icmp_geNq (tgt := 111) dX7_measure_25 (by decide) (by omega) (by omega) (fun h => ?_) (fun h => ?_)
  · obtain rfl : r = N := by omega
    exact a_vreturnq dX7_measure_111 ⟨rfl, (hK I hf hw)⟩
  · refine a_iconstq (v := nI 0) dX7_measure_28 (by decide) ?_
    refine a_istoreq (L' := [_, _, _, _, _, _, _]) dX7_measure_29 (Nat.le_of_ble_eq_true rfl) rfl ?_
    refine lp_me2aq hR (fun I v6 hf hw => ?_) 0 (by omega) I _ hf hw
    refine a_iincq (L' := [_, _, _, _, _, _, _]) dX7_measure_105 rfl (nI_inc _) rfl ?_
    refine a_gotoq (tgt := 19) dX7_measure_108 (by decide) ?_
    exact ih (r + 1) (by omega) (by omega) I _ _ hf hw

set_option maxHeartbeats 4000000 in
set_option maxRecDepth 100000 in
theorem r_measureaq {G : am_G} {d : Nat} {I : am_I} {J : am_J} {K : am_I → am_J → Prop} {wo : Int32} {N n b : Nat} {F T : Nat → Nat} {S : Nat → Bool} (hR : rwC I wo N n F T S) (hb : b < N) (hK : ∀ I1, frA 46 I1 I → awP 46 (wyR F T S n b N) I1 → K I1 J) : CMvq G (d + 1) yX7_measure [.ref 2, .ref 1, .int wo, .int (nI b)] I J K := by
  refine CMq.of (L0 := [_, _, _, _, _, _, _]) cX7_measure 7 none (by decide) (by decide) kcX7_measure (Nat.le_of_ble_eq_true rfl) rfl ?_
  have hN6 := hR.2.2.1
  refine a_aload_nq dX7_measure_0 rfl ?_
  refine a_getrq dX7_measure_1 kf_X7_22 ⟨by decide, _, rfl, rfl⟩ ?_
  refine a_bipushq (v := nI 6) dX7_measure_4 (by decide) ?_
  refine a_callSvq (As := [_, _]) dX7_measure_6 km_X7_49 rfl rfl (Nat.le_of_ble_eq_true rfl) ?_
  refine c_fillq ⟨by decide, rfl⟩ ?_
  refine a_aload_nq dX7_measure_9 rfl ?_
  refine a_getrq dX7_measure_10 kf_X7_22 ⟨by decide, _, rfl, rfl⟩ ?_
  refine a_iload_nq dX7_measure_13 rfl ?_
  refine a_iconstq (v := nI 0) dX7_measure_14 (by decide) ?_
  refine a_iastq dX7_measure_15 ⟨by decide, rfl⟩ (by omega) ?_
  refine a_iconstq (v := nI 0) dX7_measure_16 (by decide) ?_
  refine a_istoreq (L' := [_, _, _, _, _, _, _]) dX7_measure_17 (Nat.le_of_ble_eq_true rfl) rfl ?_
  exact lp_me1aq hR hK 0 (by omega) _ _ _ (frA_up (fun k hk => mFill_ne hk) _ _) (fun x hx => by
    show _ = nI (min 6 (if x = b then 0 else 100))
    by_cases e : x = b
    · subst e; rw [am_up_same, if_pos rfl]; rfl
    · rw [am_up_slot e, mFill_in hx, if_neg e]; rfl)

set_option maxHeartbeats 4000000 in
set_option maxRecDepth 100000 in
theorem lp_wk2aq {G : am_G} {d : Nat} {I : am_I} {J : am_J} {Ex : am_Ex} {N n p x i : Nat} {a0 wo : Int32} {F T : Nat → Nat} {S : Nat → Bool} {D : Nat → Nat} (hR : rwC I wo N n F T S) (hw : awP 46 D I) (hx : x < N) (hp36 : p < 36) (hi5 : i < 5) (hx1 : 1 ≤ D x) (hx5 : D x ≤ 5) {m : Nat} (hm : m < n) (hp : ldP F T S D x m = true) (hq : ∀ j, j < m → ldP F T S D x j = false)
    (kx : AWq G cX7_walk 8 RX7 (d + 1) Ex 151 [some (.ref 2), some (.ref 1), some (.int wo), some (.int a0), some (.int (nI p)), some (.int (nI (T m))), some (.int (nI i)), some (.int (nI m))] [] (am_up I 45 (5 * p + i) (nI m)) J) : ∀ j, j ≤ m → AWq G cX7_walk 8 RX7 (d + 1) Ex 49 [some (.ref 2), some (.ref 1), some (.int wo), some (.int a0), some (.int (nI p)), some (.int (nI x)), some (.int (nI i)), some (.int (nI j))] [] I J := by
  obtain ⟨r1, r2, r3, r4, r5, r6, r7⟩ := id hR
  refine am_dn m (fun j hj ih => ?_)
  obtain ⟨f1, f2, f3, f4⟩ := r6 j (by omega)
  have hpj : j = m → (S j = false ∧ F j = x ∧ D (T j) + 1 = D x) := fun e => by
    subst e
    simpa [ldP] using hp
  refine a_iloadq dX7_walk_49 rfl ?_
  refine a_aload_nq dX7_walk_51 rfl ?_
  refine a_getiq dX7_walk_52 kf_X7_55 ⟨by decide, _, rfl, rfl⟩ r4 ?_
  refine a_icmp_geNq (tgt := 151) dX7_walk_55 (by decide) (by omega) (by omega) (fun h55 => ?_) (fun h55 => ?_)
  · exact absurd h55 (by omega)
  · refine a_aload_nq dX7_walk_58 rfl ?_
    refine a_iload_nq dX7_walk_59 rfl ?_
    refine a_iloadq dX7_walk_60 rfl ?_
    refine a_callSiq (As := [_, _, _]) dX7_walk_62 km_X7_58 rfl rfl (Nat.le_of_ble_eq_true rfl) ?_
    refine r_isShutq hR (by omega) (fun hs => ?_) (fun hs => ?_)
    · refine a_if_neq (tgt := 145) dX7_walk_65 (by decide) (fun h65 => ?_) (fun h65 => ?_)
      · have hjm : j < m := by
          rcases Nat.lt_or_ge j m with q | q
          · exact q
          · exfalso
            obtain ⟨z1, z2, z3⟩ := hpj (by omega)
            rw [hs] at z1; cases z1
        refine a_iincq (L' := [_, _, _, _, _, _, _, _]) dX7_walk_145 rfl (nI_inc _) rfl ?_
        refine a_gotoq (tgt := 49) dX7_walk_148 (by decide) ?_
        exact ih (j + 1) (by omega) (by omega)
      · exact absurd h65 (by decide)
    · refine a_if_neq (tgt := 145) dX7_walk_65 (by decide) (fun h65 => ?_) (fun h65 => ?_)
      · exact absurd h65 (by decide)
      · refine a_aload_nq dX7_walk_68 rfl ?_
        refine a_getrq dX7_walk_69 kf_X7_62 ⟨by decide, _, rfl, rfl⟩ ?_
        refine a_iloadq dX7_walk_72 rfl ?_
        refine a_aaldq dX7_walk_74 ⟨by decide, rfl⟩ (by decide) (by omega) rfl ?_
        refine a_getiq dX7_walk_75 kf_X7_66 (sh_atq (by omega) rfl) f1 ?_
        refine a_iloadq dX7_walk_78 rfl ?_
        refine a_icmp_eqNq (tgt := 86) dX7_walk_80 (by decide) (by omega) (by omega) (fun h80 => ?_) (fun h80 => ?_)
        · refine a_aload_nq dX7_walk_86 rfl ?_
          refine a_getrq dX7_walk_87 kf_X7_22 ⟨by decide, _, rfl, rfl⟩ ?_
          refine a_aload_nq dX7_walk_90 rfl ?_
          refine a_getrq dX7_walk_91 kf_X7_62 ⟨by decide, _, rfl, rfl⟩ ?_
          refine a_iloadq dX7_walk_94 rfl ?_
          refine a_aaldq dX7_walk_96 ⟨by decide, rfl⟩ (by decide) (by omega) rfl ?_
          refine a_getiq dX7_walk_97 kf_X7_71 (sh_atq (by omega) rfl) f3 ?_
          refine a_ialdq dX7_walk_100 ⟨by decide, rfl⟩ (by omega) (hw (T j) (by omega)) ?_
          refine a_aload_nq dX7_walk_101 rfl ?_
          refine a_getrq dX7_walk_102 kf_X7_22 ⟨by decide, _, rfl, rfl⟩ ?_
          refine a_iloadq dX7_walk_105 rfl ?_
          refine a_ialdq dX7_walk_107 ⟨by decide, rfl⟩ (by omega) (hw x (by omega)) ?_
          refine a_iconstq (v := nI 1) dX7_walk_108 (by decide) ?_
          refine a_isubq dX7_walk_109 (show _ = nI (D x - 1) by rw [show min 6 (D x) = D x by omega]; exact pk_sub hx1) ?_
          refine a_icmp_eqNq (tgt := 116) dX7_walk_110 (by decide) (by omega) (by omega) (fun h110 => ?_) (fun h110 => ?_)
          · have e : j = m := by
              rcases Nat.lt_or_ge j m with q | q
              · exfalso
                have z := hq j q
                simp [ldP, hs, h80] at z
                omega
              · omega
            subst e
            refine a_aload_nq dX7_walk_116 rfl ?_
            refine a_getrq dX7_walk_117 kf_X7_19 ⟨by decide, _, rfl, rfl⟩ ?_
            refine a_iloadq dX7_walk_120 rfl ?_
            refine a_iconstq (v := nI 5) dX7_walk_122 (by decide) ?_
            refine a_imulq dX7_walk_123 (show _ = nI (5 * p) by rw [Nat.mul_comm]; exact pk_mul _ _) ?_
            refine a_iloadq dX7_walk_124 rfl ?_
            refine a_iaddq dX7_walk_126 (by first | exact nI_add _ _ | rfl) ?_
            refine a_iloadq dX7_walk_127 rfl ?_
            refine a_iastq dX7_walk_129 ⟨by decide, rfl⟩ (by omega) ?_
            refine a_aload_nq dX7_walk_130 rfl ?_
            refine a_getrq dX7_walk_131 kf_X7_62 ⟨by decide, _, rfl, rfl⟩ ?_
            refine a_iloadq dX7_walk_134 rfl ?_
            refine a_aaldq dX7_walk_136 ⟨by decide, rfl⟩ (by decide) (by omega) rfl ?_
            refine a_getiq dX7_walk_137 kf_X7_71 (sh_atq (by omega) rfl) (show am_up _ _ _ _ (20 + j) 2 = nI (T j) by rw [am_up_ne (by omega)]; exact f3) ?_
            refine a_istoreq (L' := [_, _, _, _, _, _, _, _]) dX7_walk_140 (Nat.le_of_ble_eq_true rfl) rfl ?_
            refine a_gotoq (tgt := 151) dX7_walk_142 (by decide) ?_
            exact kx
          · refine a_gotoq (tgt := 145) dX7_walk_113 (by decide) ?_
            have hjm : j < m := by
              rcases Nat.lt_or_ge j m with q | q
              · exact q
              · exfalso
                obtain ⟨z1, z2, z3⟩ := hpj (by omega)
                omega
            refine a_iincq (L' := [_, _, _, _, _, _, _, _]) dX7_walk_145 rfl (nI_inc _) rfl ?_
            refine a_gotoq (tgt := 49) dX7_walk_148 (by decide) ?_
            exact ih (j + 1) (by omega) (by omega)
        · refine a_gotoq (tgt := 145) dX7_walk_83 (by decide) ?_
          have hjm : j < m := by
            rcases Nat.lt_or_ge j m with q | q
            · exact q
            · exfalso
              obtain ⟨z1, z2, z3⟩ := hpj (by omega)
              exact h80 z2
          refine a_iincq (L' := [_, _, _, _, _, _, _, _]) dX7_walk_145 rfl (nI_inc _) rfl ?_
          refine a_gotoq (tgt := 49) dX7_walk_148 (by decide) ?_
          exact ih (j + 1) (by omega) (by omega)

set_option maxHeartbeats 4000000 in
set_option maxRecDepth 100000 in
theorem lp_wk1aq {G : am_G} {d : Nat} {J : am_J} {K : am_I → am_J → Prop} {N n b p a : Nat} {a0 wo : Int32} {F T : Nat → Nat} {S : Nat → Bool} (hb : b < N) (hp36 : p < 36) (ha5 : wyR F T S n b N a ≤ 5) :
    ∀ (f x i : Nat) (I : am_I) (x7 : Option Value), rwC I wo N n F T S → awP 46 (wyR F T S n b N) I → I 44 p = nI (wyR F T S n b N a) → wyR F T S n b N x = f → i + f = wyR F T S n b N a → x < N → (∀ I1, wkF 44 45 p i I1 I → I1 44 = I 44 → (∀ (j y : Nat), (rtL F T S n b (wyR F T S n b N) f x)[j]? = some y → I1 45 (5 * p + i + j) = nI y) → K I1 J) → AWq G cX7_walk 8 RX7 (d + 1) (am_exq G none (fun r I J => r = none ∧ K I J)) 34 [some (.ref 2), some (.ref 1), some (.int wo), some (.int a0), some (.int (nI p)), some (.int (nI x)), some (.int (nI i)), x7] [] I J := by
  intro f
  induction f with
  | zero =>
    intro x i I x7 hR hw hl hf hi hx hK
    obtain ⟨r1, r2, r3, r4, r5, r6, r7⟩ := id hR
    refine a_iloadq dX7_walk_34 rfl ?_
    refine a_aload_nq dX7_walk_36 rfl ?_
    refine a_getrq dX7_walk_37 kf_X7_15 ⟨by decide, _, rfl, rfl⟩ ?_
    refine a_iloadq dX7_walk_40 rfl ?_
    refine a_ialdq dX7_walk_42 ⟨by decide, rfl⟩ (by omega) hl ?_
    refine a_icmp_geNq (tgt := 157) dX7_walk_43 (by decide) (by omega) (by omega) (fun h43 => ?_) (fun h43 => ?_)
    · exact a_vreturnq dX7_walk_157 ⟨rfl, (hK I ⟨fun _ _ _ => rfl, fun _ _ => rfl, fun _ _ => rfl⟩ rfl (fun j y e => by simp [rtL] at e))⟩
    · exact absurd h43 (by omega)
  | succ f ih =>
    intro x i I x7 hR hw hl hf hi hx hK
    obtain ⟨r1, r2, r3, r4, r5, r6, r7⟩ := id hR
    have hto : ∀ l, l < n → T l < N := fun l hl => (r6 l hl).2.2.2
    have exb : x ≠ b := fun q => by
      subst q
      rw [wy_b] at hf
      omega
    obtain ⟨l0, q1, q2, q3, q4⟩ := wy_next (fr := F) (to := T) (sh := S) (n := n) hb hto hx (by omega) exb
    obtain ⟨m1, m2, m3, m4⟩ := fnd_spec (ldP F T S (wyR F T S n b N) x) n 0 ⟨l0, by omega, by omega, by simp [ldP, q2, q3, q4]⟩
    rw [rtL, if_neg exb] at hK
    generalize fnd (ldP F T S (wyR F T S n b N) x) n 0 = m at m1 m2 m3 m4 hK
    have hm : m < n := by omega
    obtain ⟨f1, f2, f3, f4⟩ := r6 m hm
    have m5 : S m = false ∧ F m = x ∧ wyR F T S n b N (T m) + 1 = wyR F T S n b N x := by simpa [ldP] using m1
    refine a_iloadq dX7_walk_34 rfl ?_
    refine a_aload_nq dX7_walk_36 rfl ?_
    refine a_getrq dX7_walk_37 kf_X7_15 ⟨by decide, _, rfl, rfl⟩ ?_
    refine a_iloadq dX7_walk_40 rfl ?_
    refine a_ialdq dX7_walk_42 ⟨by decide, rfl⟩ (by omega) hl ?_
    refine a_icmp_geNq (tgt := 157) dX7_walk_43 (by decide) (by omega) (by omega) (fun h43 => ?_) (fun h43 => ?_)
    · exact absurd h43 (by omega)
    · refine a_iconstq (v := nI 0) dX7_walk_46 (by decide) ?_
      refine a_istoreq (L' := [_, _, _, _, _, _, _, _]) dX7_walk_47 (Nat.le_of_ble_eq_true rfl) rfl ?_
      refine lp_wk2aq hR hw hx hp36 (by omega) (by omega) (by omega) hm m1 (fun j hj => m4 j (by omega) hj) ?_ 0 (by omega)
      refine a_iincq (L' := [_, _, _, _, _, _, _, _]) dX7_walk_151 rfl (nI_inc _) rfl ?_
      refine a_gotoq (tgt := 34) dX7_walk_154 (by decide) ?_
      refine ih (T m) (i + 1) _ _ (rwC_fr hR (am_up_ne (by decide)) (fun l hl => am_up_ne (by omega))) (fun y hy => by rw [am_up_ne (by decide)]; exact hw y hy) (by rw [am_up_ne (by decide)]; exact hl) (by omega) (by omega) f4 (fun I1 hf1 hL1 hs1 => ?_)
      refine hK I1 ⟨fun k k1 k2 => by rw [hf1.1 k k1 k2, am_up_ne k2], fun s hs => by rw [hf1.2.1 s hs, am_up_ne (by decide)], fun s hs => by rw [hf1.2.2 s (by omega), am_up_slot (by omega)]⟩ (by rw [hL1, am_up_ne (by decide)]) (fun j y e => ?_)
      cases j with
      | zero =>
        rw [List.getElem?_cons_zero] at e
        cases e
        rw [hf1.2.2 _ (by omega)]
        exact am_up_same
      | succ j =>
        rw [List.getElem?_cons_succ] at e
        have := hs1 j y e
        rw [show 5 * p + i + (j + 1) = 5 * p + (i + 1) + j by omega]
        exact this

set_option maxHeartbeats 4000000 in
set_option maxRecDepth 100000 in
theorem r_walkaq {G : am_G} {d : Nat} {I : am_I} {J : am_J} {K : am_I → am_J → Prop} {wo : Int32} {N n a b : Nat} {F T : Nat → Nat} {S : Nat → Bool} (hR : rwC I wo N n F T S) (ha : a < N) (hb : b < N) (hw : awP 46 (wyR F T S n b N) I) (hK : ∀ I1, wkF 44 45 (N * a + b) 0 I1 I → rvQ 44 45 F T S n N a b I1 → K I1 J) : CMvq G (d + 1) yX7_walk [.ref 2, .ref 1, .int wo, .int (nI a), .int (nI (N * a + b))] I J K := by
  refine CMq.of (L0 := [_, _, _, _, _, _, _, _]) cX7_walk 8 none (by decide) (by decide) kcX7_walk (Nat.le_of_ble_eq_true rfl) rfl ?_
  obtain ⟨r1, r2, r3, r4, r5, r6, r7⟩ := id hR
  have hto : ∀ l, l < n → T l < N := fun l hl => (r6 l hl).2.2.2
  have hp := ix_lt r3 ha hb
  have hD := wyR_le F T S n b N a
  have hD1 := fun q => wy_lt (x := a) (fr := F) (sh := S) hb hto ha q
  refine a_aload_nq dX7_walk_0 rfl ?_
  refine a_getrq dX7_walk_1 kf_X7_15 ⟨by decide, _, rfl, rfl⟩ ?_
  refine a_iloadq dX7_walk_4 rfl ?_
  refine a_aload_nq dX7_walk_6 rfl ?_
  refine a_getrq dX7_walk_7 kf_X7_22 ⟨by decide, _, rfl, rfl⟩ ?_
  refine a_iload_nq dX7_walk_10 rfl ?_
  refine a_ialdq dX7_walk_11 ⟨by decide, rfl⟩ (by omega) (hw a (by omega)) ?_
  refine a_bipushq (v := nI 6) dX7_walk_12 (by decide) ?_
  refine a_icmp_geNq (tgt := 26) dX7_walk_14 (by decide) (by omega) (by omega) (fun h14 => ?_) (fun h14 => ?_)
  · refine a_iconstq (v := (-1)) dX7_walk_26 (by decide) ?_
    refine a_iastq dX7_walk_27 ⟨by decide, rfl⟩ (by omega) ?_
    refine a_iload_nq dX7_walk_28 rfl ?_
    refine a_istoreq (L' := [_, _, _, _, _, _, _, _]) dX7_walk_29 (Nat.le_of_ble_eq_true rfl) rfl ?_
    refine a_iconstq (v := nI 0) dX7_walk_31 (by decide) ?_
    refine a_istoreq (L' := [_, _, _, _, _, _, _, _]) dX7_walk_32 (Nat.le_of_ble_eq_true rfl) rfl ?_
    refine a_iloadq dX7_walk_34 rfl ?_
    refine a_aload_nq dX7_walk_36 rfl ?_
    refine a_getrq dX7_walk_37 kf_X7_15 ⟨by decide, _, rfl, rfl⟩ ?_
    refine a_iloadq dX7_walk_40 rfl ?_
    refine a_ialdq dX7_walk_42 ⟨by decide, rfl⟩ (by omega) (am_up_same) ?_
    refine a_icmp_geq (tgt := 157) dX7_walk_43 (by decide) (fun h43 => ?_) (fun h43 => ?_)
    · exact a_vreturnq dX7_walk_157 ⟨rfl, (hK _ ⟨fun k k1 k2 => am_up_ne k1, fun s hs => am_up_slot hs, fun s hs => by rw [am_up_ne (by decide)]⟩ ⟨by rw [am_up_same, if_neg (fun q => by have := hD1 q; omega)], fun q => by have := hD1 q; omega⟩)⟩
    · exact absurd (show (-1 : Int32) ≤ nI 0 by decide) h43
  · refine a_aload_nq dX7_walk_17 rfl ?_
    refine a_getrq dX7_walk_18 kf_X7_22 ⟨by decide, _, rfl, rfl⟩ ?_
    refine a_iload_nq dX7_walk_21 rfl ?_
    refine a_ialdq dX7_walk_22 ⟨by decide, rfl⟩ (by omega) (hw a (by omega)) ?_
    refine a_gotoq (tgt := 27) dX7_walk_23 (by decide) ?_
    refine a_iastq dX7_walk_27 ⟨by decide, rfl⟩ (by omega) ?_
    refine a_iload_nq dX7_walk_28 rfl ?_
    refine a_istoreq (L' := [_, _, _, _, _, _, _, _]) dX7_walk_29 (Nat.le_of_ble_eq_true rfl) rfl ?_
    refine a_iconstq (v := nI 0) dX7_walk_31 (by decide) ?_
    refine a_istoreq (L' := [_, _, _, _, _, _, _, _]) dX7_walk_32 (Nat.le_of_ble_eq_true rfl) rfl ?_
    refine a_memq (show am_up _ _ _ _ = am_up I 44 (N * a + b) (nI (wyR F T S n b N a)) by rw [show min 6 (wyR F T S n b N a) = wyR F T S n b N a by omega]) ?_
    refine lp_wk1aq hb hp (show wyR F T S n b N a ≤ 5 by omega) _ a 0 _ _ (rwC_fr hR (am_up_ne (by decide)) (fun l hl => am_up_ne (by omega))) (fun y hy => by rw [am_up_ne (by decide)]; exact hw y hy) am_up_same rfl (by omega) ha (fun I1 hf1 hL1 hs1 => ?_)
    refine hK I1 ⟨fun k k1 k2 => by rw [hf1.1 k k1 k2, am_up_ne k1], fun s hs => by rw [hf1.2.1 s hs, am_up_slot hs], fun s hs => by rw [hf1.2.2 s (by omega), am_up_ne (by decide)]⟩ ⟨by rw [hL1, am_up_same, if_pos (by omega)], fun _ i x e => hs1 i x e⟩

set_option maxHeartbeats 4000000 in
set_option maxRecDepth 100000 in
theorem lp_fi2aq {G : am_G} {d : Nat} {I0 : am_I} {J : am_J} {wo : Int32} {N n : Nat} {F T : Nat → Nat} {S : Nat → Bool} (hR : rwC I0 wo N n F T S) {Ex : am_Ex} {b : Nat} (hb : b < N) (kx : ∀ (I : am_I), rvPa F T S n N b N I I0 → AWq G cX7_find 5 RX7 (d + 2) Ex 63 [some (.ref 2), some (.ref 1), some (.int wo), some (.int (nI b)), some (.int (nI N))] [] I J) : ∀ c, c ≤ N → ∀ (I : am_I), rvPa F T S n N b c I I0 → awP 46 (wyR F T S n b N) I → AWq G cX7_find 5 RX7 (d + 2) Ex 33 [some (.ref 2), some (.ref 1), some (.int wo), some (.int (nI b)), some (.int (nI c))] [] I J := by
  refine am_dn N (fun c hc ih => ?_)
  intro I hp hw
  have hR1 := rvPa_rw hR hp
  obtain ⟨r1, r2, r3, r4, r5, r6, r7⟩ := id hR1
  refine a_iloadq dX7_find_33 rfl ?_
  refine a_aload_nq dX7_find_35 rfl ?_
  refine a_getiq dX7_find_36 kf_X7_25 ⟨by decide, _, rfl, rfl⟩ r1 ?_
  refine a_icmp_geNq (tgt := 63) dX7_find_39 (by decide) (by omega) (by omega) (fun h => ?_) (fun h => ?_)
  · obtain rfl : c = N := by omega
    exact kx I hp
  · refine a_aload_nq dX7_find_42 rfl ?_
    refine a_aload_nq dX7_find_43 rfl ?_
    refine a_iload_nq dX7_find_44 rfl ?_
    refine a_iloadq dX7_find_45 rfl ?_
    refine a_aload_nq dX7_find_47 rfl ?_
    refine a_iloadq dX7_find_48 rfl ?_
    refine a_iload_nq dX7_find_50 rfl ?_
    refine a_callViq (As := [_, _]) dX7_find_51 km_X7_34 ⟨by decide, _, _, _, rfl, rfl⟩ rfl rfl (Nat.le_of_ble_eq_true rfl) ?_
    refine n_pairNumberq r1 ?_
    refine a_callVvq (As := [_, _, _, _]) dX7_find_54 km_X7_38 ⟨by decide, _, _, _, rfl, rfl⟩ rfl rfl (Nat.le_of_ble_eq_true rfl) ?_
    refine r_walkaq hR1 h hb hw (fun I1 hf hq => ?_)
    refine a_iincq (L' := [_, _, _, _, _]) dX7_find_57 rfl (nI_inc _) rfl ?_
    refine a_gotoq (tgt := 33) dX7_find_60 (by decide) ?_
    exact ih (c + 1) (by omega) (by omega) I1 (rvPa_walk r3 (fun l hl => (r6 l hl).2.2.2) hb h hp hf hq) (fun y hy => by rw [hf.1 _ (by decide) (by decide)]; exact hw y hy)

set_option maxHeartbeats 4000000 in
set_option maxRecDepth 100000 in
theorem lp_fi1aq {G : am_G} {d : Nat} {I0 : am_I} {J : am_J} {wo : Int32} {N n : Nat} {F T : Nat → Nat} {S : Nat → Bool} (hR : rwC I0 wo N n F T S) {K : am_I → am_J → Prop} (hK : ∀ I, rvPa F T S n N N 0 I I0 → K I J) : ∀ b, b ≤ N → ∀ (I : am_I) (v4 : Option Value), rvPa F T S n N b 0 I I0 → AWq G cX7_find 5 RX7 (d + 2) (am_exq G none (fun r I J => r = none ∧ K I J)) 15 [some (.ref 2), some (.ref 1), some (.int wo), some (.int (nI b)), v4] [] I J := by
  refine am_dn N (fun b hb ih => ?_)
  intro I v4 hp
  have hR1 := rvPa_rw hR hp
  obtain ⟨r1, r2, r3, r4, r5, r6, r7⟩ := id hR1
  refine a_iload_nq dX7_find_15 rfl ?_
  refine a_aload_nq dX7_find_16 rfl ?_
  refine a_getiq dX7_find_17 kf_X7_25 ⟨by decide, _, rfl, rfl⟩ r1 ?_
  refine a_icmp_geNq (tgt := 69) dX7_find_20 (by decide) (by omega) (by omega) (fun h => ?_) (fun h => ?_)
  · obtain rfl : b = N := by omega
    exact a_vreturnq dX7_find_69 ⟨rfl, (hK I hp)⟩
  · refine a_aload_nq dX7_find_23 rfl ?_
    refine a_aload_nq dX7_find_24 rfl ?_
    refine a_iload_nq dX7_find_25 rfl ?_
    refine a_iload_nq dX7_find_26 rfl ?_
    refine a_callVvq (As := [_, _, _]) dX7_find_27 km_X7_30 ⟨by decide, _, _, _, rfl, rfl⟩ rfl rfl (Nat.le_of_ble_eq_true rfl) ?_
    refine r_measureaq hR1 h (fun I1 hf hw => ?_)
    refine a_iconstq (v := nI 0) dX7_find_30 (by decide) ?_
    refine a_istoreq (L' := [_, _, _, _, _]) dX7_find_31 (Nat.le_of_ble_eq_true rfl) rfl ?_
    refine lp_fi2aq hR h (fun I hp => ?_) 0 (by omega) I1 (rvPa_away hp hf) hw
    refine a_iincq (L' := [_, _, _, _, _]) dX7_find_63 rfl (nI_inc _) rfl ?_
    refine a_gotoq (tgt := 15) dX7_find_66 (by decide) ?_
    exact ih (b + 1) (by omega) (by omega) I _ (rvPa_next hp)

set_option maxHeartbeats 4000000 in
set_option maxRecDepth 100000 in
theorem r_findaq {G : am_G} {d : Nat} {I : am_I} {J : am_J} {K : am_I → am_J → Prop} {wo : Int32} {N n : Nat} {F T : Nat → Nat} {S : Nat → Bool} (hR : rwC I wo N n F T S) (hK : ∀ I1, (∀ k, k ≠ 2 → k ≠ 44 → k ≠ 45 → k ≠ 46 → I1 k = I k) → rvC 2 44 45 F T S n N I1 → K I1 J) : CMvq G (d + 2) yX7_find [.ref 2, .ref 1, .int wo] I J K := by
  refine CMq.of (L0 := [_, _, _, _, _]) cX7_find 5 none (by decide) (by decide) kcX7_find (Nat.le_of_ble_eq_true rfl) rfl ?_
  refine a_aload_nq dX7_find_0 rfl ?_
  refine a_aload_nq dX7_find_1 rfl ?_
  refine a_getiq dX7_find_2 kf_X7_25 ⟨by decide, _, rfl, rfl⟩ hR.1 ?_
  refine a_aload_nq dX7_find_5 rfl ?_
  refine a_getiq dX7_find_6 kf_X7_25 ⟨by decide, _, rfl, rfl⟩ hR.1 ?_
  refine a_imulq dX7_find_9 (by first | exact pk_mul _ _ | rfl) ?_
  refine a_putiq dX7_find_10 kp_X7_9 ⟨by decide, _, rfl, rfl⟩ ?_
  refine a_iconstq (v := nI 0) dX7_find_13 (by decide) ?_
  refine a_istore_nq (L' := [_, _, _, _, _]) dX7_find_14 (Nat.le_of_ble_eq_true rfl) rfl ?_
  exact lp_fi1aq hR (fun I1 h => hK I1 h.1 ⟨h.2.1, fun a b ha hb => h.2.2 a b ha hb (Or.inl hb)⟩) 0 (by omega) _ _ ⟨fun k k1 _ _ _ => am_up_ne k1, am_up_same, fun a b _ _ q => by omega⟩

