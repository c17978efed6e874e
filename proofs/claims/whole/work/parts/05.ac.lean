/-! ===== contracts over the abstract machine ===== -/
def am_rm (d : Nat) : Room := { frames := d, cells := 0, slots := 0, locals := 40 * d }
def am_A (G : am_G) : Nat → Prop := fun q => ∃ k, k < am_N ∧ q = G.2.2.2 k
def am_Pc (G : am_G) (As : List Value) (I : am_I) (J : am_J) : Array Value → State → Prop := fun a U => a = (As.map (am_v G.2.2.2)).toArray ∧ am_P G I J U.heap ∧ am_K G U ∧ am_inj G
def am_Qc (G : am_G) (K : Option Value → am_I → am_J → Prop) : Array Value → State → Outcome → State → Prop := fun _ u o t => ∃ (r : Option Value) (I : am_I) (J : am_J), o = .returned r ∧ K r I J ∧ am_P G I J t.heap ∧ va_F (am_A G) u t
/-- the method y, called with As at the memory I, J, comes back, and K holds of its answer and of the memory then; d frames are enough -/
def CM (G : am_G) (d : Nat) (y : MethodName) (As : List Value) (I : am_I) (J : am_J) (K : Option Value → am_I → am_J → Prop) : Prop :=
  ∃ (cc : ByteArray) (maxL : Nat) (ret : Option FieldType), maxL ≤ 21 ∧ Cond.code y cc maxL ret ∈ am_ws ∧ Met G.1 y (.code y cc maxL ret :: am_ws) (am_rm d) (am_Pc G As I J) (am_Qc G K) 0 0 (am_A G)
def CMi (G : am_G) (d : Nat) (y : MethodName) (As : List Value) (I : am_I) (J : am_J) (K : Int32 → am_I → am_J → Prop) : Prop := CM G d y As I J (fun r I J => ∃ x, r = some (.int x) ∧ K x I J)
def CMl (G : am_G) (d : Nat) (y : MethodName) (As : List Value) (I : am_I) (J : am_J) (K : Int64 → am_I → am_J → Prop) : Prop := CM G d y As I J (fun r I J => ∃ x, r = some (.long x) ∧ K x I J)
def CMv (G : am_G) (d : Nat) (y : MethodName) (As : List Value) (I : am_I) (J : am_J) (K : am_I → am_J → Prop) : Prop := CM G d y As I J (fun r I J => r = none ∧ K I J)
def am_ex (G : am_G) (ret : Option FieldType) (K : Option Value → am_I → am_J → Prop) : am_Ex := fun p e s m args below meth c A R ce sl Q => meth.sig.returnType = ret ∧ meth.locks = false ∧ A = am_A G ∧ ce = 0 ∧ sl = 0 ∧ Q = MQ below (am_Qc G K) args s 0 0 (am_A G)
def am_l0 : List Value → List (Option Value)
  | [] => []
  | v :: vs => if v.category = 2 then some v :: none :: am_l0 vs else some v :: am_l0 vs
theorem am_l0_mem (ad : Nat → Nat) : ∀ (As : List Value) (j i : Nat) (v : Value), (am_l0 As)[i]? = some (some v) → (j + i, am_v ad v) ∈ lv_args j (As.map (am_v ad))
  | [], j, i, v, h => by simp [am_l0] at h
  | x :: xs, j, i, v, h => by
    rw [List.map_cons, lv_args, am_cat]
    unfold am_l0 at h
    by_cases hc : x.category = 2
    · rw [if_pos hc] at h ⊢
      match i, h with
      | 0, h =>
        simp at h
        subst h
        exact List.mem_cons_self
      | 1, h => simp at h
      | i + 2, h =>
        have h1 := am_l0_mem ad xs (j + 2) i v (by simpa using h)
        rw [show j + (i + 2) = j + 2 + i by omega]
        exact List.mem_cons_of_mem _ h1
    · rw [if_neg hc] at h ⊢
      match i, h with
      | 0, h =>
        simp at h
        subst h
        exact List.mem_cons_self
      | i + 1, h =>
        have h1 := am_l0_mem ad xs (j + 1) i v (by simpa using h)
        rw [show j + (i + 1) = j + 1 + i by omega]
        exact List.mem_cons_of_mem _ h1
theorem am_l0_len (ad : Nat → Nat) : ∀ As : List Value, (lg_sl (As.map (am_v ad))).length = (am_l0 As).length
  | [] => rfl
  | x :: xs => by
    have h := am_l0_len ad xs
    unfold lg_sl at h ⊢
    rw [List.map_cons, List.flatMap_cons, List.length_append, h, am_cat, show am_l0 (x :: xs) = if x.category = 2 then some x :: none :: am_l0 xs else some x :: am_l0 xs from rfl]
    by_cases hc : x.category = 2
    · simp only [if_pos hc, List.length_cons, List.length_nil]; omega
    · simp only [if_neg hc, List.length_cons, List.length_nil]; omega
theorem CM.of {G : am_G} {d : Nat} {y : MethodName} {As : List Value} {I : am_I} {J : am_J} {K : Option Value → am_I → am_J → Prop} {L0 : List (Option Value)} (cc : ByteArray) (maxL : Nat) (ret : Option FieldType) (h0 : maxL ≤ 21) (hy : plainName y.cls = true) (hc : Cond.code y cc maxL ret ∈ am_ws)
    (hs : (am_l0 As).length ≤ maxL) (hL0 : am_l0 As ++ List.replicate (maxL - (am_l0 As).length) none = L0) (k : AW G cc maxL y.cls d (am_ex G ret K) 0 L0 [] I J) : CM G d y As I J K := by
  refine ⟨cc, maxL, ret, h0, hc, Met.ofW (cc := cc) (maxL := maxL) (ret := ret) hy rfl ?_⟩
  intro p e s m args below meth c s₁ B hml hv
  obtain ⟨rfl, hP, hK, hinj⟩ := hv
  have hts := atoms_spec (ws := .code y cc maxL ret :: am_ws) B.pre
  have hown : s.vm.findClass y.cls = some m.cls := findClass_of_methodNamed B.named
  have hl := lv_entry (As.map (am_v G.2.2.2)) (n := maxL) (by rw [am_l0_len]; exact hs)
  rw [lg_entry_eq]
  generalize (lg_sl (As.map (am_v G.2.2.2)) ++ List.replicate (maxL - (lg_sl (As.map (am_v G.2.2.2))).length) Slot.unset).toArray = ls at hl ⊢
  refine k p e s m _ below meth c (am_A G) (am_rm d) 0 0 _ s.heap [] ls ⟨B.exec, B.bytes, hml, hown, fun w h => hts w (List.mem_cons_of_mem _ h), hK, hinj, fun k hk => ⟨k, hk, rfl⟩, ⟨Nat.le_refl _, Nat.le_refl _⟩, Nat.le_refl _, Nat.le_refl _⟩ ⟨B.returns, B.notSynchronized, rfl, rfl, rfl, rfl⟩ hP va_S.rf ?_
  refine ⟨hl.1, ?_, hl.2.1, fun i v hv => ?_⟩
  · rw [← hL0, List.length_append, List.length_replicate]; omega
  · rw [← hL0, List.getElem?_append] at hv
    split at hv
    · have h1 := am_l0_mem G.2.2.2 As 0 i v hv
      rw [Nat.zero_add] at h1
      exact hl.2.2 _ h1
    · have h2 := List.mem_of_getElem? hv
      rw [List.mem_replicate] at h2
      exact absurd h2.2 (by simp)
theorem CM.mono {G : am_G} {d : Nat} {y : MethodName} {As : List Value} {I : am_I} {J : am_J} {K K' : Option Value → am_I → am_J → Prop} (h : CM G d y As I J K) (hK : ∀ r I J, K r I J → K' r I J) : CM G d y As I J K' := by
  obtain ⟨cc, maxL, ret, h0, hc, hM⟩ := h
  refine ⟨cc, maxL, ret, h0, hc, ?_⟩
  intro p e ha hc hk s m args below hf happ hpre hX
  obtain ⟨k, o, h1, h2, h3, ⟨⟨r, I, J, e1, e2, e3, e4⟩, h5⟩⟩ := hM p e ha hc hk s m args below hf happ hpre hX
  exact ⟨k, o, h1, h2, h3, ⟨⟨r, I, J, e1, hK _ _ _ e2, e3, e4⟩, h5⟩⟩
theorem CMi.mono {G : am_G} {d : Nat} {y : MethodName} {As : List Value} {I : am_I} {J : am_J} {K K' : Int32 → am_I → am_J → Prop} (h : CMi G d y As I J K) (hK : ∀ r I J, K r I J → K' r I J) : CMi G d y As I J K' := CM.mono h (fun _ _ _ ⟨x, e, k⟩ => ⟨x, e, hK _ _ _ k⟩)
theorem CMl.mono {G : am_G} {d : Nat} {y : MethodName} {As : List Value} {I : am_I} {J : am_J} {K K' : Int64 → am_I → am_J → Prop} (h : CMl G d y As I J K) (hK : ∀ r I J, K r I J → K' r I J) : CMl G d y As I J K' := CM.mono h (fun _ _ _ ⟨x, e, k⟩ => ⟨x, e, hK _ _ _ k⟩)
theorem CMv.mono {G : am_G} {d : Nat} {y : MethodName} {As : List Value} {I : am_I} {J : am_J} {K K' : am_I → am_J → Prop} (h : CMv G d y As I J K) (hK : ∀ I J, K I J → K' I J) : CMv G d y As I J K' := CM.mono h (fun _ _ _ ⟨e, k⟩ => ⟨e, hK _ _ k⟩)
section AWC
variable {G : am_G} {cc : ByteArray} {nL : Nat} {own : String} {d : Nat} {Ex : am_Ex} {pc : Nat} {L L' : List (Option Value)} {st rest As : List Value} {I : am_I} {J : am_J} {K : Option Value → am_I → am_J → Prop}
/-! ===== returns ===== -/
theorem a_ireturn {x : Int32} (hd : decode cc pc = .ok (.ireturn, 1)) (hK : K (some (.int x)) I J) : AW G cc nL own d (am_ex G (some .int) K) pc L [.int x] I J := by
  intro p e s m args below meth c A R ce sl Q H locs ls B hE hP hS hL
  obtain ⟨h1, h2, rfl, rfl, rfl, rfl⟩ := hE
  exact W.iret B.1 B.2.1 h1 (fun t ht hW => ⟨_, I, J, rfl, hK, by rw [ht]; exact hP, hS.F ht⟩) hS.2.2 hd h2
theorem a_zreturn {x : Int32} (hd : decode cc pc = .ok (.ireturn, 1)) (hx : x = 0 ∨ x = 1) (hK : K (some (.int x)) I J) : AW G cc nL own d (am_ex G (some .boolean) K) pc L [.int x] I J := by
  intro p e s m args below meth c A R ce sl Q H locs ls B hE hP hS hL
  obtain ⟨h1, h2, rfl, rfl, rfl, rfl⟩ := hE
  exact W.zret B.1 B.2.1 h1 (by rcases hx with rfl | rfl <;> rfl) (fun t ht hW => ⟨_, I, J, rfl, hK, by rw [ht]; exact hP, hS.F ht⟩) hS.2.2 hd h2
theorem a_lreturn {x : Int64} (hd : decode cc pc = .ok (.lreturn, 1)) (hK : K (some (.long x)) I J) : AW G cc nL own d (am_ex G (some .long) K) pc L [.long x] I J := by
  intro p e s m args below meth c A R ce sl Q H locs ls B hE hP hS hL
  obtain ⟨h1, h2, rfl, rfl, rfl, rfl⟩ := hE
  exact W.lret B.1 B.2.1 h1 (fun t ht hW => ⟨_, I, J, rfl, hK, by rw [ht]; exact hP, hS.F ht⟩) hS.2.2 hd h2
theorem a_vreturn (hd : decode cc pc = .ok (.return_, 1)) (hK : K none I J) : AW G cc nL own d (am_ex G none K) pc L [] I J := by
  intro p e s m args below meth c A R ce sl Q H locs ls B hE hP hS hL
  obtain ⟨h1, h2, rfl, rfl, rfl, rfl⟩ := hE
  exact W.vret B.1 B.2.1 h1 (fun t ht hW => ⟨_, I, J, rfl, hK, by rw [ht]; exact hP, hS.F ht⟩) hS.2.2 hd h2
/-! ===== calls ===== -/
theorem am_after {p : Program} {e : Env} {s : State} {m : MethodId} {args : Array Value} {below : List Frame} {meth : Method} {c : Code} {A : Nat → Prop} {R : Room} {ce sl : Nat} {Q : State → Prop} {H : Heap} {locs : List Loc} {ls : Array Slot} {a : Array Value} {st0 rest : List Value}
    (hr : va_Run p G.1 e R s m args below meth c H locs ce sl 0 0 (F0 m pc ls st0) rest (am_Qc G K a) (am_A G)) (hS : va_S A s.heap H locs) (hA : ∀ k, k < am_N → A (G.2.2.2 k))
    (kk : ∀ (r : Option Value) (I : am_I) (J : am_J) (H1 : Heap) (locs1 : List Loc), K r I J → am_P G I J H1 → va_S A s.heap H1 locs1 → W p G.1 e R s m args below meth c H1 locs1 ce sl Q (F0 m (pc + 3) ls (r.toList ++ rest))) : W p G.1 e R s m args below meth c H locs ce sl Q (F0 m pc ls st0) := by
  intro T hT X
  obtain ⟨v, st₀, t, T', L, h0, X', hL, e1, e2, ⟨r, I, J, ho, hK, hP, hF⟩, stp⟩ := hr T hT X
  cases ho
  have hAA : ∀ q, am_A G q → A q := fun q ⟨k, hk, e⟩ => e ▸ hA k hk
  obtain ⟨f1, f2⟩ := hF
  rw [h0] at f1 f2
  have hS' : va_S A s.heap T'.heap (locs ++ L) := by
    rw [e1]
    refine ⟨Nat.le_trans hS.1 f1, fun q h1 h2 => ?_, fun q hq => ?_⟩
    · rw [f2 q (Nat.lt_of_lt_of_le h1 hS.1) (fun h => h2 (hAA q h))]
      exact hS.2.1 q h1 h2
    · rcases List.mem_append.mp hq with h | h
      · exact hS.2.2 q h
      · exact hAA _ (hL q h)
  obtain ⟨t2, a1, b1⟩ := kk v I J T'.heap (locs ++ L) hK (by rw [e1]; exact hP) hS' T' rfl X'
  exact ⟨t2, stp t2 a1, b1⟩
theorem am_blind {As : List Value} : FrameBlind (am_Pc G As I J) := by
  intro a U g mk q
  obtain ⟨q1, q2, q3, q4⟩ := q
  exact ⟨q1, q2, ⟨va_K.moved (u := U) (U := U.calling g mk a) (Vm.Alike.refl U.vm) q3.1, va_tabs (A := #[]) (u := U) rfl rfl q3.2.1, va_tabs (A := #[]) (u := U) rfl rfl q3.2.2⟩, q4⟩
theorem am_pre {s : State} {H : Heap} {As : List Value} (hP : am_P G I J H) (hK : am_K G s) (hi : am_inj G) : ∀ U : State, U.heap = H → s.WarmedH U.vm → am_Pc G As I J (As.map (am_v G.2.2.2)).toArray U :=
  fun U hU hW => ⟨rfl, by rw [hU]; exact hP, hK.warm hW, hi⟩
/-- an object of the system C -/
def am_ob (k : Nat) (C : String) : Prop := k < am_N ∧ ∃ (ci : Nat) (fs : List am_F) (q : u_T × Nat), am_sh k = .inl (ci, fs) ∧ vwCl[ci]? = some (C, q)
theorem am_recv {s : State} {H : Heap} {k : Nat} {C : String} (hk : am_ob k C) (hP : am_P G I J H) (hK : am_K G s) : ∃ cell : Cell, H[G.2.2.2 k]? = some cell ∧ cell.vm.isStatics = false ∧ s.vm.findClass C = some cell.cls := by
  obtain ⟨h1, ci, fs, q, h2, h3⟩ := hk
  exact va_recv hK.1 hP (q := (C, q)) h3 (am_W_at h1 h2)
def am_nm (y : MethodName) (n : Nat) : Prop := y.cls ≠ "java/lang/invoke/MethodHandle" ∧ y.cls ≠ "java/lang/invoke/VarHandle" ∧ (parseMethodDescriptor y.desc).map (fun d => d.parameters.length) = some n
def am_mV (own : String) (idx : Nat) (C : String) (y : MethodName) (n : Nat) : Prop := Cond.methodLink own idx y ∈ am_ws ∧ Cond.instanceMethod y ∈ am_ws ∧ Cond.selects C y y ∈ am_ws ∧ Cond.initialized y.cls ∈ am_ws ∧ am_nm y n
def am_mS (own : String) (idx : Nat) (y : MethodName) (n : Nat) : Prop := Cond.methodLink own idx y ∈ am_ws ∧ Cond.static y ∈ am_ws ∧ Cond.initialized y.cls ∈ am_ws ∧ am_nm y n
def am_mU (own : String) (idx : Nat) (C owner : String) (x y : MethodName) (n : Nat) : Prop := Cond.methodLink own idx x ∈ am_ws ∧ Cond.sameMethod x.cls owner x.name x.desc ∈ am_ws ∧ Cond.selects C x y ∈ am_ws ∧ Cond.instanceMethod y ∈ am_ws ∧ Cond.initialized y.cls ∈ am_ws ∧ (owner ≠ "java/lang/invoke/MethodHandle" ∧ owner ≠ "java/lang/invoke/VarHandle" ∧ (parseMethodDescriptor x.desc).map (fun d => d.parameters.length) = some n) ∧ ((⟨owner, x.name, x.desc⟩ : MethodName) = am_yGoal ∨ (⟨owner, x.name, x.desc⟩ : MethodName) = am_yBest ∨ (⟨owner, x.name, x.desc⟩ : MethodName) = y)
theorem am_cb {s : State} {args : Array Value} {R : Room} {y : MethodName} {bytes : ByteArray} {maxL n idx : Nat} {ret : Option FieldType} (hts : ∀ w ∈ am_ws, w.before args s = true) (hR : d + 1 ≤ R.frames ∧ 40 * (d + 1) ≤ R.locals) (h0 : maxL ≤ 21) (hc : Cond.code y bytes maxL ret ∈ am_ws) (hl : Cond.methodLink own idx y ∈ am_ws) (hi : Cond.initialized y.cls ∈ am_ws) (hn : am_nm y n) :
    CallB R s args own idx y bytes maxL ret (.code y bytes maxL ret :: am_ws) (am_rm d) 0 0 n :=
  callB_of (Ts := am_ws) (ws' := am_ws) n hts (am_GoodIn (fun w h => (List.mem_cons.mp h).elim (fun e => e ▸ hc) id)) rfl rfl rfl (hts _ hi) (hts _ hl) hn ⟨hR.1, by show 8 + (maxL + 11) + 40 * d ≤ _; omega⟩
theorem am_cu {s : State} {args : Array Value} {R : Room} {C owner : String} {x y : MethodName} {bytes : ByteArray} {maxL n idx : Nat} {ret : Option FieldType} (hts : ∀ w ∈ am_ws, w.before args s = true) (hK : am_K G s) (hR : d + 1 ≤ R.frames ∧ 40 * (d + 1) ≤ R.locals) (h0 : maxL ≤ 21) (hc : Cond.code y bytes maxL ret ∈ am_ws) (hm : am_mU own idx C owner x y n) :
    va_CU R s args own C owner idx x y bytes maxL ret (.code y bytes maxL ret :: am_ws) (am_rm d) 0 0 n := by
  obtain ⟨m1, m2, m3, m4, m5, ⟨m6, m7, m8⟩, m9⟩ := hm
  have hG : GoodIn am_ws (.code y bytes maxL ret :: am_ws) := am_GoodIn (fun w h => (List.mem_cons.mp h).elim (fun e => e ▸ hc) id)
  refine ⟨⟨rfl, rfl, hR.1, by show 8 + (maxL + 11) + 40 * d ≤ _; omega, pay_in hts hG, List.mem_cons_self⟩, hts _ hc, hts _ m5, ⟨m6, m7⟩, fun sig h => ?_, hts _ m1, hts _ m2, ?_, hts _ m3, hts _ m4⟩
  · rw [h] at m8
    exact (Option.some.inj m8).symm
  · rcases m9 with h | h | h
    · rw [h]; exact va_Decl.abs hK.2.1
    · rw [h]; exact va_Decl.abs hK.2.2
    · rw [h]; exact va_Decl.of (hts _ m4) (hts _ hc)
theorem am_rest {rest : List Value} {m : MethodId} {ls : Array Slot} {st0 : List Value} (h : (rest.map fun v => v.category).sum ≤ 8) : 2 * (F0 m pc ls st0).monitorRoom + ((rest.map (am_v G.2.2.2)).map fun v => v.category).sum ≤ 8 := by
  rw [am_cats]
  exact lv_room h
theorem a_callVi {y : MethodName} {idx n k : Nat} {C : String} (hd : decode cc pc = .ok (.invokevirtual idx, 3)) (hm : am_mV own idx C y n) (hk : am_ob k C) (hn : As.length = n) (hst : st = As.reverse ++ .ref k :: rest) (hW : (rest.map fun v => v.category).sum ≤ 8) (kk : CMi G d y (.ref k :: As) I J (fun x I J => AW G cc nL own (d + 1) Ex (pc + 3) L (.int x :: rest) I J)) : AW G cc nL own (d + 1) Ex pc L st I J := by
  intro p e s m args below meth c A R ce sl Q H locs ls B hE hP hS hL
  obtain ⟨cc', maxL, ret, h0, hc, hM⟩ := kk
  obtain ⟨m1, m2, m3, m4, m5⟩ := hm
  have hts := B.2.2.2.2.1
  subst hst
  refine am_after (a := (Value.ref (G.2.2.2 k) :: As.map (am_v G.2.2.2)).toArray) (rest := rest.map (am_v G.2.2.2)) (va_runV (Ts := am_ws) (nL := nL) (own := own) (C := C) (b := G.2.2.2 k) (As := As.map (am_v G.2.2.2)) ⟨B.1, B.2.1, B.2.2.1, B.2.2.2.1, hts⟩ hM ⟨am_cb hts B.2.2.2.2.2.2.2.2.1 h0 hc m1 m4 m5, hts _ m2, hts _ m3⟩ ⟨am_blind, am_recv hk hP B.2.2.2.2.2.1, am_pre hP B.2.2.2.2.2.1 B.2.2.2.2.2.2.1⟩ rfl (by rw [List.length_map]; exact hn) hL.1 (by show List.map _ _ = _; rw [List.map_append, List.map_reverse]; rfl) (am_rest hW) hd ⟨B.2.2.2.2.2.2.2.2.2.1, B.2.2.2.2.2.2.2.2.2.2⟩) hS B.2.2.2.2.2.2.2.1 (fun r I J H1 locs1 hq hP1 hS1 => by
    obtain ⟨x, rfl, hk⟩ := hq
    exact hk _ _ _ _ _ _ _ _ _ _ _ _ _ _ _ _ B hE hP1 hS1 hL)
theorem a_callSi {y : MethodName} {idx n : Nat} (hd : decode cc pc = .ok (.invokestatic idx, 3)) (hm : am_mS own idx y n) (hn : As.length = n) (hst : st = As.reverse ++ rest) (hW : (rest.map fun v => v.category).sum ≤ 8) (kk : CMi G d y As I J (fun x I J => AW G cc nL own (d + 1) Ex (pc + 3) L (.int x :: rest) I J)) : AW G cc nL own (d + 1) Ex pc L st I J := by
  intro p e s m args below meth c A R ce sl Q H locs ls B hE hP hS hL
  obtain ⟨cc', maxL, ret, h0, hc, hM⟩ := kk
  obtain ⟨m1, m2, m4, m5⟩ := hm
  have hts := B.2.2.2.2.1
  subst hst
  refine am_after (a := (As.map (am_v G.2.2.2)).toArray) (rest := rest.map (am_v G.2.2.2)) (va_runS (Ts := am_ws) (nL := nL) (own := own) (As := As.map (am_v G.2.2.2)) ⟨B.1, B.2.1, B.2.2.1, B.2.2.2.1, hts⟩ hM ⟨am_cb hts B.2.2.2.2.2.2.2.2.1 h0 hc m1 m4 m5, hts _ m2⟩ ⟨am_blind, am_pre hP B.2.2.2.2.2.1 B.2.2.2.2.2.2.1⟩ rfl (by rw [List.length_map]; exact hn) hL.1 (by show List.map _ _ = _; rw [List.map_append, List.map_reverse]) (am_rest hW) hd ⟨B.2.2.2.2.2.2.2.2.2.1, B.2.2.2.2.2.2.2.2.2.2⟩) hS B.2.2.2.2.2.2.2.1 (fun r I J H1 locs1 hq hP1 hS1 => by
    obtain ⟨x, rfl, hk⟩ := hq
    exact hk _ _ _ _ _ _ _ _ _ _ _ _ _ _ _ _ B hE hP1 hS1 hL)
theorem a_callUi {x0 y : MethodName} {idx n k : Nat} {C owner : String} (hd : decode cc pc = .ok (.invokevirtual idx, 3)) (hm : am_mU own idx C owner x0 y n) (hk : am_ob k C) (hn : As.length = n) (hst : st = As.reverse ++ .ref k :: rest) (hW : (rest.map fun v => v.category).sum ≤ 8) (kk : CMi G d y (.ref k :: As) I J (fun x I J => AW G cc nL own (d + 1) Ex (pc + 3) L (.int x :: rest) I J)) : AW G cc nL own (d + 1) Ex pc L st I J := by
  intro p e s m args below meth c A R ce sl Q H locs ls B hE hP hS hL
  obtain ⟨cc', maxL, ret, h0, hc, hM⟩ := kk
  have hts := B.2.2.2.2.1
  subst hst
  refine am_after (a := (Value.ref (G.2.2.2 k) :: As.map (am_v G.2.2.2)).toArray) (rest := rest.map (am_v G.2.2.2)) (va_runU (Ts := am_ws) (nL := nL) (own := own) (C := C) (b := G.2.2.2 k) (As := As.map (am_v G.2.2.2)) ⟨B.1, B.2.1, B.2.2.1, B.2.2.2.1, hts⟩ hM (am_cu hts B.2.2.2.2.2.1 B.2.2.2.2.2.2.2.2.1 h0 hc hm) ⟨am_blind, am_recv hk hP B.2.2.2.2.2.1, am_pre hP B.2.2.2.2.2.1 B.2.2.2.2.2.2.1⟩ rfl (by rw [List.length_map]; exact hn) hL.1 (by show List.map _ _ = _; rw [List.map_append, List.map_reverse]; rfl) (am_rest hW) hd ⟨B.2.2.2.2.2.2.2.2.2.1, B.2.2.2.2.2.2.2.2.2.2⟩) hS B.2.2.2.2.2.2.2.1 (fun r I J H1 locs1 hq hP1 hS1 => by
    obtain ⟨x, rfl, hk⟩ := hq
    exact hk _ _ _ _ _ _ _ _ _ _ _ _ _ _ _ _ B hE hP1 hS1 hL)
theorem a_callVl {y : MethodName} {idx n k : Nat} {C : String} (hd : decode cc pc = .ok (.invokevirtual idx, 3)) (hm : am_mV own idx C y n) (hk : am_ob k C) (hn : As.length = n) (hst : st = As.reverse ++ .ref k :: rest) (hW : (rest.map fun v => v.category).sum ≤ 8) (kk : CMl G d y (.ref k :: As) I J (fun x I J => AW G cc nL own (d + 1) Ex (pc + 3) L (.long x :: rest) I J)) : AW G cc nL own (d + 1) Ex pc L st I J := by
  intro p e s m args below meth c A R ce sl Q H locs ls B hE hP hS hL
  obtain ⟨cc', maxL, ret, h0, hc, hM⟩ := kk
  obtain ⟨m1, m2, m3, m4, m5⟩ := hm
  have hts := B.2.2.2.2.1
  subst hst
  refine am_after (a := (Value.ref (G.2.2.2 k) :: As.map (am_v G.2.2.2)).toArray) (rest := rest.map (am_v G.2.2.2)) (va_runV (Ts := am_ws) (nL := nL) (own := own) (C := C) (b := G.2.2.2 k) (As := As.map (am_v G.2.2.2)) ⟨B.1, B.2.1, B.2.2.1, B.2.2.2.1, hts⟩ hM ⟨am_cb hts B.2.2.2.2.2.2.2.2.1 h0 hc m1 m4 m5, hts _ m2, hts _ m3⟩ ⟨am_blind, am_recv hk hP B.2.2.2.2.2.1, am_pre hP B.2.2.2.2.2.1 B.2.2.2.2.2.2.1⟩ rfl (by rw [List.length_map]; exact hn) hL.1 (by show List.map _ _ = _; rw [List.map_append, List.map_reverse]; rfl) (am_rest hW) hd ⟨B.2.2.2.2.2.2.2.2.2.1, B.2.2.2.2.2.2.2.2.2.2⟩) hS B.2.2.2.2.2.2.2.1 (fun r I J H1 locs1 hq hP1 hS1 => by
    obtain ⟨x, rfl, hk⟩ := hq
    exact hk _ _ _ _ _ _ _ _ _ _ _ _ _ _ _ _ B hE hP1 hS1 hL)
theorem a_callSl {y : MethodName} {idx n : Nat} (hd : decode cc pc = .ok (.invokestatic idx, 3)) (hm : am_mS own idx y n) (hn : As.length = n) (hst : st = As.reverse ++ rest) (hW : (rest.map fun v => v.category).sum ≤ 8) (kk : CMl G d y As I J (fun x I J => AW G cc nL own (d + 1) Ex (pc + 3) L (.long x :: rest) I J)) : AW G cc nL own (d + 1) Ex pc L st I J := by
  intro p e s m args below meth c A R ce sl Q H locs ls B hE hP hS hL
  obtain ⟨cc', maxL, ret, h0, hc, hM⟩ := kk
  obtain ⟨m1, m2, m4, m5⟩ := hm
  have hts := B.2.2.2.2.1
  subst hst
  refine am_after (a := (As.map (am_v G.2.2.2)).toArray) (rest := rest.map (am_v G.2.2.2)) (va_runS (Ts := am_ws) (nL := nL) (own := own) (As := As.map (am_v G.2.2.2)) ⟨B.1, B.2.1, B.2.2.1, B.2.2.2.1, hts⟩ hM ⟨am_cb hts B.2.2.2.2.2.2.2.2.1 h0 hc m1 m4 m5, hts _ m2⟩ ⟨am_blind, am_pre hP B.2.2.2.2.2.1 B.2.2.2.2.2.2.1⟩ rfl (by rw [List.length_map]; exact hn) hL.1 (by show List.map _ _ = _; rw [List.map_append, List.map_reverse]) (am_rest hW) hd ⟨B.2.2.2.2.2.2.2.2.2.1, B.2.2.2.2.2.2.2.2.2.2⟩) hS B.2.2.2.2.2.2.2.1 (fun r I J H1 locs1 hq hP1 hS1 => by
    obtain ⟨x, rfl, hk⟩ := hq
    exact hk _ _ _ _ _ _ _ _ _ _ _ _ _ _ _ _ B hE hP1 hS1 hL)
theorem a_callUl {x0 y : MethodName} {idx n k : Nat} {C owner : String} (hd : decode cc pc = .ok (.invokevirtual idx, 3)) (hm : am_mU own idx C owner x0 y n) (hk : am_ob k C) (hn : As.length = n) (hst : st = As.reverse ++ .ref k :: rest) (hW : (rest.map fun v => v.category).sum ≤ 8) (kk : CMl G d y (.ref k :: As) I J (fun x I J => AW G cc nL own (d + 1) Ex (pc + 3) L (.long x :: rest) I J)) : AW G cc nL own (d + 1) Ex pc L st I J := by
  intro p e s m args below meth c A R ce sl Q H locs ls B hE hP hS hL
  obtain ⟨cc', maxL, ret, h0, hc, hM⟩ := kk
  have hts := B.2.2.2.2.1
  subst hst
  refine am_after (a := (Value.ref (G.2.2.2 k) :: As.map (am_v G.2.2.2)).toArray) (rest := rest.map (am_v G.2.2.2)) (va_runU (Ts := am_ws) (nL := nL) (own := own) (C := C) (b := G.2.2.2 k) (As := As.map (am_v G.2.2.2)) ⟨B.1, B.2.1, B.2.2.1, B.2.2.2.1, hts⟩ hM (am_cu hts B.2.2.2.2.2.1 B.2.2.2.2.2.2.2.2.1 h0 hc hm) ⟨am_blind, am_recv hk hP B.2.2.2.2.2.1, am_pre hP B.2.2.2.2.2.1 B.2.2.2.2.2.2.1⟩ rfl (by rw [List.length_map]; exact hn) hL.1 (by show List.map _ _ = _; rw [List.map_append, List.map_reverse]; rfl) (am_rest hW) hd ⟨B.2.2.2.2.2.2.2.2.2.1, B.2.2.2.2.2.2.2.2.2.2⟩) hS B.2.2.2.2.2.2.2.1 (fun r I J H1 locs1 hq hP1 hS1 => by
    obtain ⟨x, rfl, hk⟩ := hq
    exact hk _ _ _ _ _ _ _ _ _ _ _ _ _ _ _ _ B hE hP1 hS1 hL)
theorem a_callVv {y : MethodName} {idx n k : Nat} {C : String} (hd : decode cc pc = .ok (.invokevirtual idx, 3)) (hm : am_mV own idx C y n) (hk : am_ob k C) (hn : As.length = n) (hst : st = As.reverse ++ .ref k :: rest) (hW : (rest.map fun v => v.category).sum ≤ 8) (kk : CMv G d y (.ref k :: As) I J (fun I J => AW G cc nL own (d + 1) Ex (pc + 3) L rest I J)) : AW G cc nL own (d + 1) Ex pc L st I J := by
  intro p e s m args below meth c A R ce sl Q H locs ls B hE hP hS hL
  obtain ⟨cc', maxL, ret, h0, hc, hM⟩ := kk
  obtain ⟨m1, m2, m3, m4, m5⟩ := hm
  have hts := B.2.2.2.2.1
  subst hst
  refine am_after (a := (Value.ref (G.2.2.2 k) :: As.map (am_v G.2.2.2)).toArray) (rest := rest.map (am_v G.2.2.2)) (va_runV (Ts := am_ws) (nL := nL) (own := own) (C := C) (b := G.2.2.2 k) (As := As.map (am_v G.2.2.2)) ⟨B.1, B.2.1, B.2.2.1, B.2.2.2.1, hts⟩ hM ⟨am_cb hts B.2.2.2.2.2.2.2.2.1 h0 hc m1 m4 m5, hts _ m2, hts _ m3⟩ ⟨am_blind, am_recv hk hP B.2.2.2.2.2.1, am_pre hP B.2.2.2.2.2.1 B.2.2.2.2.2.2.1⟩ rfl (by rw [List.length_map]; exact hn) hL.1 (by show List.map _ _ = _; rw [List.map_append, List.map_reverse]; rfl) (am_rest hW) hd ⟨B.2.2.2.2.2.2.2.2.2.1, B.2.2.2.2.2.2.2.2.2.2⟩) hS B.2.2.2.2.2.2.2.1 (fun r I J H1 locs1 hq hP1 hS1 => by
    obtain ⟨rfl, hk⟩ := hq
    exact hk _ _ _ _ _ _ _ _ _ _ _ _ _ _ _ _ B hE hP1 hS1 hL)
theorem a_callSv {y : MethodName} {idx n : Nat} (hd : decode cc pc = .ok (.invokestatic idx, 3)) (hm : am_mS own idx y n) (hn : As.length = n) (hst : st = As.reverse ++ rest) (hW : (rest.map fun v => v.category).sum ≤ 8) (kk : CMv G d y As I J (fun I J => AW G cc nL own (d + 1) Ex (pc + 3) L rest I J)) : AW G cc nL own (d + 1) Ex pc L st I J := by
  intro p e s m args below meth c A R ce sl Q H locs ls B hE hP hS hL
  obtain ⟨cc', maxL, ret, h0, hc, hM⟩ := kk
  obtain ⟨m1, m2, m4, m5⟩ := hm
  have hts := B.2.2.2.2.1
  subst hst
  refine am_after (a := (As.map (am_v G.2.2.2)).toArray) (rest := rest.map (am_v G.2.2.2)) (va_runS (Ts := am_ws) (nL := nL) (own := own) (As := As.map (am_v G.2.2.2)) ⟨B.1, B.2.1, B.2.2.1, B.2.2.2.1, hts⟩ hM ⟨am_cb hts B.2.2.2.2.2.2.2.2.1 h0 hc m1 m4 m5, hts _ m2⟩ ⟨am_blind, am_pre hP B.2.2.2.2.2.1 B.2.2.2.2.2.2.1⟩ rfl (by rw [List.length_map]; exact hn) hL.1 (by show List.map _ _ = _; rw [List.map_append, List.map_reverse]) (am_rest hW) hd ⟨B.2.2.2.2.2.2.2.2.2.1, B.2.2.2.2.2.2.2.2.2.2⟩) hS B.2.2.2.2.2.2.2.1 (fun r I J H1 locs1 hq hP1 hS1 => by
    obtain ⟨rfl, hk⟩ := hq
    exact hk _ _ _ _ _ _ _ _ _ _ _ _ _ _ _ _ B hE hP1 hS1 hL)
theorem a_callUv {x0 y : MethodName} {idx n k : Nat} {C owner : String} (hd : decode cc pc = .ok (.invokevirtual idx, 3)) (hm : am_mU own idx C owner x0 y n) (hk : am_ob k C) (hn : As.length = n) (hst : st = As.reverse ++ .ref k :: rest) (hW : (rest.map fun v => v.category).sum ≤ 8) (kk : CMv G d y (.ref k :: As) I J (fun I J => AW G cc nL own (d + 1) Ex (pc + 3) L rest I J)) : AW G cc nL own (d + 1) Ex pc L st I J := by
  intro p e s m args below meth c A R ce sl Q H locs ls B hE hP hS hL
  obtain ⟨cc', maxL, ret, h0, hc, hM⟩ := kk
  have hts := B.2.2.2.2.1
  subst hst
  refine am_after (a := (Value.ref (G.2.2.2 k) :: As.map (am_v G.2.2.2)).toArray) (rest := rest.map (am_v G.2.2.2)) (va_runU (Ts := am_ws) (nL := nL) (own := own) (C := C) (b := G.2.2.2 k) (As := As.map (am_v G.2.2.2)) ⟨B.1, B.2.1, B.2.2.1, B.2.2.2.1, hts⟩ hM (am_cu hts B.2.2.2.2.2.1 B.2.2.2.2.2.2.2.2.1 h0 hc hm) ⟨am_blind, am_recv hk hP B.2.2.2.2.2.1, am_pre hP B.2.2.2.2.2.1 B.2.2.2.2.2.2.1⟩ rfl (by rw [List.length_map]; exact hn) hL.1 (by show List.map _ _ = _; rw [List.map_append, List.map_reverse]; rfl) (am_rest hW) hd ⟨B.2.2.2.2.2.2.2.2.2.1, B.2.2.2.2.2.2.2.2.2.2⟩) hS B.2.2.2.2.2.2.2.1 (fun r I J H1 locs1 hq hP1 hS1 => by
    obtain ⟨rfl, hk⟩ := hq
    exact hk _ _ _ _ _ _ _ _ _ _ _ _ _ _ _ _ B hE hP1 hS1 hL)
theorem a_mmax {idx : Nat} {x y v : Int32} (hd : decode cc pc = .ok (.invokestatic idx, 3)) (m1 : Cond.methodLink own idx Lib.Math.max.name ∈ am_ws) (m2 : Cond.static Lib.Math.max.name ∈ am_ws) (m3 : Cond.initialized "java/lang/Math" ∈ am_ws) (m4 : Cond.code Lib.Math.max.name Lib.Math.max.code 2 (some .int) ∈ am_ws) (hW : (st.map fun v => v.category).sum ≤ 8) (hv : (if x < y then y else x) = v) (kk : AW G cc nL own (d + 1) Ex (pc + 3) L (.int v :: st) I J) : AW G cc nL own (d + 1) Ex pc L (.int y :: .int x :: st) I J := by
  intro p e s m args below meth c A R ce sl Q H locs ls B hE hP hS hL
  subst hv
  have hts := B.2.2.2.2.1
  have hr := B.2.2.2.2.2.2.2.2.1
  exact va_mmax B.1 B.2.1 (by rw [B.2.2.1, hL.1]) B.2.2.2.1 (hts _ m1) (hts _ m2) (hts _ m3) (hts _ m4) (by omega) (by rw [am_cats]; omega) B.2.2.2.2.2.2.2.2.2.1 B.2.2.2.2.2.2.2.2.2.2 hd (kk _ _ _ _ _ _ _ _ _ _ _ _ _ _ _ _ B hE hP hS hL)
theorem a_mmin {idx : Nat} {x y v : Int32} (hd : decode cc pc = .ok (.invokestatic idx, 3)) (m1 : Cond.methodLink own idx Lib.Math.min.name ∈ am_ws) (m2 : Cond.static Lib.Math.min.name ∈ am_ws) (m3 : Cond.initialized "java/lang/Math" ∈ am_ws) (m4 : Cond.code Lib.Math.min.name Lib.Math.min.code 2 (some .int) ∈ am_ws) (hW : (st.map fun v => v.category).sum ≤ 8) (hv : (if y < x then y else x) = v) (kk : AW G cc nL own (d + 1) Ex (pc + 3) L (.int v :: st) I J) : AW G cc nL own (d + 1) Ex pc L (.int y :: .int x :: st) I J := by
  intro p e s m args below meth c A R ce sl Q H locs ls B hE hP hS hL
  subst hv
  have hts := B.2.2.2.2.1
  have hr := B.2.2.2.2.2.2.2.2.1
  exact va_mmin B.1 B.2.1 (by rw [B.2.2.1, hL.1]) B.2.2.2.1 (hts _ m1) (hts _ m2) (hts _ m3) (hts _ m4) (by omega) (by rw [am_cats]; omega) B.2.2.2.2.2.2.2.2.2.1 B.2.2.2.2.2.2.2.2.2.2 hd (kk _ _ _ _ _ _ _ _ _ _ _ _ _ _ _ _ B hE hP hS hL)
/-- the memory, with n places of f from sp on laid into the row k from dp on -/
def am_cp (I : am_I) (k : Nat) (f : Nat → Int32) (sp dp n : Nat) : am_I := fun a b => if a = k then va_cpy f (I k) sp dp n b else I a b
theorem am_cp_ne {k a : Nat} {f : Nat → Int32} {sp dp n : Nat} (h : a ≠ k) : am_cp I k f sp dp n a = I a := by
  funext b; simp [am_cp, h]
theorem am_cp_row {k : Nat} {f : Nat → Int32} {sp dp n : Nat} : am_cp I k f sp dp n k = va_cpy f (I k) sp dp n := by
  funext b; simp [am_cp]
theorem a_copy {idx k k2 t n0 n1 sp dp n : Nat} (hd : decode cc pc = .ok (.invokestatic idx, 3)) (m1 : Cond.methodLink own idx arraycopyName ∈ am_ws) (m2 : Cond.native arraycopyName ∈ am_ws) (m3 : Cond.static arraycopyName ∈ am_ws) (m4 : Cond.initialized "java/lang/System" ∈ am_ws) (h0 : am_ar k t n0) (h1 : am_ar k2 t n1) (ht : t = 0 ∨ t = 2) (hs : sp + n ≤ n0) (hdp : dp + n ≤ n1) (hf : t = 2 → ∀ i, i < n → (I k (sp + i)).toInt8.toInt32 = I k (sp + i)) (hW : (st.map fun v => v.category).sum ≤ 8)
    (kk : AW G cc nL own (d + 1) Ex (pc + 3) L st (am_cp I k2 (I k) sp dp n) J) : AW G cc nL own (d + 1) Ex pc L (.int (nI n) :: .int (nI dp) :: .ref k2 :: .int (nI sp) :: .ref k :: st) I J := by
  intro p e s m args below meth c A R ce sl Q H locs ls B hE hP hS hL
  have hts := B.2.2.2.2.1
  have hr := B.2.2.2.2.2.2.2.2.1
  have l0 := am_len h0.2
  have l1 := am_len h1.2
  have c1 : (nI sp).toNatClampNeg = sp := nI_clamp (by omega)
  have c2 : (nI dp).toNatClampNeg = dp := nI_clamp (by omega)
  have c3 : (nI n).toNatClampNeg = n := nI_clamp (by omega)
  obtain ⟨ty, t1, t2, t3⟩ : ∃ ty : FieldType, (am_tys G.2.2.1)[t]? = some (G.2.2.1 t, ty) ∧ refKind ty = false ∧ ∀ i, i < n → fits ty (.int (I k (sp + i))) = true := by
    rcases ht with rfl | rfl
    · exact ⟨_, rfl, rfl, fun _ _ => rfl⟩
    · refine ⟨_, rfl, rfl, fun i hi => ?_⟩
      rw [← hf rfl i hi]
      exact pk_fb _
  refine va_copyi B.1 B.2.1 (by rw [B.2.2.1, hL.1]) B.2.2.2.1 (hts _ m1) (hts _ m2) (hts _ m3) (hts _ m4) B.2.2.2.2.2.1.1 hP (am_D B.2.2.2.2.2.2.1 B.2.2.2.2.2.2.2.1) hS k k2 t t (am_W_ar h0) (am_W_ar h1) t1 t1 t2 (nI_pos (by omega)) (nI_pos (by omega)) (nI_pos (by omega)) (by rw [c1, c3]; exact hs) (by rw [c2, c3]; exact hdp) (by rw [c1, c3]; exact t3) (by omega) (by rw [am_cats]; show _ + (5 + 2 + 11) ≤ _; omega) hd (fun H1 locs1 hP1 hD1 hS1 => ?_)
  rw [c1, c2, c3, am_W_set (I' := am_cp I k2 (I k) sp dp n) (J' := J) (fun a h => am_cp_ne h) (fun _ _ => rfl) (by rw [h1.2, am_E, am_cp_row])] at hP1
  exact kk _ _ _ _ _ _ _ _ _ _ _ _ _ _ _ _ B hE hP1 hS1 hL
end AWC
