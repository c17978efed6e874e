/-! ===== GW: the machine in a constructor, over a world that grows ===== -/
abbrev gm_G : Type := Launch × va_G × (Nat → ClassId)
abbrev gm_Ex : Type := Program → Env → State → MethodId → Array Value → List Frame → Method → Code → (Nat → Prop) → Room → (State → Prop) → Prop
def gm_nests : List (String × Nat × MethodName × String) := [(RX5, 31, yX4_init, RX11), (RX11, 18, yX7_init, RX11), (RX11, 37, yX10_init, RX11), (RX10, 3, yX2_init, RX11), (RX11, 44, yX6_init, RX11), (RX6, 3, yX2_init, RX11), (RX1, 3, yX0_init, RX11), (RX0, 3, yX2_init, RX11), (RX11, 64, yX3_init, RX11), (RX3, 3, yX0_init, RX11)]
def gm_K (G : gm_G) (U : State) : Prop := va_K G.2.1 vwCl (am_tys G.2.2) U ∧ (∀ q ∈ gm_nests, va_Nw (.methodLinkNest q.1 q.2.1 q.2.2.1 q.2.2.2) U) ∧ U.vm.findClass "[I" = some (G.2.2 0) ∧ U.vm.findClass "[Z" = some (G.2.2 1) ∧ U.vm.findClass "[B" = some (G.2.2 2) ∧ U.vm.findClass "[[B" = some (G.2.2 3) ∧ U.vm.findClass "[LLoadsUnseen$Line;" = some (G.2.2 4) ∧ va_AO RX4 U ∧ va_Nw (.declares am_yGoal) U ∧ va_Nw (.declares am_yBest) U ∧ ∃ kA : Class, U.vm.classes[G.2.2 3]? = some kA ∧ kA.kind = .array (G.2.2 2) (.array .byte)
theorem gm_K.warm {G : gm_G} {u U : State} (h : gm_K G u) (hW : u.WarmedH U.vm) : gm_K G U := by
  obtain ⟨h1, h2, h3, h4, h5, h6, h7, h8, h9, h10, kA, h11, h12⟩ := h
  obtain ⟨k', hk', he⟩ := hW.alike.2.2 _ _ h11
  have F : ∀ n c, u.vm.findClass n = some c → U.vm.findClass n = some c := fun n c e => (hW.alike.findClass n none).trans e
  exact ⟨va_K.moved hW.alike h1, fun q hq => (h2 q hq).warmM hW, F _ _ h3, F _ _ h4, F _ _ h5, F _ _ h6, F _ _ h7, h8.moved hW.alike, h9.warmD hW, h10.warmD hW, k', hk', by rw [he]; exact h12⟩
def gm_B (G : gm_G) (cc : ByteArray) (nL : Nat) (own nm : String) (d mc ms : Nat) (p : Program) (s : State) (m : MethodId) (args : Array Value) (meth : Method) (c : Code) (A : Nat → Prop) (R : Room) : Prop :=
  p.tables.exec = Jvm.exec ∧ c.code = cc ∧ c.maxLocals = nL ∧ s.vm.findClass own = some m.cls ∧ (∀ w ∈ am_ws, w.before args s = true) ∧ gm_K G s ∧ (∀ q, s.heap.size ≤ q → A q) ∧ (d ≤ R.frames ∧ 40 * d ≤ R.locals) ∧ (mc ≤ R.cells ∧ ms ≤ R.slots) ∧ meth.name = nm
def GW (G : gm_G) (cc : ByteArray) (nL : Nat) (own nm : String) (d mc ms : Nat) (Ex : gm_Ex) (pc : Nat) (L : List (Option Value)) (st : List Value) (ws : va_W) (ce sl : Nat) : Prop :=
  ∀ (p : Program) (e : Env) (s : State) (m : MethodId) (args : Array Value) (below : List Frame) (meth : Method) (c : Code) (A : Nat → Prop) (R : Room) (Q : State → Prop) (H : Heap) (locs : List Loc) (ls : Array Slot),
    gm_B G cc nL own nm d mc ms p s m args meth c A R → Ex p e s m args below meth c A R Q → va_P G.2.1 vwCl ws H → va_D A ws → va_S A s.heap H locs → am_L id ls nL L →
    W p G.1 e R s m args below meth c H locs ce sl Q (F0 m pc ls st)
section GWR
variable {G : gm_G} {cc : ByteArray} {nL : Nat} {own nm : String} {d mc ms : Nat} {Ex : gm_Ex} {pc : Nat} {L L' : List (Option Value)} {st : List Value} {ws : va_W} {ce sl : Nat}
theorem g_iconst {n : Int} {v : Int32} (hd : decode cc pc = .ok (.iconst n, 1)) (hv : Int32.ofInt n = v) (k : GW G cc nL own nm d mc ms Ex (pc + 1) L (.int v :: st) ws ce sl) : GW G cc nL own nm d mc ms Ex pc L st ws ce sl := by
  intro p e s m args below meth c A R Q H locs ls B hE hP hD hS hL
  exact lv_iconst B.1 B.2.1 hd hv (k _ _ _ _ _ _ _ _ _ _ _ _ _ _ B hE hP hD hS hL)
theorem g_bipush {n : Int} {v : Int32} (hd : decode cc pc = .ok (.bipush n, 2)) (hv : (Int8.ofInt n).toInt32 = v) (k : GW G cc nL own nm d mc ms Ex (pc + 2) L (.int v :: st) ws ce sl) : GW G cc nL own nm d mc ms Ex pc L st ws ce sl := by
  intro p e s m args below meth c A R Q H locs ls B hE hP hD hS hL
  exact lv_bipush B.1 B.2.1 hd hv (k _ _ _ _ _ _ _ _ _ _ _ _ _ _ B hE hP hD hS hL)
theorem g_sipush {n : Int} {v : Int32} (hd : decode cc pc = .ok (.sipush n, 3)) (hv : (Int16.ofInt n).toInt32 = v) (k : GW G cc nL own nm d mc ms Ex (pc + 3) L (.int v :: st) ws ce sl) : GW G cc nL own nm d mc ms Ex pc L st ws ce sl := by
  intro p e s m args below meth c A R Q H locs ls B hE hP hD hS hL
  exact lv_sipush B.1 B.2.1 hd hv (k _ _ _ _ _ _ _ _ _ _ _ _ _ _ B hE hP hD hS hL)
theorem g_aload_n {q : Fin 4} {x : Nat} (hd : decode cc pc = .ok (.aload_n q, 1)) (hl : L[(q : Nat)]? = some (some (.ref x))) (k : GW G cc nL own nm d mc ms Ex (pc + 1) L (.ref x :: st) ws ce sl) : GW G cc nL own nm d mc ms Ex pc L st ws ce sl := by
  intro p e s m args below meth c A R Q H locs ls B hE hP hD hS hL
  exact lv_aload_n B.1 B.2.1 hd rfl (hL.2.2.2 _ _ hl) (k _ _ _ _ _ _ _ _ _ _ _ _ _ _ B hE hP hD hS hL)
theorem g_iload_n {q : Fin 4} {x : Int32} (hd : decode cc pc = .ok (.iload_n q, 1)) (hl : L[(q : Nat)]? = some (some (.int x))) (k : GW G cc nL own nm d mc ms Ex (pc + 1) L (.int x :: st) ws ce sl) : GW G cc nL own nm d mc ms Ex pc L st ws ce sl := by
  intro p e s m args below meth c A R Q H locs ls B hE hP hD hS hL
  exact lv_iload_n B.1 B.2.1 hd rfl (hL.2.2.2 _ _ hl) (k _ _ _ _ _ _ _ _ _ _ _ _ _ _ B hE hP hD hS hL)
theorem g_istore_n {q : Fin 4} {x : Int32} (hd : decode cc pc = .ok (.istore_n q, 1)) (hn : (q : Nat) < L.length) (hl : am_set L (q : Nat) (.int x) = L') (k : GW G cc nL own nm d mc ms Ex (pc + 1) L' st ws ce sl) : GW G cc nL own nm d mc ms Ex pc L (.int x :: st) ws ce sl := by
  intro p e s m args below meth c A R Q H locs ls B hE hP hD hS hL
  subst hl
  exact lv_istore_n B.1 B.2.1 hd rfl (am_L_has hL) (by rw [← hL.2.1]; exact hn) rfl (fun ls' h' => k _ _ _ _ _ _ _ _ _ _ _ _ _ _ B hE hP hD hS (am_L_set (v := .int x) hL hn h'))
theorem g_iinc {q : Nat} {n : Int} {x v : Int32} (hd : decode cc pc = .ok (.iinc q n, 3)) (hx : L[q]? = some (some (.int x))) (hv : x + Int32.ofInt n = v) (hl : am_set L q (.int v) = L') (k : GW G cc nL own nm d mc ms Ex (pc + 3) L' st ws ce sl) : GW G cc nL own nm d mc ms Ex pc L st ws ce sl := by
  intro p e s m args below meth c A R Q H locs ls B hE hP hD hS hL
  subst hl
  have hn : q < L.length := (List.getElem?_eq_some_iff.mp hx).1
  obtain ⟨k0, hk0⟩ := List.getElem?_of_mem (am_lv_mem (ad := id) (L := L) (q := (q, .int x)).mpr ⟨.int x, hx, rfl⟩)
  exact lv_iinc B.1 B.2.1 hd (am_L_has hL) hk0 hv (by rw [← hL.2.1]; exact hn) rfl (fun ls' h' => k _ _ _ _ _ _ _ _ _ _ _ _ _ _ B hE hP hD hS (am_L_set (v := .int v) hL hn h'))
theorem g_icmp_ge {x y : Int32} {off : Int} {tgt : Nat} (hd : decode cc pc = .ok (.if_icmp .ge off, 3)) (ht : (pc : Int) + off = (tgt : Int)) (kt : y ≤ x → GW G cc nL own nm d mc ms Ex tgt L st ws ce sl) (kf : ¬ y ≤ x → GW G cc nL own nm d mc ms Ex (pc + 3) L st ws ce sl) : GW G cc nL own nm d mc ms Ex pc L (.int y :: .int x :: st) ws ce sl := by
  intro p e s m args below meth c A R Q H locs ls B hE hP hD hS hL
  exact lv_icmp_ge B.1 B.2.1 hd ht (fun h => kt h _ _ _ _ _ _ _ _ _ _ _ _ _ _ B hE hP hD hS hL) (fun h => kf h _ _ _ _ _ _ _ _ _ _ _ _ _ _ B hE hP hD hS hL)
theorem g_goto {off : Int} {tgt : Nat} (hd : decode cc pc = .ok (.goto off, 3)) (ht : (pc : Int) + off = (tgt : Int)) (k : GW G cc nL own nm d mc ms Ex tgt L st ws ce sl) : GW G cc nL own nm d mc ms Ex pc L st ws ce sl := by
  intro p e s m args below meth c A R Q H locs ls B hE hP hD hS hL
  exact lv_goto B.1 B.2.1 hd ht (k _ _ _ _ _ _ _ _ _ _ _ _ _ _ B hE hP hD hS hL)
theorem g_dup {v : Value} (hd : decode cc pc = .ok (.dup, 1)) (hc : v.category = 1) (k : GW G cc nL own nm d mc ms Ex (pc + 1) L (v :: v :: st) ws ce sl) : GW G cc nL own nm d mc ms Ex pc L (v :: st) ws ce sl := by
  intro p e s m args below meth c A R Q H locs ls B hE hP hD hS hL
  exact lv_dup B.1 B.2.1 hd hc (k _ _ _ _ _ _ _ _ _ _ _ _ _ _ B hE hP hD hS hL)
theorem g_lconst {n : Fin 2} {v : Int64} (hd : decode cc pc = .ok (.lconst n, 1)) (hv : Int64.ofNat (n : Nat) = v) (k : GW G cc nL own nm d mc ms Ex (pc + 1) L (.long v :: st) ws ce sl) : GW G cc nL own nm d mc ms Ex pc L st ws ce sl := by
  intro p e s m args below meth c A R Q H locs ls B hE hP hD hS hL
  exact lv_lconst B.1 B.2.1 hd hv (k _ _ _ _ _ _ _ _ _ _ _ _ _ _ B hE hP hD hS hL)
theorem g_obj {idx x : Nat} (hd : decode cc pc = .ok (.invokespecial idx, 3)) (m1 : Cond.methodLink own idx Lib.objectInit ∈ am_ws) (m2 : Cond.instanceMethod Lib.objectInit ∈ am_ws) (m3 : Cond.code Lib.objectInit ⟨#[0xb1]⟩ 1 none ∈ am_ws) (hd1 : 1 ≤ d) (k : GW G cc nL own nm d mc ms Ex (pc + 3) L [] ws ce sl) : GW G cc nL own nm d mc ms Ex pc L [.ref x] ws ce sl := by
  intro p e s m args below meth c A R Q H locs ls B hE hP hD hS hL
  have hR := B.2.2.2.2.2.2.2.1
  refine W.objInit B.1 B.2.1 B.2.2.2.1 (B.2.2.2.2.1 _ m1) (B.2.2.2.2.1 _ m2) (B.2.2.2.2.1 _ m3) rfl (by rw [B.2.2.1]; exact hL.1) rfl hd (by omega) ?_ (k _ _ _ _ _ _ _ _ _ _ _ _ _ _ B hE hP hD hS hL)
  show 2 * (F0 m pc ls [Value.ref x]).monitorRoom + 0 + 12 ≤ R.locals
  have : (F0 m pc ls [Value.ref x]).monitorRoom = 0 := rfl
  omega
theorem g_get {idx q0 a ci j : Nat} {fs : List Value} {v : Value} (hd : decode cc pc = .ok (.getfield idx, 3)) (hf : am_fl own idx ci j) (he : ws[q0]? = some (a, .inr (ci, fs))) (hv : fs[j]? = some v) (k : GW G cc nL own nm d mc ms Ex (pc + 3) L (v :: st) ws ce sl) : GW G cc nL own nm d mc ms Ex pc L (.ref a :: st) ws ce sl := by
  intro p e s m args below meth c A R Q H locs ls B hE hP hD hS hL
  obtain ⟨C, T, N, ref, h1, h2, h3, h4, h5⟩ := hf
  exact va_get B.1 B.2.1 B.2.2.2.2.1 h3 B.2.2.2.1 B.2.2.2.2.2.1.1 hP q0 he h1 j h2 (B.2.2.2.2.1 _ h4) (am_same (own := own) B.2.2.2.2.1 h5) hv hd (k _ _ _ _ _ _ _ _ _ _ _ _ _ _ B hE hP hD hS hL)
theorem g_put {idx q0 a ci j : Nat} {ty : FieldType} {fs : List Value} {v : Value} {ws' : va_W} (hd : decode cc pc = .ok (.putfield idx, 3)) (hf : am_flp own idx ci j ty) (he : ws[q0]? = some (a, .inr (ci, fs))) (hn : narrow ty v = v) (hft : fits ty v = true) (hj : j < fs.length) (hw : ws.set q0 (a, .inr (ci, fs.set j v)) = ws') (k : GW G cc nL own nm d mc ms Ex (pc + 3) L st ws' ce sl) : GW G cc nL own nm d mc ms Ex pc L (v :: .ref a :: st) ws ce sl := by
  intro p e s m args below meth c A R Q H locs ls B hE hP hD hS hL
  obtain ⟨C, T, N, ref, ty0, h1, h2, h3, h4, h5, h6, h7, h8, h9⟩ := hf
  subst hw
  exact va_put B.1 B.2.1 B.2.2.2.2.1 h3 ty0 h6 h7 B.2.2.2.1 B.2.2.2.2.2.1.1 hP hD hS q0 he h1 j h2 (B.2.2.2.2.1 _ h4) (am_same (own := own) B.2.2.2.2.1 h5) h8 h9 hn hft hj hd (fun H1 locs1 hP1 hD1 hS1 => k _ _ _ _ _ _ _ _ _ _ _ _ _ _ B hE hP1 hD1 hS1 hL)
def gm_flF (own : String) (idx ci j : Nat) (ty : FieldType) : Prop := ∃ (C : String) (T : u_T) (N : Nat) (ref : String) (ty0 : Nat → FieldType), vwCl[ci]? = some (C, T, N) ∧ j < N ∧ (∀ w ∈ u_ws C T N, w ∈ am_ws) ∧ Cond.fieldLink own idx ref (T j).2.1 (T j).2.2.1 ∈ am_ws ∧ ((T j).1 = ref ∨ Cond.sameField ref (T j).1 (T j).2.1 (T j).2.2.1 ∈ am_ws) ∧ (∀ k, k < N → parseFieldDescriptor (T k).2.2.1 = some (ty0 k)) ∧ (∀ a, a < N → ∀ b, b < N → a ≠ b → (T a).2.1 ≠ (T b).2.1) ∧ (T j).2.2.2 = true ∧ (T j).1 = own ∧ parseFieldDescriptor (T j).2.2.1 = some ty
theorem g_putF {idx q0 a ci j : Nat} {ty : FieldType} {fs : List Value} {v : Value} {ws' : va_W} (hnm : nm = "<init>") (hd : decode cc pc = .ok (.putfield idx, 3)) (hf : gm_flF own idx ci j ty) (he : ws[q0]? = some (a, .inr (ci, fs))) (hn : narrow ty v = v) (hft : fits ty v = true) (hj : j < fs.length) (hw : ws.set q0 (a, .inr (ci, fs.set j v)) = ws') (k : GW G cc nL own nm d mc ms Ex (pc + 3) L st ws' ce sl) : GW G cc nL own nm d mc ms Ex pc L (v :: .ref a :: st) ws ce sl := by
  intro p e s m args below meth c A R Q H locs ls B hE hP hD hS hL
  obtain ⟨C, T, N, ref, ty0, h1, h2, h3, h4, h5, h6, h7, h8, h8b, h9⟩ := hf
  subst hw
  exact va_putF B.1 B.2.1 B.2.2.2.2.1 h3 ty0 h6 h7 B.2.2.2.1 B.2.2.2.2.2.1.1 hP hD hS q0 he h1 j h2 (B.2.2.2.2.1 _ h4) (am_same (own := own) B.2.2.2.2.1 h5) h8 (by rw [B.2.2.2.2.2.2.2.2.2, hnm]) h8b h9 hn hft hj hd (fun H1 locs1 hP1 hD1 hS1 => k _ _ _ _ _ _ _ _ _ _ _ _ _ _ B hE hP1 hD1 hS1 hL)
theorem g_new {idx ci N : Nat} {C : String} {T : u_T} {ty0 : Nat → FieldType} {fs : List Value} (hd : decode cc pc = .ok (.new idx, 3)) (h1 : vwCl[ci]? = some (C, T, N)) (h2 : ∀ w ∈ u_ws C T N, w ∈ am_ws) (h3 : ∀ k, k < N → parseFieldDescriptor (T k).2.2.1 = some (ty0 k)) (m1 : Cond.classLink own idx C ∈ am_ws) (m2 : Cond.instantiable C N ∈ am_ws) (m3 : Cond.initialized C ∈ am_ws) (hfs : ∀ j, j < N → defaultValue (ty0 j) = vp_V fs j) (hc : ce + 1 ≤ mc) (hs : sl + N ≤ ms)
    (k : ∀ q, GW G cc nL own nm d mc ms Ex (pc + 3) L (.ref q :: st) (ws ++ [(q, .inr (ci, fs))]) (ce + 1) (sl + N)) : GW G cc nL own nm d mc ms Ex pc L st ws ce sl := by
  intro p e s m args below meth c A R Q H locs ls B hE hP hD hS hL
  have hR := B.2.2.2.2.2.2.2.2.1
  exact va_new B.1 B.2.1 B.2.2.2.2.1 h2 ty0 h3 B.2.2.2.1 (B.2.2.2.2.1 _ m1) (B.2.2.2.2.1 _ m2) (B.2.2.2.2.1 _ m3) B.2.2.2.2.2.1.1 hP hD hS B.2.2.2.2.2.2.1 h1 hfs (by omega) (by omega) hd (fun q H1 hP1 hD1 hS1 => k q _ _ _ _ _ _ _ _ _ _ _ _ _ _ B hE hP1 hD1 hS1 hL)
theorem g_newa {atype : ArrayType} {n : Int32} {N t : Nat} {a0 : Int32} (hd : decode cc pc = .ok (.newarray atype, 2)) (m1 : Cond.arrayClass (newarray.typeOf atype) ∈ am_ws) (hcl : ∀ U, gm_K G U → U.vm.findClass ("[" ++ (newarray.typeOf atype).toString) = some (G.2.2 t)) (ha : defaultValue (newarray.typeOf atype) = .int a0) (hn : ¬ n < 0) (hN : n.toNatClampNeg = N) (hb : N * componentBytes (newarray.typeOf atype) ≤ 536870912) (hc : ce + 1 ≤ mc) (hs : sl + N ≤ ms)
    (k : ∀ q, GW G cc nL own nm d mc ms Ex (pc + 2) L (.ref q :: st) (ws ++ [(q, .inl (G.2.2 t, N, .inl (fun _ => a0)))]) (ce + 1) (sl + N)) : GW G cc nL own nm d mc ms Ex pc L (.int n :: st) ws ce sl := by
  intro p e s m args below meth c A R Q H locs ls B hE hP hD hS hL
  have hR := B.2.2.2.2.2.2.2.2.1
  refine va_newaK B.1 B.2.1 (B.2.2.2.2.1 _ m1) rfl hd rfl hn hN hb (by omega) (by omega) rfl fun H1 cA e1 z1 o1 hAr hNm => ?_
  have ec : cA = G.2.2 t := Option.some.inj (hNm.symm.trans (hcl s B.2.2.2.2.2.1))
  subst ec
  have hk : ∀ (k : Nat) (x : Nat × va_E), ws[k]? = some x → H1[x.1]? = H[x.1]? := fun k x hx => o1 x.1 ((hP k x hx).lt)
  refine k H.size _ _ _ _ _ _ _ _ _ _ _ _ _ _ B hE ((hP.kept hk).app (fun k x hx => ?_)) (hD.push hP rfl (B.2.2.2.2.2.2.1 _ hS.1)) ⟨Nat.le_trans hS.1 (by omega), fun x h1 h2 => (o1 x (Nat.lt_of_lt_of_le h1 hS.1)).trans (hS.2.1 x h1 h2), hS.2.2⟩ hL
  have hz : k < 1 := (List.getElem?_eq_some_iff.mp hx).1
  rw [show k = 0 by omega] at hx
  cases hx
  show H1[H.size]? = some (vp_cell _ _)
  rw [e1, vp_cell_i, ha]
end GWR
