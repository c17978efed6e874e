/-! ===== AW: the machine at a pc, with abstract locals, stack and memory, comes to its end ===== -/
def am_ws : List Cond := lw_tbl.filter goodWord
theorem am_in {w : Cond} (i : Nat) (h : lw_tbl[i]? = some w) (hg : goodWord w = true) : w ∈ am_ws := List.mem_filter.mpr ⟨List.mem_of_getElem? h, hg⟩
theorem am_gd : ∀ w ∈ am_ws, (w.onTables && w.keeps) = true ∨ ∃ ty, w = .arrayClass ty := fun _ h => good_of_word (List.mem_filter.mp h).2
theorem am_GoodIn {ws : List Cond} (h : ∀ w ∈ ws, w ∈ am_ws) : GoodIn am_ws ws := fun w hw => ⟨h w hw, am_gd w (h w hw)⟩
theorem am_uws {C : String} {T : u_T} {N : Nat} (h : ∀ k, k < N → u_lay C T k ∈ am_ws) : ∀ w ∈ u_ws C T N, w ∈ am_ws := by
  intro w hw
  obtain ⟨k, hk, rfl⟩ := List.mem_map.mp hw
  exact h k (List.mem_range.mp hk)
abbrev am_G : Type := Launch × va_G × (Nat → ClassId) × (Nat → Nat)
abbrev am_Ex : Type := Program → Env → State → MethodId → Array Value → List Frame → Method → Code → (Nat → Prop) → Room → Nat → Nat → (State → Prop) → Prop
def am_tys (cI : Nat → ClassId) : List (ClassId × FieldType) := [(cI 0, .int), (cI 1, .boolean), (cI 2, .byte), (cI 3, .array .byte), (cI 4, .object RX4)]
def am_yGoal : MethodName := ⟨"LoadsUnseen$Goal", "hasEnough", "([I)Z"⟩
def am_yBest : MethodName := ⟨"LoadsUnseen$Best", "costOf", "([I)I"⟩
/-- what the tables say that is no word of am_ws, too -/
def am_K (G : am_G) (U : State) : Prop := va_K G.2.1 vwCl (am_tys G.2.2.1) U ∧ va_Nw (.declares am_yGoal) U ∧ va_Nw (.declares am_yBest) U
def am_inj (G : am_G) : Prop := ∀ i j, i < am_N → j < am_N → G.2.2.2 i = G.2.2.2 j → i = j
def am_P (G : am_G) (I : am_I) (J : am_J) (H : Heap) : Prop := va_P G.2.1 vwCl (am_W G.2.2.1 G.2.2.2 I J) H
theorem am_K.warm {G : am_G} {u U : State} (h : am_K G u) (hW : u.WarmedH U.vm) : am_K G U := ⟨va_K.moved hW.alike h.1, h.2.1.warmD hW, h.2.2.warmD hW⟩
def am_B (G : am_G) (cc : ByteArray) (nL : Nat) (own : String) (d : Nat) (p : Program) (s : State) (m : MethodId) (args : Array Value) (c : Code) (A : Nat → Prop) (R : Room) (ce sl : Nat) : Prop :=
  p.tables.exec = Jvm.exec ∧ c.code = cc ∧ c.maxLocals = nL ∧ s.vm.findClass own = some m.cls ∧ (∀ w ∈ am_ws, w.before args s = true) ∧ am_K G s ∧ am_inj G ∧ (∀ k, k < am_N → A (G.2.2.2 k)) ∧ (d ≤ R.frames ∧ 40 * d ≤ R.locals) ∧ ce ≤ R.cells ∧ sl ≤ R.slots
theorem am_D {G : am_G} {A : Nat → Prop} {I : am_I} {J : am_J} (hi : am_inj G) (hA : ∀ k, k < am_N → A (G.2.2.2 k)) : va_D A (am_W G.2.2.1 G.2.2.2 I J) := by
  refine ⟨fun i j p q h1 h2 h3 => ?_, fun k q h => ?_⟩
  · obtain ⟨a1, rfl⟩ := am_W_lt h1
    obtain ⟨a2, rfl⟩ := am_W_lt h2
    exact hi i j a1 a2 h3
  · obtain ⟨a1, rfl⟩ := am_W_lt h
    exact hA k a1
def AW (G : am_G) (cc : ByteArray) (nL : Nat) (own : String) (d : Nat) (Ex : am_Ex) (pc : Nat) (L : List (Option Value)) (st : List Value) (I : am_I) (J : am_J) : Prop :=
  ∀ (p : Program) (e : Env) (s : State) (m : MethodId) (args : Array Value) (below : List Frame) (meth : Method) (c : Code) (A : Nat → Prop) (R : Room) (ce sl : Nat) (Q : State → Prop) (H : Heap) (locs : List Loc) (ls : Array Slot),
    am_B G cc nL own d p s m args c A R ce sl → Ex p e s m args below meth c A R ce sl Q → am_P G I J H → va_S A s.heap H locs → am_L G.2.2.2 ls nL L →
    W p G.1 e R s m args below meth c H locs ce sl Q (F0 m pc ls (st.map (am_v G.2.2.2)))
section AWR
variable {G : am_G} {cc : ByteArray} {nL : Nat} {own : String} {d : Nat} {Ex : am_Ex} {pc : Nat} {L L' : List (Option Value)} {st : List Value} {I : am_I} {J : am_J}
theorem a_iconst {n : Int} {v : Int32} (hd : decode cc pc = .ok (.iconst n, 1)) (hv : Int32.ofInt n = v) (k : AW G cc nL own d Ex (pc + 1) L (.int v :: st) I J) : AW G cc nL own d Ex pc L st I J := by
  intro p e s m args below meth c A R ce sl Q H locs ls B hE hP hS hL
  exact lv_iconst B.1 B.2.1 hd hv (k _ _ _ _ _ _ _ _ _ _ _ _ _ _ _ _ B hE hP hS hL)
theorem a_bipush {n : Int} {v : Int32} (hd : decode cc pc = .ok (.bipush n, 2)) (hv : (Int8.ofInt n).toInt32 = v) (k : AW G cc nL own d Ex (pc + 2) L (.int v :: st) I J) : AW G cc nL own d Ex pc L st I J := by
  intro p e s m args below meth c A R ce sl Q H locs ls B hE hP hS hL
  exact lv_bipush B.1 B.2.1 hd hv (k _ _ _ _ _ _ _ _ _ _ _ _ _ _ _ _ B hE hP hS hL)
theorem a_sipush {n : Int} {v : Int32} (hd : decode cc pc = .ok (.sipush n, 3)) (hv : (Int16.ofInt n).toInt32 = v) (k : AW G cc nL own d Ex (pc + 3) L (.int v :: st) I J) : AW G cc nL own d Ex pc L st I J := by
  intro p e s m args below meth c A R ce sl Q H locs ls B hE hP hS hL
  exact lv_sipush B.1 B.2.1 hd hv (k _ _ _ _ _ _ _ _ _ _ _ _ _ _ _ _ B hE hP hS hL)
theorem a_lconst {n : Fin 2} {v : Int64} (hd : decode cc pc = .ok (.lconst n, 1)) (hv : Int64.ofNat (n : Nat) = v) (k : AW G cc nL own d Ex (pc + 1) L (.long v :: st) I J) : AW G cc nL own d Ex pc L st I J := by
  intro p e s m args below meth c A R ce sl Q H locs ls B hE hP hS hL
  exact lv_lconst B.1 B.2.1 hd hv (k _ _ _ _ _ _ _ _ _ _ _ _ _ _ _ _ B hE hP hS hL)
theorem a_ldc {index : Nat} {v v0 : Int32} (hd : decode cc pc = .ok (.ldc index, 2)) (hc : Cond.constant own index v0 ∈ am_ws) (hv : v0 = v) (k : AW G cc nL own d Ex (pc + 2) L (.int v :: st) I J) : AW G cc nL own d Ex pc L st I J := by
  intro p e s m args below meth c A R ce sl Q H locs ls B hE hP hS hL
  subst hv
  exact lv_ldc B.1 B.2.1 B.2.2.2.1 (B.2.2.2.2.1 _ hc) hd (k _ _ _ _ _ _ _ _ _ _ _ _ _ _ _ _ B hE hP hS hL)
theorem a_ldcw {index : Nat} {v v0 : Int32} (hd : decode cc pc = .ok (.ldc_w index, 3)) (hc : Cond.constant own index v0 ∈ am_ws) (hv : v0 = v) (k : AW G cc nL own d Ex (pc + 3) L (.int v :: st) I J) : AW G cc nL own d Ex pc L st I J := by
  intro p e s m args below meth c A R ce sl Q H locs ls B hE hP hS hL
  subst hv
  exact lv_ldcw B.1 B.2.1 B.2.2.2.1 (B.2.2.2.2.1 _ hc) hd (k _ _ _ _ _ _ _ _ _ _ _ _ _ _ _ _ B hE hP hS hL)
theorem a_ldc2 {index : Nat} {v v0 : Int64} (hd : decode cc pc = .ok (.ldc2_w index, 3)) (hc : Cond.constantLong own index v0 ∈ am_ws) (hv : v0 = v) (k : AW G cc nL own d Ex (pc + 3) L (.long v :: st) I J) : AW G cc nL own d Ex pc L st I J := by
  intro p e s m args below meth c A R ce sl Q H locs ls B hE hP hS hL
  subst hv
  exact lv_ldc2 B.1 B.2.1 B.2.2.2.1 (B.2.2.2.2.1 _ hc) hd (k _ _ _ _ _ _ _ _ _ _ _ _ _ _ _ _ B hE hP hS hL)
theorem a_iload_n {q : Fin 4} {x : Int32} (hd : decode cc pc = .ok (.iload_n q, 1)) (hl : L[(q : Nat)]? = some (some (.int x))) (k : AW G cc nL own d Ex (pc + 1) L (.int x :: st) I J) : AW G cc nL own d Ex pc L st I J := by
  intro p e s m args below meth c A R ce sl Q H locs ls B hE hP hS hL
  exact lv_iload_n B.1 B.2.1 hd rfl (hL.2.2.2 _ _ hl) (k _ _ _ _ _ _ _ _ _ _ _ _ _ _ _ _ B hE hP hS hL)
theorem a_iload {q : Nat} {x : Int32} (hd : decode cc pc = .ok (.iload q, 2)) (hl : L[q]? = some (some (.int x))) (k : AW G cc nL own d Ex (pc + 2) L (.int x :: st) I J) : AW G cc nL own d Ex pc L st I J := by
  intro p e s m args below meth c A R ce sl Q H locs ls B hE hP hS hL
  exact lv_iload B.1 B.2.1 hd (hL.2.2.2 _ _ hl) (k _ _ _ _ _ _ _ _ _ _ _ _ _ _ _ _ B hE hP hS hL)
theorem a_lload_n {q : Fin 4} {x : Int64} (hd : decode cc pc = .ok (.lload_n q, 1)) (hl : L[(q : Nat)]? = some (some (.long x))) (k : AW G cc nL own d Ex (pc + 1) L (.long x :: st) I J) : AW G cc nL own d Ex pc L st I J := by
  intro p e s m args below meth c A R ce sl Q H locs ls B hE hP hS hL
  exact lv_lload_n B.1 B.2.1 hd rfl (hL.2.2.2 _ _ hl) (k _ _ _ _ _ _ _ _ _ _ _ _ _ _ _ _ B hE hP hS hL)
theorem a_lload {q : Nat} {x : Int64} (hd : decode cc pc = .ok (.lload q, 2)) (hl : L[q]? = some (some (.long x))) (k : AW G cc nL own d Ex (pc + 2) L (.long x :: st) I J) : AW G cc nL own d Ex pc L st I J := by
  intro p e s m args below meth c A R ce sl Q H locs ls B hE hP hS hL
  exact lv_lload B.1 B.2.1 hd (hL.2.2.2 _ _ hl) (k _ _ _ _ _ _ _ _ _ _ _ _ _ _ _ _ B hE hP hS hL)
theorem a_aload_n {q : Fin 4} {x : Nat} (hd : decode cc pc = .ok (.aload_n q, 1)) (hl : L[(q : Nat)]? = some (some (.ref x))) (k : AW G cc nL own d Ex (pc + 1) L (.ref x :: st) I J) : AW G cc nL own d Ex pc L st I J := by
  intro p e s m args below meth c A R ce sl Q H locs ls B hE hP hS hL
  exact lv_aload_n B.1 B.2.1 hd rfl (hL.2.2.2 _ _ hl) (k _ _ _ _ _ _ _ _ _ _ _ _ _ _ _ _ B hE hP hS hL)
theorem a_aload {q : Nat} {x : Nat} (hd : decode cc pc = .ok (.aload q, 2)) (hl : L[q]? = some (some (.ref x))) (k : AW G cc nL own d Ex (pc + 2) L (.ref x :: st) I J) : AW G cc nL own d Ex pc L st I J := by
  intro p e s m args below meth c A R ce sl Q H locs ls B hE hP hS hL
  exact lv_aload B.1 B.2.1 hd (hL.2.2.2 _ _ hl) (k _ _ _ _ _ _ _ _ _ _ _ _ _ _ _ _ B hE hP hS hL)
theorem a_istore_n {q : Fin 4} {x : Int32} (hd : decode cc pc = .ok (.istore_n q, 1)) (hn : (q : Nat) < L.length) (hl : am_set L (q : Nat) (.int x) = L') (k : AW G cc nL own d Ex (pc + 1) L' st I J) : AW G cc nL own d Ex pc L (.int x :: st) I J := by
  intro p e s m args below meth c A R ce sl Q H locs ls B hE hP hS hL
  subst hl
  exact lv_istore_n B.1 B.2.1 hd rfl (am_L_has hL) (by rw [← hL.2.1]; exact hn) rfl (fun ls' h' => k _ _ _ _ _ _ _ _ _ _ _ _ _ _ _ _ B hE hP hS (am_L_set (v := .int x) hL hn h'))
theorem a_istore {q : Nat} {x : Int32} (hd : decode cc pc = .ok (.istore q, 2)) (hn : (q : Nat) < L.length) (hl : am_set L (q : Nat) (.int x) = L') (k : AW G cc nL own d Ex (pc + 2) L' st I J) : AW G cc nL own d Ex pc L (.int x :: st) I J := by
  intro p e s m args below meth c A R ce sl Q H locs ls B hE hP hS hL
  subst hl
  exact lv_istore B.1 B.2.1 hd (am_L_has hL) (by rw [← hL.2.1]; exact hn) rfl (fun ls' h' => k _ _ _ _ _ _ _ _ _ _ _ _ _ _ _ _ B hE hP hS (am_L_set (v := .int x) hL hn h'))
theorem a_lstore_n {q : Fin 4} {x : Int64} (hd : decode cc pc = .ok (.lstore_n q, 1)) (hn : (q : Nat) + 1 < L.length) (hl : am_set2 L (q : Nat) (.long x) = L') (k : AW G cc nL own d Ex (pc + 1) L' st I J) : AW G cc nL own d Ex pc L (.long x :: st) I J := by
  intro p e s m args below meth c A R ce sl Q H locs ls B hE hP hS hL
  subst hl
  exact lv_lstore_n B.1 B.2.1 hd rfl (am_L_has hL) (by rw [← hL.2.1]; exact hn) rfl (fun ls' h' => k _ _ _ _ _ _ _ _ _ _ _ _ _ _ _ _ B hE hP hS (am_L_set2 (v := .long x) hL hn h'))
theorem a_lstore {q : Nat} {x : Int64} (hd : decode cc pc = .ok (.lstore q, 2)) (hn : (q : Nat) + 1 < L.length) (hl : am_set2 L (q : Nat) (.long x) = L') (k : AW G cc nL own d Ex (pc + 2) L' st I J) : AW G cc nL own d Ex pc L (.long x :: st) I J := by
  intro p e s m args below meth c A R ce sl Q H locs ls B hE hP hS hL
  subst hl
  exact lv_lstore B.1 B.2.1 hd (am_L_has hL) (by rw [← hL.2.1]; exact hn) rfl (fun ls' h' => k _ _ _ _ _ _ _ _ _ _ _ _ _ _ _ _ B hE hP hS (am_L_set2 (v := .long x) hL hn h'))
theorem a_astore_n {q : Fin 4} {x : Nat} (hd : decode cc pc = .ok (.astore_n q, 1)) (hn : (q : Nat) < L.length) (hl : am_set L (q : Nat) (.ref x) = L') (k : AW G cc nL own d Ex (pc + 1) L' st I J) : AW G cc nL own d Ex pc L (.ref x :: st) I J := by
  intro p e s m args below meth c A R ce sl Q H locs ls B hE hP hS hL
  subst hl
  exact lv_astore_n B.1 B.2.1 hd rfl (am_L_has hL) (by rw [← hL.2.1]; exact hn) rfl (fun ls' h' => k _ _ _ _ _ _ _ _ _ _ _ _ _ _ _ _ B hE hP hS (am_L_set (v := .ref x) hL hn h'))
theorem a_astore {q : Nat} {x : Nat} (hd : decode cc pc = .ok (.astore q, 2)) (hn : (q : Nat) < L.length) (hl : am_set L (q : Nat) (.ref x) = L') (k : AW G cc nL own d Ex (pc + 2) L' st I J) : AW G cc nL own d Ex pc L (.ref x :: st) I J := by
  intro p e s m args below meth c A R ce sl Q H locs ls B hE hP hS hL
  subst hl
  exact lv_astore B.1 B.2.1 hd (am_L_has hL) (by rw [← hL.2.1]; exact hn) rfl (fun ls' h' => k _ _ _ _ _ _ _ _ _ _ _ _ _ _ _ _ B hE hP hS (am_L_set (v := .ref x) hL hn h'))
theorem a_iinc {q : Nat} {n : Int} {x v : Int32} (hd : decode cc pc = .ok (.iinc q n, 3)) (hx : L[q]? = some (some (.int x))) (hv : x + Int32.ofInt n = v) (hl : am_set L q (.int v) = L') (k : AW G cc nL own d Ex (pc + 3) L' st I J) : AW G cc nL own d Ex pc L st I J := by
  intro p e s m args below meth c A R ce sl Q H locs ls B hE hP hS hL
  subst hl
  have hn : q < L.length := (List.getElem?_eq_some_iff.mp hx).1
  obtain ⟨k0, hk0⟩ := List.getElem?_of_mem (am_lv_mem (ad := G.2.2.2) (L := L) (q := (q, .int x)).mpr ⟨.int x, hx, rfl⟩)
  exact lv_iinc B.1 B.2.1 hd (am_L_has hL) hk0 hv (by rw [← hL.2.1]; exact hn) rfl (fun ls' h' => k _ _ _ _ _ _ _ _ _ _ _ _ _ _ _ _ B hE hP hS (am_L_set (v := .int v) hL hn h'))
theorem a_iadd {x y v : Int32} (hd : decode cc pc = .ok (.iadd, 1)) (hv : x + y = v) (k : AW G cc nL own d Ex (pc + 1) L (.int v :: st) I J) : AW G cc nL own d Ex pc L (.int y :: .int x :: st) I J := by
  intro p e s m args below meth c A R ce sl Q H locs ls B hE hP hS hL
  subst hv
  exact lv_iadd B.1 B.2.1 hd (k _ _ _ _ _ _ _ _ _ _ _ _ _ _ _ _ B hE hP hS hL)
theorem a_isub {x y v : Int32} (hd : decode cc pc = .ok (.isub, 1)) (hv : x - y = v) (k : AW G cc nL own d Ex (pc + 1) L (.int v :: st) I J) : AW G cc nL own d Ex pc L (.int y :: .int x :: st) I J := by
  intro p e s m args below meth c A R ce sl Q H locs ls B hE hP hS hL
  subst hv
  exact lv_isub B.1 B.2.1 hd (k _ _ _ _ _ _ _ _ _ _ _ _ _ _ _ _ B hE hP hS hL)
theorem a_imul {x y v : Int32} (hd : decode cc pc = .ok (.imul, 1)) (hv : x * y = v) (k : AW G cc nL own d Ex (pc + 1) L (.int v :: st) I J) : AW G cc nL own d Ex pc L (.int y :: .int x :: st) I J := by
  intro p e s m args below meth c A R ce sl Q H locs ls B hE hP hS hL
  subst hv
  exact lv_imul B.1 B.2.1 hd (k _ _ _ _ _ _ _ _ _ _ _ _ _ _ _ _ B hE hP hS hL)
theorem a_iand {x y v : Int32} (hd : decode cc pc = .ok (.iand, 1)) (hv : x &&& y = v) (k : AW G cc nL own d Ex (pc + 1) L (.int v :: st) I J) : AW G cc nL own d Ex pc L (.int y :: .int x :: st) I J := by
  intro p e s m args below meth c A R ce sl Q H locs ls B hE hP hS hL
  subst hv
  exact lv_iand B.1 B.2.1 hd (k _ _ _ _ _ _ _ _ _ _ _ _ _ _ _ _ B hE hP hS hL)
theorem a_ior {x y v : Int32} (hd : decode cc pc = .ok (.ior, 1)) (hv : x ||| y = v) (k : AW G cc nL own d Ex (pc + 1) L (.int v :: st) I J) : AW G cc nL own d Ex pc L (.int y :: .int x :: st) I J := by
  intro p e s m args below meth c A R ce sl Q H locs ls B hE hP hS hL
  subst hv
  exact lv_ior B.1 B.2.1 hd (k _ _ _ _ _ _ _ _ _ _ _ _ _ _ _ _ B hE hP hS hL)
theorem a_ixor {x y v : Int32} (hd : decode cc pc = .ok (.ixor, 1)) (hv : x ^^^ y = v) (k : AW G cc nL own d Ex (pc + 1) L (.int v :: st) I J) : AW G cc nL own d Ex pc L (.int y :: .int x :: st) I J := by
  intro p e s m args below meth c A R ce sl Q H locs ls B hE hP hS hL
  subst hv
  exact lv_ixor B.1 B.2.1 hd (k _ _ _ _ _ _ _ _ _ _ _ _ _ _ _ _ B hE hP hS hL)
theorem a_ishl {x y v : Int32} (hd : decode cc pc = .ok (.ishl, 1)) (hv : x <<< (y &&& 31) = v) (k : AW G cc nL own d Ex (pc + 1) L (.int v :: st) I J) : AW G cc nL own d Ex pc L (.int y :: .int x :: st) I J := by
  intro p e s m args below meth c A R ce sl Q H locs ls B hE hP hS hL
  subst hv
  exact lv_ishl B.1 B.2.1 hd (k _ _ _ _ _ _ _ _ _ _ _ _ _ _ _ _ B hE hP hS hL)
theorem a_ishr {x y v : Int32} (hd : decode cc pc = .ok (.ishr, 1)) (hv : x >>> (y &&& 31) = v) (k : AW G cc nL own d Ex (pc + 1) L (.int v :: st) I J) : AW G cc nL own d Ex pc L (.int y :: .int x :: st) I J := by
  intro p e s m args below meth c A R ce sl Q H locs ls B hE hP hS hL
  subst hv
  exact lv_ishr B.1 B.2.1 hd (k _ _ _ _ _ _ _ _ _ _ _ _ _ _ _ _ B hE hP hS hL)
theorem a_idiv {x y v : Int32} (hd : decode cc pc = .ok (.idiv, 1)) (hne : ¬ y = 0) (hv : x / y = v) (k : AW G cc nL own d Ex (pc + 1) L (.int v :: st) I J) : AW G cc nL own d Ex pc L (.int y :: .int x :: st) I J := by
  intro p e s m args below meth c A R ce sl Q H locs ls B hE hP hS hL
  subst hv
  exact lv_idiv B.1 B.2.1 hd hne (k _ _ _ _ _ _ _ _ _ _ _ _ _ _ _ _ B hE hP hS hL)
theorem a_irem {x y v : Int32} (hd : decode cc pc = .ok (.irem, 1)) (hne : ¬ y = 0) (hv : x - x / y * y = v) (k : AW G cc nL own d Ex (pc + 1) L (.int v :: st) I J) : AW G cc nL own d Ex pc L (.int y :: .int x :: st) I J := by
  intro p e s m args below meth c A R ce sl Q H locs ls B hE hP hS hL
  subst hv
  exact lv_irem B.1 B.2.1 hd hne (k _ _ _ _ _ _ _ _ _ _ _ _ _ _ _ _ B hE hP hS hL)
theorem a_ldiv {x y v : Int64} (hd : decode cc pc = .ok (.ldiv, 1)) (hne : ¬ y = 0) (hv : x / y = v) (k : AW G cc nL own d Ex (pc + 1) L (.long v :: st) I J) : AW G cc nL own d Ex pc L (.long y :: .long x :: st) I J := by
  intro p e s m args below meth c A R ce sl Q H locs ls B hE hP hS hL
  subst hv
  exact lv_ldiv B.1 B.2.1 hd hne (k _ _ _ _ _ _ _ _ _ _ _ _ _ _ _ _ B hE hP hS hL)
theorem a_ineg {x v : Int32} (hd : decode cc pc = .ok (.ineg, 1)) (hv : -x = v) (k : AW G cc nL own d Ex (pc + 1) L (.int v :: st) I J) : AW G cc nL own d Ex pc L (.int x :: st) I J := by
  intro p e s m args below meth c A R ce sl Q H locs ls B hE hP hS hL
  subst hv
  exact lv_ineg B.1 B.2.1 hd (k _ _ _ _ _ _ _ _ _ _ _ _ _ _ _ _ B hE hP hS hL)
theorem a_lneg {x v : Int64} (hd : decode cc pc = .ok (.lneg, 1)) (hv : -x = v) (k : AW G cc nL own d Ex (pc + 1) L (.long v :: st) I J) : AW G cc nL own d Ex pc L (.long x :: st) I J := by
  intro p e s m args below meth c A R ce sl Q H locs ls B hE hP hS hL
  subst hv
  exact lv_lneg B.1 B.2.1 hd (k _ _ _ _ _ _ _ _ _ _ _ _ _ _ _ _ B hE hP hS hL)
theorem a_ladd {x y v : Int64} (hd : decode cc pc = .ok (.ladd, 1)) (hv : x + y = v) (k : AW G cc nL own d Ex (pc + 1) L (.long v :: st) I J) : AW G cc nL own d Ex pc L (.long y :: .long x :: st) I J := by
  intro p e s m args below meth c A R ce sl Q H locs ls B hE hP hS hL
  subst hv
  exact lv_ladd B.1 B.2.1 hd (k _ _ _ _ _ _ _ _ _ _ _ _ _ _ _ _ B hE hP hS hL)
theorem a_lsub {x y v : Int64} (hd : decode cc pc = .ok (.lsub, 1)) (hv : x - y = v) (k : AW G cc nL own d Ex (pc + 1) L (.long v :: st) I J) : AW G cc nL own d Ex pc L (.long y :: .long x :: st) I J := by
  intro p e s m args below meth c A R ce sl Q H locs ls B hE hP hS hL
  subst hv
  exact lv_lsub B.1 B.2.1 hd (k _ _ _ _ _ _ _ _ _ _ _ _ _ _ _ _ B hE hP hS hL)
theorem a_lmul {x y v : Int64} (hd : decode cc pc = .ok (.lmul, 1)) (hv : x * y = v) (k : AW G cc nL own d Ex (pc + 1) L (.long v :: st) I J) : AW G cc nL own d Ex pc L (.long y :: .long x :: st) I J := by
  intro p e s m args below meth c A R ce sl Q H locs ls B hE hP hS hL
  subst hv
  exact lv_lmul B.1 B.2.1 hd (k _ _ _ _ _ _ _ _ _ _ _ _ _ _ _ _ B hE hP hS hL)
theorem a_land {x y v : Int64} (hd : decode cc pc = .ok (.land, 1)) (hv : x &&& y = v) (k : AW G cc nL own d Ex (pc + 1) L (.long v :: st) I J) : AW G cc nL own d Ex pc L (.long y :: .long x :: st) I J := by
  intro p e s m args below meth c A R ce sl Q H locs ls B hE hP hS hL
  subst hv
  exact lv_land B.1 B.2.1 hd (k _ _ _ _ _ _ _ _ _ _ _ _ _ _ _ _ B hE hP hS hL)
theorem a_lor {x y v : Int64} (hd : decode cc pc = .ok (.lor, 1)) (hv : x ||| y = v) (k : AW G cc nL own d Ex (pc + 1) L (.long v :: st) I J) : AW G cc nL own d Ex pc L (.long y :: .long x :: st) I J := by
  intro p e s m args below meth c A R ce sl Q H locs ls B hE hP hS hL
  subst hv
  exact lv_lor B.1 B.2.1 hd (k _ _ _ _ _ _ _ _ _ _ _ _ _ _ _ _ B hE hP hS hL)
theorem a_lxor {x y v : Int64} (hd : decode cc pc = .ok (.lxor, 1)) (hv : x ^^^ y = v) (k : AW G cc nL own d Ex (pc + 1) L (.long v :: st) I J) : AW G cc nL own d Ex pc L (.long y :: .long x :: st) I J := by
  intro p e s m args below meth c A R ce sl Q H locs ls B hE hP hS hL
  subst hv
  exact lv_lxor B.1 B.2.1 hd (k _ _ _ _ _ _ _ _ _ _ _ _ _ _ _ _ B hE hP hS hL)
theorem a_iushr {x y v : Int32} (hd : decode cc pc = .ok (.iushr, 1)) (hv : (x.toUInt32 >>> (y.toUInt32 &&& Int32.toUInt32 31)).toInt32 = v) (k : AW G cc nL own d Ex (pc + 1) L (.int v :: st) I J) : AW G cc nL own d Ex pc L (.int y :: .int x :: st) I J := by
  intro p e s m args below meth c A R ce sl Q H locs ls B hE hP hS hL
  exact lv_iushr B.1 B.2.1 hd hv (k _ _ _ _ _ _ _ _ _ _ _ _ _ _ _ _ B hE hP hS hL)
theorem a_lushr {x v : Int64} {y : Int32} (hd : decode cc pc = .ok (.lushr, 1)) (hv : (x.toUInt64 >>> (y.toInt64.toUInt64 &&& Int64.toUInt64 63)).toInt64 = v) (k : AW G cc nL own d Ex (pc + 1) L (.long v :: st) I J) : AW G cc nL own d Ex pc L (.int y :: .long x :: st) I J := by
  intro p e s m args below meth c A R ce sl Q H locs ls B hE hP hS hL
  exact lv_lushr B.1 B.2.1 hd hv (k _ _ _ _ _ _ _ _ _ _ _ _ _ _ _ _ B hE hP hS hL)
theorem a_lshl {x v : Int64} {y : Int32} (hd : decode cc pc = .ok (.lshl, 1)) (hv : x <<< (y.toInt64 &&& 63) = v) (k : AW G cc nL own d Ex (pc + 1) L (.long v :: st) I J) : AW G cc nL own d Ex pc L (.int y :: .long x :: st) I J := by
  intro p e s m args below meth c A R ce sl Q H locs ls B hE hP hS hL
  exact lv_lshl B.1 B.2.1 hd hv (k _ _ _ _ _ _ _ _ _ _ _ _ _ _ _ _ B hE hP hS hL)
theorem a_lshr {x v : Int64} {y : Int32} (hd : decode cc pc = .ok (.lshr, 1)) (hv : x >>> (y.toInt64 &&& 63) = v) (k : AW G cc nL own d Ex (pc + 1) L (.long v :: st) I J) : AW G cc nL own d Ex pc L (.int y :: .long x :: st) I J := by
  intro p e s m args below meth c A R ce sl Q H locs ls B hE hP hS hL
  exact lv_lshr B.1 B.2.1 hd hv (k _ _ _ _ _ _ _ _ _ _ _ _ _ _ _ _ B hE hP hS hL)
theorem a_i2l {x : Int32} {v : Int64} (hd : decode cc pc = .ok (.i2l, 1)) (hv : x.toInt64 = v) (k : AW G cc nL own d Ex (pc + 1) L (.long v :: st) I J) : AW G cc nL own d Ex pc L (.int x :: st) I J := by
  intro p e s m args below meth c A R ce sl Q H locs ls B hE hP hS hL
  exact lv_i2l B.1 B.2.1 hd hv (k _ _ _ _ _ _ _ _ _ _ _ _ _ _ _ _ B hE hP hS hL)
theorem a_l2i {x : Int64} {v : Int32} (hd : decode cc pc = .ok (.l2i, 1)) (hv : x.toInt32 = v) (k : AW G cc nL own d Ex (pc + 1) L (.int v :: st) I J) : AW G cc nL own d Ex pc L (.long x :: st) I J := by
  intro p e s m args below meth c A R ce sl Q H locs ls B hE hP hS hL
  exact lv_l2i B.1 B.2.1 hd hv (k _ _ _ _ _ _ _ _ _ _ _ _ _ _ _ _ B hE hP hS hL)
theorem a_i2b {x v : Int32} (hd : decode cc pc = .ok (.i2b, 1)) (hv : x.toInt8.toInt32 = v) (k : AW G cc nL own d Ex (pc + 1) L (.int v :: st) I J) : AW G cc nL own d Ex pc L (.int x :: st) I J := by
  intro p e s m args below meth c A R ce sl Q H locs ls B hE hP hS hL
  exact lv_i2b B.1 B.2.1 hd hv (k _ _ _ _ _ _ _ _ _ _ _ _ _ _ _ _ B hE hP hS hL)
theorem a_dup {v : Value} (hd : decode cc pc = .ok (.dup, 1)) (hc : v.category = 1) (k : AW G cc nL own d Ex (pc + 1) L (v :: v :: st) I J) : AW G cc nL own d Ex pc L (v :: st) I J := by
  intro p e s m args below meth c A R ce sl Q H locs ls B hE hP hS hL
  exact lv_dup B.1 B.2.1 hd (by rw [am_cat]; exact hc) (k _ _ _ _ _ _ _ _ _ _ _ _ _ _ _ _ B hE hP hS hL)
theorem a_pop {v : Value} (hd : decode cc pc = .ok (.pop, 1)) (hc : v.category = 1) (k : AW G cc nL own d Ex (pc + 1) L st I J) : AW G cc nL own d Ex pc L (v :: st) I J := by
  intro p e s m args below meth c A R ce sl Q H locs ls B hE hP hS hL
  exact lv_pop B.1 B.2.1 hd (by rw [am_cat]; exact hc) (k _ _ _ _ _ _ _ _ _ _ _ _ _ _ _ _ B hE hP hS hL)
theorem a_dup2 {v u : Value} (hd : decode cc pc = .ok (.dup2, 1)) (hc : v.category = 1) (hu : u.category = 1) (k : AW G cc nL own d Ex (pc + 1) L (v :: u :: v :: u :: st) I J) : AW G cc nL own d Ex pc L (v :: u :: st) I J := by
  intro p e s m args below meth c A R ce sl Q H locs ls B hE hP hS hL
  exact lv_dup2_11 B.1 B.2.1 hd (by rw [am_cat]; exact hc) (by rw [am_cat]; exact hu) (k _ _ _ _ _ _ _ _ _ _ _ _ _ _ _ _ B hE hP hS hL)
theorem a_icmp_eq {x y : Int32} {off : Int} {tgt : Nat} (hd : decode cc pc = .ok (.if_icmp .eq off, 3)) (ht : (pc : Int) + off = (tgt : Int)) (kt : x = y → AW G cc nL own d Ex tgt L st I J) (kf : ¬ x = y → AW G cc nL own d Ex (pc + 3) L st I J) : AW G cc nL own d Ex pc L (.int y :: .int x :: st) I J := by
  intro p e s m args below meth c A R ce sl Q H locs ls B hE hP hS hL
  exact lv_icmp_eq B.1 B.2.1 hd ht (fun h => kt h _ _ _ _ _ _ _ _ _ _ _ _ _ _ _ _ B hE hP hS hL) (fun h => kf h _ _ _ _ _ _ _ _ _ _ _ _ _ _ _ _ B hE hP hS hL)
theorem a_if_eq {x : Int32} {off : Int} {tgt : Nat} (hd : decode cc pc = .ok (.ifCond .eq off, 3)) (ht : (pc : Int) + off = (tgt : Int)) (kt : x = 0 → AW G cc nL own d Ex tgt L st I J) (kf : ¬ x = 0 → AW G cc nL own d Ex (pc + 3) L st I J) : AW G cc nL own d Ex pc L (.int x :: st) I J := by
  intro p e s m args below meth c A R ce sl Q H locs ls B hE hP hS hL
  exact lv_if_eq B.1 B.2.1 hd ht (fun h => kt h _ _ _ _ _ _ _ _ _ _ _ _ _ _ _ _ B hE hP hS hL) (fun h => kf h _ _ _ _ _ _ _ _ _ _ _ _ _ _ _ _ B hE hP hS hL)
theorem a_icmp_ne {x y : Int32} {off : Int} {tgt : Nat} (hd : decode cc pc = .ok (.if_icmp .ne off, 3)) (ht : (pc : Int) + off = (tgt : Int)) (kt : ¬ x = y → AW G cc nL own d Ex tgt L st I J) (kf : x = y → AW G cc nL own d Ex (pc + 3) L st I J) : AW G cc nL own d Ex pc L (.int y :: .int x :: st) I J := by
  intro p e s m args below meth c A R ce sl Q H locs ls B hE hP hS hL
  exact lv_icmp_ne B.1 B.2.1 hd ht (fun h => kt h _ _ _ _ _ _ _ _ _ _ _ _ _ _ _ _ B hE hP hS hL) (fun h => kf h _ _ _ _ _ _ _ _ _ _ _ _ _ _ _ _ B hE hP hS hL)
theorem a_if_ne {x : Int32} {off : Int} {tgt : Nat} (hd : decode cc pc = .ok (.ifCond .ne off, 3)) (ht : (pc : Int) + off = (tgt : Int)) (kt : ¬ x = 0 → AW G cc nL own d Ex tgt L st I J) (kf : x = 0 → AW G cc nL own d Ex (pc + 3) L st I J) : AW G cc nL own d Ex pc L (.int x :: st) I J := by
  intro p e s m args below meth c A R ce sl Q H locs ls B hE hP hS hL
  exact lv_if_ne B.1 B.2.1 hd ht (fun h => kt h _ _ _ _ _ _ _ _ _ _ _ _ _ _ _ _ B hE hP hS hL) (fun h => kf h _ _ _ _ _ _ _ _ _ _ _ _ _ _ _ _ B hE hP hS hL)
theorem a_icmp_lt {x y : Int32} {off : Int} {tgt : Nat} (hd : decode cc pc = .ok (.if_icmp .lt off, 3)) (ht : (pc : Int) + off = (tgt : Int)) (kt : x < y → AW G cc nL own d Ex tgt L st I J) (kf : ¬ x < y → AW G cc nL own d Ex (pc + 3) L st I J) : AW G cc nL own d Ex pc L (.int y :: .int x :: st) I J := by
  intro p e s m args below meth c A R ce sl Q H locs ls B hE hP hS hL
  exact lv_icmp_lt B.1 B.2.1 hd ht (fun h => kt h _ _ _ _ _ _ _ _ _ _ _ _ _ _ _ _ B hE hP hS hL) (fun h => kf h _ _ _ _ _ _ _ _ _ _ _ _ _ _ _ _ B hE hP hS hL)
theorem a_if_lt {x : Int32} {off : Int} {tgt : Nat} (hd : decode cc pc = .ok (.ifCond .lt off, 3)) (ht : (pc : Int) + off = (tgt : Int)) (kt : x < 0 → AW G cc nL own d Ex tgt L st I J) (kf : ¬ x < 0 → AW G cc nL own d Ex (pc + 3) L st I J) : AW G cc nL own d Ex pc L (.int x :: st) I J := by
  intro p e s m args below meth c A R ce sl Q H locs ls B hE hP hS hL
  exact lv_if_lt B.1 B.2.1 hd ht (fun h => kt h _ _ _ _ _ _ _ _ _ _ _ _ _ _ _ _ B hE hP hS hL) (fun h => kf h _ _ _ _ _ _ _ _ _ _ _ _ _ _ _ _ B hE hP hS hL)
theorem a_icmp_ge {x y : Int32} {off : Int} {tgt : Nat} (hd : decode cc pc = .ok (.if_icmp .ge off, 3)) (ht : (pc : Int) + off = (tgt : Int)) (kt : y ≤ x → AW G cc nL own d Ex tgt L st I J) (kf : ¬ y ≤ x → AW G cc nL own d Ex (pc + 3) L st I J) : AW G cc nL own d Ex pc L (.int y :: .int x :: st) I J := by
  intro p e s m args below meth c A R ce sl Q H locs ls B hE hP hS hL
  exact lv_icmp_ge B.1 B.2.1 hd ht (fun h => kt h _ _ _ _ _ _ _ _ _ _ _ _ _ _ _ _ B hE hP hS hL) (fun h => kf h _ _ _ _ _ _ _ _ _ _ _ _ _ _ _ _ B hE hP hS hL)
theorem a_if_ge {x : Int32} {off : Int} {tgt : Nat} (hd : decode cc pc = .ok (.ifCond .ge off, 3)) (ht : (pc : Int) + off = (tgt : Int)) (kt : 0 ≤ x → AW G cc nL own d Ex tgt L st I J) (kf : ¬ 0 ≤ x → AW G cc nL own d Ex (pc + 3) L st I J) : AW G cc nL own d Ex pc L (.int x :: st) I J := by
  intro p e s m args below meth c A R ce sl Q H locs ls B hE hP hS hL
  exact lv_if_ge B.1 B.2.1 hd ht (fun h => kt h _ _ _ _ _ _ _ _ _ _ _ _ _ _ _ _ B hE hP hS hL) (fun h => kf h _ _ _ _ _ _ _ _ _ _ _ _ _ _ _ _ B hE hP hS hL)
theorem a_icmp_gt {x y : Int32} {off : Int} {tgt : Nat} (hd : decode cc pc = .ok (.if_icmp .gt off, 3)) (ht : (pc : Int) + off = (tgt : Int)) (kt : y < x → AW G cc nL own d Ex tgt L st I J) (kf : ¬ y < x → AW G cc nL own d Ex (pc + 3) L st I J) : AW G cc nL own d Ex pc L (.int y :: .int x :: st) I J := by
  intro p e s m args below meth c A R ce sl Q H locs ls B hE hP hS hL
  exact lv_icmp_gt B.1 B.2.1 hd ht (fun h => kt h _ _ _ _ _ _ _ _ _ _ _ _ _ _ _ _ B hE hP hS hL) (fun h => kf h _ _ _ _ _ _ _ _ _ _ _ _ _ _ _ _ B hE hP hS hL)
theorem a_if_gt {x : Int32} {off : Int} {tgt : Nat} (hd : decode cc pc = .ok (.ifCond .gt off, 3)) (ht : (pc : Int) + off = (tgt : Int)) (kt : 0 < x → AW G cc nL own d Ex tgt L st I J) (kf : ¬ 0 < x → AW G cc nL own d Ex (pc + 3) L st I J) : AW G cc nL own d Ex pc L (.int x :: st) I J := by
  intro p e s m args below meth c A R ce sl Q H locs ls B hE hP hS hL
  exact lv_if_gt B.1 B.2.1 hd ht (fun h => kt h _ _ _ _ _ _ _ _ _ _ _ _ _ _ _ _ B hE hP hS hL) (fun h => kf h _ _ _ _ _ _ _ _ _ _ _ _ _ _ _ _ B hE hP hS hL)
theorem a_icmp_le {x y : Int32} {off : Int} {tgt : Nat} (hd : decode cc pc = .ok (.if_icmp .le off, 3)) (ht : (pc : Int) + off = (tgt : Int)) (kt : x ≤ y → AW G cc nL own d Ex tgt L st I J) (kf : ¬ x ≤ y → AW G cc nL own d Ex (pc + 3) L st I J) : AW G cc nL own d Ex pc L (.int y :: .int x :: st) I J := by
  intro p e s m args below meth c A R ce sl Q H locs ls B hE hP hS hL
  exact lv_icmp_le B.1 B.2.1 hd ht (fun h => kt h _ _ _ _ _ _ _ _ _ _ _ _ _ _ _ _ B hE hP hS hL) (fun h => kf h _ _ _ _ _ _ _ _ _ _ _ _ _ _ _ _ B hE hP hS hL)
theorem a_if_le {x : Int32} {off : Int} {tgt : Nat} (hd : decode cc pc = .ok (.ifCond .le off, 3)) (ht : (pc : Int) + off = (tgt : Int)) (kt : x ≤ 0 → AW G cc nL own d Ex tgt L st I J) (kf : ¬ x ≤ 0 → AW G cc nL own d Ex (pc + 3) L st I J) : AW G cc nL own d Ex pc L (.int x :: st) I J := by
  intro p e s m args below meth c A R ce sl Q H locs ls B hE hP hS hL
  exact lv_if_le B.1 B.2.1 hd ht (fun h => kt h _ _ _ _ _ _ _ _ _ _ _ _ _ _ _ _ B hE hP hS hL) (fun h => kf h _ _ _ _ _ _ _ _ _ _ _ _ _ _ _ _ B hE hP hS hL)
theorem a_goto {off : Int} {tgt : Nat} (hd : decode cc pc = .ok (.goto off, 3)) (ht : (pc : Int) + off = (tgt : Int)) (k : AW G cc nL own d Ex tgt L st I J) : AW G cc nL own d Ex pc L st I J := by
  intro p e s m args below meth c A R ce sl Q H locs ls B hE hP hS hL
  exact lv_goto B.1 B.2.1 hd ht (k _ _ _ _ _ _ _ _ _ _ _ _ _ _ _ _ B hE hP hS hL)
theorem a_tabOut {dflt lo hi : Int} {offs : Array Int} {len : Nat} {x : Int32} {tgt : Nat} (hd : decode cc pc = .ok (.tableswitch dflt lo hi offs, len)) (h : x.toInt < lo ∨ hi < x.toInt) (ht : (pc : Int) + dflt = (tgt : Int)) (k : AW G cc nL own d Ex tgt L st I J) : AW G cc nL own d Ex pc L (.int x :: st) I J := by
  intro p e s m args below meth c A R ce sl Q H locs ls B hE hP hS hL
  exact lv_tableOut B.1 B.2.1 hd h ht (k _ _ _ _ _ _ _ _ _ _ _ _ _ _ _ _ B hE hP hS hL)
theorem a_tabIn {dflt lo hi : Int} {offs : Array Int} {len : Nat} {x : Int32} {off : Int} {tgt : Nat} (hd : decode cc pc = .ok (.tableswitch dflt lo hi offs, len)) (h1 : ¬ x.toInt < lo) (h2 : ¬ hi < x.toInt) (ho : offs[(x.toInt - lo).toNat]? = some off) (ht : (pc : Int) + off = (tgt : Int)) (k : AW G cc nL own d Ex tgt L st I J) : AW G cc nL own d Ex pc L (.int x :: st) I J := by
  intro p e s m args below meth c A R ce sl Q H locs ls B hE hP hS hL
  exact lv_tableIn B.1 B.2.1 hd h1 h2 ho ht (k _ _ _ _ _ _ _ _ _ _ _ _ _ _ _ _ B hE hP hS hL)
theorem a_topi {x v : Int32} (h : x = v) (k : AW G cc nL own d Ex pc L (.int v :: st) I J) : AW G cc nL own d Ex pc L (.int x :: st) I J := h ▸ k
theorem a_topl {x v : Int64} (h : x = v) (k : AW G cc nL own d Ex pc L (.long v :: st) I J) : AW G cc nL own d Ex pc L (.long x :: st) I J := h ▸ k
theorem a_mem {I' : am_I} (h : I = I') (k : AW G cc nL own d Ex pc L st I' J) : AW G cc nL own d Ex pc L st I J := h ▸ k
theorem a_loc (h : L = L') (k : AW G cc nL own d Ex pc L' st I J) : AW G cc nL own d Ex pc L st I J := h ▸ k
theorem a_lcmp {x y : Int64} {v : Int32} (hd : decode cc pc = .ok (.lcmp, 1)) (hv : lg_cmp x y = v) (k : AW G cc nL own d Ex (pc + 1) L (.int v :: st) I J) : AW G cc nL own d Ex pc L (.long y :: .long x :: st) I J := by
  intro p e s m args below meth c A R ce sl Q H locs ls B hE hP hS hL
  subst hv
  exact W.lcmp B.1 B.2.1 hd (k _ _ _ _ _ _ _ _ _ _ _ _ _ _ _ _ B hE hP hS hL)
end AWR
