/-! ===== byte[4][24] ===== -/
def mgO (h i : Nat) : Nat → Value := fun j => if j < i then .ref (h + 1 + j) else .null
theorem mgO_s (h i : Nat) : updV (mgO h i) i (.ref (h + 1 + i)) = mgO h (i + 1) := by
  funext j
  simp only [updV, mgO]
  by_cases e : j = i
  · subst e; simp
  · by_cases q : j < i
    · simp [e, q, show j < i + 1 by omega]
    · simp [e, q, show ¬ j < i + 1 by omega]
/-- i of the rows stand -/
def mgI (p : Program) (l : Launch) (e : Env) (R : Room) (s : State) (m : MethodId) (args : Array Value) (below : List Frame) (meth : Method) (c : Code) (T : State) (cO cI : ClassId) (locs : List Loc) (ce sl i : Nat) (U : State) : Prop :=
  (∃ L, Stand p l e R s m args below meth c U (locs ++ L) (ce + 1 + i) (sl + 4 + 24 * i) ∧ ∀ q ∈ L, q.base = T.heap.size) ∧ U.vm = T.vm ∧ U.heap.size = T.heap.size + 1 + i ∧ U.heap[T.heap.size]? = some (arrV cO 4 (mgO T.heap.size i)) ∧ (∀ j, j < i → U.heap[T.heap.size + 1 + j]? = some (arrV cI 24 (fun _ => .int 0))) ∧ ∀ q, q < T.heap.size → U.heap[q]? = T.heap[q]?
set_option maxHeartbeats 4000000 in
theorem mg_step {p : Program} {l : Launch} {e : Env} {R : Room} {s : State} {m : MethodId} {args : Array Value} {below : List Frame} {meth : Method} {c : Code} {T : State} {cO cI : ClassId} {locs : List Loc} {ce sl i : Nat} {U : State} (hi : i < 4) (h : mgI p l e R s m args below meth c T cO cI locs ce sl i U) : mgI p l e R s m args below meth c T cO cI locs ce sl (i + 1) ((U.pushCell (arrV cI 24 (fun _ => .int 0))).setCell T.heap.size ((arrV cO 4 (mgO T.heap.size i)).setSlot i (.ref U.heap.size))) := by
  obtain ⟨⟨L, X, hL⟩, h1, h2, h3, h4, h5⟩ := h
  have hlt : T.heap.size < U.heap.size := by omega
  have hc : (U.pushCell (arrV cI 24 (fun _ => .int 0))).heap[T.heap.size]? = some (arrV cO 4 (mgO T.heap.size i)) := by rw [State.heap_pushCell_of_lt (h := hlt)]; exact h3
  have X2 := (X.pushed (arrV cI 24 (fun _ => .int 0))).stored hc i (.ref U.heap.size)
  rw [arrV_size] at X2
  refine ⟨⟨L ++ [⟨T.heap.size, i⟩], ?_, fun q hq => ?_⟩, h1, ?_, ?_, fun j hj => ?_, fun q hq => ?_⟩
  · rw [← List.append_assoc, show ce + 1 + (i + 1) = ce + 1 + i + 1 by omega, show sl + 4 + 24 * (i + 1) = sl + 4 + 24 * i + 24 by omega]
    exact X2
  · rcases List.mem_append.mp hq with z | z
    · exact hL q z
    · rw [List.mem_singleton.mp z]
  · rw [State.heap_setCell, State.heap_pushCell, Array.size_setIfInBounds, Array.size_push, h2]; omega
  · rw [arrV_store, h2, mgO_s]
    exact heapAt_setCell_self _ (show T.heap.size < (U.pushCell (arrV cI 24 (fun _ => .int 0))).heap.size by rw [State.heap_pushCell, Array.size_push]; omega)
  · rw [heapAt_setCell_ne _ (show T.heap.size ≠ T.heap.size + 1 + j by omega)]
    by_cases ej : j = i
    · subst ej
      rw [← h2]
      exact State.heap_pushCell_size _ _
    · rw [State.heap_pushCell_of_lt (h := show T.heap.size + 1 + j < U.heap.size by omega)]
      exact h4 j (by omega)
  · rw [heapAt_setCell_ne _ (show T.heap.size ≠ q by omega), State.heap_pushCell_of_lt (h := show q < U.heap.size by omega)]
    exact h5 q hq
def mgS (T : State) (cO cI : ClassId) : Nat → State
  | 0 => T.pushCell (arrV cO 4 (mgO T.heap.size 0))
  | i + 1 => ((mgS T cO cI i).pushCell (arrV cI 24 (fun _ => .int 0))).setCell T.heap.size ((arrV cO 4 (mgO T.heap.size i)).setSlot i (.ref (mgS T cO cI i).heap.size))
theorem mgS_I {p : Program} {l : Launch} {e : Env} {R : Room} {s : State} {m : MethodId} {args : Array Value} {below : List Frame} {meth : Method} {c : Code} {T : State} {cO cI : ClassId} {locs : List Loc} {ce sl : Nat} (X : Stand p l e R s m args below meth c T locs ce sl) : ∀ i, i ≤ 4 → mgI p l e R s m args below meth c T cO cI locs ce sl i (mgS T cO cI i)
  | 0, _ => by
    refine ⟨⟨[], ?_, fun q hq => by cases hq⟩, rfl, ?_, State.heap_pushCell_size _ _, fun j hj => by omega, fun q hq => State.heap_pushCell_of_lt _ _ hq⟩
    · have X1 := X.pushed (arrV cO 4 (mgO T.heap.size 0))
      rw [arrV_size] at X1
      rw [List.append_nil]
      exact X1
    · show (T.pushCell _).heap.size = _
      rw [State.heap_pushCell, Array.size_push]
  | i + 1, h => mg_step (by omega) (mgS_I X i (by omega))
set_option maxHeartbeats 4000000 in
theorem mg_make {p : Program} {l : Launch} {e : Env} {R : Room} {s : State} {m : MethodId} {args : Array Value} {below : List Frame} {meth : Method} {c : Code} {T : State} {cO cI cB : ClassId} {kO kI : Class} {locs : List Loc} {ce sl : Nat} {g : JFrame} {E : CtlPost} {d : Bool} {acts : List Action} (X : Stand p l e R s m args below meth c T locs ce sl) (hO : T.vm.classes[cO]? = some kO) (hOk : kO.kind = .array cI (.array .byte)) (hI : T.vm.classes[cI]? = some kI) (hIk : kI.kind = .array cB .byte) (hc : ce + 5 ≤ R.cells) (hs : sl + 100 ≤ R.slots)
    {Q : Addr → Pre} (hq : ∀ d' acts', Q T.heap.size d' acts' ((mgS T cO cI 4).setTop g)) : wp (Op.multianewarray.make cO [nI 4, nI 24]) Q E e d acts (T.setTop g) := by
  have hl1 : ¬ (4 : Nat) > e.platform.arrayLengthLimit := by rw [Launch.admits_arrayLengthLimit X.admits]; omega
  have hh1 : ¬ 4 * componentBytes (.array .byte) > e.platform.maxHeapBytes := by rw [Launch.admits_maxHeapBytes X.admits]; decide
  have hl2 : ¬ (24 : Nat) > e.platform.arrayLengthLimit := by rw [Launch.admits_arrayLengthLimit X.admits]; omega
  have hh2 : ¬ 24 * componentBytes .byte > e.platform.maxHeapBytes := by rw [Launch.admits_maxHeapBytes X.admits]; decide
  have n4 : ¬ nI 4 < 0 := by decide
  have n24 : ¬ nI 24 < 0 := by decide
  have c4 : (nI 4).toNatClampNeg = 4 := by decide
  have c24 : (nI 24).toNatClampNeg = 24 := by decide
  have hfind : ([nI 24].find? (· < 0)) = none := by decide
  obtain ⟨r1, r2⟩ := X.roomAbove (a := 5) (b := 100) hc hs
  rw [Op.multianewarray.make]
  simp only [wp_bind', W.ite, n4, if_false, wp_pure', W.theClass, State.vm_setTop, hO, hOk, Option.some.injEq, exists_eq_left', c4]
  refine W.newArray_of (k := kO) hO hOk hl1 hh1 (by show T.heap.size < _; omega) (by show T.slotsUsed + 4 ≤ _; omega) rfl (fun acts' => ?_)
  simp only [hfind]
  rw [ite_self, wp_bind', Std.Legacy.Range.forIn_eq_forIn_range']
  show wp (forIn (List.range' 0 4 1) PUnit.unit _) _ E e d acts' _
  refine wp_forIn_inv (fun rest s' => ∃ i, i ≤ 4 ∧ rest = List.range' i (4 - i) ∧ s' = (mgS T cO cI i).setTop g) _ _ ⟨0, by omega, rfl, ?_⟩ ?_ ?_
  · show _ = (T.pushCell (arrV cO 4 (mgO T.heap.size 0))).setTop g
    rw [show mgO T.heap.size 0 = (fun _ => Value.null) from funext fun j => by simp [mgO], ← arrV_new]
    rfl
  · rintro x rest s' d' acts2 Q' ⟨i, hi, hl, rfl⟩ hnext
    have hlt : i < 4 := by
      rcases Nat.lt_or_ge i 4 with h | h
      · exact h
      · rw [show 4 - i = 0 by omega] at hl; simp at hl
    obtain ⟨rfl, hrest⟩ : x = i ∧ rest = List.range' (i + 1) (4 - (i + 1)) := by
      rw [show 4 - i = (4 - (i + 1)) + 1 by omega, List.range'_succ] at hl
      exact ⟨(List.cons.inj hl).1, (List.cons.inj hl).2⟩
    have hM := mgS_I (cO := cO) (cI := cI) X x hi
    generalize hU : mgS T cO cI x = U at hM ⊢
    obtain ⟨⟨L, XU, hL⟩, h1, h2, h3, h4, h5⟩ := id hM
    obtain ⟨u1, u2⟩ := XU.roomAbove (a := 1) (b := 24) (by omega) (by omega)
    have hIU : U.vm.classes[cI]? = some kI := by rw [h1]; exact hI
    simp only [wp_bind']
    rw [Op.multianewarray.make]
    simp only [wp_bind', W.ite, n24, if_false, wp_pure', W.theClass, State.vm_setTop, hIU, hIk, Option.some.injEq, exists_eq_left', c24]
    refine W.newArray_of (k := kI) hIU hIk hl2 hh2 (by show U.heap.size < _; omega) (by show U.slotsUsed + 24 ≤ _; omega) rfl (fun acts3 => ?_)
    simp only [wp_bind', W.writeLoc, wp_pure']
    have hlt0 : T.heap.size < U.heap.size := by omega
    refine ⟨arrV cO 4 (mgO T.heap.size x), ?_, by simp [arrV], by rw [arrV_size]; exact hlt, ?_, hnext _ _ _ ⟨x + 1, by omega, hrest, ?_⟩⟩
    · show (U.pushCell _).heap[T.heap.size]? = _
      rw [State.heap_pushCell_of_lt (h := hlt0)]; exact h3
    · have hOU : U.vm.classes[cO]? = some kO := by rw [h1]; exact hO
      simp [State.fitsSlot, State.slotType?, arrV, hOU, hOk]
      rfl
    · show _ = (((mgS T cO cI x).pushCell (arrV cI 24 (fun _ => .int 0))).setCell T.heap.size ((arrV cO 4 (mgO T.heap.size x)).setSlot x (.ref (mgS T cO cI x).heap.size))).setTop g
      rw [hU, ← arrV_new]
      rfl
  · rintro s' d' acts2 ⟨i, hi, hl, rfl⟩
    have hi4 : i = 4 := by
      rcases Nat.lt_or_ge i 4 with h | h
      · rw [show 4 - i = (4 - (i + 1)) + 1 by omega, List.range'_succ] at hl; cases hl
      · omega
    subst hi4
    simp only [wp_pure']
    exact hq _ _
theorem arrV_low (cI : ClassId) (N : Nat) {f g : Nat → Value} (h : ∀ j, j < N → f j = g j) : arrV cI N f = arrV cI N g := by
  unfold arrV
  congr 1
  exact congrArg Array.ofFn (funext fun j => h j.val j.isLt)
def mgF (b0 b1 b2 b3 : Nat) : Nat → Option Nat := fun i => if i = 0 then some b0 else if i = 1 then some b1 else if i = 2 then some b2 else if i = 3 then some b3 else none
def mgW (G : gm_G) (q b0 b1 b2 b3 : Nat) : va_W := [(q, .inl (G.2.2 3, 4, .inr (.inr (.inr (.inr (mgF b0 b1 b2 b3)))))), (b0, .inl (G.2.2 2, 24, .inl (fun _ => 0))), (b1, .inl (G.2.2 2, 24, .inl (fun _ => 0))), (b2, .inl (G.2.2 2, 24, .inl (fun _ => 0))), (b3, .inl (G.2.2 2, 24, .inl (fun _ => 0)))]
theorem mgW_at (G : gm_G) (h : Nat) {k : Nat} {x : Nat × va_E} (e : (mgW G h (h + 1) (h + 2) (h + 3) (h + 4))[k]? = some x) : x.1 = h + k ∧ k < 5 := by
  have hk : k < 5 := (List.getElem?_eq_some_iff.mp e).1
  refine ⟨?_, hk⟩
  obtain rfl | rfl | rfl | rfl | rfl : k = 0 ∨ k = 1 ∨ k = 2 ∨ k = 3 ∨ k = 4 := by omega
  all_goals (cases e; rfl)
/-- the word, given what 'make' does at the noted tables, the two counts popped -/
theorem mg_sem {E : CtlPost} {e : Env} {d : Bool} {acts : List Action} {Q : Unit → Pre} {s : State} {f : JFrame} {idx c : Nat} {vm' : Vm} {a b : Int32} {rest : List Value} (hs : s.topJava?.isSome) (hg : (Jvm.resolveClass f.method.cls idx).Gives e.toSetting s.vm (.ok c) vm') (hst : f.stack = .int b :: .int a :: rest)
    (hm : wp (Op.multianewarray.make c [a, b]) (fun r d' acts' t => wp (Jvm.pushRef r) Q E e d' acts' t) E e true acts ((s.setVm vm').setTop { f with stack := rest })) (hz : vm'.classes.size ≤ s.vm.classes.size := by no_record) : wp (Op.multianewarray.sem idx 2) Q E e d acts (s.setTop f) := by
  have hp : ∀ R : List Value → Pre, R [.int a, .int b] true acts ((s.setVm vm').setTop { f with stack := rest }) → wp (Jvm.popN 2) R E e d acts ((s.setVm vm').setTop f) := fun R h => (popN_top (s := s.setVm vm') (args := [.int a, .int b]) hs hst).mpr h
  unfold Op.multianewarray.sem
  rw [wp_bind', W.resolveClassAt_links (State.method?_setTop f hs) hg hz, wp_bind']
  refine hp _ ?_
  simp only [List.mapM_cons, List.mapM_nil, wp_bind', wp_pure']
  exact hm
section GMUL
variable {G : gm_G} {cc : ByteArray} {nL : Nat} {own nm : String} {d mc ms : Nat} {Ex : gm_Ex} {pc : Nat} {L L' : List (Option Value)} {st : List Value} {ws : va_W} {ce sl : Nat}
set_option maxHeartbeats 4000000 in
theorem g_multi {idx : Nat} (hd : decode cc pc = .ok (.multianewarray idx 2, 4)) (m1 : Cond.classLink own idx "[[B" ∈ am_ws) (m2 : Cond.arrayClass .byte ∈ am_ws) (hc : ce + 5 ≤ mc) (hs : sl + 100 ≤ ms)
    (k : ∀ q b0 b1 b2 b3, GW G cc nL own nm d mc ms Ex (pc + 4) L (.ref q :: st) (ws ++ mgW G q b0 b1 b2 b3) (ce + 5) (sl + 100)) : GW G cc nL own nm d mc ms Ex pc L (.int (nI 24) :: .int (nI 4) :: st) ws ce sl := by
  intro p e s m args below meth c A R Q H locs ls B hE hP hD hS hL
  have hR := B.2.2.2.2.2.2.2.2.1
  have hK := B.2.2.2.2.2.1
  intro T hT X
  have hpl : e.platform.magicAccessors = ({} : Platform).magicAccessors := by rw [X.admits.platform]
  obtain ⟨c0, hfc0, hcl⟩ := Cond.classLink_spec B.2.2.2.1 (B.2.2.2.2.1 _ m1) e.platform hpl
  have ec : c0 = G.2.2 3 := Option.some.inj (hfc0.symm.trans hK.2.2.2.2.2.1)
  subst ec
  obtain ⟨kA, hkA, hkindA⟩ := hK.2.2.2.2.2.2.2.2.2.2
  obtain ⟨comp', kC, cC, hcomp', hkC, hkindC⟩ := Cond.arrayClass_spec (B.2.2.2.2.1 _ m2)
  have ec2 : comp' = G.2.2 2 := Option.some.inj (hcomp'.symm.trans hK.2.2.2.2.1)
  subst ec2
  obtain ⟨hg₁, hwarm₁, hready₁⟩ := State.classEntry (e := e) X.warmed hcl
  generalize hvm : T.vm.noted m.cls idx (.cls (G.2.2 3)) = vm₁ at hg₁ hwarm₁ hready₁
  have hal : s.vm.Alike vm₁ := hwarm₁.alike
  obtain ⟨kA₁, hkA₁, heA⟩ := hal.2.2 _ _ hkA
  obtain ⟨kC₁, hkC₁, heC⟩ := hal.2.2 _ _ hkC
  have hkindA₁ : kA₁.kind = .array (G.2.2 2) (.array .byte) := by rw [heA]; exact hkindA
  have hkindC₁ : kC₁.kind = .array cC .byte := by rw [heC]; exact hkindC
  have X₁ := X.noted hwarm₁
  have hdg : decode c.code (F0 m pc ls (.int (nI 24) :: .int (nI 4) :: st)).pc = .ok (.multianewarray idx 2, 4) := by rw [B.2.1]; exact hd
  have hexec := B.1
  have hTh : (T.setVm vm₁).heap = H := hT
  have hTz : (T.setVm vm₁).heap.size = H.size := by rw [hTh]
  suffices HH : ∀ U, mgI p G.1 e R s m args below meth c (T.setVm vm₁) (G.2.2 3) (G.2.2 2) locs ce sl 4 U → ∃ t, Steps p.tables e below (U.setTop (F0 m (pc + 4) ls (.ref H.size :: st))) t ∧ Q t by
    obtain ⟨t, ht, hQ⟩ := HH _ (mgS_I X₁ 4 (by omega))
    refine ⟨t, ?_, hQ⟩
    have hMI := mgS_I (cO := G.2.2 3) (cI := G.2.2 2) X₁ 4 (by omega)
    generalize hU : mgS (T.setVm vm₁) (G.2.2 3) (G.2.2 2) 4 = U at hMI ht
    obtain ⟨⟨L1, XU, -⟩, -⟩ := hMI
    jvm_step X.here [hexec, hdg]
    refine mg_sem X.here.top hg₁ rfl (mg_make (locs := locs) (ce := ce) (sl := sl) X₁ hkA₁ hkindA₁ hkC₁ hkindC₁ (by omega) (by omega) (fun d' acts' => ?_))
    refine (W.pushRef _).mpr ⟨_, State.topJava?_setTop' _ (by rw [hU]; exact XU.here.top), ?_⟩
    rw [hU, State.setTop_setTop]
    simp [jvm, XU.here.top]
    rw [hT]
    exact ht
  rintro U ⟨⟨L1, XU, hL1⟩, u1, u2, u3, u4, u5⟩
  rw [hTh] at u2 u3 u4 u5 hL1
  have hPU : va_P G.2.1 vwCl (ws ++ mgW G H.size (H.size + 1) (H.size + 2) (H.size + 3) (H.size + 4)) U.heap := by
    refine (hP.kept (fun k x hx => u5 x.1 ((hP k x hx).lt))).app (fun k x hx => ?_)
    have hk5 : k < 5 := (List.getElem?_eq_some_iff.mp hx).1
    obtain rfl | rfl | rfl | rfl | rfl : k = 0 ∨ k = 1 ∨ k = 2 ∨ k = 3 ∨ k = 4 := by omega
    · cases hx
      show U.heap[H.size]? = some (vp_cell _ _)
      rw [u3, vp_cell_q]
      refine congrArg some (arrV_low _ _ (fun j hj => ?_))
      obtain rfl | rfl | rfl | rfl : j = 0 ∨ j = 1 ∨ j = 2 ∨ j = 3 := by omega
      all_goals rfl
    · cases hx; exact u4 0 (by omega)
    · cases hx; exact u4 1 (by omega)
    · cases hx; exact u4 2 (by omega)
    · cases hx; exact u4 3 (by omega)
  have hDU : va_D A (ws ++ mgW G H.size (H.size + 1) (H.size + 2) (H.size + 3) (H.size + 4)) := by
    refine hD.app ⟨fun i j x y hx hy hxy => ?_, fun k x hx => ?_⟩ (fun i j x y hx hy => ?_)
    · have h1 := (mgW_at G H.size hx).1
      have h2 := (mgW_at G H.size hy).1
      omega
    · rw [(mgW_at G H.size hx).1]
      exact B.2.2.2.2.2.2.1 _ (Nat.le_trans hS.1 (by omega))
    · have h1 := (hP i x hx).lt
      have h2 := (mgW_at G H.size hy).1
      omega
  have hSU : va_S A s.heap U.heap (locs ++ L1) := by
    refine ⟨Nat.le_trans hS.1 (by omega), fun x h1 h2 => (u5 x (Nat.lt_of_lt_of_le h1 hS.1)).trans (hS.2.1 x h1 h2), fun x hx => ?_⟩
    rcases List.mem_append.mp hx with h | h
    · exact hS.2.2 x h
    · rw [hL1 x h]
      exact B.2.2.2.2.2.2.1 _ hS.1
  exact k H.size (H.size + 1) (H.size + 2) (H.size + 3) (H.size + 4) _ _ _ _ _ _ _ _ _ _ _ _ _ _ B hE hPU hDU hSU hL U rfl (by rw [show ce + 5 = ce + 1 + 4 by omega, show sl + 100 = sl + 4 + 24 * 4 by omega]; exact XU)
end GMUL
