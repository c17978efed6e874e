/-! ===== byte[4][24] ===== -/
def mgO (h i : Nat) : Nat → Value := fun j => if j < i then .ref (h + 1 + j) else .null
theorem mgO_s (h i : Nat) : updV (mgO h i) i (.ref (h + 1 + i)) = mgO h (i + 1) := by
  funext j
  simp only [updV, mgO]
  by_cases e : j = i
  · subst e; simp
  · by_cases q : j < i
    · simp [e, q, show j < i + 1 by omega]
    · simp [e, q, show ¬ j < i + 1 by omega]
/-- i of the rows stand -/
def mgI (p : Program) (l : Launch) (e : Env) (R : Room) (s : State) (m : MethodId) (args : Array Value) (below : List Frame) (meth : Method) (c : Code) (T : State) (cO cI : ClassId) (locs : List Loc) (ce sl i : Nat) (U : State) : Prop :=
  (∃ L, Stand p l e R s m args below meth c U (locs ++ L) (ce + 1 + i) (sl + 4 + 24 * i) ∧ ∀ q ∈ L, q.base = T.heap.size) ∧ U.vm = T.vm ∧ U.heap.size = T.heap.size + 1 + i ∧ U.heap[T.heap.size]? = some (arrV cO 4 (mgO T.heap.size i)) ∧ (∀ j, j < i → U.heap[T.heap.size + 1 + j]? = some (arrV cI 24 (fun _ => .int 0))) ∧ ∀ q, q < T.heap.size → U.heap[q]? = T.heap[q]?
set_option maxHeartbeats 4000000 in
theorem mg_step {p : Program} {l : Launch} {e : Env} {R : Room} {s : State} {m : MethodId} {args : Array Value} {below : List Frame} {meth : Method} {c : Code} {T : State} {cO cI : ClassId} {locs : List Loc} {ce sl i : Nat} {U : State} (hi : i < 4) (h : mgI p l e R s m args below meth c T cO cI locs ce sl i U) : mgI p l e R s m args below meth c T cO cI locs ce sl (i + 1) ((U.pushCell (arrV cI 24 (fun _ => .int 0))).setCell T.heap.size ((arrV cO 4 (mgO T.heap.size i)).setSlot i (.ref U.heap.size))) := by
  obtain ⟨⟨L, X, hL⟩, h1, h2, h3, h4, h5⟩ := h
  have hlt : T.heap.size < U.heap.size := by omega
  have hc : (U.pushCell (arrV cI 24 (fun _ => .int 0))).heap[T.heap.size]? = some (arrV cO 4 (mgO T.heap.size i)) := by rw [State.heap_pushCell_of_lt (h := hlt)]; exact h3
  have X2 := (X.pushed (arrV cI 24 (fun _ => .int 0))).stored hc i (.ref U.heap.size)
  rw [arrV_size] at X2
  refine ⟨⟨L ++ [⟨T.heap.size, i⟩], ?_, fun q hq => ?_⟩, h1, ?_, ?_, fun j hj => ?_, fun q hq => ?_⟩
  · rw [← List.append_assoc, show ce + 1 + (i + 1) = ce + 1 + i + 1 by omega, show sl + 4 + 24 * (i + 1) = sl + 4 + 24 * i + 24 by omega]
    exact X2
  · rcases List.mem_append.mp hq with z | z
    · exact hL q z
    · rw [List.mem_singleton.mp z]
  · rw [State.heap_setCell, State.heap_pushCell, Array.size_setIfInBounds, Array.size_push, h2]; omega
  · rw [arrV_store, h2, mgO_s]
    exact heapAt_setCell_self _ (show T.heap.size < (U.pushCell (arrV cI 24 (fun _ => .int 0))).heap.size by rw [State.heap_pushCell, Array.size_push]; omega)
  · rw [heapAt_setCell_ne _ (show T.heap.size ≠ T.heap.size + 1 + j by omega)]
    by_cases ej : j = i
    · subst ej
      rw [← h2]
      exact State.heap_pushCell_size _ _
    · rw [State.heap_pushCell_of_lt (h := show T.heap.size + 1 + j < U.heap.size by omega)]
      exact h4 j (by omega)
  · rw [heapAt_setCell_ne _ (show T.heap.size ≠ q by omega), State.heap_pushCell_of_lt (h := show q < U.heap.size by omega)]
    exact h5 q hq
set_option maxHeartbeats 4000000 in
theorem mg_make {p : Program} {l : Launch} {e : Env} {R : Room} {s : State} {m : MethodId} {args : Array Value} {below : List Frame} {meth : Method} {c : Code} {T : State} {cO cI cB : ClassId} {kO kI : Class} {locs : List Loc} {ce sl : Nat} {g : JFrame} {E : CtlPost} {d : Bool} {acts : List Action} (X : Stand p l e R s m args below meth c T locs ce sl) (hO : T.vm.classes[cO]? = some kO) (hOk : kO.kind = .array cI (.array .byte)) (hI : T.vm.classes[cI]? = some kI) (hIk : kI.kind = .array cB .byte) (hc : ce + 5 ≤ R.cells) (hs : sl + 100 ≤ R.slots)
    {Q : Addr → Pre} (hq : ∀ d' acts' U, mgI p l e R s m args below meth c T cO cI locs ce sl 4 U → Q T.heap.size d' acts' (U.setTop g)) : wp (Op.multianewarray.make cO [nI 4, nI 24]) Q E e d acts (T.setTop g) := by
  have hl1 : ¬ (4 : Nat) > e.platform.arrayLengthLimit := by rw [Launch.admits_arrayLengthLimit X.admits]; omega
  have hh1 : ¬ 4 * componentBytes (.array .byte) > e.platform.maxHeapBytes := by rw [Launch.admits_maxHeapBytes X.admits]; decide
  have hl2 : ¬ (24 : Nat) > e.platform.arrayLengthLimit := by rw [Launch.admits_arrayLengthLimit X.admits]; omega
  have hh2 : ¬ 24 * componentBytes .byte > e.platform.maxHeapBytes := by rw [Launch.admits_maxHeapBytes X.admits]; decide
  have n4 : ¬ nI 4 < 0 := by decide
  have n24 : ¬ nI 24 < 0 := by decide
  have c4 : (nI 4).toNatClampNeg = 4 := by decide
  have c24 : (nI 24).toNatClampNeg = 24 := by decide
  have hfind : ([nI 24].find? (· < 0)) = none := by decide
  obtain ⟨r1, r2⟩ := X.roomAbove (a := 5) (b := 100) hc hs
  rw [Op.multianewarray.make]
  simp only [wp_bind', W.ite, n4, if_false, wp_pure', W.theClass, State.vm_setTop, hO, hOk, Option.some.injEq, exists_eq_left', c4]
  refine W.newArray_of (k := kO) hO hOk hl1 hh1 (by show T.heap.size < _; omega) (by show T.slotsUsed + 4 ≤ _; omega) rfl (fun acts' => ?_)
  simp only [hfind]
  rw [ite_self, wp_bind', Std.Legacy.Range.forIn_eq_forIn_range']
  show wp (forIn (List.range' 0 4 1) PUnit.unit _) _ E e d acts' _
  refine wp_forIn_inv (fun rest s' => ∃ i U, i ≤ 4 ∧ rest = List.range' i (4 - i) ∧ s' = U.setTop g ∧ mgI p l e R s m args below meth c T cO cI locs ce sl i U) _ _ ⟨0, T.pushCell (arrV cO 4 (mgO T.heap.size 0)), by omega, rfl, ?_, ?_⟩ ?_ ?_
  · rw [show mgO T.heap.size 0 = (fun _ => Value.null) from funext fun j => by simp [mgO], ← arrV_new]
    rfl
  · refine ⟨⟨[], ?_, fun q hq => by cases hq⟩, rfl, ?_, State.heap_pushCell_size _ _, fun j hj => by omega, fun q hq => State.heap_pushCell_of_lt _ _ hq⟩
    · have X1 := X.pushed (arrV cO 4 (mgO T.heap.size 0))
      rw [arrV_size] at X1
      rw [List.append_nil]
      exact X1
    · rw [State.heap_pushCell, Array.size_push]
  · rintro x rest s' d' acts2 Q' ⟨i, U, hi, hl, rfl, hM⟩ hnext
    have hlt : i < 4 := by
      rcases Nat.lt_or_ge i 4 with h | h
      · exact h
      · rw [show 4 - i = 0 by omega] at hl; simp at hl
    obtain ⟨rfl, hrest⟩ : x = i ∧ rest = List.range' (i + 1) (4 - (i + 1)) := by
      rw [show 4 - i = (4 - (i + 1)) + 1 by omega, List.range'_succ] at hl
      exact ⟨(List.cons.inj hl).1, (List.cons.inj hl).2⟩
    obtain ⟨⟨L, XU, hL⟩, h1, h2, h3, h4, h5⟩ := id hM
    obtain ⟨u1, u2⟩ := XU.roomAbove (a := 1) (b := 24) (by omega) (by omega)
    have hIU : U.vm.classes[cI]? = some kI := by rw [h1]; exact hI
    simp only [wp_bind']
    rw [Op.multianewarray.make]
    simp only [wp_bind', W.ite, n24, if_false, wp_pure', W.theClass, State.vm_setTop, hIU, hIk, Option.some.injEq, exists_eq_left', c24]
    refine W.newArray_of (k := kI) hIU hIk hl2 hh2 (by show U.heap.size < _; omega) (by show U.slotsUsed + 24 ≤ _; omega) rfl (fun acts3 => ?_)
    simp only [wp_bind', W.writeLoc, wp_pure']
    have hlt0 : T.heap.size < U.heap.size := by omega
    refine ⟨arrV cO 4 (mgO T.heap.size x), ?_, by simp [arrV], by rw [arrV_size]; exact hlt, ?_, hnext _ _ _ ⟨x + 1, _, by omega, hrest, ?_, mg_step hlt hM⟩⟩
    · show (U.pushCell _).heap[T.heap.size]? = _
      rw [State.heap_pushCell_of_lt (h := hlt0)]; exact h3
    · have hOU : U.vm.classes[cO]? = some kO := by rw [h1]; exact hO
      simp [State.fitsSlot, State.slotType?, arrV, hOU, hOk]
      rfl
    · rw [← arrV_new]
      rfl
  · rintro s' d' acts2 ⟨i, U, hi, hl, rfl, hM⟩
    have hi4 : i = 4 := by
      rcases Nat.lt_or_ge i 4 with h | h
      · rw [show 4 - i = (4 - (i + 1)) + 1 by omega, List.range'_succ] at hl; cases hl
      · omega
    subst hi4
    simp only [wp_pure']
    exact hq _ _ U hM
