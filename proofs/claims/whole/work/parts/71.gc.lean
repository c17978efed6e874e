/-! ===== contracts of constructors ===== -/
def gm_rm (d mc ms : Nat) : Room := { frames := d, cells := mc, slots := ms, locals := 40 * d }
def gm_Pc (G : gm_G) (As : List Value) (ws : va_W) (sz : Nat) : Array Value → State → Prop := fun a U => a = As.toArray ∧ U.heap.size = sz ∧ va_P G.2.1 vwCl ws U.heap ∧ va_D (fun _ => True) ws ∧ gm_K G U
def gm_Qc (G : gm_G) (K : va_W → Prop) (A : Nat → Prop) : Array Value → State → Outcome → State → Prop := fun _ u o t => o = .returned none ∧ (∃ ws', K ws' ∧ va_P G.2.1 vwCl ws' t.heap ∧ va_D A ws') ∧ va_F A u t
def CI (G : gm_G) (d : Nat) (y : MethodName) (As : List Value) (ws : va_W) (mc ms : Nat) (K : va_W → Prop) : Prop :=
  ∃ (cc : ByteArray) (maxL : Nat), maxL ≤ 21 ∧ Cond.code y cc maxL none ∈ am_ws ∧ ∀ sz, Met G.1 y (.code y cc maxL none :: am_ws) (gm_rm d mc ms) (gm_Pc G As ws sz) (gm_Qc G K (va_A ws sz)) mc ms (va_A ws sz)
def gm_ex (G : gm_G) (mc ms : Nat) (K : va_W → Prop) : gm_Ex := fun p e s m args below meth c A R Q => meth.sig.returnType = none ∧ meth.locks = false ∧ Q = MQ below (gm_Qc G K A) args s mc ms A
theorem am_l0_id : ∀ As : List Value, As.map (am_v id) = As
  | [] => rfl
  | v :: vs => by rw [List.map_cons, am_l0_id vs]; cases v <;> rfl
theorem CI.of {G : gm_G} {d mc ms : Nat} {y : MethodName} {As : List Value} {ws : va_W} {K : va_W → Prop} {L0 : List (Option Value)} (cc : ByteArray) (maxL : Nat) (h0 : maxL ≤ 21) (hy : plainName y.cls = true) (hc : Cond.code y cc maxL none ∈ am_ws)
    (hs : (am_l0 As).length ≤ maxL) (hL0 : am_l0 As ++ List.replicate (maxL - (am_l0 As).length) none = L0) (k : GW G cc maxL y.cls y.name d mc ms (gm_ex G mc ms K) 0 L0 [] ws 0 0) : CI G d y As ws mc ms K := by
  refine ⟨cc, maxL, h0, hc, fun sz => Met.ofW (cc := cc) (maxL := maxL) (ret := none) hy rfl ?_⟩
  intro p e s m args below meth c s₁ B hml hv
  obtain ⟨rfl, hsz, hP, hD0, hK⟩ := hv
  have hts := atoms_spec (ws := .code y cc maxL none :: am_ws) B.pre
  have hown : s.vm.findClass y.cls = some m.cls := findClass_of_methodNamed B.named
  have hnm : meth.name = y.name := (name_of_methodNamed B.named B.method).1
  have hl := lv_entry (As.map (am_v id)) (n := maxL) (by rw [am_l0_len]; exact hs)
  rw [am_l0_id] at hl
  rw [lg_entry_eq]
  generalize (lg_sl As ++ List.replicate (maxL - (lg_sl As).length) Slot.unset).toArray = ls at hl ⊢
  subst hsz
  refine k p e s m _ below meth c (va_A ws s.heap.size) (gm_rm d mc ms) _ s.heap [] ls ⟨B.exec, B.bytes, hml, hown, fun w h => hts w (List.mem_cons_of_mem _ h), hK, fun q hq => Or.inr hq, ⟨Nat.le_refl _, Nat.le_refl _⟩, ⟨Nat.le_refl _, Nat.le_refl _⟩, hnm⟩ ⟨B.returns, B.notSynchronized, rfl⟩ hP (hD0.self (sz := s.heap.size)) va_S.rf ?_
  refine ⟨hl.1, ?_, hl.2.1, fun i v hv => ?_⟩
  · rw [← hL0, List.length_append, List.length_replicate]; omega
  · rw [← hL0, List.getElem?_append] at hv
    split at hv
    · have h1 := am_l0_mem id As 0 i v hv
      rw [Nat.zero_add, am_l0_id] at h1
      exact hl.2.2 _ h1
    · have h2 := List.mem_of_getElem? hv
      rw [List.mem_replicate] at h2
      exact absurd h2.2 (by simp)
theorem CI.mono {G : gm_G} {d mc ms : Nat} {y : MethodName} {As : List Value} {ws : va_W} {K K' : va_W → Prop} (h : CI G d y As ws mc ms K) (hK : ∀ w, K w → K' w) : CI G d y As ws mc ms K' := by
  obtain ⟨cc, maxL, h0, hc, hM⟩ := h
  refine ⟨cc, maxL, h0, hc, fun sz => ?_⟩
  intro p e ha hc hk s m args below hf happ hpre hX
  obtain ⟨k, o, h1, h2, h3, ⟨⟨e1, ⟨w, e2, e3⟩, e4⟩, h5⟩⟩ := hM sz p e ha hc hk s m args below hf happ hpre hX
  exact ⟨k, o, h1, h2, h3, ⟨⟨e1, ⟨w, hK _ e2, e3⟩, e4⟩, h5⟩⟩
section GWC
variable {G : gm_G} {cc : ByteArray} {nL : Nat} {own nm : String} {d mc ms : Nat} {Ex : gm_Ex} {pc : Nat} {L L' : List (Option Value)} {st rest As : List Value} {ws : va_W} {ce sl : Nat} {K : va_W → Prop}
theorem g_ret (hd : decode cc pc = .ok (.return_, 1)) (hK : K ws) : GW G cc nL own nm d mc ms (gm_ex G mc ms K) pc L [] ws mc ms := by
  intro p e s m args below meth c A R Q H locs ls B hE hP hD hS hL
  obtain ⟨h1, h2, rfl⟩ := hE
  exact W.vret B.1 B.2.1 h1 (fun t ht hW => ⟨rfl, ⟨ws, hK, by rw [ht]; exact hP, hD⟩, hS.F ht⟩) hS.2.2 hd h2
theorem gm_blind {sz : Nat} : FrameBlind (gm_Pc G As ws sz) := by
  intro a U g mk q
  obtain ⟨q1, q2, q3, q4, h1, h2, h3, h4, h5, h6, h7, h8, h9, h10, h11⟩ := q
  exact ⟨q1, q2, q3, q4, va_K.moved (u := U) (U := U.calling g mk a) (Vm.Alike.refl U.vm) h1, fun r hr => va_tabs (A := #[]) (u := U) rfl rfl (h2 r hr), h3, h4, h5, h6, h7, va_AO.moved (u := U) (U := U.calling g mk a) (Vm.Alike.refl U.vm) h8, va_tabs (A := #[]) (u := U) rfl rfl h9, va_tabs (A := #[]) (u := U) rfl rfl h10, h11⟩
theorem gm_pre {s : State} {H : Heap} {A : Nat → Prop} (hP : va_P G.2.1 vwCl ws H) (hD : va_D A ws) (hK : gm_K G s) : ∀ U : State, U.heap = H → s.WarmedH U.vm → gm_Pc G As ws H.size As.toArray U :=
  fun U hU hW => ⟨rfl, by rw [hU], by rw [hU]; exact hP, ⟨hD.1, fun _ _ _ => trivial⟩, hK.warm hW⟩
theorem gm_after {p : Program} {e : Env} {s : State} {m : MethodId} {args : Array Value} {below : List Frame} {meth : Method} {c : Code} {A : Nat → Prop} {R : Room} {Q : State → Prop} {H : Heap} {locs : List Loc} {ls : Array Slot} {a : Array Value} {st0 : List Value} {mc' ms' : Nat}
    (hr : va_Run p G.1 e R s m args below meth c H locs ce sl mc' ms' (F0 m pc ls st0) rest (gm_Qc G K (va_A ws H.size) a) (va_A ws H.size)) (hD : va_D A ws) (hS : va_S A s.heap H locs) (hA : ∀ q, s.heap.size ≤ q → A q)
    (kk : ∀ (ws' : va_W) (H1 : Heap) (locs1 : List Loc), K ws' → va_P G.2.1 vwCl ws' H1 → va_D A ws' → va_S A s.heap H1 locs1 → W p G.1 e R s m args below meth c H1 locs1 (ce + mc') (sl + ms') Q (F0 m (pc + 3) ls rest)) : W p G.1 e R s m args below meth c H locs ce sl Q (F0 m pc ls st0) := by
  intro T hT X
  obtain ⟨v, st₀, t, T', L, h0, X', hL, e1, e2, ⟨ho, ⟨ws', hK, hP, hD'⟩, hF⟩, stp⟩ := hr T hT X
  cases ho
  have hAA : ∀ q, va_A ws H.size q → A q := fun q hq => hq.elim (fun ⟨k, x, hx⟩ => hD.2 k _ hx) (fun h => hA q (Nat.le_trans hS.1 h))
  obtain ⟨f1, f2⟩ := hF
  rw [h0] at f1 f2
  have hS' : va_S A s.heap T'.heap (locs ++ L) := by
    rw [e1]
    refine ⟨Nat.le_trans hS.1 f1, fun q h1 h2 => ?_, fun q hq => ?_⟩
    · rw [f2 q (Nat.lt_of_lt_of_le h1 hS.1) (fun h => h2 (hAA q h))]
      exact hS.2.1 q h1 h2
    · rcases List.mem_append.mp hq with h | h
      · exact hS.2.2 q h
      · exact hAA _ (hL q h)
  obtain ⟨t2, a1, b1⟩ := kk ws' T'.heap (locs ++ L) hK (by rw [e1]; exact hP) ⟨hD'.1, fun k q hq => hAA _ (hD'.2 k q hq)⟩ hS' T' rfl X'
  exact ⟨t2, stp t2 a1, b1⟩
theorem gm_rest {rest : List Value} {m : MethodId} {ls : Array Slot} {st0 : List Value} (h : (rest.map fun v => v.category).sum ≤ 8) : 2 * (F0 m pc ls st0).monitorRoom + (rest.map fun v => v.category).sum ≤ 8 := by
  have : (F0 m pc ls st0).monitorRoom = 0 := rfl
  omega
theorem g_callI {y : MethodName} {idx n a mc' ms' : Nat} (hd : decode cc pc = .ok (.invokespecial idx, 3)) (m1 : Cond.methodLink own idx y ∈ am_ws) (m2 : Cond.instanceMethod y ∈ am_ws) (m3 : Cond.initialized y.cls ∈ am_ws) (m4 : am_nm y n) (m5 : y.name = "<init>") (hn : As.length = n) (hst : st = As.reverse ++ .ref a :: rest) (hW : (rest.map fun v => v.category).sum ≤ 8) (hc : ce + mc' ≤ mc ∧ sl + ms' ≤ ms)
    (kk : CI G d y (.ref a :: As) ws mc' ms' (fun ws' => GW G cc nL own nm (d + 1) mc ms Ex (pc + 3) L rest ws' (ce + mc') (sl + ms'))) : GW G cc nL own nm (d + 1) mc ms Ex pc L st ws ce sl := by
  intro p e s m args below meth c A R Q H locs ls B hE hP hD hS hL
  obtain ⟨cc', maxL, h0, hcd, hM⟩ := kk
  have hts := B.2.2.2.2.1
  have hR := B.2.2.2.2.2.2.2.1
  have hR2 := B.2.2.2.2.2.2.2.2.1
  subst hst
  refine gm_after (rest := rest) (va_runI (Ts := am_ws) (nL := nL) (own := own) (b := a) (As := As) ⟨B.1, B.2.1, B.2.2.1, B.2.2.2.1, hts⟩ (hM H.size) ⟨callB_of (Ts := am_ws) (ws' := am_ws) n hts (am_GoodIn (fun w h => (List.mem_cons.mp h).elim (fun e => e ▸ hcd) id)) rfl rfl rfl (hts _ m3) (hts _ m1) m4 ⟨hR.1, by show 8 + (maxL + 11) + 40 * d ≤ _; omega⟩, m5, hts _ m2⟩ ⟨gm_blind, gm_pre hP hD B.2.2.2.2.2.1⟩ rfl hn hL.1 rfl (gm_rest hW) hd ⟨by omega, by omega⟩) hD hS B.2.2.2.2.2.2.1 (fun ws' H1 locs1 hq hP1 hD1 hS1 => hq _ _ _ _ _ _ _ _ _ _ _ _ _ _ B hE hP1 hD1 hS1 hL)
theorem g_callN {y : MethodName} {idx n a mc' ms' : Nat} {host : String} (hd : decode cc pc = .ok (.invokespecial idx, 3)) (m1 : (own, idx, y, host) ∈ gm_nests) (m2 : Cond.instanceMethod y ∈ am_ws) (m3 : Cond.initialized y.cls ∈ am_ws) (m4 : am_nm y n) (m5 : y.name = "<init>") (hn : As.length = n) (hst : st = As.reverse ++ .ref a :: rest) (hW : (rest.map fun v => v.category).sum ≤ 8) (hc : ce + mc' ≤ mc ∧ sl + ms' ≤ ms)
    (kk : CI G d y (.ref a :: As) ws mc' ms' (fun ws' => GW G cc nL own nm (d + 1) mc ms Ex (pc + 3) L rest ws' (ce + mc') (sl + ms'))) : GW G cc nL own nm (d + 1) mc ms Ex pc L st ws ce sl := by
  intro p e s m args below meth c A R Q H locs ls B hE hP hD hS hL
  obtain ⟨cc', maxL, h0, hcd, hM⟩ := kk
  have hts := B.2.2.2.2.1
  have hR := B.2.2.2.2.2.2.2.1
  have hR2 := B.2.2.2.2.2.2.2.2.1
  subst hst
  refine gm_after (rest := rest) (va_runIN (Ts := am_ws) (nL := nL) (own := own) (b := a) (As := As) ⟨B.1, B.2.1, B.2.2.1, B.2.2.2.1, hts⟩ (hM H.size) ⟨va_cnB (Ts := am_ws) (ws' := am_ws) n hts (am_GoodIn (fun w h => (List.mem_cons.mp h).elim (fun e => e ▸ hcd) id)) rfl rfl rfl (B.2.2.2.2.2.1.2.1 _ m1) (hts _ m3) m4 ⟨hR.1, by show 8 + (maxL + 11) + 40 * d ≤ _; omega⟩, m5, hts _ m2⟩ ⟨gm_blind, gm_pre hP hD B.2.2.2.2.2.1⟩ rfl hn hL.1 rfl (gm_rest hW) hd ⟨by omega, by omega⟩) hD hS B.2.2.2.2.2.2.1 (fun ws' H1 locs1 hq hP1 hD1 hS1 => hq _ _ _ _ _ _ _ _ _ _ _ _ _ _ B hE hP1 hD1 hS1 hL)
theorem g_callS {y : MethodName} {idx n mc' ms' : Nat} (hd : decode cc pc = .ok (.invokestatic idx, 3)) (hm : am_mS own idx y n) (hn : As.length = n) (hst : st = As.reverse ++ rest) (hW : (rest.map fun v => v.category).sum ≤ 8) (hc : ce + mc' ≤ mc ∧ sl + ms' ≤ ms)
    (kk : CI G d y As ws mc' ms' (fun ws' => GW G cc nL own nm (d + 1) mc ms Ex (pc + 3) L rest ws' (ce + mc') (sl + ms'))) : GW G cc nL own nm (d + 1) mc ms Ex pc L st ws ce sl := by
  intro p e s m args below meth c A R Q H locs ls B hE hP hD hS hL
  obtain ⟨cc', maxL, h0, hcd, hM⟩ := kk
  obtain ⟨m1, m2, m4, m5⟩ := hm
  have hts := B.2.2.2.2.1
  have hR := B.2.2.2.2.2.2.2.1
  have hR2 := B.2.2.2.2.2.2.2.2.1
  subst hst
  refine gm_after (rest := rest) (va_runS (Ts := am_ws) (nL := nL) (own := own) (As := As) ⟨B.1, B.2.1, B.2.2.1, B.2.2.2.1, hts⟩ (hM H.size) ⟨callB_of (Ts := am_ws) (ws' := am_ws) n hts (am_GoodIn (fun w h => (List.mem_cons.mp h).elim (fun e => e ▸ hcd) id)) rfl rfl rfl (hts _ m4) (hts _ m1) m5 ⟨hR.1, by show 8 + (maxL + 11) + 40 * d ≤ _; omega⟩, hts _ m2⟩ ⟨gm_blind, gm_pre hP hD B.2.2.2.2.2.1⟩ rfl hn hL.1 rfl (gm_rest hW) hd ⟨by omega, by omega⟩) hD hS B.2.2.2.2.2.2.1 (fun ws' H1 locs1 hq hP1 hD1 hS1 => hq _ _ _ _ _ _ _ _ _ _ _ _ _ _ B hE hP1 hD1 hS1 hL)
/-! arrays -/
theorem g_iast {q0 a n i : Nat} {x : Int32} {f : Nat → Int32} {t : Nat} {ws' : va_W} (hd : decode cc pc = .ok (.iastore, 1)) (he : ws[q0]? = some (a, .inl (G.2.2 t, n, .inl f))) (ht : t = 0) (hi : i < n) (hn : n < 2 ^ 31) (hw : ws.set q0 (a, .inl (G.2.2 t, n, .inl (upd f i x))) = ws') (k : GW G cc nL own nm d mc ms Ex (pc + 1) L st ws' ce sl) : GW G cc nL own nm d mc ms Ex pc L (.int x :: .int (nI i) :: .ref a :: st) ws ce sl := by
  intro p e s m args below meth c A R Q H locs ls B hE hP hD hS hL
  subst hw
  subst ht
  refine va_iast B.1 B.2.1 B.2.2.2.2.2.1.1 hP hD hS q0 0 he rfl (vp_in_nI hi hn) hd (fun H1 locs1 hP1 hD1 hS1 => ?_)
  rw [nI_clamp (by omega)] at hP1 hD1
  exact k _ _ _ _ _ _ _ _ _ _ _ _ _ _ B hE hP1 hD1 hS1 hL
end GWC
