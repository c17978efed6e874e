/-! ===== from the world that grows to the machine of fixed places ===== -/
def gm_xA (G : gm_G) (mc ms : Nat) (K : va_W → Prop) : am_Ex := fun _ _ s _ args below meth _ A _ ce sl Q => meth.sig.returnType = none ∧ meth.locks = false ∧ ce = mc ∧ sl = ms ∧ Q = MQ below (gm_Qc G K A) args s mc ms A
theorem am_L_ad {ad : Nat → Nat} {ls : Array Slot} {n : Nat} {L : List (Option Value)} (h : am_L id ls n (L.map (fun o => o.map (am_v ad)))) : am_L ad ls n L := by
  refine ⟨h.1, by have := h.2.1; rw [List.length_map] at this; exact this, h.2.2.1, fun i v hv => ?_⟩
  have h1 := h.2.2.2 i (am_v ad v) (by rw [List.getElem?_map, hv]; rfl)
  rw [h1]
  cases v <;> rfl
section GSW
variable {G : gm_G} {cc : ByteArray} {nL : Nat} {own nm : String} {d mc ms : Nat} {Ex : gm_Ex} {pc : Nat} {L : List (Option Value)} {st : List Value} {ws ws' : va_W} {ce sl : Nat} {K : va_W → Prop} {ad : Nat → Nat} {I : am_I} {J : am_J}
theorem g_awq (k : AWq (G.1, G.2.1, G.2.2, ad) cc nL own d (gm_xA G mc ms K) pc L st I J) : GW G cc nL own nm d mc ms (gm_ex G mc ms K) pc (L.map (fun o => o.map (am_v ad))) (st.map (am_v ad)) (am_Wq G.2.2 ad I J) mc ms := by
  intro p e s m args below meth c A R Q H locs ls B hE hP hD hS hL
  obtain ⟨b1, b2, b3, b4, b5, b6, b7, b8, b9, b10⟩ := B
  refine k p e s m args below meth c A R mc ms Q H locs ls ⟨b1, b2, b3, b4, b5, ⟨b6.1, b6.2.2.2.2.2.2.2.2.1, b6.2.2.2.2.2.2.2.2.2.1⟩, fun i j hi hj h => ?_, fun i hi => ?_, b8, b9.1, b9.2⟩ ⟨hE.1, hE.2.1, rfl, rfl, hE.2.2⟩ hP hS (am_L_ad hL)
  · exact hD.1 i j _ _ (am_W_getq hi) (am_W_getq hj) h
  · exact hD.2 i _ (am_W_getq hi)
theorem g_aw (k : AW (G.1, G.2.1, G.2.2, ad) cc nL own d (gm_xA G mc ms K) pc L st I J) : GW G cc nL own nm d mc ms (gm_ex G mc ms K) pc (L.map (fun o => o.map (am_v ad))) (st.map (am_v ad)) (am_W G.2.2 ad I J) mc ms := by
  intro p e s m args below meth c A R Q H locs ls B hE hP hD hS hL
  obtain ⟨b1, b2, b3, b4, b5, b6, b7, b8, b9, b10⟩ := B
  refine k p e s m args below meth c A R mc ms Q H locs ls ⟨b1, b2, b3, b4, b5, ⟨b6.1, b6.2.2.2.2.2.2.2.2.1, b6.2.2.2.2.2.2.2.2.2.1⟩, fun i j hi hj h => ?_, fun i hi => ?_, b8, b9.1, b9.2⟩ ⟨hE.1, hE.2.1, rfl, rfl, hE.2.2⟩ hP hS (am_L_ad hL)
  · exact hD.1 i j _ _ (am_W_get hi) (am_W_get hj) h
  · exact hD.2 i _ (am_W_get hi)
theorem a_retq (hd : decode cc pc = .ok (.return_, 1)) (hK : K (am_Wq G.2.2 ad I J)) : AWq (G.1, G.2.1, G.2.2, ad) cc nL own d (gm_xA G mc ms K) pc L [] I J := by
  intro p e s m args below meth c A R ce sl Q H locs ls B hE hP hS hL
  obtain ⟨h1, h2, rfl, rfl, rfl⟩ := hE
  exact W.vret B.1 B.2.1 h1 (fun t ht hW => ⟨rfl, ⟨_, hK, by rw [ht]; exact hP, am_Dq B.2.2.2.2.2.2.1 B.2.2.2.2.2.2.2.1⟩, hS.F ht⟩) hS.2.2 hd h2
theorem a_ret (hd : decode cc pc = .ok (.return_, 1)) (hK : K (am_W G.2.2 ad I J)) : AW (G.1, G.2.1, G.2.2, ad) cc nL own d (gm_xA G mc ms K) pc L [] I J := by
  intro p e s m args below meth c A R ce sl Q H locs ls B hE hP hS hL
  obtain ⟨h1, h2, rfl, rfl, rfl⟩ := hE
  exact W.vret B.1 B.2.1 h1 (fun t ht hW => ⟨rfl, ⟨_, hK, by rw [ht]; exact hP, am_D B.2.2.2.2.2.2.1 B.2.2.2.2.2.2.2.1⟩, hS.F ht⟩) hS.2.2 hd h2
theorem g_sub (is : List Nat) (hn : va_nd is = true) (hs : is.map (fun i => ws[i]?) = ws'.map some) (k : GW G cc nL own nm d mc ms Ex pc L st ws' ce sl) : GW G cc nL own nm d mc ms Ex pc L st ws ce sl := by
  intro p e s m args below meth c A R Q H locs ls B hE hP hD hS hL
  refine k _ _ _ _ _ _ _ _ _ _ _ _ _ _ B hE (fun i q hq => ?_) (hD.sub is hn hs) hS hL
  have h1 : (is.map (fun i => ws[i]?))[i]? = some (some q) := by rw [hs, List.getElem?_map, hq]; rfl
  rw [List.getElem?_map] at h1
  cases hi : is[i]? with
  | none => rw [hi] at h1; cases h1
  | some j =>
    rw [hi] at h1
    exact hP j q (Option.some.inj h1)
theorem g_cell {q0 a : Nat} {cA : ClassId} {x y : vp_A} (he : ws[q0]? = some (a, .inl (cA, x))) (hc : vp_cell cA x = vp_cell cA y) (hw : ws.set q0 (a, .inl (cA, y)) = ws') (k : GW G cc nL own nm d mc ms Ex pc L st ws' ce sl) : GW G cc nL own nm d mc ms Ex pc L st ws ce sl := by
  intro p e s m args below meth c A R Q H locs ls B hE hP hD hS hL
  subst hw
  refine k _ _ _ _ _ _ _ _ _ _ _ _ _ _ B hE (hP.set hD he ?_ (fun _ _ => rfl)) (hD.set he) hS hL
  have h1 := hP q0 _ he
  show H[a]? = some (vp_cell cA y)
  rw [← hc]
  exact h1
end GSW
