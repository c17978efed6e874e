/-! ===== the law: its script, its end ===== -/
def lw_eG (b Ln : Nat) (xs : Nat → Int32) : gm_Ex := fun p _ s m args below meth c A R Q => args = #[.ref b] ∧ lw_At p s m meth c b Ln xs ∧ A = (fun q => s.heap.size ≤ q) ∧ R = room_1 ∧ Q = lw_Z below #[.ref b] s
def lw_eA (b Ln : Nat) (xs : Nat → Int32) : am_Ex := fun p _ s m args below meth c A R ce sl Q => args = #[.ref b] ∧ lw_At p s m meth c b Ln xs ∧ A = (fun q => s.heap.size ≤ q) ∧ R = room_1 ∧ Q = lw_Z below #[.ref b] s ∧ ce = 94 ∧ sl = 2677
section LAWR
variable {G : am_G} {nL : Nat} {own : String} {d : Nat} {pc : Nat} {L L' : List (Option Value)} {st : List Value} {I : am_I} {J : am_J} {b Ln : Nat} {xs : Nat → Int32}
theorem a_sld {i : Nat} (hd : decode cL_law pc = .ok (.iaload, 1)) (hb : G.2.2.2 94 = b) (hL : Ln ≤ 3072) (hi : i < Ln) (k : AW G cL_law nL own d (lw_eA b Ln xs) (pc + 1) L (.int (xs i) :: st) I J) : AW G cL_law nL own d (lw_eA b Ln xs) pc L (.int (nI i) :: .ref 94 :: st) I J := by
  intro p e s m args below meth c A R ce sl Q H locs ls B hE hP hS hL
  obtain ⟨h1, h2, h3, h4, h5, h6, h7⟩ := id hE
  have k1 := k p e s m args below meth c A R ce sl Q H locs ls B hE hP hS hL
  show W p G.1 e R s m args below meth c H locs ce sl Q (F0 m pc ls (.int (nI i) :: .ref (G.2.2.2 94) :: st.map (am_v G.2.2.2)))
  rw [hb]
  refine va_sld (A := A) (b := b) (L := Ln) (xs := xs) B.1 B.2.1 h2.2.2.2.2.2.2.1 h2.2.2.2.2.2.2.2.1 (by rw [h3]; exact Nat.not_le.mpr h2.2.2.2.2.2.2.2.1) hS (vp_in_nI hi (by omega)) hd ?_
  rw [nI_clamp (by omega)]
  exact k1
theorem a_slen (hd : decode cL_law pc = .ok (.arraylength, 1)) (hb : G.2.2.2 94 = b) (k : AW G cL_law nL own d (lw_eA b Ln xs) (pc + 1) L (.int (nI Ln) :: st) I J) : AW G cL_law nL own d (lw_eA b Ln xs) pc L (.ref 94 :: st) I J := by
  intro p e s m args below meth c A R ce sl Q H locs ls B hE hP hS hL
  obtain ⟨h1, h2, h3, h4, h5, h6, h7⟩ := id hE
  have k1 := k p e s m args below meth c A R ce sl Q H locs ls B hE hP hS hL
  show W p G.1 e R s m args below meth c H locs ce sl Q (F0 m pc ls (.ref (G.2.2.2 94) :: st.map (am_v G.2.2.2)))
  rw [hb]
  exact va_slen (A := A) (b := b) (L := Ln) (xs := xs) B.1 B.2.1 h2.2.2.2.2.2.2.1 h2.2.2.2.2.2.2.2.1 (by rw [h3]; exact Nat.not_le.mpr h2.2.2.2.2.2.2.2.1) hS hd k1
theorem a_lend (hd : decode cL_law pc = .ok (.ireturn, 1)) : AW G cL_law nL own d (lw_eA b Ln xs) pc L [.int 1] I J := by
  intro p e s m args below meth c A R ce sl Q H locs ls B hE hP hS hL
  obtain ⟨rfl, h2, rfl, rfl, rfl, rfl, rfl⟩ := id hE
  refine va_forget (fun q hq => hS.2.2 q hq) ?_
  refine W.widen (k := 600000) (n := 7302250) (by omega) (by omega) ?_
  exact lw_ret h2.1 h2.2.1 h2.2.2.1 h2.2.2.2.2.2.2.2.2.1 hd
end LAWR
theorem g_awL {G : gm_G} {cc : ByteArray} {nL : Nat} {own nm : String} {d pc : Nat} {L : List (Option Value)} {st : List Value} {ad : Nat → Nat} {I : am_I} {J : am_J} {b Ln : Nat} {xs : Nat → Int32} (k : AW (G.1, G.2.1, G.2.2, ad) cc nL own d (lw_eA b Ln xs) pc L st I J) : GW G cc nL own nm d 94 2677 (lw_eG b Ln xs) pc (L.map (fun o => o.map (am_v ad))) (st.map (am_v ad)) (am_W G.2.2 ad I J) 94 2677 := by
  intro p e s m args below meth c A R Q H locs ls B hE hP hD hS hL
  obtain ⟨b1, b2, b3, b4, b5, b6, b7, b8, b9, b10⟩ := B
  refine k p e s m args below meth c A R 94 2677 Q H locs ls ⟨b1, b2, b3, b4, b5, ⟨b6.1, b6.2.2.2.2.2.2.2.2.1, b6.2.2.2.2.2.2.2.2.2.1⟩, fun i j hi hj h => ?_, fun i hi => ?_, b8, b9.1, b9.2⟩ ⟨hE.1, hE.2.1, hE.2.2.1, hE.2.2.2.1, hE.2.2.2.2, rfl, rfl⟩ hP hS (am_L_ad hL)
  · exact hD.1 i j _ _ (am_W_get hi) (am_W_get hj) h
  · exact hD.2 i _ (am_W_get hi)
theorem g_astore_n {G : gm_G} {cc : ByteArray} {nL : Nat} {own nm : String} {d mc ms : Nat} {Ex : gm_Ex} {pc : Nat} {L L' : List (Option Value)} {st : List Value} {ws : va_W} {ce sl : Nat} {q : Fin 4} {x : Nat} (hd : decode cc pc = .ok (.astore_n q, 1)) (hn : (q : Nat) < L.length) (hl : am_set L (q : Nat) (.ref x) = L') (k : GW G cc nL own nm d mc ms Ex (pc + 1) L' st ws ce sl) : GW G cc nL own nm d mc ms Ex pc L (.ref x :: st) ws ce sl := by
  intro p e s m args below meth c A R Q H locs ls B hE hP hD hS hL
  subst hl
  exact lv_astore_n B.1 B.2.1 hd rfl (am_L_has hL) (by rw [← hL.2.1]; exact hn) rfl (fun ls' h' => k _ _ _ _ _ _ _ _ _ _ _ _ _ _ B hE hP hD hS (am_L_set (v := .ref x) hL hn h'))
