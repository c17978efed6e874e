/-! ===== the law: its loop, from its entry ===== -/
theorem lw_low {Ln i : Nat} (hL : Ln ≤ 3072) (hi : i ≤ 3072) (h : ¬ nI Ln - nI 6 < nI i) : i + 6 ≤ Ln := by
  rw [Int32.lt_iff_toInt_lt] at h
  have e1 : (nI i).toInt = (i : Int) := Int32.toInt_ofNat_of_lt (by omega)
  have e2 : (nI Ln - nI 6).toInt = (Ln : Int) - 6 := by
    rw [Int32.toInt_sub, show (nI Ln).toInt = (Ln : Int) from Int32.toInt_ofNat_of_lt (by omega), show (nI 6).toInt = 6 from rfl]
    exact Int.bmod_eq_of_le (by omega) (by omega)
  rw [e1, e2] at h
  omega
set_option maxHeartbeats 4000000 in
set_option maxRecDepth 100000 in
theorem lw_lp {G : am_G} {d b Ln : Nat} {xs : Nat → Int32} (hb : G.2.2.2 94 = b) (hL : Ln ≤ 3072) : ∀ (n i : Nat), Ln + 6 ≤ i + n → i ≤ Ln → ∀ (I : am_I) (J : am_J), cpE I J → AW G cL_law 4 RL (d + 46) (lw_eA b Ln xs) 18 [some (.ref 94), some (.ref 0), some (.ref 63), some (.int (nI i))] [] I J := by
  intro n
  induction n with
  | zero => intro i h1 h2; omega
  | succ n ih =>
    intro i h1 h2 I J hc
    refine a_iload_n dL_law_18 rfl ?_
    refine a_aload_n dL_law_19 rfl ?_
    refine a_slen dL_law_20 hb ?_
    refine a_bipush (v := nI 6) dL_law_21 (by decide) ?_
    refine a_isub dL_law_23 rfl ?_
    refine a_icmp_gt (tgt := 1259) dL_law_24 (by decide) (fun h => ?_) (fun h => ?_)
    · refine a_iconst (v := 1) dL_law_1259 (by decide) ?_
      exact a_lend dL_law_1260
    · have hi := lw_low hL (by omega) h
      have kx : ∀ I J, cpE I J → AW G cL_law 4 RL (d + 46) (lw_eA b Ln xs) 1253 [some (.ref 94), some (.ref 0), some (.ref 63), some (.int (nI i))] [] I J := fun I J hc2 => by
        refine a_iinc (v := nI (i + 6)) (L' := [_, _, _, _]) dL_law_1253 rfl (nI_add _ _) rfl ?_
        refine a_goto (tgt := 18) dL_law_1256 (by decide) ?_
        exact ih (i + 6) (by omega) (by omega) I J hc2
      refine a_aload_n dL_law_27 rfl ?_
      refine a_iload_n dL_law_28 rfl ?_
      refine a_sld dL_law_29 hb hL (by omega) ?_
      refine a_bipush (v := nI 63) dL_law_30 (by decide) ?_
      refine a_iand dL_law_32 rfl ?_
      by_cases ho : (xs i &&& nI 63).toInt < 0 ∨ 32 < (xs i &&& nI 63).toInt
      · exact a_tabOut (tgt := 1253) dL_law_33 ho (by decide) (kx I J hc)
      · have h1 : ¬ (xs i &&& nI 63).toInt < 0 := fun z => ho (Or.inl z)
        have h2 : ¬ 32 < (xs i &&& nI 63).toInt := fun z => ho (Or.inr z)
        rcases (show (xs i &&& nI 63).toInt = 0 ∨ (xs i &&& nI 63).toInt = 1 ∨ (xs i &&& nI 63).toInt = 2 ∨ (xs i &&& nI 63).toInt = 3 ∨ (xs i &&& nI 63).toInt = 4 ∨ (xs i &&& nI 63).toInt = 5 ∨ (xs i &&& nI 63).toInt = 6 ∨ (xs i &&& nI 63).toInt = 7 ∨ (xs i &&& nI 63).toInt = 8 ∨ (xs i &&& nI 63).toInt = 9 ∨ (xs i &&& nI 63).toInt = 10 ∨ (xs i &&& nI 63).toInt = 11 ∨ (xs i &&& nI 63).toInt = 12 ∨ (xs i &&& nI 63).toInt = 13 ∨ (xs i &&& nI 63).toInt = 14 ∨ (xs i &&& nI 63).toInt = 15 ∨ (xs i &&& nI 63).toInt = 16 ∨ (xs i &&& nI 63).toInt = 17 ∨ (xs i &&& nI 63).toInt = 18 ∨ (xs i &&& nI 63).toInt = 19 ∨ (xs i &&& nI 63).toInt = 20 ∨ (xs i &&& nI 63).toInt = 21 ∨ (xs i &&& nI 63).toInt = 22 ∨ (xs i &&& nI 63).toInt = 23 ∨ (xs i &&& nI 63).toInt = 24 ∨ (xs i &&& nI 63).toInt = 25 ∨ (xs i &&& nI 63).toInt = 26 ∨ (xs i &&& nI 63).toInt = 27 ∨ (xs i &&& nI 63).toInt = 28 ∨ (xs i &&& nI 63).toInt = 29 ∨ (xs i &&& nI 63).toInt = 30 ∨ (xs i &&& nI 63).toInt = 31 ∨ (xs i &&& nI 63).toInt = 32 by omega) with hk | hk | hk | hk | hk | hk | hk | hk | hk | hk | hk | hk | hk | hk | hk | hk | hk | hk | hk | hk | hk | hk | hk | hk | hk | hk | hk | hk | hk | hk | hk | hk | hk
        · exact a_tabIn (off := 147) (tgt := 180) dL_law_33 h1 h2 (by rw [hk]; rfl) (by decide) (cs_0 hb hL hi hc kx)
        · exact a_tabIn (off := 170) (tgt := 203) dL_law_33 h1 h2 (by rw [hk]; rfl) (by decide) (cs_1 hb hL hi hc kx)
        · exact a_tabIn (off := 213) (tgt := 246) dL_law_33 h1 h2 (by rw [hk]; rfl) (by decide) (cs_2 hb hL hi hc kx)
        · exact a_tabIn (off := 246) (tgt := 279) dL_law_33 h1 h2 (by rw [hk]; rfl) (by decide) (cs_3 hb hL hi hc kx)
        · exact a_tabIn (off := 279) (tgt := 312) dL_law_33 h1 h2 (by rw [hk]; rfl) (by decide) (cs_4 hb hL hi hc kx)
        · exact a_tabIn (off := 328) (tgt := 361) dL_law_33 h1 h2 (by rw [hk]; rfl) (by decide) (cs_5 hb hL hi hc kx)
        · exact a_tabIn (off := 361) (tgt := 394) dL_law_33 h1 h2 (by rw [hk]; rfl) (by decide) (cs_6 hb hL hi hc kx)
        · exact a_tabIn (off := 404) (tgt := 437) dL_law_33 h1 h2 (by rw [hk]; rfl) (by decide) (cs_7 hb hL hi hc kx)
        · exact a_tabIn (off := 447) (tgt := 480) dL_law_33 h1 h2 (by rw [hk]; rfl) (by decide) (cs_8 hb hL hi hc kx)
        · exact a_tabIn (off := 470) (tgt := 503) dL_law_33 h1 h2 (by rw [hk]; rfl) (by decide) (cs_9 hb hL hi hc kx)
        · exact a_tabIn (off := 513) (tgt := 546) dL_law_33 h1 h2 (by rw [hk]; rfl) (by decide) (cs_10 hb hL hi hc kx)
        · exact a_tabIn (off := 546) (tgt := 579) dL_law_33 h1 h2 (by rw [hk]; rfl) (by decide) (cs_11 hb hL hi hc kx)
        · exact a_tabIn (off := 589) (tgt := 622) dL_law_33 h1 h2 (by rw [hk]; rfl) (by decide) (cs_12 hb hL hi hc kx)
        · exact a_tabIn (off := 612) (tgt := 645) dL_law_33 h1 h2 (by rw [hk]; rfl) (by decide) (cs_13 hb hL hi hc kx)
        · exact a_tabIn (off := 645) (tgt := 678) dL_law_33 h1 h2 (by rw [hk]; rfl) (by decide) (cs_14 hb hL hi hc kx)
        · exact a_tabIn (off := 668) (tgt := 701) dL_law_33 h1 h2 (by rw [hk]; rfl) (by decide) (cs_15 hb hL hi hc kx)
        · exact a_tabIn (off := 737) (tgt := 770) dL_law_33 h1 h2 (by rw [hk]; rfl) (by decide) (cs_16 hb hL hi hc kx)
        · exact a_tabIn (off := 760) (tgt := 793) dL_law_33 h1 h2 (by rw [hk]; rfl) (by decide) (cs_17 hb hL hi hc kx)
        · exact a_tabIn (off := 773) (tgt := 806) dL_law_33 h1 h2 (by rw [hk]; rfl) (by decide) (cs_18 hb hL hi hc kx)
        · exact a_tabIn (off := 806) (tgt := 839) dL_law_33 h1 h2 (by rw [hk]; rfl) (by decide) (cs_19 hb hL hi hc kx)
        · exact a_tabIn (off := 849) (tgt := 882) dL_law_33 h1 h2 (by rw [hk]; rfl) (by decide) (cs_20 hb hL hi hc kx)
        · exact a_tabIn (off := 872) (tgt := 905) dL_law_33 h1 h2 (by rw [hk]; rfl) (by decide) (cs_21 hb hL hi hc kx)
        · exact a_tabIn (off := 915) (tgt := 948) dL_law_33 h1 h2 (by rw [hk]; rfl) (by decide) (cs_22 hb hL hi hc kx)
        · exact a_tabIn (off := 938) (tgt := 971) dL_law_33 h1 h2 (by rw [hk]; rfl) (by decide) (cs_23 hb hL hi hc kx)
        · exact a_tabIn (off := 971) (tgt := 1004) dL_law_33 h1 h2 (by rw [hk]; rfl) (by decide) (cs_24 hb hL hi hc kx)
        · exact a_tabIn (off := 1014) (tgt := 1047) dL_law_33 h1 h2 (by rw [hk]; rfl) (by decide) (cs_25 hb hL hi hc kx)
        · exact a_tabIn (off := 1047) (tgt := 1080) dL_law_33 h1 h2 (by rw [hk]; rfl) (by decide) (cs_26 hb hL hi hc kx)
        · exact a_tabIn (off := 1070) (tgt := 1103) dL_law_33 h1 h2 (by rw [hk]; rfl) (by decide) (cs_27 hb hL hi hc kx)
        · exact a_tabIn (off := 1133) (tgt := 1166) dL_law_33 h1 h2 (by rw [hk]; rfl) (by decide) (cs_28 hb hL hi hc kx)
        · exact a_tabIn (off := 1147) (tgt := 1180) dL_law_33 h1 h2 (by rw [hk]; rfl) (by decide) (cs_29 hb hL hi hc kx)
        · exact a_tabIn (off := 1170) (tgt := 1203) dL_law_33 h1 h2 (by rw [hk]; rfl) (by decide) (cs_30 hb hL hi hc kx)
        · exact a_tabIn (off := 1183) (tgt := 1216) dL_law_33 h1 h2 (by rw [hk]; rfl) (by decide) (cs_31 hb hL hi hc kx)
        · exact a_tabIn (off := 1206) (tgt := 1239) dL_law_33 h1 h2 (by rw [hk]; rfl) (by decide) (cs_32 hb hL hi hc kx)

set_option maxHeartbeats 4000000 in
set_option maxRecDepth 100000 in
theorem lw_gw {G : gm_G} {d b Ln : Nat} {nm : String} {xs : Nat → Int32} (hL : Ln ≤ 3072) : GW G cL_law 4 RL nm (d + 46) 94 2677 (lw_eG b Ln xs) 0 [some (.ref b), none, none, none] [] [] 0 0 := by
  refine g_new (ci := 9) (ty0 := tyX11) (fs := [.null, .null, .null, .null, .null, .null, .null, .null, .null, .null, .int 0, .int 0, .long 0, .int 0, .null]) dL_law_0 rfl iw_X11 tyX11_ok kC_L_7 kN_X11 kV_X11 (fun j hj => by rcases (show j = 0 ∨ j = 1 ∨ j = 2 ∨ j = 3 ∨ j = 4 ∨ j = 5 ∨ j = 6 ∨ j = 7 ∨ j = 8 ∨ j = 9 ∨ j = 10 ∨ j = 11 ∨ j = 12 ∨ j = 13 ∨ j = 14 by omega) with rfl | rfl | rfl | rfl | rfl | rfl | rfl | rfl | rfl | rfl | rfl | rfl | rfl | rfl | rfl <;> rfl) (by decide) (by decide) (fun a => ?_)
  refine g_dup dL_law_3 rfl ?_
  refine g_callI (As := []) (n := 0) (mc' := 62) (ms' := 1471) dL_law_4 kI_L_9 kM_X11_init kV_X11 ⟨by decide +kernel, by decide +kernel, by decide +kernel⟩ rfl rfl rfl (Nat.le_of_ble_eq_true rfl) (by decide) ?_
  refine i_LU (d := d + 41) (fun ad I h0 h1 h2 => ?_)
  refine g_astore_n (L' := [_, _, _, _]) dL_law_7 (Nat.le_of_ble_eq_true rfl) rfl ?_
  refine g_new (ci := 10) (ty0 := tyX12) (fs := [.int 0, .null, .long 0, .int 0, .int 0, .null, .null, .null, .null, .null, .null, .null, .null, .null, .null, .int 0, .null, .null, .int 0, .int 0, .int 0, .null, .null, .null, .null, .null, .null, .null, .null, .int 0, .int 0, .int 0, .null, .null, .null, .null, .null, .null, .null, .null, .null]) dL_law_8 rfl iw_X12 tyX12_ok kC_L_10 kN_X12 kV_X12 (fun j hj => by rcases (show j = 0 ∨ j = 1 ∨ j = 2 ∨ j = 3 ∨ j = 4 ∨ j = 5 ∨ j = 6 ∨ j = 7 ∨ j = 8 ∨ j = 9 ∨ j = 10 ∨ j = 11 ∨ j = 12 ∨ j = 13 ∨ j = 14 ∨ j = 15 ∨ j = 16 ∨ j = 17 ∨ j = 18 ∨ j = 19 ∨ j = 20 ∨ j = 21 ∨ j = 22 ∨ j = 23 ∨ j = 24 ∨ j = 25 ∨ j = 26 ∨ j = 27 ∨ j = 28 ∨ j = 29 ∨ j = 30 ∨ j = 31 ∨ j = 32 ∨ j = 33 ∨ j = 34 ∨ j = 35 ∨ j = 36 ∨ j = 37 ∨ j = 38 ∨ j = 39 ∨ j = 40 by omega) with rfl | rfl | rfl | rfl | rfl | rfl | rfl | rfl | rfl | rfl | rfl | rfl | rfl | rfl | rfl | rfl | rfl | rfl | rfl | rfl | rfl | rfl | rfl | rfl | rfl | rfl | rfl | rfl | rfl | rfl | rfl | rfl | rfl | rfl | rfl | rfl | rfl | rfl | rfl | rfl | rfl <;> rfl) (by decide) (by decide) (fun a2 => ?_)
  refine g_dup dL_law_11 rfl ?_
  refine g_callI (As := []) (n := 0) (mc' := 30) (ms' := 1150) dL_law_12 kI_L_12 kM_X12_init kV_X12 ⟨by decide +kernel, by decide +kernel, by decide +kernel⟩ rfl rfl rfl (Nat.le_of_ble_eq_true rfl) (by decide) ?_
  refine i_Model (d := d + 44) b (fun x h3 h4 => ?_)
  refine g_astore_n (L' := [_, _, _, _]) dL_law_15 (Nat.le_of_ble_eq_true rfl) rfl ?_
  have e0 : moA ad x 0 = a := h0
  have z : GW G cL_law 4 RL nm (d + 46) 94 2677 (lw_eG b Ln xs) 16 [some (.ref (moA ad x 94)), some (.ref (moA ad x 0)), some (.ref (moA ad x 63)), none] [] (am_W G.2.2 (moA ad x) (moI I) (fun _ _ => 0)) 94 2677 := by
    refine g_awL (ad := moA ad x) (L := [some (.ref 94), some (.ref 0), some (.ref 63), none]) (st := []) (I := moI I) (J := fun _ _ => 0) ?_
    refine a_iconst (v := nI 0) dL_law_16 (by decide) ?_
    refine a_istore_n (L' := [_, _, _, _]) dL_law_17 (Nat.le_of_ble_eq_true rfl) rfl ?_
    exact lw_lp h4 hL (Ln + 6) 0 (by omega) (by omega) _ _ (mo_cp h1 h2)
  rw [h4, e0, h3] at z
  exact z

set_option maxHeartbeats 4000000 in
set_option maxRecDepth 100000 in
theorem whole_start {p : Program} {e : Env} {s : State} {m : MethodId} {below : List Frame} {meth : Method} {c : Code} (l : Launch) {b L : Nat} {xs : Nat → Int32} (hL : L ≤ 3072) (C0 : lw_At p s m meth c b L xs) : W p l e room_1 s m #[Value.ref b] below meth c s.heap [] 0 0 (lw_Z below #[Value.ref b] s) (entryFrame m ([Value.ref b] : List Value).toArray 4) := by
  obtain ⟨hx, hb, hr, hml, hown, hts, hX, hbl, hlocks, hgv⟩ := id C0
  obtain ⟨D, cI, hK⟩ := gm_K0 hts
  have hl := lv_entry ([.ref b]) (n := 4) (Nat.le_of_ble_eq_true rfl)
  rw [lg_entry_eq]
  generalize (lg_sl ([.ref b]) ++ List.replicate (4 - (lg_sl ([.ref b])).length) Slot.unset).toArray = ls at hl ⊢
  refine lw_gw (G := (l, D, cI)) (d := 0) (nm := meth.name) (xs := xs) hL p e s m _ below meth c (fun q => s.heap.size ≤ q) room_1 _ s.heap [] ls ⟨hx, hb, hml, hown, fun w hw => hts w (List.mem_filter.mp hw).1, hK l, fun q hq => hq, ⟨by decide, by decide⟩, ⟨by decide, by decide⟩, rfl⟩ ⟨rfl, C0, rfl, rfl, rfl⟩ (fun k q h => by simp at h) ⟨fun i j p q h => by simp at h, fun k q h => by simp at h⟩ va_S.rf ?_
  refine ⟨hl.1, rfl, hl.2.1, fun i v hv => ?_⟩
  have hi : i < 4 := (List.getElem?_eq_some_iff.mp hv).1
  rcases (show i = 0 ∨ i = 1 ∨ i = 2 ∨ i = 3 by omega) with rfl | rfl | rfl | rfl
  · cases hv
    exact hl.2.2 (0, .ref b) (List.mem_of_getElem? (i := 0) rfl)
  all_goals cases hv

