/-! ===== constructors: Net ===== -/
def cLn (r : Nat) : va_E := .inr (2, [.int (nI 0), .int (nI 0), .int (nI 0), .int (nI 0), .int (nI 100), .int (-9), .ref r])
def nlS (G : gm_G) (ln rd : Nat → Nat) : Nat → va_W
  | 0 => []
  | i + 1 => nlS G ln rd i ++ [(ln i, cLn (rd i)), (rd i, .inl (G.2.2 0, 24, .inl (fun _ => 0)))]
theorem nlS_len (G : gm_G) (ln rd : Nat → Nat) : ∀ i, (nlS G ln rd i).length = 2 * i
  | 0 => rfl
  | i + 1 => by rw [nlS, List.length_append, nlS_len G ln rd i]; simp; omega
theorem nlS_congr {G : gm_G} {ln rd ln' rd' : Nat → Nat} : ∀ i, (∀ k, k < i → ln k = ln' k ∧ rd k = rd' k) → nlS G ln rd i = nlS G ln' rd' i
  | 0, _ => rfl
  | i + 1, h => by rw [nlS, nlS, nlS_congr i (fun k hk => h k (by omega)), (h i (by omega)).1, (h i (by omega)).2]
def ntC (G : gm_G) (a l m b : Nat) (ln rd : Nat → Nat) (f : Nat → Option Nat) (me : Nat → Int32) (i : Nat) : va_W := (a, .inr (3, [.int (nI 2), .int (nI 0), .ref l, .ref m, .ref b])) :: (l, .inl (G.2.2 4, 12, .inr (.inr (.inr (.inr f))))) :: (m, .inl (G.2.2 0, 36, .inl me)) :: (b, .inl (G.2.2 0, 36, .inl (fun _ => 0))) :: nlS G ln rd i
set_option maxHeartbeats 4000000 in
set_option maxRecDepth 100000 in
theorem g_net {G : gm_G} {d a l m b : Nat} {pre : va_W} {K : va_W → Prop} (hK : ∀ ln rd f, (∀ k, k < 12 → f k = some (ln k)) → K (pre ++ ntC G a l m b ln rd f (fiF (fun _ => 0) (-9) 36) 12)) : ∀ i, i ≤ 12 → ∀ (ln rd : Nat → Nat) (f : Nat → Option Nat), (∀ k, k < i → f k = some (ln k)) → GW G cX5_init 2 RX5 "<init>" (d + 2) 27 456 (gm_ex G 27 456 K) 41 [some (.ref a), some (.int (nI i))] [] (pre ++ ntC G a l m b ln rd f (fun _ => 0) i) (3 + 2 * i) (84 + 31 * i) := by
  refine am_dn 12 (fun i hi ih => ?_)
  intro ln rd f hf
  refine g_iload_n dX5_init_41 rfl ?_
  refine g_bipush (v := nI 12) dX5_init_42 (by decide) ?_
  refine g_icmp_ge (tgt := 66) dX5_init_44 (by decide) (fun h => ?_) (fun h => ?_)
  · have h2 := (nI_leI (by omega) (by omega)).mp h
    obtain rfl : i = 12 := by omega
    refine g_aload_n dX5_init_66 rfl ?_
    refine g_get (q0 := pre.length + 0) (fs := [.int (nI 2), .int (nI 0), .ref l, .ref m, .ref b]) dX5_init_67 kf_X5_24 (g_at rfl) rfl ?_
    refine g_bipush (v := (-9)) dX5_init_70 (by decide) ?_
    refine g_callS (As := [.ref m, .int (-9)]) (mc' := 0) (ms' := 0) dX5_init_72 km_X5_32 rfl rfl (by decide) (by decide) ?_
    refine i_fill (q0 := pre.length + 2) (n := 36) (f := fun _ => 0) (by decide) (g_at rfl) ?_
    refine g_eq (ws' := pre ++ ntC G a l m b ln rd f (fiF (fun _ => 0) (-9) 36) 12) (g_set rfl) ?_
    exact g_ret dX5_init_75 (hK ln rd f hf)
  · have h2 : i < 12 := by
      rcases Nat.lt_or_ge i 12 with z | z
      · exact z
      · exact absurd ((nI_leI (by omega) (by omega)).mpr z) h
    refine g_aload_n dX5_init_47 rfl ?_
    refine g_get (q0 := pre.length + 0) (fs := [.int (nI 2), .int (nI 0), .ref l, .ref m, .ref b]) dX5_init_48 kf_X5_20 (g_at rfl) rfl ?_
    refine g_iload_n dX5_init_51 rfl ?_
    refine g_new (ci := 2) (ty0 := tyX4) (fs := [.int 0, .int 0, .int 0, .int 0, .int 0, .int 0, .null]) dX5_init_52 rfl iw_X4 tyX4_ok kC_X5_18 kN_X4 kV_X4 (fun j hj => by rcases (show j = 0 ∨ j = 1 ∨ j = 2 ∨ j = 3 ∨ j = 4 ∨ j = 5 ∨ j = 6 by omega) with rfl | rfl | rfl | rfl | rfl | rfl | rfl <;> rfl) (by omega) (by omega) (fun q => ?_)
    refine g_dup dX5_init_55 rfl ?_
    refine g_callN (host := RX11) (As := []) (mc' := 1) (ms' := 24) dX5_init_56 (List.mem_of_getElem? (i := 0) rfl) kM_X4_init kV_X4 ⟨by decide +kernel, by decide +kernel, by decide +kernel⟩ rfl rfl rfl (Nat.le_of_ble_eq_true rfl) ⟨by omega, by omega⟩ ?_
    refine i_Line (d := d) (pre := pre ++ ntC G a l m b ln rd f (fun _ => 0) i) (fun r => ?_)
    refine g_eq (ws' := pre ++ (ntC G a l m b ln rd f (fun _ => 0) i ++ [(q, cLn r), (r, .inl (G.2.2 0, 24, .inl (fun _ => 0)))])) (by rw [List.append_assoc]; rfl) ?_
    have hlen : (ntC G a l m b ln rd f (fun _ => 0) i).length = 4 + 2 * i := by
      unfold ntC
      simp only [List.length_cons, nlS_len]
      omega
    refine g_ast (q0 := pre.length + 1) (qk := pre.length + (4 + 2 * i)) (n := 12) (i := i) (f := f) (vs := [.int (nI 0), .int (nI 0), .int (nI 0), .int (nI 0), .int (nI 100), .int (-9), .ref r]) (ws' := pre ++ (ntC G a l m b ln rd (va_up f i (some q)) (fun _ => 0) i ++ [(q, cLn r), (r, .inl (G.2.2 0, 24, .inl (fun _ => 0)))])) dX5_init_59 (g_at rfl) (g_at (by rw [List.getElem?_append_right (by omega), hlen, Nat.sub_self]; rfl)) h2 (by decide) (g_set rfl) ?_
    refine g_eq (ws' := pre ++ ntC G a l m b (upN ln i q) (upN rd i r) (va_up f i (some q)) (fun _ => 0) (i + 1)) ?_ ?_
    · congr 1
      unfold ntC
      rw [nlS, upN_same, upN_same, nlS_congr (ln := upN ln i q) (rd := upN rd i r) (ln' := ln) (rd' := rd) i (fun k hk => ⟨upN_ne (by omega), upN_ne (by omega)⟩)]
      rfl
    refine g_iinc (L' := [_, _]) dX5_init_60 rfl (nI_inc _) rfl ?_
    refine g_goto (tgt := 41) dX5_init_63 (by decide) ?_
    have z := ih (i + 1) (by omega) (by omega) (upN ln i q) (upN rd i r) (va_up f i (some q)) (fun k hk => by
      by_cases e : k = i
      · subst e; rw [upN_same]; simp [va_up]
      · rw [upN_ne e, ← hf k (by omega)]; simp [va_up, e])
    rw [show 3 + 2 * (i + 1) = 3 + 2 * i + 1 + 1 by omega, show 84 + 31 * (i + 1) = 84 + 31 * i + 7 + 24 by omega] at z
    exact z
set_option maxHeartbeats 4000000 in
set_option maxRecDepth 100000 in
theorem i_Net {G : gm_G} {d a : Nat} {pre : va_W} {K : va_W → Prop} (hK : ∀ l m b ln rd f, (∀ k, k < 12 → f k = some (ln k)) → K (pre ++ ntC G a l m b ln rd f (fiF (fun _ => 0) (-9) 36) 12)) : CI G (d + 2) yX5_init [.ref a] (pre ++ [(a, .inr (3, [.int 0, .int 0, .null, .null, .null]))]) 27 456 K := by
  refine CI.of (L0 := [_, _]) cX5_init 2 (by decide) (by decide) kcX5_init (Nat.le_of_ble_eq_true rfl) rfl ?_
  refine g_aload_n dX5_init_0 rfl ?_
  refine g_obj dX5_init_1 ko_X5_3 ko_i ko_c (by omega) ?_
  refine g_aload_n dX5_init_4 rfl ?_
  refine g_iconst (v := nI 2) dX5_init_5 (by decide) ?_
  refine g_put (q0 := pre.length + 0) (ci := 3) (j := 0) (fs := [.int 0, .int 0, .null, .null, .null]) (ws' := pre ++ [(a, .inr (3, [.int (nI 2), .int 0, .null, .null, .null]))]) dX5_init_6 kp_X5_9 (g_at rfl) rfl rfl (Nat.le_of_ble_eq_true rfl) (g_set rfl) ?_
  refine g_aload_n dX5_init_9 rfl ?_
  refine g_iconst (v := nI 0) dX5_init_10 (by decide) ?_
  refine g_put (q0 := pre.length + 0) (ci := 3) (j := 1) (fs := [.int (nI 2), .int 0, .null, .null, .null]) (ws' := pre ++ [(a, .inr (3, [.int (nI 2), .int (nI 0), .null, .null, .null]))]) dX5_init_11 kp_X5_15 (g_at rfl) rfl rfl (Nat.le_of_ble_eq_true rfl) (g_set rfl) ?_
  refine g_aload_n dX5_init_14 rfl ?_
  refine g_bipush (v := nI 12) dX5_init_15 (by decide) ?_
  refine g_anew (N := 12) dX5_init_17 kC_X5_18 (by decide) (by decide) (by decide) (by decide) (by decide) (fun l => ?_)
  refine g_eq (ws' := pre ++ [(a, .inr (3, [.int (nI 2), .int (nI 0), .null, .null, .null])), (l, .inl (G.2.2 4, 12, .inr (.inr (.inr (.inr (fun _ => none))))))]) (by rw [List.append_assoc]; rfl) ?_
  refine g_putF (q0 := pre.length + 0) (ci := 3) (j := 2) (fs := [.int (nI 2), .int (nI 0), .null, .null, .null]) (ws' := pre ++ [(a, .inr (3, [.int (nI 2), .int (nI 0), .ref l, .null, .null])), (l, .inl (G.2.2 4, 12, .inr (.inr (.inr (.inr (fun _ => none))))))]) rfl dX5_init_20 kF_X5_20_X5 (g_at rfl) rfl rfl (Nat.le_of_ble_eq_true rfl) (g_set rfl) ?_
  refine g_aload_n dX5_init_23 rfl ?_
  refine g_bipush (v := nI 36) dX5_init_24 (by decide) ?_
  refine g_newa (t := 0) (N := 36) (a0 := 0) dX5_init_26 kz_i (fun U h => h.2.2.1) rfl (by decide) (by decide) (by decide) (by decide) (by decide) (fun m => ?_)
  refine g_eq (ws' := pre ++ [(a, .inr (3, [.int (nI 2), .int (nI 0), .ref l, .null, .null])), (l, .inl (G.2.2 4, 12, .inr (.inr (.inr (.inr (fun _ => none)))))), (m, .inl (G.2.2 0, 36, .inl (fun _ => 0)))]) (by rw [List.append_assoc]; rfl) ?_
  refine g_putF (q0 := pre.length + 0) (ci := 3) (j := 3) (fs := [.int (nI 2), .int (nI 0), .ref l, .null, .null]) (ws' := pre ++ [(a, .inr (3, [.int (nI 2), .int (nI 0), .ref l, .ref m, .null])), (l, .inl (G.2.2 4, 12, .inr (.inr (.inr (.inr (fun _ => none)))))), (m, .inl (G.2.2 0, 36, .inl (fun _ => 0)))]) rfl dX5_init_28 kF_X5_24_X5 (g_at rfl) rfl rfl (Nat.le_of_ble_eq_true rfl) (g_set rfl) ?_
  refine g_aload_n dX5_init_31 rfl ?_
  refine g_bipush (v := nI 36) dX5_init_32 (by decide) ?_
  refine g_newa (t := 0) (N := 36) (a0 := 0) dX5_init_34 kz_i (fun U h => h.2.2.1) rfl (by decide) (by decide) (by decide) (by decide) (by decide) (fun b => ?_)
  refine g_eq (ws' := pre ++ [(a, .inr (3, [.int (nI 2), .int (nI 0), .ref l, .ref m, .null])), (l, .inl (G.2.2 4, 12, .inr (.inr (.inr (.inr (fun _ => none)))))), (m, .inl (G.2.2 0, 36, .inl (fun _ => 0))), (b, .inl (G.2.2 0, 36, .inl (fun _ => 0)))]) (by rw [List.append_assoc]; rfl) ?_
  refine g_putF (q0 := pre.length + 0) (ci := 3) (j := 4) (fs := [.int (nI 2), .int (nI 0), .ref l, .ref m, .null]) (ws' := pre ++ ntC G a l m b (fun _ => 0) (fun _ => 0) (fun _ => none) (fun _ => 0) 0) rfl dX5_init_36 kF_X5_28_X5 (g_at rfl) rfl rfl (Nat.le_of_ble_eq_true rfl) (g_set rfl) ?_
  refine g_iconst (v := nI 0) dX5_init_39 (by decide) ?_
  refine g_istore_n (L' := [_, _]) dX5_init_40 (Nat.le_of_ble_eq_true rfl) rfl ?_
  exact g_net (hK l m b) 0 (by omega) _ _ _ (fun k hk => by omega)
