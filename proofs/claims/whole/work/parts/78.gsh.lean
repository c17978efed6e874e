/-! ===== constructors: Sheets ===== -/
theorem kA_X9_9 : Cond.classLink RX9 9 "[[B" ∈ am_ws := am_in 316 (by decide +kernel) rfl
set_option maxHeartbeats 4000000 in
set_option maxRecDepth 100000 in
theorem i_Sheets {G : gm_G} {d a : Nat}  {pre : va_W} {K : va_W → Prop} (hK : ∀ q8 q80 q81 q82 q83 q17, K (pre ++ [(a, .inr (7, [.ref q8, .ref q17])), (q8, .inl (G.2.2 3, 4, .inr (.inr (.inr (.inr (mgF q80 q81 q82 q83)))))), (q80, .inl (G.2.2 2, 24, .inl (fun _ => 0))), (q81, .inl (G.2.2 2, 24, .inl (fun _ => 0))), (q82, .inl (G.2.2 2, 24, .inl (fun _ => 0))), (q83, .inl (G.2.2 2, 24, .inl (fun _ => 0))), (q17, .inl (G.2.2 0, 4, .inl (fiF (fun _ => 0) ((-1)) 4)))])) : CI G (d + 1) yX9_init ([.ref a]) (pre ++ [(a, .inr (7, [.null, .null]))]) 6 104 K := by
  refine CI.of (L0 := [_]) cX9_init 1 (by decide) (by decide) kcX9_init (Nat.le_of_ble_eq_true rfl) rfl ?_
  refine g_aload_n dX9_init_0 rfl ?_
  refine g_obj dX9_init_1 ko_X9_3 ko_i ko_c (by omega) ?_
  refine g_aload_n dX9_init_4 rfl ?_
  refine g_iconst (v := nI 4) dX9_init_5 (by decide) ?_
  refine g_bipush (v := nI 24) dX9_init_6 (by decide) ?_
  refine g_multi dX9_init_8 kA_X9_9 kz_b (by decide) (by decide) (fun q8 q80 q81 q82 q83 => ?_)
  refine g_eq (ws' := pre ++ [(a, .inr (7, [.null, .null])), (q8, .inl (G.2.2 3, 4, .inr (.inr (.inr (.inr (mgF q80 q81 q82 q83)))))), (q80, .inl (G.2.2 2, 24, .inl (fun _ => 0))), (q81, .inl (G.2.2 2, 24, .inl (fun _ => 0))), (q82, .inl (G.2.2 2, 24, .inl (fun _ => 0))), (q83, .inl (G.2.2 2, 24, .inl (fun _ => 0)))]) (by rw [List.append_assoc]; rfl) ?_
  refine g_putF (q0 := pre.length + 0) (ci := 7) (j := 0) (fs := [.null, .null]) (ws' := pre ++ [(a, .inr (7, [.ref q8, .null])), (q8, .inl (G.2.2 3, 4, .inr (.inr (.inr (.inr (mgF q80 q81 q82 q83)))))), (q80, .inl (G.2.2 2, 24, .inl (fun _ => 0))), (q81, .inl (G.2.2 2, 24, .inl (fun _ => 0))), (q82, .inl (G.2.2 2, 24, .inl (fun _ => 0))), (q83, .inl (G.2.2 2, 24, .inl (fun _ => 0)))]) rfl dX9_init_12 kF_X9_11_X9 (g_at rfl) rfl rfl (Nat.le_of_ble_eq_true rfl) (g_set rfl) ?_
  refine g_aload_n dX9_init_15 rfl ?_
  refine g_iconst (v := nI 4) dX9_init_16 (by decide) ?_
  refine g_newa (t := 0) (N := 4) (a0 := 0) dX9_init_17 kz_i (fun U h => h.2.2.1) rfl (by decide) (by decide) (by decide) (by decide) (by decide) (fun q17 => ?_)
  refine g_eq (ws' := pre ++ [(a, .inr (7, [.ref q8, .null])), (q8, .inl (G.2.2 3, 4, .inr (.inr (.inr (.inr (mgF q80 q81 q82 q83)))))), (q80, .inl (G.2.2 2, 24, .inl (fun _ => 0))), (q81, .inl (G.2.2 2, 24, .inl (fun _ => 0))), (q82, .inl (G.2.2 2, 24, .inl (fun _ => 0))), (q83, .inl (G.2.2 2, 24, .inl (fun _ => 0))), (q17, .inl (G.2.2 0, 4, .inl (fun _ => 0)))]) (by rw [List.append_assoc]; rfl) ?_
  refine g_putF (q0 := pre.length + 0) (ci := 7) (j := 1) (fs := [.ref q8, .null]) (ws' := pre ++ [(a, .inr (7, [.ref q8, .ref q17])), (q8, .inl (G.2.2 3, 4, .inr (.inr (.inr (.inr (mgF q80 q81 q82 q83)))))), (q80, .inl (G.2.2 2, 24, .inl (fun _ => 0))), (q81, .inl (G.2.2 2, 24, .inl (fun _ => 0))), (q82, .inl (G.2.2 2, 24, .inl (fun _ => 0))), (q83, .inl (G.2.2 2, 24, .inl (fun _ => 0))), (q17, .inl (G.2.2 0, 4, .inl (fun _ => 0)))]) rfl dX9_init_19 kF_X9_16_X9 (g_at rfl) rfl rfl (Nat.le_of_ble_eq_true rfl) (g_set rfl) ?_
  refine g_aload_n dX9_init_22 rfl ?_
  refine g_get (q0 := pre.length + 0) (fs := [.ref q8, .ref q17]) dX9_init_23 kf_X9_16 (g_at rfl) rfl ?_
  refine g_iconst (v := (-1)) dX9_init_26 (by decide) ?_
  refine g_callS (As := [.ref q17, .int ((-1))]) (mc' := 0) (ms' := 0) dX9_init_27 km_X9_20 rfl rfl (by decide) (by decide) ?_
  refine i_fill (q0 := pre.length + 6) (n := 4) (f := (fun _ => 0)) (by decide) (g_at rfl) ?_
  refine g_eq (ws' := pre ++ [(a, .inr (7, [.ref q8, .ref q17])), (q8, .inl (G.2.2 3, 4, .inr (.inr (.inr (.inr (mgF q80 q81 q82 q83)))))), (q80, .inl (G.2.2 2, 24, .inl (fun _ => 0))), (q81, .inl (G.2.2 2, 24, .inl (fun _ => 0))), (q82, .inl (G.2.2 2, 24, .inl (fun _ => 0))), (q83, .inl (G.2.2 2, 24, .inl (fun _ => 0))), (q17, .inl (G.2.2 0, 4, .inl (fiF (fun _ => 0) ((-1)) 4)))]) (g_set rfl) ?_
  exact g_ret dX9_init_30 (hK q8 q80 q81 q82 q83 q17)

