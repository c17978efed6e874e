/-! ===== constructors: the small ones ===== -/
theorem g_at {pre w : va_W} {i : Nat} {x : Nat × va_E} (h : w[i]? = some x) : (pre ++ w)[pre.length + i]? = some x := by
  rw [List.getElem?_append_right (by omega), Nat.add_sub_cancel_left]; exact h
theorem g_set {pre w w' : va_W} {i : Nat} {x : Nat × va_E} (h : w.set i x = w') : (pre ++ w).set (pre.length + i) x = pre ++ w' := by
  exact (List.set_append_right (s := pre) (t := w) (pre.length + i) x (Nat.le_add_right _ _)).trans (by rw [Nat.add_sub_cancel_left, h])
theorem g_eq {G : gm_G} {cc : ByteArray} {nL : Nat} {own nm : String} {d mc ms : Nat} {Ex : gm_Ex} {pc : Nat} {L : List (Option Value)} {st : List Value} {ws ws' : va_W} {ce sl : Nat} (h : ws = ws') (k : GW G cc nL own nm d mc ms Ex pc L st ws' ce sl) : GW G cc nL own nm d mc ms Ex pc L st ws ce sl := by rw [h]; exact k
set_option maxHeartbeats 4000000 in
set_option maxRecDepth 100000 in
theorem i_Line {G : gm_G} {d a : Nat}  {pre : va_W} {K : va_W → Prop} (hK : ∀ q39, K (pre ++ [(a, .inr (2, [.int (nI 0), .int (nI 0), .int (nI 0), .int (nI 0), .int (nI 100), .int ((-9)), .ref q39])), (q39, .inl (G.2.2 0, 24, .inl (fun _ => 0)))])) : CI G (d + 1) yX4_init ([.ref a]) (pre ++ [(a, .inr (2, [.int 0, .int 0, .int 0, .int 0, .int 0, .int 0, .null]))]) 1 24 K := by
  refine CI.of (L0 := [_]) cX4_init 1 (by decide) (by decide) kcX4_init (Nat.le_of_ble_eq_true rfl) rfl ?_
  refine g_aload_n dX4_init_0 rfl ?_
  refine g_obj dX4_init_1 ko_X4_3 ko_i ko_c (by omega) ?_
  refine g_aload_n dX4_init_4 rfl ?_
  refine g_iconst (v := nI 0) dX4_init_5 (by decide) ?_
  refine g_put (q0 := pre.length + 0) (ci := 2) (j := 0) (fs := [.int 0, .int 0, .int 0, .int 0, .int 0, .int 0, .null]) (ws' := pre ++ [(a, .inr (2, [.int (nI 0), .int 0, .int 0, .int 0, .int 0, .int 0, .null]))]) dX4_init_6 kp_X4_9 (g_at rfl) rfl rfl (Nat.le_of_ble_eq_true rfl) (g_set rfl) ?_
  refine g_aload_n dX4_init_9 rfl ?_
  refine g_iconst (v := nI 0) dX4_init_10 (by decide) ?_
  refine g_put (q0 := pre.length + 0) (ci := 2) (j := 1) (fs := [.int (nI 0), .int 0, .int 0, .int 0, .int 0, .int 0, .null]) (ws' := pre ++ [(a, .inr (2, [.int (nI 0), .int (nI 0), .int 0, .int 0, .int 0, .int 0, .null]))]) dX4_init_11 kp_X4_15 (g_at rfl) rfl rfl (Nat.le_of_ble_eq_true rfl) (g_set rfl) ?_
  refine g_aload_n dX4_init_14 rfl ?_
  refine g_iconst (v := nI 0) dX4_init_15 (by decide) ?_
  refine g_put (q0 := pre.length + 0) (ci := 2) (j := 2) (fs := [.int (nI 0), .int (nI 0), .int 0, .int 0, .int 0, .int 0, .null]) (ws' := pre ++ [(a, .inr (2, [.int (nI 0), .int (nI 0), .int (nI 0), .int 0, .int 0, .int 0, .null]))]) dX4_init_16 kp_X4_18 (g_at rfl) rfl rfl (Nat.le_of_ble_eq_true rfl) (g_set rfl) ?_
  refine g_aload_n dX4_init_19 rfl ?_
  refine g_iconst (v := nI 0) dX4_init_20 (by decide) ?_
  refine g_put (q0 := pre.length + 0) (ci := 2) (j := 3) (fs := [.int (nI 0), .int (nI 0), .int (nI 0), .int 0, .int 0, .int 0, .null]) (ws' := pre ++ [(a, .inr (2, [.int (nI 0), .int (nI 0), .int (nI 0), .int (nI 0), .int 0, .int 0, .null]))]) dX4_init_21 kp_X4_21 (g_at rfl) rfl rfl (Nat.le_of_ble_eq_true rfl) (g_set rfl) ?_
  refine g_aload_n dX4_init_24 rfl ?_
  refine g_bipush (v := nI 100) dX4_init_25 (by decide) ?_
  refine g_put (q0 := pre.length + 0) (ci := 2) (j := 4) (fs := [.int (nI 0), .int (nI 0), .int (nI 0), .int (nI 0), .int 0, .int 0, .null]) (ws' := pre ++ [(a, .inr (2, [.int (nI 0), .int (nI 0), .int (nI 0), .int (nI 0), .int (nI 100), .int 0, .null]))]) dX4_init_27 kp_X4_25 (g_at rfl) rfl rfl (Nat.le_of_ble_eq_true rfl) (g_set rfl) ?_
  refine g_aload_n dX4_init_30 rfl ?_
  refine g_bipush (v := (-9)) dX4_init_31 (by decide) ?_
  refine g_put (q0 := pre.length + 0) (ci := 2) (j := 5) (fs := [.int (nI 0), .int (nI 0), .int (nI 0), .int (nI 0), .int (nI 100), .int 0, .null]) (ws' := pre ++ [(a, .inr (2, [.int (nI 0), .int (nI 0), .int (nI 0), .int (nI 0), .int (nI 100), .int ((-9)), .null]))]) dX4_init_33 kp_X4_28 (g_at rfl) rfl rfl (Nat.le_of_ble_eq_true rfl) (g_set rfl) ?_
  refine g_aload_n dX4_init_36 rfl ?_
  refine g_bipush (v := nI 24) dX4_init_37 (by decide) ?_
  refine g_newa (t := 0) (N := 24) (a0 := 0) dX4_init_39 kz_i (fun U h => h.2.2.1) rfl (by decide) (by decide) (by decide) (by decide) (by decide) (fun q39 => ?_)
  refine g_eq (ws' := pre ++ [(a, .inr (2, [.int (nI 0), .int (nI 0), .int (nI 0), .int (nI 0), .int (nI 100), .int ((-9)), .null])), (q39, .inl (G.2.2 0, 24, .inl (fun _ => 0)))]) (by rw [List.append_assoc]; rfl) ?_
  refine g_putF (q0 := pre.length + 0) (ci := 2) (j := 6) (fs := [.int (nI 0), .int (nI 0), .int (nI 0), .int (nI 0), .int (nI 100), .int ((-9)), .null]) (ws' := pre ++ [(a, .inr (2, [.int (nI 0), .int (nI 0), .int (nI 0), .int (nI 0), .int (nI 100), .int ((-9)), .ref q39])), (q39, .inl (G.2.2 0, 24, .inl (fun _ => 0)))]) rfl dX4_init_41 kF_X4_31_X4 (g_at rfl) rfl rfl (Nat.le_of_ble_eq_true rfl) (g_set rfl) ?_
  exact g_ret dX4_init_44 (hK q39)

set_option maxHeartbeats 4000000 in
set_option maxRecDepth 100000 in
theorem i_Routes {G : gm_G} {d a : Nat}  {pre : va_W} {K : va_W → Prop} (hK : ∀ q12 q21 q29, K (pre ++ [(a, .inr (5, [.int (nI 0), .ref q12, .ref q21, .ref q29])), (q12, .inl (G.2.2 0, 36, .inl (fun _ => 0))), (q21, .inl (G.2.2 0, 180, .inl (fun _ => 0))), (q29, .inl (G.2.2 0, 6, .inl (fun _ => 0)))])) : CI G (d + 1) yX7_init ([.ref a]) (pre ++ [(a, .inr (5, [.int 0, .null, .null, .null]))]) 3 222 K := by
  refine CI.of (L0 := [_]) cX7_init 1 (by decide) (by decide) kcX7_init (Nat.le_of_ble_eq_true rfl) rfl ?_
  refine g_aload_n dX7_init_0 rfl ?_
  refine g_obj dX7_init_1 ko_X7_3 ko_i ko_c (by omega) ?_
  refine g_aload_n dX7_init_4 rfl ?_
  refine g_iconst (v := nI 0) dX7_init_5 (by decide) ?_
  refine g_put (q0 := pre.length + 0) (ci := 5) (j := 0) (fs := [.int 0, .null, .null, .null]) (ws' := pre ++ [(a, .inr (5, [.int (nI 0), .null, .null, .null]))]) dX7_init_6 kp_X7_9 (g_at rfl) rfl rfl (Nat.le_of_ble_eq_true rfl) (g_set rfl) ?_
  refine g_aload_n dX7_init_9 rfl ?_
  refine g_bipush (v := nI 36) dX7_init_10 (by decide) ?_
  refine g_newa (t := 0) (N := 36) (a0 := 0) dX7_init_12 kz_i (fun U h => h.2.2.1) rfl (by decide) (by decide) (by decide) (by decide) (by decide) (fun q12 => ?_)
  refine g_eq (ws' := pre ++ [(a, .inr (5, [.int (nI 0), .null, .null, .null])), (q12, .inl (G.2.2 0, 36, .inl (fun _ => 0)))]) (by rw [List.append_assoc]; rfl) ?_
  refine g_putF (q0 := pre.length + 0) (ci := 5) (j := 1) (fs := [.int (nI 0), .null, .null, .null]) (ws' := pre ++ [(a, .inr (5, [.int (nI 0), .ref q12, .null, .null])), (q12, .inl (G.2.2 0, 36, .inl (fun _ => 0)))]) rfl dX7_init_14 kF_X7_15_X7 (g_at rfl) rfl rfl (Nat.le_of_ble_eq_true rfl) (g_set rfl) ?_
  refine g_aload_n dX7_init_17 rfl ?_
  refine g_sipush (v := nI 180) dX7_init_18 (by decide) ?_
  refine g_newa (t := 0) (N := 180) (a0 := 0) dX7_init_21 kz_i (fun U h => h.2.2.1) rfl (by decide) (by decide) (by decide) (by decide) (by decide) (fun q21 => ?_)
  refine g_eq (ws' := pre ++ [(a, .inr (5, [.int (nI 0), .ref q12, .null, .null])), (q12, .inl (G.2.2 0, 36, .inl (fun _ => 0))), (q21, .inl (G.2.2 0, 180, .inl (fun _ => 0)))]) (by rw [List.append_assoc]; rfl) ?_
  refine g_putF (q0 := pre.length + 0) (ci := 5) (j := 2) (fs := [.int (nI 0), .ref q12, .null, .null]) (ws' := pre ++ [(a, .inr (5, [.int (nI 0), .ref q12, .ref q21, .null])), (q12, .inl (G.2.2 0, 36, .inl (fun _ => 0))), (q21, .inl (G.2.2 0, 180, .inl (fun _ => 0)))]) rfl dX7_init_23 kF_X7_19_X7 (g_at rfl) rfl rfl (Nat.le_of_ble_eq_true rfl) (g_set rfl) ?_
  refine g_aload_n dX7_init_26 rfl ?_
  refine g_bipush (v := nI 6) dX7_init_27 (by decide) ?_
  refine g_newa (t := 0) (N := 6) (a0 := 0) dX7_init_29 kz_i (fun U h => h.2.2.1) rfl (by decide) (by decide) (by decide) (by decide) (by decide) (fun q29 => ?_)
  refine g_eq (ws' := pre ++ [(a, .inr (5, [.int (nI 0), .ref q12, .ref q21, .null])), (q12, .inl (G.2.2 0, 36, .inl (fun _ => 0))), (q21, .inl (G.2.2 0, 180, .inl (fun _ => 0))), (q29, .inl (G.2.2 0, 6, .inl (fun _ => 0)))]) (by rw [List.append_assoc]; rfl) ?_
  refine g_putF (q0 := pre.length + 0) (ci := 5) (j := 3) (fs := [.int (nI 0), .ref q12, .ref q21, .null]) (ws' := pre ++ [(a, .inr (5, [.int (nI 0), .ref q12, .ref q21, .ref q29])), (q12, .inl (G.2.2 0, 36, .inl (fun _ => 0))), (q21, .inl (G.2.2 0, 180, .inl (fun _ => 0))), (q29, .inl (G.2.2 0, 6, .inl (fun _ => 0)))]) rfl dX7_init_31 kF_X7_22_X7 (g_at rfl) rfl rfl (Nat.le_of_ble_eq_true rfl) (g_set rfl) ?_
  exact g_ret dX7_init_34 (hK q12 q21 q29)

set_option maxHeartbeats 4000000 in
set_option maxRecDepth 100000 in
theorem i_Seeker {G : gm_G} {d a : Nat} {b c : Nat} {pre : va_W} {K : va_W → Prop} (hK : ∀ q7 q15 q23 q31 q39 q47, K (pre ++ [(a, .inr (6, [.ref b, .ref c, .ref q7, .ref q15, .ref q23, .ref q31, .ref q39, .ref q47, .int (nI 0), .int (nI 0), .int (nI 0), .int (nI 0)])), (q7, .inl (G.2.2 0, 36, .inl (fun _ => 0))), (q15, .inl (G.2.2 0, 36, .inl (fun _ => 0))), (q23, .inl (G.2.2 0, 12, .inl (fun _ => 0))), (q31, .inl (G.2.2 0, 12, .inl (fun _ => 0))), (q39, .inl (G.2.2 0, 36, .inl (fun _ => 0))), (q47, .inl (G.2.2 0, 36, .inl (fun _ => 0)))])) : CI G (d + 1) yX8_init ([.ref a, .ref b, .ref c]) (pre ++ [(a, .inr (6, [.null, .null, .null, .null, .null, .null, .null, .null, .int 0, .int 0, .int 0, .int 0]))]) 6 168 K := by
  refine CI.of (L0 := [_, _, _]) cX8_init 3 (by decide) (by decide) kcX8_init (Nat.le_of_ble_eq_true rfl) rfl ?_
  refine g_aload_n dX8_init_0 rfl ?_
  refine g_obj dX8_init_1 ko_X8_3 ko_i ko_c (by omega) ?_
  refine g_aload_n dX8_init_4 rfl ?_
  refine g_bipush (v := nI 36) dX8_init_5 (by decide) ?_
  refine g_newa (t := 0) (N := 36) (a0 := 0) dX8_init_7 kz_i (fun U h => h.2.2.1) rfl (by decide) (by decide) (by decide) (by decide) (by decide) (fun q7 => ?_)
  refine g_eq (ws' := pre ++ [(a, .inr (6, [.null, .null, .null, .null, .null, .null, .null, .null, .int 0, .int 0, .int 0, .int 0])), (q7, .inl (G.2.2 0, 36, .inl (fun _ => 0)))]) (by rw [List.append_assoc]; rfl) ?_
  refine g_putF (q0 := pre.length + 0) (ci := 6) (j := 2) (fs := [.null, .null, .null, .null, .null, .null, .null, .null, .int 0, .int 0, .int 0, .int 0]) (ws' := pre ++ [(a, .inr (6, [.null, .null, .ref q7, .null, .null, .null, .null, .null, .int 0, .int 0, .int 0, .int 0])), (q7, .inl (G.2.2 0, 36, .inl (fun _ => 0)))]) rfl dX8_init_9 kF_X8_9_X8 (g_at rfl) rfl rfl (Nat.le_of_ble_eq_true rfl) (g_set rfl) ?_
  refine g_aload_n dX8_init_12 rfl ?_
  refine g_bipush (v := nI 36) dX8_init_13 (by decide) ?_
  refine g_newa (t := 0) (N := 36) (a0 := 0) dX8_init_15 kz_i (fun U h => h.2.2.1) rfl (by decide) (by decide) (by decide) (by decide) (by decide) (fun q15 => ?_)
  refine g_eq (ws' := pre ++ [(a, .inr (6, [.null, .null, .ref q7, .null, .null, .null, .null, .null, .int 0, .int 0, .int 0, .int 0])), (q7, .inl (G.2.2 0, 36, .inl (fun _ => 0))), (q15, .inl (G.2.2 0, 36, .inl (fun _ => 0)))]) (by rw [List.append_assoc]; rfl) ?_
  refine g_putF (q0 := pre.length + 0) (ci := 6) (j := 3) (fs := [.null, .null, .ref q7, .null, .null, .null, .null, .null, .int 0, .int 0, .int 0, .int 0]) (ws' := pre ++ [(a, .inr (6, [.null, .null, .ref q7, .ref q15, .null, .null, .null, .null, .int 0, .int 0, .int 0, .int 0])), (q7, .inl (G.2.2 0, 36, .inl (fun _ => 0))), (q15, .inl (G.2.2 0, 36, .inl (fun _ => 0)))]) rfl dX8_init_17 kF_X8_15_X8 (g_at rfl) rfl rfl (Nat.le_of_ble_eq_true rfl) (g_set rfl) ?_
  refine g_aload_n dX8_init_20 rfl ?_
  refine g_bipush (v := nI 12) dX8_init_21 (by decide) ?_
  refine g_newa (t := 0) (N := 12) (a0 := 0) dX8_init_23 kz_i (fun U h => h.2.2.1) rfl (by decide) (by decide) (by decide) (by decide) (by decide) (fun q23 => ?_)
  refine g_eq (ws' := pre ++ [(a, .inr (6, [.null, .null, .ref q7, .ref q15, .null, .null, .null, .null, .int 0, .int 0, .int 0, .int 0])), (q7, .inl (G.2.2 0, 36, .inl (fun _ => 0))), (q15, .inl (G.2.2 0, 36, .inl (fun _ => 0))), (q23, .inl (G.2.2 0, 12, .inl (fun _ => 0)))]) (by rw [List.append_assoc]; rfl) ?_
  refine g_putF (q0 := pre.length + 0) (ci := 6) (j := 4) (fs := [.null, .null, .ref q7, .ref q15, .null, .null, .null, .null, .int 0, .int 0, .int 0, .int 0]) (ws' := pre ++ [(a, .inr (6, [.null, .null, .ref q7, .ref q15, .ref q23, .null, .null, .null, .int 0, .int 0, .int 0, .int 0])), (q7, .inl (G.2.2 0, 36, .inl (fun _ => 0))), (q15, .inl (G.2.2 0, 36, .inl (fun _ => 0))), (q23, .inl (G.2.2 0, 12, .inl (fun _ => 0)))]) rfl dX8_init_25 kF_X8_18_X8 (g_at rfl) rfl rfl (Nat.le_of_ble_eq_true rfl) (g_set rfl) ?_
  refine g_aload_n dX8_init_28 rfl ?_
  refine g_bipush (v := nI 12) dX8_init_29 (by decide) ?_
  refine g_newa (t := 0) (N := 12) (a0 := 0) dX8_init_31 kz_i (fun U h => h.2.2.1) rfl (by decide) (by decide) (by decide) (by decide) (by decide) (fun q31 => ?_)
  refine g_eq (ws' := pre ++ [(a, .inr (6, [.null, .null, .ref q7, .ref q15, .ref q23, .null, .null, .null, .int 0, .int 0, .int 0, .int 0])), (q7, .inl (G.2.2 0, 36, .inl (fun _ => 0))), (q15, .inl (G.2.2 0, 36, .inl (fun _ => 0))), (q23, .inl (G.2.2 0, 12, .inl (fun _ => 0))), (q31, .inl (G.2.2 0, 12, .inl (fun _ => 0)))]) (by rw [List.append_assoc]; rfl) ?_
  refine g_putF (q0 := pre.length + 0) (ci := 6) (j := 5) (fs := [.null, .null, .ref q7, .ref q15, .ref q23, .null, .null, .null, .int 0, .int 0, .int 0, .int 0]) (ws' := pre ++ [(a, .inr (6, [.null, .null, .ref q7, .ref q15, .ref q23, .ref q31, .null, .null, .int 0, .int 0, .int 0, .int 0])), (q7, .inl (G.2.2 0, 36, .inl (fun _ => 0))), (q15, .inl (G.2.2 0, 36, .inl (fun _ => 0))), (q23, .inl (G.2.2 0, 12, .inl (fun _ => 0))), (q31, .inl (G.2.2 0, 12, .inl (fun _ => 0)))]) rfl dX8_init_33 kF_X8_21_X8 (g_at rfl) rfl rfl (Nat.le_of_ble_eq_true rfl) (g_set rfl) ?_
  refine g_aload_n dX8_init_36 rfl ?_
  refine g_bipush (v := nI 36) dX8_init_37 (by decide) ?_
  refine g_newa (t := 0) (N := 36) (a0 := 0) dX8_init_39 kz_i (fun U h => h.2.2.1) rfl (by decide) (by decide) (by decide) (by decide) (by decide) (fun q39 => ?_)
  refine g_eq (ws' := pre ++ [(a, .inr (6, [.null, .null, .ref q7, .ref q15, .ref q23, .ref q31, .null, .null, .int 0, .int 0, .int 0, .int 0])), (q7, .inl (G.2.2 0, 36, .inl (fun _ => 0))), (q15, .inl (G.2.2 0, 36, .inl (fun _ => 0))), (q23, .inl (G.2.2 0, 12, .inl (fun _ => 0))), (q31, .inl (G.2.2 0, 12, .inl (fun _ => 0))), (q39, .inl (G.2.2 0, 36, .inl (fun _ => 0)))]) (by rw [List.append_assoc]; rfl) ?_
  refine g_putF (q0 := pre.length + 0) (ci := 6) (j := 6) (fs := [.null, .null, .ref q7, .ref q15, .ref q23, .ref q31, .null, .null, .int 0, .int 0, .int 0, .int 0]) (ws' := pre ++ [(a, .inr (6, [.null, .null, .ref q7, .ref q15, .ref q23, .ref q31, .ref q39, .null, .int 0, .int 0, .int 0, .int 0])), (q7, .inl (G.2.2 0, 36, .inl (fun _ => 0))), (q15, .inl (G.2.2 0, 36, .inl (fun _ => 0))), (q23, .inl (G.2.2 0, 12, .inl (fun _ => 0))), (q31, .inl (G.2.2 0, 12, .inl (fun _ => 0))), (q39, .inl (G.2.2 0, 36, .inl (fun _ => 0)))]) rfl dX8_init_41 kF_X8_24_X8 (g_at rfl) rfl rfl (Nat.le_of_ble_eq_true rfl) (g_set rfl) ?_
  refine g_aload_n dX8_init_44 rfl ?_
  refine g_bipush (v := nI 36) dX8_init_45 (by decide) ?_
  refine g_newa (t := 0) (N := 36) (a0 := 0) dX8_init_47 kz_i (fun U h => h.2.2.1) rfl (by decide) (by decide) (by decide) (by decide) (by decide) (fun q47 => ?_)
  refine g_eq (ws' := pre ++ [(a, .inr (6, [.null, .null, .ref q7, .ref q15, .ref q23, .ref q31, .ref q39, .null, .int 0, .int 0, .int 0, .int 0])), (q7, .inl (G.2.2 0, 36, .inl (fun _ => 0))), (q15, .inl (G.2.2 0, 36, .inl (fun _ => 0))), (q23, .inl (G.2.2 0, 12, .inl (fun _ => 0))), (q31, .inl (G.2.2 0, 12, .inl (fun _ => 0))), (q39, .inl (G.2.2 0, 36, .inl (fun _ => 0))), (q47, .inl (G.2.2 0, 36, .inl (fun _ => 0)))]) (by rw [List.append_assoc]; rfl) ?_
  refine g_putF (q0 := pre.length + 0) (ci := 6) (j := 7) (fs := [.null, .null, .ref q7, .ref q15, .ref q23, .ref q31, .ref q39, .null, .int 0, .int 0, .int 0, .int 0]) (ws' := pre ++ [(a, .inr (6, [.null, .null, .ref q7, .ref q15, .ref q23, .ref q31, .ref q39, .ref q47, .int 0, .int 0, .int 0, .int 0])), (q7, .inl (G.2.2 0, 36, .inl (fun _ => 0))), (q15, .inl (G.2.2 0, 36, .inl (fun _ => 0))), (q23, .inl (G.2.2 0, 12, .inl (fun _ => 0))), (q31, .inl (G.2.2 0, 12, .inl (fun _ => 0))), (q39, .inl (G.2.2 0, 36, .inl (fun _ => 0))), (q47, .inl (G.2.2 0, 36, .inl (fun _ => 0)))]) rfl dX8_init_49 kF_X8_27_X8 (g_at rfl) rfl rfl (Nat.le_of_ble_eq_true rfl) (g_set rfl) ?_
  refine g_aload_n dX8_init_52 rfl ?_
  refine g_iconst (v := nI 0) dX8_init_53 (by decide) ?_
  refine g_put (q0 := pre.length + 0) (ci := 6) (j := 8) (fs := [.null, .null, .ref q7, .ref q15, .ref q23, .ref q31, .ref q39, .ref q47, .int 0, .int 0, .int 0, .int 0]) (ws' := pre ++ [(a, .inr (6, [.null, .null, .ref q7, .ref q15, .ref q23, .ref q31, .ref q39, .ref q47, .int (nI 0), .int 0, .int 0, .int 0])), (q7, .inl (G.2.2 0, 36, .inl (fun _ => 0))), (q15, .inl (G.2.2 0, 36, .inl (fun _ => 0))), (q23, .inl (G.2.2 0, 12, .inl (fun _ => 0))), (q31, .inl (G.2.2 0, 12, .inl (fun _ => 0))), (q39, .inl (G.2.2 0, 36, .inl (fun _ => 0))), (q47, .inl (G.2.2 0, 36, .inl (fun _ => 0)))]) dX8_init_54 kp_X8_30 (g_at rfl) rfl rfl (Nat.le_of_ble_eq_true rfl) (g_set rfl) ?_
  refine g_aload_n dX8_init_57 rfl ?_
  refine g_iconst (v := nI 0) dX8_init_58 (by decide) ?_
  refine g_put (q0 := pre.length + 0) (ci := 6) (j := 9) (fs := [.null, .null, .ref q7, .ref q15, .ref q23, .ref q31, .ref q39, .ref q47, .int (nI 0), .int 0, .int 0, .int 0]) (ws' := pre ++ [(a, .inr (6, [.null, .null, .ref q7, .ref q15, .ref q23, .ref q31, .ref q39, .ref q47, .int (nI 0), .int (nI 0), .int 0, .int 0])), (q7, .inl (G.2.2 0, 36, .inl (fun _ => 0))), (q15, .inl (G.2.2 0, 36, .inl (fun _ => 0))), (q23, .inl (G.2.2 0, 12, .inl (fun _ => 0))), (q31, .inl (G.2.2 0, 12, .inl (fun _ => 0))), (q39, .inl (G.2.2 0, 36, .inl (fun _ => 0))), (q47, .inl (G.2.2 0, 36, .inl (fun _ => 0)))]) dX8_init_59 kp_X8_34 (g_at rfl) rfl rfl (Nat.le_of_ble_eq_true rfl) (g_set rfl) ?_
  refine g_aload_n dX8_init_62 rfl ?_
  refine g_iconst (v := nI 0) dX8_init_63 (by decide) ?_
  refine g_put (q0 := pre.length + 0) (ci := 6) (j := 10) (fs := [.null, .null, .ref q7, .ref q15, .ref q23, .ref q31, .ref q39, .ref q47, .int (nI 0), .int (nI 0), .int 0, .int 0]) (ws' := pre ++ [(a, .inr (6, [.null, .null, .ref q7, .ref q15, .ref q23, .ref q31, .ref q39, .ref q47, .int (nI 0), .int (nI 0), .int (nI 0), .int 0])), (q7, .inl (G.2.2 0, 36, .inl (fun _ => 0))), (q15, .inl (G.2.2 0, 36, .inl (fun _ => 0))), (q23, .inl (G.2.2 0, 12, .inl (fun _ => 0))), (q31, .inl (G.2.2 0, 12, .inl (fun _ => 0))), (q39, .inl (G.2.2 0, 36, .inl (fun _ => 0))), (q47, .inl (G.2.2 0, 36, .inl (fun _ => 0)))]) dX8_init_64 kp_X8_37 (g_at rfl) rfl rfl (Nat.le_of_ble_eq_true rfl) (g_set rfl) ?_
  refine g_aload_n dX8_init_67 rfl ?_
  refine g_iconst (v := nI 0) dX8_init_68 (by decide) ?_
  refine g_put (q0 := pre.length + 0) (ci := 6) (j := 11) (fs := [.null, .null, .ref q7, .ref q15, .ref q23, .ref q31, .ref q39, .ref q47, .int (nI 0), .int (nI 0), .int (nI 0), .int 0]) (ws' := pre ++ [(a, .inr (6, [.null, .null, .ref q7, .ref q15, .ref q23, .ref q31, .ref q39, .ref q47, .int (nI 0), .int (nI 0), .int (nI 0), .int (nI 0)])), (q7, .inl (G.2.2 0, 36, .inl (fun _ => 0))), (q15, .inl (G.2.2 0, 36, .inl (fun _ => 0))), (q23, .inl (G.2.2 0, 12, .inl (fun _ => 0))), (q31, .inl (G.2.2 0, 12, .inl (fun _ => 0))), (q39, .inl (G.2.2 0, 36, .inl (fun _ => 0))), (q47, .inl (G.2.2 0, 36, .inl (fun _ => 0)))]) dX8_init_69 kp_X8_40 (g_at rfl) rfl rfl (Nat.le_of_ble_eq_true rfl) (g_set rfl) ?_
  refine g_aload_n dX8_init_72 rfl ?_
  refine g_aload_n dX8_init_73 rfl ?_
  refine g_putF (q0 := pre.length + 0) (ci := 6) (j := 0) (fs := [.null, .null, .ref q7, .ref q15, .ref q23, .ref q31, .ref q39, .ref q47, .int (nI 0), .int (nI 0), .int (nI 0), .int (nI 0)]) (ws' := pre ++ [(a, .inr (6, [.ref b, .null, .ref q7, .ref q15, .ref q23, .ref q31, .ref q39, .ref q47, .int (nI 0), .int (nI 0), .int (nI 0), .int (nI 0)])), (q7, .inl (G.2.2 0, 36, .inl (fun _ => 0))), (q15, .inl (G.2.2 0, 36, .inl (fun _ => 0))), (q23, .inl (G.2.2 0, 12, .inl (fun _ => 0))), (q31, .inl (G.2.2 0, 12, .inl (fun _ => 0))), (q39, .inl (G.2.2 0, 36, .inl (fun _ => 0))), (q47, .inl (G.2.2 0, 36, .inl (fun _ => 0)))]) rfl dX8_init_74 kF_X8_44_X8 (g_at rfl) rfl rfl (Nat.le_of_ble_eq_true rfl) (g_set rfl) ?_
  refine g_aload_n dX8_init_77 rfl ?_
  refine g_aload_n dX8_init_78 rfl ?_
  refine g_putF (q0 := pre.length + 0) (ci := 6) (j := 1) (fs := [.ref b, .null, .ref q7, .ref q15, .ref q23, .ref q31, .ref q39, .ref q47, .int (nI 0), .int (nI 0), .int (nI 0), .int (nI 0)]) (ws' := pre ++ [(a, .inr (6, [.ref b, .ref c, .ref q7, .ref q15, .ref q23, .ref q31, .ref q39, .ref q47, .int (nI 0), .int (nI 0), .int (nI 0), .int (nI 0)])), (q7, .inl (G.2.2 0, 36, .inl (fun _ => 0))), (q15, .inl (G.2.2 0, 36, .inl (fun _ => 0))), (q23, .inl (G.2.2 0, 12, .inl (fun _ => 0))), (q31, .inl (G.2.2 0, 12, .inl (fun _ => 0))), (q39, .inl (G.2.2 0, 36, .inl (fun _ => 0))), (q47, .inl (G.2.2 0, 36, .inl (fun _ => 0)))]) rfl dX8_init_79 kF_X8_48_X8 (g_at rfl) rfl rfl (Nat.le_of_ble_eq_true rfl) (g_set rfl) ?_
  exact g_ret dX8_init_82 (hK q7 q15 q23 q31 q39 q47)

set_option maxHeartbeats 4000000 in
set_option maxRecDepth 100000 in
theorem i_Goal {G : gm_G} {d a : Nat} {ws : va_W} {K : va_W → Prop} (hK : K ws) : CI G (d + 1) yX2_init [.ref a] ws 0 0 K := by
  refine CI.of (L0 := [_]) cX2_init 1 (by decide) (by decide) kcX2_init (Nat.le_of_ble_eq_true rfl) rfl ?_
  refine g_aload_n dX2_init_0 rfl ?_
  refine g_obj dX2_init_1 ko_X2_1 ko_i ko_c (by omega) ?_
  exact g_ret dX2_init_4 hK
set_option maxHeartbeats 4000000 in
set_option maxRecDepth 100000 in
theorem i_Tally {G : gm_G} {d a : Nat}  {pre : va_W} {K : va_W → Prop} (hK : ∀ q7, K (pre ++ [(a, .inr (8, [.ref q7, .int (nI 0), .int (nI 0)])), (q7, .inl (G.2.2 0, 36, .inl (fun _ => 0)))])) : CI G (d + 2) yX10_init ([.ref a]) (pre ++ [(a, .inr (8, [.null, .int 0, .int 0]))]) 1 36 K := by
  refine CI.of (L0 := [_]) cX10_init 1 (by decide) (by decide) kcX10_init (Nat.le_of_ble_eq_true rfl) rfl ?_
  refine g_aload_n dX10_init_0 rfl ?_
  refine g_callN (host := RX11) (As := []) (mc' := 0) (ms' := 0) dX10_init_1 (List.mem_of_getElem? (i := 3) rfl) kM_X2_init kV_X2 ⟨by decide +kernel, by decide +kernel, by decide +kernel⟩ rfl rfl rfl (by decide) (by decide) ?_
  refine i_Goal ?_
  refine g_aload_n dX10_init_4 rfl ?_
  refine g_bipush (v := nI 36) dX10_init_5 (by decide) ?_
  refine g_newa (t := 0) (N := 36) (a0 := 0) dX10_init_7 kz_i (fun U h => h.2.2.1) rfl (by decide) (by decide) (by decide) (by decide) (by decide) (fun q7 => ?_)
  refine g_eq (ws' := pre ++ [(a, .inr (8, [.null, .int 0, .int 0])), (q7, .inl (G.2.2 0, 36, .inl (fun _ => 0)))]) (by rw [List.append_assoc]; rfl) ?_
  refine g_putF (q0 := pre.length + 0) (ci := 8) (j := 0) (fs := [.null, .int 0, .int 0]) (ws' := pre ++ [(a, .inr (8, [.ref q7, .int 0, .int 0])), (q7, .inl (G.2.2 0, 36, .inl (fun _ => 0)))]) rfl dX10_init_9 kF_X10_9_X10 (g_at rfl) rfl rfl (Nat.le_of_ble_eq_true rfl) (g_set rfl) ?_
  refine g_aload_n dX10_init_12 rfl ?_
  refine g_iconst (v := nI 0) dX10_init_13 (by decide) ?_
  refine g_put (q0 := pre.length + 0) (ci := 8) (j := 1) (fs := [.ref q7, .int 0, .int 0]) (ws' := pre ++ [(a, .inr (8, [.ref q7, .int (nI 0), .int 0])), (q7, .inl (G.2.2 0, 36, .inl (fun _ => 0)))]) dX10_init_14 kp_X10_15 (g_at rfl) rfl rfl (Nat.le_of_ble_eq_true rfl) (g_set rfl) ?_
  refine g_aload_n dX10_init_17 rfl ?_
  refine g_iconst (v := nI 0) dX10_init_18 (by decide) ?_
  refine g_put (q0 := pre.length + 0) (ci := 8) (j := 2) (fs := [.ref q7, .int (nI 0), .int 0]) (ws' := pre ++ [(a, .inr (8, [.ref q7, .int (nI 0), .int (nI 0)])), (q7, .inl (G.2.2 0, 36, .inl (fun _ => 0)))]) dX10_init_19 kp_X10_19 (g_at rfl) rfl rfl (Nat.le_of_ble_eq_true rfl) (g_set rfl) ?_
  exact g_ret dX10_init_22 (hK q7)

set_option maxHeartbeats 4000000 in
set_option maxRecDepth 100000 in
theorem i_Range {G : gm_G} {d a : Nat}  {pre : va_W} {K : va_W → Prop} (hK : ∀ q7 q15, K (pre ++ [(a, .inr (4, [.ref q7, .ref q15, .int (nI 0)])), (q7, .inl (G.2.2 0, 36, .inl (fun _ => 0))), (q15, .inl (G.2.2 0, 36, .inl (fun _ => 0)))])) : CI G (d + 2) yX6_init ([.ref a]) (pre ++ [(a, .inr (4, [.null, .null, .int 0]))]) 2 72 K := by
  refine CI.of (L0 := [_]) cX6_init 1 (by decide) (by decide) kcX6_init (Nat.le_of_ble_eq_true rfl) rfl ?_
  refine g_aload_n dX6_init_0 rfl ?_
  refine g_callN (host := RX11) (As := []) (mc' := 0) (ms' := 0) dX6_init_1 (List.mem_of_getElem? (i := 5) rfl) kM_X2_init kV_X2 ⟨by decide +kernel, by decide +kernel, by decide +kernel⟩ rfl rfl rfl (by decide) (by decide) ?_
  refine i_Goal ?_
  refine g_aload_n dX6_init_4 rfl ?_
  refine g_bipush (v := nI 36) dX6_init_5 (by decide) ?_
  refine g_newa (t := 0) (N := 36) (a0 := 0) dX6_init_7 kz_i (fun U h => h.2.2.1) rfl (by decide) (by decide) (by decide) (by decide) (by decide) (fun q7 => ?_)
  refine g_eq (ws' := pre ++ [(a, .inr (4, [.null, .null, .int 0])), (q7, .inl (G.2.2 0, 36, .inl (fun _ => 0)))]) (by rw [List.append_assoc]; rfl) ?_
  refine g_putF (q0 := pre.length + 0) (ci := 4) (j := 0) (fs := [.null, .null, .int 0]) (ws' := pre ++ [(a, .inr (4, [.ref q7, .null, .int 0])), (q7, .inl (G.2.2 0, 36, .inl (fun _ => 0)))]) rfl dX6_init_9 kF_X6_9_X6 (g_at rfl) rfl rfl (Nat.le_of_ble_eq_true rfl) (g_set rfl) ?_
  refine g_aload_n dX6_init_12 rfl ?_
  refine g_bipush (v := nI 36) dX6_init_13 (by decide) ?_
  refine g_newa (t := 0) (N := 36) (a0 := 0) dX6_init_15 kz_i (fun U h => h.2.2.1) rfl (by decide) (by decide) (by decide) (by decide) (by decide) (fun q15 => ?_)
  refine g_eq (ws' := pre ++ [(a, .inr (4, [.ref q7, .null, .int 0])), (q7, .inl (G.2.2 0, 36, .inl (fun _ => 0))), (q15, .inl (G.2.2 0, 36, .inl (fun _ => 0)))]) (by rw [List.append_assoc]; rfl) ?_
  refine g_putF (q0 := pre.length + 0) (ci := 4) (j := 1) (fs := [.ref q7, .null, .int 0]) (ws' := pre ++ [(a, .inr (4, [.ref q7, .ref q15, .int 0])), (q7, .inl (G.2.2 0, 36, .inl (fun _ => 0))), (q15, .inl (G.2.2 0, 36, .inl (fun _ => 0)))]) rfl dX6_init_17 kF_X6_15_X6 (g_at rfl) rfl rfl (Nat.le_of_ble_eq_true rfl) (g_set rfl) ?_
  refine g_aload_n dX6_init_20 rfl ?_
  refine g_iconst (v := nI 0) dX6_init_21 (by decide) ?_
  refine g_put (q0 := pre.length + 0) (ci := 4) (j := 2) (fs := [.ref q7, .ref q15, .int 0]) (ws' := pre ++ [(a, .inr (4, [.ref q7, .ref q15, .int (nI 0)])), (q7, .inl (G.2.2 0, 36, .inl (fun _ => 0))), (q15, .inl (G.2.2 0, 36, .inl (fun _ => 0)))]) dX6_init_22 kp_X6_18 (g_at rfl) rfl rfl (Nat.le_of_ble_eq_true rfl) (g_set rfl) ?_
  exact g_ret dX6_init_25 (hK q7 q15)

set_option maxHeartbeats 4000000 in
set_option maxRecDepth 100000 in
theorem i_BestX1 {G : gm_G} {d a : Nat}  {pre : va_W} {K : va_W → Prop} (hK : ∀ q7, K (pre ++ [(a, .inr (0, [.ref q7, .int (nI 0), .int (nI 0), .null])), (q7, .inl (G.2.2 0, 36, .inl (fun _ => 0)))])) : CI G (d + 2) yX0_init ([.ref a]) (pre ++ [(a, .inr (0, [.null, .int 0, .int 0, .null]))]) 1 36 K := by
  refine CI.of (L0 := [_]) cX0_init 1 (by decide) (by decide) kcX0_init (Nat.le_of_ble_eq_true rfl) rfl ?_
  refine g_aload_n dX0_init_0 rfl ?_
  refine g_callN (host := RX11) (As := []) (mc' := 0) (ms' := 0) dX0_init_1 (List.mem_of_getElem? (i := 7) rfl) kM_X2_init kV_X2 ⟨by decide +kernel, by decide +kernel, by decide +kernel⟩ rfl rfl rfl (by decide) (by decide) ?_
  refine i_Goal ?_
  refine g_aload_n dX0_init_4 rfl ?_
  refine g_bipush (v := nI 36) dX0_init_5 (by decide) ?_
  refine g_newa (t := 0) (N := 36) (a0 := 0) dX0_init_7 kz_i (fun U h => h.2.2.1) rfl (by decide) (by decide) (by decide) (by decide) (by decide) (fun q7 => ?_)
  refine g_eq (ws' := pre ++ [(a, .inr (0, [.null, .int 0, .int 0, .null])), (q7, .inl (G.2.2 0, 36, .inl (fun _ => 0)))]) (by rw [List.append_assoc]; rfl) ?_
  refine g_putF (q0 := pre.length + 0) (ci := 0) (j := 0) (fs := [.null, .int 0, .int 0, .null]) (ws' := pre ++ [(a, .inr (0, [.ref q7, .int 0, .int 0, .null])), (q7, .inl (G.2.2 0, 36, .inl (fun _ => 0)))]) rfl dX0_init_9 kF_X0_9_X1 (g_at rfl) rfl rfl (Nat.le_of_ble_eq_true rfl) (g_set rfl) ?_
  refine g_aload_n dX0_init_12 rfl ?_
  refine g_iconst (v := nI 0) dX0_init_13 (by decide) ?_
  refine g_put (q0 := pre.length + 0) (ci := 0) (j := 1) (fs := [.ref q7, .int 0, .int 0, .null]) (ws' := pre ++ [(a, .inr (0, [.ref q7, .int (nI 0), .int 0, .null])), (q7, .inl (G.2.2 0, 36, .inl (fun _ => 0)))]) dX0_init_14 kp_X0_15_c0 (g_at rfl) rfl rfl (Nat.le_of_ble_eq_true rfl) (g_set rfl) ?_
  refine g_aload_n dX0_init_17 rfl ?_
  refine g_iconst (v := nI 0) dX0_init_18 (by decide) ?_
  refine g_put (q0 := pre.length + 0) (ci := 0) (j := 2) (fs := [.ref q7, .int (nI 0), .int 0, .null]) (ws' := pre ++ [(a, .inr (0, [.ref q7, .int (nI 0), .int (nI 0), .null])), (q7, .inl (G.2.2 0, 36, .inl (fun _ => 0)))]) dX0_init_19 kp_X0_19_c0 (g_at rfl) rfl rfl (Nat.le_of_ble_eq_true rfl) (g_set rfl) ?_
  exact g_ret dX0_init_22 (hK q7)

set_option maxHeartbeats 4000000 in
set_option maxRecDepth 100000 in
theorem i_BestX3 {G : gm_G} {d a : Nat}  {pre : va_W} {K : va_W → Prop} (hK : ∀ q7, K (pre ++ [(a, .inr (1, [.ref q7, .int (nI 0), .int (nI 0), .null])), (q7, .inl (G.2.2 0, 36, .inl (fun _ => 0)))])) : CI G (d + 2) yX0_init ([.ref a]) (pre ++ [(a, .inr (1, [.null, .int 0, .int 0, .null]))]) 1 36 K := by
  refine CI.of (L0 := [_]) cX0_init 1 (by decide) (by decide) kcX0_init (Nat.le_of_ble_eq_true rfl) rfl ?_
  refine g_aload_n dX0_init_0 rfl ?_
  refine g_callN (host := RX11) (As := []) (mc' := 0) (ms' := 0) dX0_init_1 (List.mem_of_getElem? (i := 7) rfl) kM_X2_init kV_X2 ⟨by decide +kernel, by decide +kernel, by decide +kernel⟩ rfl rfl rfl (by decide) (by decide) ?_
  refine i_Goal ?_
  refine g_aload_n dX0_init_4 rfl ?_
  refine g_bipush (v := nI 36) dX0_init_5 (by decide) ?_
  refine g_newa (t := 0) (N := 36) (a0 := 0) dX0_init_7 kz_i (fun U h => h.2.2.1) rfl (by decide) (by decide) (by decide) (by decide) (by decide) (fun q7 => ?_)
  refine g_eq (ws' := pre ++ [(a, .inr (1, [.null, .int 0, .int 0, .null])), (q7, .inl (G.2.2 0, 36, .inl (fun _ => 0)))]) (by rw [List.append_assoc]; rfl) ?_
  refine g_putF (q0 := pre.length + 0) (ci := 1) (j := 0) (fs := [.null, .int 0, .int 0, .null]) (ws' := pre ++ [(a, .inr (1, [.ref q7, .int 0, .int 0, .null])), (q7, .inl (G.2.2 0, 36, .inl (fun _ => 0)))]) rfl dX0_init_9 kF_X0_9_X3 (g_at rfl) rfl rfl (Nat.le_of_ble_eq_true rfl) (g_set rfl) ?_
  refine g_aload_n dX0_init_12 rfl ?_
  refine g_iconst (v := nI 0) dX0_init_13 (by decide) ?_
  refine g_put (q0 := pre.length + 0) (ci := 1) (j := 1) (fs := [.ref q7, .int 0, .int 0, .null]) (ws' := pre ++ [(a, .inr (1, [.ref q7, .int (nI 0), .int 0, .null])), (q7, .inl (G.2.2 0, 36, .inl (fun _ => 0)))]) dX0_init_14 kp_X0_15_c1 (g_at rfl) rfl rfl (Nat.le_of_ble_eq_true rfl) (g_set rfl) ?_
  refine g_aload_n dX0_init_17 rfl ?_
  refine g_iconst (v := nI 0) dX0_init_18 (by decide) ?_
  refine g_put (q0 := pre.length + 0) (ci := 1) (j := 2) (fs := [.ref q7, .int (nI 0), .int 0, .null]) (ws' := pre ++ [(a, .inr (1, [.ref q7, .int (nI 0), .int (nI 0), .null])), (q7, .inl (G.2.2 0, 36, .inl (fun _ => 0)))]) dX0_init_19 kp_X0_19_c1 (g_at rfl) rfl rfl (Nat.le_of_ble_eq_true rfl) (g_set rfl) ?_
  exact g_ret dX0_init_22 (hK q7)

set_option maxHeartbeats 4000000 in
set_option maxRecDepth 100000 in
theorem i_Fewest {G : gm_G} {d a : Nat} {b : Nat} {pre : va_W} {K : va_W → Prop} (hK : ∀ b7, K (pre ++ [(a, .inr (0, [.ref b7, .int (nI 0), .int (nI 0), .ref b])), (b7, .inl (G.2.2 0, 36, .inl (fun _ => 0)))])) : CI G (d + 3) yX1_init ([.ref a, .ref b]) (pre ++ [(a, .inr (0, [.null, .int 0, .int 0, .null]))]) 1 36 K := by
  refine CI.of (L0 := [_, _]) cX1_init 2 (by decide) (by decide) kcX1_init (Nat.le_of_ble_eq_true rfl) rfl ?_
  refine g_aload_n dX1_init_0 rfl ?_
  refine g_callN (host := RX11) (As := []) (mc' := 1) (ms' := 36) dX1_init_1 (List.mem_of_getElem? (i := 6) rfl) kM_X0_init kV_X0 ⟨by decide +kernel, by decide +kernel, by decide +kernel⟩ rfl rfl rfl (by decide) (by decide) ?_
  refine i_BestX1 (fun b7 => ?_)
  refine g_aload_n dX1_init_4 rfl ?_
  refine g_aload_n dX1_init_5 rfl ?_
  refine g_putF (q0 := pre.length + 0) (ci := 0) (j := 3) (fs := [.ref b7, .int (nI 0), .int (nI 0), .null]) (ws' := pre ++ [(a, .inr (0, [.ref b7, .int (nI 0), .int (nI 0), .ref b])), (b7, .inl (G.2.2 0, 36, .inl (fun _ => 0)))]) rfl dX1_init_6 kF_X1_9_X1 (g_at rfl) rfl rfl (Nat.le_of_ble_eq_true rfl) (g_set rfl) ?_
  exact g_ret dX1_init_9 (hK b7)

set_option maxHeartbeats 4000000 in
set_option maxRecDepth 100000 in
theorem i_Heaviest {G : gm_G} {d a : Nat}  {pre : va_W} {K : va_W → Prop} (hK : ∀ b7 q7, K (pre ++ [(a, .inr (1, [.ref b7, .int (nI 0), .int (nI 0), .ref q7])), (b7, .inl (G.2.2 0, 36, .inl (fun _ => 0))), (q7, .inl (G.2.2 1, 36, .inl (fun _ => 0)))])) : CI G (d + 3) yX3_init ([.ref a]) (pre ++ [(a, .inr (1, [.null, .int 0, .int 0, .null]))]) 2 72 K := by
  refine CI.of (L0 := [_]) cX3_init 1 (by decide) (by decide) kcX3_init (Nat.le_of_ble_eq_true rfl) rfl ?_
  refine g_aload_n dX3_init_0 rfl ?_
  refine g_callN (host := RX11) (As := []) (mc' := 1) (ms' := 36) dX3_init_1 (List.mem_of_getElem? (i := 9) rfl) kM_X0_init kV_X0 ⟨by decide +kernel, by decide +kernel, by decide +kernel⟩ rfl rfl rfl (by decide) (by decide) ?_
  refine i_BestX3 (fun b7 => ?_)
  refine g_aload_n dX3_init_4 rfl ?_
  refine g_bipush (v := nI 36) dX3_init_5 (by decide) ?_
  refine g_newa (t := 1) (N := 36) (a0 := 0) dX3_init_7 kz_z (fun U h => h.2.2.2.1) rfl (by decide) (by decide) (by decide) (by decide) (by decide) (fun q7 => ?_)
  refine g_eq (ws' := pre ++ [(a, .inr (1, [.ref b7, .int (nI 0), .int (nI 0), .null])), (b7, .inl (G.2.2 0, 36, .inl (fun _ => 0))), (q7, .inl (G.2.2 1, 36, .inl (fun _ => 0)))]) (by rw [List.append_assoc]; rfl) ?_
  refine g_putF (q0 := pre.length + 0) (ci := 1) (j := 3) (fs := [.ref b7, .int (nI 0), .int (nI 0), .null]) (ws' := pre ++ [(a, .inr (1, [.ref b7, .int (nI 0), .int (nI 0), .ref q7])), (b7, .inl (G.2.2 0, 36, .inl (fun _ => 0))), (q7, .inl (G.2.2 1, 36, .inl (fun _ => 0)))]) rfl dX3_init_9 kF_X3_9_X3 (g_at rfl) rfl rfl (Nat.le_of_ble_eq_true rfl) (g_set rfl) ?_
  exact g_ret dX3_init_12 (hK b7 q7)

