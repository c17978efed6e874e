set_option maxHeartbeats 4000000 in
set_option maxRecDepth 100000 in
theorem i_LU {G : gm_G} {d a : Nat} {K : va_W → Prop} (hK : ∀ (ad : Nat → Nat) (I : am_I), ad 0 = a → (∀ k, k ≠ 2 → k ≠ 44 → k ≠ 45 → k ≠ 46 → I k = luI k) → rvC 2 44 45 (fun _ => 0) (fun _ => 0) (fun _ => false) 0 2 I → K (am_Wq G.2.2 ad I (fun _ _ => 0))) : CI G (d + 4) yX11_init [.ref a] [(a, .inr (9, [.null, .null, .null, .null, .null, .null, .null, .null, .null, .null, .int 0, .int 0, .long 0, .int 0, .null]))] 62 1471 K := by
  refine CI.of (L0 := [_]) cX11_init 1 (by decide) (by decide) kcX11_init (Nat.le_of_ble_eq_true rfl) rfl ?_
  refine g_aload_n dX11_init_0 rfl ?_
  refine g_obj dX11_init_1 ko_X11_1 ko_i ko_c (by omega) ?_
  refine g_aload_n dX11_init_4 rfl ?_
  refine g_new (ci := 3) (ty0 := tyX5) (fs := [.int 0, .int 0, .null, .null, .null]) dX11_init_5 rfl iw_X5 tyX5_ok kC_X11_7 kN_X5 kV_X5 (fun j hj => by rcases (show j = 0 ∨ j = 1 ∨ j = 2 ∨ j = 3 ∨ j = 4 by omega) with rfl | rfl | rfl | rfl | rfl <;> rfl) (by decide) (by decide) (fun q5 => ?_)
  refine g_dup dX11_init_8 rfl ?_
  refine g_callI (As := []) (n := 0) (mc' := 27) (ms' := 456) dX11_init_9 kI_X11_9 kM_X5_init kV_X5 ⟨by decide +kernel, by decide +kernel, by decide +kernel⟩ rfl rfl rfl (Nat.le_of_ble_eq_true rfl) (by decide) ?_
  refine i_Net (d := d + 1) (fun l m b ln rd f hf => ?_)
  refine g_putF (q0 := 0) (ci := 9) (j := 0) (fs := [.null, .null, .null, .null, .null, .null, .null, .null, .null, .null, .int 0, .int 0, .long 0, .int 0, .null]) (ws' := (a, .inr (9, [.ref q5, .null, .null, .null, .null, .null, .null, .null, .null, .null, .int 0, .int 0, .long 0, .int 0, .null])) :: _) rfl dX11_init_12 kF_X11_10_X11 rfl rfl rfl (Nat.le_of_ble_eq_true rfl) rfl ?_
  refine g_aload_n dX11_init_15 rfl ?_
  refine g_new (ci := 5) (ty0 := tyX7) (fs := [.int 0, .null, .null, .null]) dX11_init_16 rfl iw_X7 tyX7_ok kC_X11_16 kN_X7 kV_X7 (fun j hj => by rcases (show j = 0 ∨ j = 1 ∨ j = 2 ∨ j = 3 by omega) with rfl | rfl | rfl | rfl <;> rfl) (by decide) (by decide) (fun q16 => ?_)
  refine g_dup dX11_init_19 rfl ?_
  refine g_callN (host := RX11) (As := []) (n := 0) (mc' := 3) (ms' := 222) dX11_init_20 (List.mem_of_getElem? (i := 1) rfl) kM_X7_init kV_X7 ⟨by decide +kernel, by decide +kernel, by decide +kernel⟩ rfl rfl rfl (Nat.le_of_ble_eq_true rfl) (by decide) ?_
  refine i_Routes (d := d + 2) (fun q20_12 q20_21 q20_29 => ?_)
  refine g_putF (q0 := 0) (ci := 9) (j := 1) (fs := [.ref q5, .null, .null, .null, .null, .null, .null, .null, .null, .null, .int 0, .int 0, .long 0, .int 0, .null]) (ws' := (a, .inr (9, [.ref q5, .ref q16, .null, .null, .null, .null, .null, .null, .null, .null, .int 0, .int 0, .long 0, .int 0, .null])) :: _) rfl dX11_init_23 kF_X11_19_X11 rfl rfl rfl (Nat.le_of_ble_eq_true rfl) rfl ?_
  refine g_aload_n dX11_init_26 rfl ?_
  refine g_new (ci := 5) (ty0 := tyX7) (fs := [.int 0, .null, .null, .null]) dX11_init_27 rfl iw_X7 tyX7_ok kC_X11_16 kN_X7 kV_X7 (fun j hj => by rcases (show j = 0 ∨ j = 1 ∨ j = 2 ∨ j = 3 by omega) with rfl | rfl | rfl | rfl <;> rfl) (by decide) (by decide) (fun q27 => ?_)
  refine g_dup dX11_init_30 rfl ?_
  refine g_callN (host := RX11) (As := []) (n := 0) (mc' := 3) (ms' := 222) dX11_init_31 (List.mem_of_getElem? (i := 1) rfl) kM_X7_init kV_X7 ⟨by decide +kernel, by decide +kernel, by decide +kernel⟩ rfl rfl rfl (Nat.le_of_ble_eq_true rfl) (by decide) ?_
  refine i_Routes (d := d + 2) (fun q31_12 q31_21 q31_29 => ?_)
  refine g_putF (q0 := 0) (ci := 9) (j := 2) (fs := [.ref q5, .ref q16, .null, .null, .null, .null, .null, .null, .null, .null, .int 0, .int 0, .long 0, .int 0, .null]) (ws' := (a, .inr (9, [.ref q5, .ref q16, .ref q27, .null, .null, .null, .null, .null, .null, .null, .int 0, .int 0, .long 0, .int 0, .null])) :: _) rfl dX11_init_34 kF_X11_23_X11 rfl rfl rfl (Nat.le_of_ble_eq_true rfl) rfl ?_
  refine g_aload_n dX11_init_37 rfl ?_
  refine g_new (ci := 6) (ty0 := tyX8) (fs := [.null, .null, .null, .null, .null, .null, .null, .null, .int 0, .int 0, .int 0, .int 0]) dX11_init_38 rfl iw_X8 tyX8_ok kC_X11_26 kN_X8 kV_X8 (fun j hj => by rcases (show j = 0 ∨ j = 1 ∨ j = 2 ∨ j = 3 ∨ j = 4 ∨ j = 5 ∨ j = 6 ∨ j = 7 ∨ j = 8 ∨ j = 9 ∨ j = 10 ∨ j = 11 by omega) with rfl | rfl | rfl | rfl | rfl | rfl | rfl | rfl | rfl | rfl | rfl | rfl <;> rfl) (by decide) (by decide) (fun q38 => ?_)
  refine g_dup dX11_init_41 rfl ?_
  refine g_aload_n dX11_init_42 rfl ?_
  refine g_get (q0 := 0) (fs := [.ref q5, .ref q16, .ref q27, .null, .null, .null, .null, .null, .null, .null, .int 0, .int 0, .long 0, .int 0, .null]) dX11_init_43 kf_X11_10 rfl rfl ?_
  refine g_aload_n dX11_init_46 rfl ?_
  refine g_get (q0 := 0) (fs := [.ref q5, .ref q16, .ref q27, .null, .null, .null, .null, .null, .null, .null, .int 0, .int 0, .long 0, .int 0, .null]) dX11_init_47 kf_X11_19 rfl rfl ?_
  refine g_callI (As := [.ref q5, .ref q16]) (n := 2) (mc' := 6) (ms' := 168) dX11_init_50 kI_X11_28 kM_X8_init kV_X8 ⟨by decide +kernel, by decide +kernel, by decide +kernel⟩ rfl rfl rfl (Nat.le_of_ble_eq_true rfl) (by decide) ?_
  refine i_Seeker (d := d + 2) (fun q50_7 q50_15 q50_23 q50_31 q50_39 q50_47 => ?_)
  refine g_putF (q0 := 0) (ci := 9) (j := 3) (fs := [.ref q5, .ref q16, .ref q27, .null, .null, .null, .null, .null, .null, .null, .int 0, .int 0, .long 0, .int 0, .null]) (ws' := (a, .inr (9, [.ref q5, .ref q16, .ref q27, .ref q38, .null, .null, .null, .null, .null, .null, .int 0, .int 0, .long 0, .int 0, .null])) :: _) rfl dX11_init_53 kF_X11_31_X11 rfl rfl rfl (Nat.le_of_ble_eq_true rfl) rfl ?_
  refine g_aload_n dX11_init_56 rfl ?_
  refine g_new (ci := 8) (ty0 := tyX10) (fs := [.null, .int 0, .int 0]) dX11_init_57 rfl iw_X10 tyX10_ok kC_X11_35 kN_X10 kV_X10 (fun j hj => by rcases (show j = 0 ∨ j = 1 ∨ j = 2 by omega) with rfl | rfl | rfl <;> rfl) (by decide) (by decide) (fun q57 => ?_)
  refine g_dup dX11_init_60 rfl ?_
  refine g_callN (host := RX11) (As := []) (n := 0) (mc' := 1) (ms' := 36) dX11_init_61 (List.mem_of_getElem? (i := 2) rfl) kM_X10_init kV_X10 ⟨by decide +kernel, by decide +kernel, by decide +kernel⟩ rfl rfl rfl (Nat.le_of_ble_eq_true rfl) (by decide) ?_
  refine i_Tally (d := d + 1) (fun q61_7 => ?_)
  refine g_putF (q0 := 0) (ci := 9) (j := 4) (fs := [.ref q5, .ref q16, .ref q27, .ref q38, .null, .null, .null, .null, .null, .null, .int 0, .int 0, .long 0, .int 0, .null]) (ws' := (a, .inr (9, [.ref q5, .ref q16, .ref q27, .ref q38, .ref q57, .null, .null, .null, .null, .null, .int 0, .int 0, .long 0, .int 0, .null])) :: _) rfl dX11_init_64 kF_X11_38_X11 rfl rfl rfl (Nat.le_of_ble_eq_true rfl) rfl ?_
  refine g_aload_n dX11_init_67 rfl ?_
  refine g_new (ci := 4) (ty0 := tyX6) (fs := [.null, .null, .int 0]) dX11_init_68 rfl iw_X6 tyX6_ok kC_X11_42 kN_X6 kV_X6 (fun j hj => by rcases (show j = 0 ∨ j = 1 ∨ j = 2 by omega) with rfl | rfl | rfl <;> rfl) (by decide) (by decide) (fun q68 => ?_)
  refine g_dup dX11_init_71 rfl ?_
  refine g_callN (host := RX11) (As := []) (n := 0) (mc' := 2) (ms' := 72) dX11_init_72 (List.mem_of_getElem? (i := 4) rfl) kM_X6_init kV_X6 ⟨by decide +kernel, by decide +kernel, by decide +kernel⟩ rfl rfl rfl (Nat.le_of_ble_eq_true rfl) (by decide) ?_
  refine i_Range (d := d + 1) (fun q72_7 q72_15 => ?_)
  refine g_putF (q0 := 0) (ci := 9) (j := 5) (fs := [.ref q5, .ref q16, .ref q27, .ref q38, .ref q57, .null, .null, .null, .null, .null, .int 0, .int 0, .long 0, .int 0, .null]) (ws' := (a, .inr (9, [.ref q5, .ref q16, .ref q27, .ref q38, .ref q57, .ref q68, .null, .null, .null, .null, .int 0, .int 0, .long 0, .int 0, .null])) :: _) rfl dX11_init_75 kF_X11_45_X11 rfl rfl rfl (Nat.le_of_ble_eq_true rfl) rfl ?_
  refine g_aload_n dX11_init_78 rfl ?_
  refine g_new (ci := 0) (ty0 := tyX1) (fs := [.null, .int 0, .int 0, .null]) dX11_init_79 rfl iw_X1 tyX1_ok kC_X11_49 kN_X1 kV_X1 (fun j hj => by rcases (show j = 0 ∨ j = 1 ∨ j = 2 ∨ j = 3 by omega) with rfl | rfl | rfl | rfl <;> rfl) (by decide) (by decide) (fun q79 => ?_)
  refine g_dup dX11_init_82 rfl ?_
  refine g_aload_n dX11_init_83 rfl ?_
  refine g_get (q0 := 0) (fs := [.ref q5, .ref q16, .ref q27, .ref q38, .ref q57, .ref q68, .null, .null, .null, .null, .int 0, .int 0, .long 0, .int 0, .null]) dX11_init_84 kf_X11_10 rfl rfl ?_
  refine g_get (q0 := 1) (fs := [.int (nI 2), .int (nI 0), .ref l, .ref m, .ref b]) dX11_init_87 kf_X11_51 rfl rfl ?_
  refine g_callI (As := [.ref b]) (n := 1) (mc' := 1) (ms' := 36) dX11_init_90 kI_X11_55 kM_X1_init kV_X1 ⟨by decide +kernel, by decide +kernel, by decide +kernel⟩ rfl rfl rfl (Nat.le_of_ble_eq_true rfl) (by decide) ?_
  refine i_Fewest (d := d + 0) (fun b90_7 => ?_)
  refine g_putF (q0 := 0) (ci := 9) (j := 6) (fs := [.ref q5, .ref q16, .ref q27, .ref q38, .ref q57, .ref q68, .null, .null, .null, .null, .int 0, .int 0, .long 0, .int 0, .null]) (ws' := (a, .inr (9, [.ref q5, .ref q16, .ref q27, .ref q38, .ref q57, .ref q68, .ref q79, .null, .null, .null, .int 0, .int 0, .long 0, .int 0, .null])) :: _) rfl dX11_init_93 kF_X11_58_X11 rfl rfl rfl (Nat.le_of_ble_eq_true rfl) rfl ?_
  refine g_aload_n dX11_init_96 rfl ?_
  refine g_new (ci := 1) (ty0 := tyX3) (fs := [.null, .int 0, .int 0, .null]) dX11_init_97 rfl iw_X3 tyX3_ok kC_X11_62 kN_X3 kV_X3 (fun j hj => by rcases (show j = 0 ∨ j = 1 ∨ j = 2 ∨ j = 3 by omega) with rfl | rfl | rfl | rfl <;> rfl) (by decide) (by decide) (fun q97 => ?_)
  refine g_dup dX11_init_100 rfl ?_
  refine g_callN (host := RX11) (As := []) (n := 0) (mc' := 2) (ms' := 72) dX11_init_101 (List.mem_of_getElem? (i := 8) rfl) kM_X3_init kV_X3 ⟨by decide +kernel, by decide +kernel, by decide +kernel⟩ rfl rfl rfl (Nat.le_of_ble_eq_true rfl) (by decide) ?_
  refine i_Heaviest (d := d + 0) (fun b101_7 q101_7 => ?_)
  refine g_putF (q0 := 0) (ci := 9) (j := 7) (fs := [.ref q5, .ref q16, .ref q27, .ref q38, .ref q57, .ref q68, .ref q79, .null, .null, .null, .int 0, .int 0, .long 0, .int 0, .null]) (ws' := (a, .inr (9, [.ref q5, .ref q16, .ref q27, .ref q38, .ref q57, .ref q68, .ref q79, .ref q97, .null, .null, .int 0, .int 0, .long 0, .int 0, .null])) :: _) rfl dX11_init_104 kF_X11_65_X11 rfl rfl rfl (Nat.le_of_ble_eq_true rfl) rfl ?_
  refine g_aload_n dX11_init_107 rfl ?_
  refine g_new (ci := 7) (ty0 := tyX9) (fs := [.null, .null]) dX11_init_108 rfl iw_X9 tyX9_ok kC_X11_69 kN_X9 kV_X9 (fun j hj => by rcases (show j = 0 ∨ j = 1 by omega) with rfl | rfl <;> rfl) (by decide) (by decide) (fun q108 => ?_)
  refine g_dup dX11_init_111 rfl ?_
  refine g_callI (As := []) (n := 0) (mc' := 6) (ms' := 104) dX11_init_112 kI_X11_71 kM_X9_init kV_X9 ⟨by decide +kernel, by decide +kernel, by decide +kernel⟩ rfl rfl rfl (Nat.le_of_ble_eq_true rfl) (by decide) ?_
  refine i_Sheets (d := d + 2) (fun q112_8 q112_80 q112_81 q112_82 q112_83 q112_17 => ?_)
  refine g_putF (q0 := 0) (ci := 9) (j := 8) (fs := [.ref q5, .ref q16, .ref q27, .ref q38, .ref q57, .ref q68, .ref q79, .ref q97, .null, .null, .int 0, .int 0, .long 0, .int 0, .null]) (ws' := (a, .inr (9, [.ref q5, .ref q16, .ref q27, .ref q38, .ref q57, .ref q68, .ref q79, .ref q97, .ref q108, .null, .int 0, .int 0, .long 0, .int 0, .null])) :: _) rfl dX11_init_115 kF_X11_72_X11 rfl rfl rfl (Nat.le_of_ble_eq_true rfl) rfl ?_
  refine g_aload_n dX11_init_118 rfl ?_
  refine g_bipush (v := nI 36) dX11_init_119 (by decide) ?_
  refine g_newa (t := 0) (N := 36) (a0 := 0) dX11_init_121 kz_i (fun U h => h.2.2.1) rfl (by decide) (by decide) (by decide) (by decide) (by decide) (fun q121 => ?_)
  refine g_putF (q0 := 0) (ci := 9) (j := 9) (fs := [.ref q5, .ref q16, .ref q27, .ref q38, .ref q57, .ref q68, .ref q79, .ref q97, .ref q108, .null, .int 0, .int 0, .long 0, .int 0, .null]) (ws' := (a, .inr (9, [.ref q5, .ref q16, .ref q27, .ref q38, .ref q57, .ref q68, .ref q79, .ref q97, .ref q108, .ref q121, .int 0, .int 0, .long 0, .int 0, .null])) :: _) rfl dX11_init_123 kF_X11_76_X11 rfl rfl rfl (Nat.le_of_ble_eq_true rfl) rfl ?_
  refine g_aload_n dX11_init_126 rfl ?_
  refine g_iconst (v := nI 0) dX11_init_127 (by decide) ?_
  refine g_put (q0 := 0) (ci := 9) (j := 10) (fs := [.ref q5, .ref q16, .ref q27, .ref q38, .ref q57, .ref q68, .ref q79, .ref q97, .ref q108, .ref q121, .int 0, .int 0, .long 0, .int 0, .null]) (ws' := (a, .inr (9, [.ref q5, .ref q16, .ref q27, .ref q38, .ref q57, .ref q68, .ref q79, .ref q97, .ref q108, .ref q121, .int (nI 0), .int 0, .long 0, .int 0, .null])) :: _) dX11_init_128 kp_X11_79 rfl rfl rfl (Nat.le_of_ble_eq_true rfl) rfl ?_
  refine g_aload_n dX11_init_131 rfl ?_
  refine g_iconst (v := nI 0) dX11_init_132 (by decide) ?_
  refine g_put (q0 := 0) (ci := 9) (j := 11) (fs := [.ref q5, .ref q16, .ref q27, .ref q38, .ref q57, .ref q68, .ref q79, .ref q97, .ref q108, .ref q121, .int (nI 0), .int 0, .long 0, .int 0, .null]) (ws' := (a, .inr (9, [.ref q5, .ref q16, .ref q27, .ref q38, .ref q57, .ref q68, .ref q79, .ref q97, .ref q108, .ref q121, .int (nI 0), .int (nI 0), .long 0, .int 0, .null])) :: _) dX11_init_133 kp_X11_83 rfl rfl rfl (Nat.le_of_ble_eq_true rfl) rfl ?_
  refine g_aload_n dX11_init_136 rfl ?_
  refine g_lconst (v := 0) dX11_init_137 (by decide) ?_
  refine g_put (q0 := 0) (ci := 9) (j := 12) (fs := [.ref q5, .ref q16, .ref q27, .ref q38, .ref q57, .ref q68, .ref q79, .ref q97, .ref q108, .ref q121, .int (nI 0), .int (nI 0), .long 0, .int 0, .null]) (ws' := (a, .inr (9, [.ref q5, .ref q16, .ref q27, .ref q38, .ref q57, .ref q68, .ref q79, .ref q97, .ref q108, .ref q121, .int (nI 0), .int (nI 0), .long 0, .int 0, .null])) :: _) dX11_init_138 kp_X11_87 rfl rfl rfl (Nat.le_of_ble_eq_true rfl) rfl ?_
  refine g_aload_n dX11_init_141 rfl ?_
  refine g_iconst (v := nI 0) dX11_init_142 (by decide) ?_
  refine g_put (q0 := 0) (ci := 9) (j := 13) (fs := [.ref q5, .ref q16, .ref q27, .ref q38, .ref q57, .ref q68, .ref q79, .ref q97, .ref q108, .ref q121, .int (nI 0), .int (nI 0), .long 0, .int 0, .null]) (ws' := (a, .inr (9, [.ref q5, .ref q16, .ref q27, .ref q38, .ref q57, .ref q68, .ref q79, .ref q97, .ref q108, .ref q121, .int (nI 0), .int (nI 0), .long 0, .int (nI 0), .null])) :: _) dX11_init_143 kp_X11_91 rfl rfl rfl (Nat.le_of_ble_eq_true rfl) rfl ?_
  refine g_aload_n dX11_init_146 rfl ?_
  refine g_bipush (v := nI 6) dX11_init_147 (by decide) ?_
  refine g_newa (t := 0) (N := 6) (a0 := 0) dX11_init_149 kz_i (fun U h => h.2.2.1) rfl (by decide) (by decide) (by decide) (by decide) (by decide) (fun q149 => ?_)
  refine g_putF (q0 := 0) (ci := 9) (j := 14) (fs := [.ref q5, .ref q16, .ref q27, .ref q38, .ref q57, .ref q68, .ref q79, .ref q97, .ref q108, .ref q121, .int (nI 0), .int (nI 0), .long 0, .int (nI 0), .null]) (ws' := (a, .inr (9, [.ref q5, .ref q16, .ref q27, .ref q38, .ref q57, .ref q68, .ref q79, .ref q97, .ref q108, .ref q121, .int (nI 0), .int (nI 0), .long 0, .int (nI 0), .ref q149])) :: _) rfl dX11_init_151 kF_X11_94_X11 rfl rfl rfl (Nat.le_of_ble_eq_true rfl) rfl ?_
  refine g_eq (ws' := luW G (luA [a, q5, q16, q27, q38, q57, q68, q79, q97, q108, q121, q149, l, m, b, q112_8, q112_80, q112_81, q112_82, q112_83, (ln 0), (ln 1), (ln 2), (ln 3), (ln 4), (ln 5), (ln 6), (ln 7), (ln 8), (ln 9), (ln 10), (ln 11), (rd 0), (rd 1), (rd 2), (rd 3), (rd 4), (rd 5), (rd 6), (rd 7), (rd 8), (rd 9), (rd 10), (rd 11), q20_12, q20_21, q20_29, q31_12, q31_21, q31_29, q50_7, q50_15, q50_23, q50_31, q50_39, q50_47, q61_7, q72_7, q72_15, b90_7, b101_7, q101_7, q112_17]) f (mgF q112_80 q112_81 q112_82 q112_83)) (by simp only [luW, ntC, nlS, luA, List.cons_append, List.nil_append, List.append_assoc, List.getD_cons_zero, List.getD_cons_succ]; rfl) ?_
  refine lu_end (ad := (luA [a, q5, q16, q27, q38, q57, q68, q79, q97, q108, q121, q149, l, m, b, q112_8, q112_80, q112_81, q112_82, q112_83, (ln 0), (ln 1), (ln 2), (ln 3), (ln 4), (ln 5), (ln 6), (ln 7), (ln 8), (ln 9), (ln 10), (ln 11), (rd 0), (rd 1), (rd 2), (rd 3), (rd 4), (rd 5), (rd 6), (rd 7), (rd 8), (rd 9), (rd 10), (rd 11), q20_12, q20_21, q20_29, q31_12, q31_21, q31_29, q50_7, q50_15, q50_23, q50_31, q50_39, q50_47, q61_7, q72_7, q72_15, b90_7, b101_7, q101_7, q112_17])) (fun j hj => ?_) (fun j hj => ?_) (fun I1 h1 h2 => hK _ I1 rfl h1 h2)
  · rw [hf j hj]
    rcases (show j = 0 ∨ j = 1 ∨ j = 2 ∨ j = 3 ∨ j = 4 ∨ j = 5 ∨ j = 6 ∨ j = 7 ∨ j = 8 ∨ j = 9 ∨ j = 10 ∨ j = 11 by omega) with rfl | rfl | rfl | rfl | rfl | rfl | rfl | rfl | rfl | rfl | rfl | rfl <;> rfl
  · rcases (show j = 0 ∨ j = 1 ∨ j = 2 ∨ j = 3 by omega) with rfl | rfl | rfl | rfl <;> rfl

