/-! ===== constructors: words, arrays, fill ===== -/
theorem kz_i : Cond.arrayClass .int ∈ am_ws := am_in 122 (by decide +kernel) rfl
theorem kz_z : Cond.arrayClass .boolean ∈ am_ws := am_in 309 (by decide +kernel) rfl
theorem kz_b : Cond.arrayClass .byte ∈ am_ws := am_in 328 (by decide +kernel) rfl
theorem ko_i : Cond.instanceMethod Lib.objectInit ∈ am_ws := am_in 71 (by decide +kernel) rfl
theorem ko_c : Cond.code Lib.objectInit ⟨#[0xb1]⟩ 1 none ∈ am_ws := am_in 72 (by decide +kernel) rfl
theorem kV_L : Cond.initialized RL ∈ am_ws := am_in 46 (by decide +kernel) rfl
theorem kV_X11 : Cond.initialized RX11 ∈ am_ws := am_in 47 (by decide +kernel) rfl
theorem kV_X5 : Cond.initialized RX5 ∈ am_ws := am_in 48 (by decide +kernel) rfl
theorem kV_X4 : Cond.initialized RX4 ∈ am_ws := am_in 49 (by decide +kernel) rfl
theorem kV_J7 : Cond.initialized RJ7 ∈ am_ws := am_in 50 (by decide +kernel) rfl
theorem kV_X7 : Cond.initialized RX7 ∈ am_ws := am_in 51 (by decide +kernel) rfl
theorem kV_X8 : Cond.initialized RX8 ∈ am_ws := am_in 52 (by decide +kernel) rfl
theorem kV_X2 : Cond.initialized RX2 ∈ am_ws := am_in 53 (by decide +kernel) rfl
theorem kV_X10 : Cond.initialized RX10 ∈ am_ws := am_in 54 (by decide +kernel) rfl
theorem kV_X6 : Cond.initialized RX6 ∈ am_ws := am_in 55 (by decide +kernel) rfl
theorem kV_X0 : Cond.initialized RX0 ∈ am_ws := am_in 56 (by decide +kernel) rfl
theorem kV_X1 : Cond.initialized RX1 ∈ am_ws := am_in 57 (by decide +kernel) rfl
theorem kV_X3 : Cond.initialized RX3 ∈ am_ws := am_in 58 (by decide +kernel) rfl
theorem kV_X9 : Cond.initialized RX9 ∈ am_ws := am_in 59 (by decide +kernel) rfl
theorem kV_J9 : Cond.initialized RJ9 ∈ am_ws := am_in 60 (by decide +kernel) rfl
theorem kV_X12 : Cond.initialized RX12 ∈ am_ws := am_in 61 (by decide +kernel) rfl
theorem kV_J10 : Cond.initialized RJ10 ∈ am_ws := am_in 62 (by decide +kernel) rfl
theorem kV_J13 : Cond.initialized RJ13 ∈ am_ws := am_in 63 (by decide +kernel) rfl
theorem kV_J6 : Cond.initialized RJ6 ∈ am_ws := am_in 64 (by decide +kernel) rfl
theorem kC_L_7 : Cond.classLink RL 7 RX11 ∈ am_ws := am_in 65 (by decide +kernel) rfl
theorem kN_X11 : Cond.instantiable RX11 15 ∈ am_ws := am_in 66 (by decide +kernel) rfl
theorem kI_L_9 : Cond.methodLink RL 9 yX11_init ∈ am_ws := am_in 67 (by decide +kernel) rfl
theorem kM_X11_init : Cond.instanceMethod yX11_init ∈ am_ws := am_in 68 (by decide +kernel) rfl
theorem ko_X11_1 : Cond.methodLink RX11 1 Lib.objectInit ∈ am_ws := am_in 70 (by decide +kernel) rfl
theorem kC_X11_7 : Cond.classLink RX11 7 RX5 ∈ am_ws := am_in 73 (by decide +kernel) rfl
theorem kN_X5 : Cond.instantiable RX5 5 ∈ am_ws := am_in 74 (by decide +kernel) rfl
theorem kI_X11_9 : Cond.methodLink RX11 9 yX5_init ∈ am_ws := am_in 75 (by decide +kernel) rfl
theorem kM_X5_init : Cond.instanceMethod yX5_init ∈ am_ws := am_in 76 (by decide +kernel) rfl
theorem ko_X5_3 : Cond.methodLink RX5 3 Lib.objectInit ∈ am_ws := am_in 78 (by decide +kernel) rfl
theorem kC_X5_18 : Cond.classLink RX5 18 RX4 ∈ am_ws := am_in 79 (by decide +kernel) rfl
theorem kN_X4 : Cond.instantiable RX4 7 ∈ am_ws := am_in 81 (by decide +kernel) rfl
theorem kM_X4_init : Cond.instanceMethod yX4_init ∈ am_ws := am_in 83 (by decide +kernel) rfl
theorem ko_X4_3 : Cond.methodLink RX4 3 Lib.objectInit ∈ am_ws := am_in 85 (by decide +kernel) rfl
theorem kF_X4_31_X4 : gm_flF RX4 31 2 6 (.array .int) := ⟨RX4, TX4, 7, "LoadsUnseen$Line", tyX4, rfl, by decide, iw_X4, am_in 105 (by decide +kernel) rfl, Or.inl rfl, tyX4_ok, nmX4, rfl, by decide +kernel, by decide +kernel⟩
theorem kF_X5_20_X5 : gm_flF RX5 20 3 2 (.array (.object "LoadsUnseen$Line")) := ⟨RX5, TX5, 5, "LoadsUnseen$Net", tyX5, rfl, by decide, iw_X5, am_in 133 (by decide +kernel) rfl, Or.inl rfl, tyX5_ok, nmX5, rfl, by decide +kernel, by decide +kernel⟩
theorem kF_X5_24_X5 : gm_flF RX5 24 3 3 (.array .int) := ⟨RX5, TX5, 5, "LoadsUnseen$Net", tyX5, rfl, by decide, iw_X5, am_in 137 (by decide +kernel) rfl, Or.inl rfl, tyX5_ok, nmX5, rfl, by decide +kernel, by decide +kernel⟩
theorem kF_X5_28_X5 : gm_flF RX5 28 3 4 (.array .int) := ⟨RX5, TX5, 5, "LoadsUnseen$Net", tyX5, rfl, by decide, iw_X5, am_in 140 (by decide +kernel) rfl, Or.inl rfl, tyX5_ok, nmX5, rfl, by decide +kernel, by decide +kernel⟩
theorem kC_X11_16 : Cond.classLink RX11 16 RX7 ∈ am_ws := am_in 153 (by decide +kernel) rfl
theorem kN_X7 : Cond.instantiable RX7 4 ∈ am_ws := am_in 154 (by decide +kernel) rfl
theorem kM_X7_init : Cond.instanceMethod yX7_init ∈ am_ws := am_in 156 (by decide +kernel) rfl
theorem ko_X7_3 : Cond.methodLink RX7 3 Lib.objectInit ∈ am_ws := am_in 158 (by decide +kernel) rfl
theorem kF_X7_15_X7 : gm_flF RX7 15 5 1 (.array .int) := ⟨RX7, TX7, 4, "LoadsUnseen$Routes", tyX7, rfl, by decide, iw_X7, am_in 163 (by decide +kernel) rfl, Or.inl rfl, tyX7_ok, nmX7, rfl, by decide +kernel, by decide +kernel⟩
theorem kF_X7_19_X7 : gm_flF RX7 19 5 2 (.array .int) := ⟨RX7, TX7, 4, "LoadsUnseen$Routes", tyX7, rfl, by decide, iw_X7, am_in 166 (by decide +kernel) rfl, Or.inl rfl, tyX7_ok, nmX7, rfl, by decide +kernel, by decide +kernel⟩
theorem kF_X7_22_X7 : gm_flF RX7 22 5 3 (.array .int) := ⟨RX7, TX7, 4, "LoadsUnseen$Routes", tyX7, rfl, by decide, iw_X7, am_in 167 (by decide +kernel) rfl, Or.inl rfl, tyX7_ok, nmX7, rfl, by decide +kernel, by decide +kernel⟩
theorem kC_X11_26 : Cond.classLink RX11 26 RX8 ∈ am_ws := am_in 177 (by decide +kernel) rfl
theorem kN_X8 : Cond.instantiable RX8 12 ∈ am_ws := am_in 178 (by decide +kernel) rfl
theorem kI_X11_28 : Cond.methodLink RX11 28 yX8_init ∈ am_ws := am_in 179 (by decide +kernel) rfl
theorem kM_X8_init : Cond.instanceMethod yX8_init ∈ am_ws := am_in 180 (by decide +kernel) rfl
theorem ko_X8_3 : Cond.methodLink RX8 3 Lib.objectInit ∈ am_ws := am_in 182 (by decide +kernel) rfl
theorem kF_X8_44_X8 : gm_flF RX8 44 6 0 (.object "LoadsUnseen$Net") := ⟨RX8, TX8, 12, "LoadsUnseen$Seeker", tyX8, rfl, by decide, iw_X8, am_in 183 (by decide +kernel) rfl, Or.inl rfl, tyX8_ok, nmX8, rfl, by decide +kernel, by decide +kernel⟩
theorem kF_X8_48_X8 : gm_flF RX8 48 6 1 (.object "LoadsUnseen$Routes") := ⟨RX8, TX8, 12, "LoadsUnseen$Seeker", tyX8, rfl, by decide, iw_X8, am_in 184 (by decide +kernel) rfl, Or.inl rfl, tyX8_ok, nmX8, rfl, by decide +kernel, by decide +kernel⟩
theorem kF_X8_9_X8 : gm_flF RX8 9 6 2 (.array .int) := ⟨RX8, TX8, 12, "LoadsUnseen$Seeker", tyX8, rfl, by decide, iw_X8, am_in 185 (by decide +kernel) rfl, Or.inl rfl, tyX8_ok, nmX8, rfl, by decide +kernel, by decide +kernel⟩
theorem kF_X8_15_X8 : gm_flF RX8 15 6 3 (.array .int) := ⟨RX8, TX8, 12, "LoadsUnseen$Seeker", tyX8, rfl, by decide, iw_X8, am_in 186 (by decide +kernel) rfl, Or.inl rfl, tyX8_ok, nmX8, rfl, by decide +kernel, by decide +kernel⟩
theorem kF_X8_18_X8 : gm_flF RX8 18 6 4 (.array .int) := ⟨RX8, TX8, 12, "LoadsUnseen$Seeker", tyX8, rfl, by decide, iw_X8, am_in 187 (by decide +kernel) rfl, Or.inl rfl, tyX8_ok, nmX8, rfl, by decide +kernel, by decide +kernel⟩
theorem kF_X8_21_X8 : gm_flF RX8 21 6 5 (.array .int) := ⟨RX8, TX8, 12, "LoadsUnseen$Seeker", tyX8, rfl, by decide, iw_X8, am_in 188 (by decide +kernel) rfl, Or.inl rfl, tyX8_ok, nmX8, rfl, by decide +kernel, by decide +kernel⟩
theorem kF_X8_24_X8 : gm_flF RX8 24 6 6 (.array .int) := ⟨RX8, TX8, 12, "LoadsUnseen$Seeker", tyX8, rfl, by decide, iw_X8, am_in 189 (by decide +kernel) rfl, Or.inl rfl, tyX8_ok, nmX8, rfl, by decide +kernel, by decide +kernel⟩
theorem kF_X8_27_X8 : gm_flF RX8 27 6 7 (.array .int) := ⟨RX8, TX8, 12, "LoadsUnseen$Seeker", tyX8, rfl, by decide, iw_X8, am_in 190 (by decide +kernel) rfl, Or.inl rfl, tyX8_ok, nmX8, rfl, by decide +kernel, by decide +kernel⟩
theorem kC_X11_35 : Cond.classLink RX11 35 RX10 ∈ am_ws := am_in 222 (by decide +kernel) rfl
theorem kN_X10 : Cond.instantiable RX10 3 ∈ am_ws := am_in 223 (by decide +kernel) rfl
theorem kM_X10_init : Cond.instanceMethod yX10_init ∈ am_ws := am_in 225 (by decide +kernel) rfl
theorem kM_X2_init : Cond.instanceMethod yX2_init ∈ am_ws := am_in 228 (by decide +kernel) rfl
theorem ko_X2_1 : Cond.methodLink RX2 1 Lib.objectInit ∈ am_ws := am_in 230 (by decide +kernel) rfl
theorem kF_X10_9_X10 : gm_flF RX10 9 8 0 (.array .int) := ⟨RX10, TX10, 3, "LoadsUnseen$Tally", tyX10, rfl, by decide, iw_X10, am_in 231 (by decide +kernel) rfl, Or.inl rfl, tyX10_ok, nmX10, rfl, by decide +kernel, by decide +kernel⟩
theorem kC_X11_42 : Cond.classLink RX11 42 RX6 ∈ am_ws := am_in 245 (by decide +kernel) rfl
theorem kN_X6 : Cond.instantiable RX6 3 ∈ am_ws := am_in 246 (by decide +kernel) rfl
theorem kM_X6_init : Cond.instanceMethod yX6_init ∈ am_ws := am_in 248 (by decide +kernel) rfl
theorem kF_X6_9_X6 : gm_flF RX6 9 4 0 (.array .int) := ⟨RX6, TX6, 3, "LoadsUnseen$Range", tyX6, rfl, by decide, iw_X6, am_in 251 (by decide +kernel) rfl, Or.inl rfl, tyX6_ok, nmX6, rfl, by decide +kernel, by decide +kernel⟩
theorem kF_X6_15_X6 : gm_flF RX6 15 4 1 (.array .int) := ⟨RX6, TX6, 3, "LoadsUnseen$Range", tyX6, rfl, by decide, iw_X6, am_in 253 (by decide +kernel) rfl, Or.inl rfl, tyX6_ok, nmX6, rfl, by decide +kernel, by decide +kernel⟩
theorem kC_X11_49 : Cond.classLink RX11 49 RX1 ∈ am_ws := am_in 264 (by decide +kernel) rfl
theorem kN_X1 : Cond.instantiable RX1 4 ∈ am_ws := am_in 265 (by decide +kernel) rfl
theorem kI_X11_55 : Cond.methodLink RX11 55 yX1_init ∈ am_ws := am_in 266 (by decide +kernel) rfl
theorem kM_X1_init : Cond.instanceMethod yX1_init ∈ am_ws := am_in 267 (by decide +kernel) rfl
theorem kM_X0_init : Cond.instanceMethod yX0_init ∈ am_ws := am_in 270 (by decide +kernel) rfl
theorem kF_X1_9_X1 : gm_flF RX1 9 0 3 (.array .int) := ⟨RX1, TX1, 4, "LoadsUnseen$Fewest", tyX1, rfl, by decide, iw_X1, am_in 273 (by decide +kernel) rfl, Or.inl rfl, tyX1_ok, nmX1, rfl, by decide +kernel, by decide +kernel⟩
theorem kF_X0_9_X1 : gm_flF RX0 9 0 0 (.array .int) := ⟨RX1, TX1, 4, "LoadsUnseen$Best", tyX1, rfl, by decide, iw_X1, am_in 274 (by decide +kernel) rfl, Or.inl rfl, tyX1_ok, nmX1, rfl, by decide +kernel, by decide +kernel⟩
theorem kF_X0_9_X3 : gm_flF RX0 9 1 0 (.array .int) := ⟨RX3, TX3, 4, "LoadsUnseen$Best", tyX3, rfl, by decide, iw_X3, am_in 274 (by decide +kernel) rfl, Or.inl rfl, tyX3_ok, nmX3, rfl, by decide +kernel, by decide +kernel⟩
theorem kC_X11_62 : Cond.classLink RX11 62 RX3 ∈ am_ws := am_in 296 (by decide +kernel) rfl
theorem kN_X3 : Cond.instantiable RX3 4 ∈ am_ws := am_in 297 (by decide +kernel) rfl
theorem kM_X3_init : Cond.instanceMethod yX3_init ∈ am_ws := am_in 299 (by decide +kernel) rfl
theorem kF_X3_9_X3 : gm_flF RX3 9 1 3 (.array .boolean) := ⟨RX3, TX3, 4, "LoadsUnseen$Heaviest", tyX3, rfl, by decide, iw_X3, am_in 302 (by decide +kernel) rfl, Or.inl rfl, tyX3_ok, nmX3, rfl, by decide +kernel, by decide +kernel⟩
theorem kC_X11_69 : Cond.classLink RX11 69 RX9 ∈ am_ws := am_in 310 (by decide +kernel) rfl
theorem kN_X9 : Cond.instantiable RX9 2 ∈ am_ws := am_in 311 (by decide +kernel) rfl
theorem kI_X11_71 : Cond.methodLink RX11 71 yX9_init ∈ am_ws := am_in 312 (by decide +kernel) rfl
theorem kM_X9_init : Cond.instanceMethod yX9_init ∈ am_ws := am_in 313 (by decide +kernel) rfl
theorem ko_X9_3 : Cond.methodLink RX9 3 Lib.objectInit ∈ am_ws := am_in 315 (by decide +kernel) rfl
theorem kF_X9_11_X9 : gm_flF RX9 11 7 0 (.array (.array .byte)) := ⟨RX9, TX9, 2, "LoadsUnseen$Sheets", tyX9, rfl, by decide, iw_X9, am_in 319 (by decide +kernel) rfl, Or.inl rfl, tyX9_ok, nmX9, rfl, by decide +kernel, by decide +kernel⟩
theorem kF_X9_16_X9 : gm_flF RX9 16 7 1 (.array .int) := ⟨RX9, TX9, 2, "LoadsUnseen$Sheets", tyX9, rfl, by decide, iw_X9, am_in 321 (by decide +kernel) rfl, Or.inl rfl, tyX9_ok, nmX9, rfl, by decide +kernel, by decide +kernel⟩
theorem kF_X11_10_X11 : gm_flF RX11 10 9 0 (.object "LoadsUnseen$Net") := ⟨RX11, TX11, 15, "LoadsUnseen", tyX11, rfl, by decide, iw_X11, am_in 352 (by decide +kernel) rfl, Or.inl rfl, tyX11_ok, nmX11, rfl, by decide +kernel, by decide +kernel⟩
theorem kF_X11_19_X11 : gm_flF RX11 19 9 1 (.object "LoadsUnseen$Routes") := ⟨RX11, TX11, 15, "LoadsUnseen", tyX11, rfl, by decide, iw_X11, am_in 353 (by decide +kernel) rfl, Or.inl rfl, tyX11_ok, nmX11, rfl, by decide +kernel, by decide +kernel⟩
theorem kF_X11_23_X11 : gm_flF RX11 23 9 2 (.object "LoadsUnseen$Routes") := ⟨RX11, TX11, 15, "LoadsUnseen", tyX11, rfl, by decide, iw_X11, am_in 354 (by decide +kernel) rfl, Or.inl rfl, tyX11_ok, nmX11, rfl, by decide +kernel, by decide +kernel⟩
theorem kF_X11_31_X11 : gm_flF RX11 31 9 3 (.object "LoadsUnseen$Seeker") := ⟨RX11, TX11, 15, "LoadsUnseen", tyX11, rfl, by decide, iw_X11, am_in 355 (by decide +kernel) rfl, Or.inl rfl, tyX11_ok, nmX11, rfl, by decide +kernel, by decide +kernel⟩
theorem kF_X11_38_X11 : gm_flF RX11 38 9 4 (.object "LoadsUnseen$Tally") := ⟨RX11, TX11, 15, "LoadsUnseen", tyX11, rfl, by decide, iw_X11, am_in 356 (by decide +kernel) rfl, Or.inl rfl, tyX11_ok, nmX11, rfl, by decide +kernel, by decide +kernel⟩
theorem kF_X11_45_X11 : gm_flF RX11 45 9 5 (.object "LoadsUnseen$Range") := ⟨RX11, TX11, 15, "LoadsUnseen", tyX11, rfl, by decide, iw_X11, am_in 357 (by decide +kernel) rfl, Or.inl rfl, tyX11_ok, nmX11, rfl, by decide +kernel, by decide +kernel⟩
theorem kF_X11_58_X11 : gm_flF RX11 58 9 6 (.object "LoadsUnseen$Fewest") := ⟨RX11, TX11, 15, "LoadsUnseen", tyX11, rfl, by decide, iw_X11, am_in 358 (by decide +kernel) rfl, Or.inl rfl, tyX11_ok, nmX11, rfl, by decide +kernel, by decide +kernel⟩
theorem kF_X11_65_X11 : gm_flF RX11 65 9 7 (.object "LoadsUnseen$Heaviest") := ⟨RX11, TX11, 15, "LoadsUnseen", tyX11, rfl, by decide, iw_X11, am_in 359 (by decide +kernel) rfl, Or.inl rfl, tyX11_ok, nmX11, rfl, by decide +kernel, by decide +kernel⟩
theorem kF_X11_72_X11 : gm_flF RX11 72 9 8 (.object "LoadsUnseen$Sheets") := ⟨RX11, TX11, 15, "LoadsUnseen", tyX11, rfl, by decide, iw_X11, am_in 360 (by decide +kernel) rfl, Or.inl rfl, tyX11_ok, nmX11, rfl, by decide +kernel, by decide +kernel⟩
theorem kF_X11_76_X11 : gm_flF RX11 76 9 9 (.array .int) := ⟨RX11, TX11, 15, "LoadsUnseen", tyX11, rfl, by decide, iw_X11, am_in 361 (by decide +kernel) rfl, Or.inl rfl, tyX11_ok, nmX11, rfl, by decide +kernel, by decide +kernel⟩
theorem kF_X11_94_X11 : gm_flF RX11 94 9 14 (.array .int) := ⟨RX11, TX11, 15, "LoadsUnseen", tyX11, rfl, by decide, iw_X11, am_in 366 (by decide +kernel) rfl, Or.inl rfl, tyX11_ok, nmX11, rfl, by decide +kernel, by decide +kernel⟩
theorem kC_L_10 : Cond.classLink RL 10 RX12 ∈ am_ws := am_in 817 (by decide +kernel) rfl
theorem kN_X12 : Cond.instantiable RX12 41 ∈ am_ws := am_in 818 (by decide +kernel) rfl
theorem kI_L_12 : Cond.methodLink RL 12 yX12_init ∈ am_ws := am_in 819 (by decide +kernel) rfl
theorem kM_X12_init : Cond.instanceMethod yX12_init ∈ am_ws := am_in 820 (by decide +kernel) rfl
theorem ko_X12_1 : Cond.methodLink RX12 1 Lib.objectInit ∈ am_ws := am_in 822 (by decide +kernel) rfl
theorem kF_X12_7_X12 : gm_flF RX12 7 10 1 (.array .int) := ⟨RX12, TX12, 41, "LoadsUnseenModel", tyX12, rfl, by decide, iw_X12, am_in 828 (by decide +kernel) rfl, Or.inl rfl, tyX12_ok, nmX12, rfl, by decide +kernel, by decide +kernel⟩
theorem kF_X12_17_X12 : gm_flF RX12 17 10 5 (.array .int) := ⟨RX12, TX12, 41, "LoadsUnseenModel", tyX12, rfl, by decide, iw_X12, am_in 832 (by decide +kernel) rfl, Or.inl rfl, tyX12_ok, nmX12, rfl, by decide +kernel, by decide +kernel⟩
theorem kF_X12_20_X12 : gm_flF RX12 20 10 6 (.array .int) := ⟨RX12, TX12, 41, "LoadsUnseenModel", tyX12, rfl, by decide, iw_X12, am_in 833 (by decide +kernel) rfl, Or.inl rfl, tyX12_ok, nmX12, rfl, by decide +kernel, by decide +kernel⟩
theorem kF_X12_23_X12 : gm_flF RX12 23 10 7 (.array .int) := ⟨RX12, TX12, 41, "LoadsUnseenModel", tyX12, rfl, by decide, iw_X12, am_in 834 (by decide +kernel) rfl, Or.inl rfl, tyX12_ok, nmX12, rfl, by decide +kernel, by decide +kernel⟩
theorem kF_X12_26_X12 : gm_flF RX12 26 10 8 (.array .boolean) := ⟨RX12, TX12, 41, "LoadsUnseenModel", tyX12, rfl, by decide, iw_X12, am_in 835 (by decide +kernel) rfl, Or.inl rfl, tyX12_ok, nmX12, rfl, by decide +kernel, by decide +kernel⟩
theorem kF_X12_30_X12 : gm_flF RX12 30 10 9 (.array .int) := ⟨RX12, TX12, 41, "LoadsUnseenModel", tyX12, rfl, by decide, iw_X12, am_in 836 (by decide +kernel) rfl, Or.inl rfl, tyX12_ok, nmX12, rfl, by decide +kernel, by decide +kernel⟩
theorem kF_X12_33_X12 : gm_flF RX12 33 10 10 (.array .int) := ⟨RX12, TX12, 41, "LoadsUnseenModel", tyX12, rfl, by decide, iw_X12, am_in 837 (by decide +kernel) rfl, Or.inl rfl, tyX12_ok, nmX12, rfl, by decide +kernel, by decide +kernel⟩
theorem kF_X12_36_X12 : gm_flF RX12 36 10 11 (.array .int) := ⟨RX12, TX12, 41, "LoadsUnseenModel", tyX12, rfl, by decide, iw_X12, am_in 838 (by decide +kernel) rfl, Or.inl rfl, tyX12_ok, nmX12, rfl, by decide +kernel, by decide +kernel⟩
theorem kF_X12_39_X12 : gm_flF RX12 39 10 12 (.array .int) := ⟨RX12, TX12, 41, "LoadsUnseenModel", tyX12, rfl, by decide, iw_X12, am_in 839 (by decide +kernel) rfl, Or.inl rfl, tyX12_ok, nmX12, rfl, by decide +kernel, by decide +kernel⟩
theorem kF_X12_42_X12 : gm_flF RX12 42 10 13 (.array .int) := ⟨RX12, TX12, 41, "LoadsUnseenModel", tyX12, rfl, by decide, iw_X12, am_in 840 (by decide +kernel) rfl, Or.inl rfl, tyX12_ok, nmX12, rfl, by decide +kernel, by decide +kernel⟩
theorem kF_X12_45_X12 : gm_flF RX12 45 10 14 (.array .int) := ⟨RX12, TX12, 41, "LoadsUnseenModel", tyX12, rfl, by decide, iw_X12, am_in 841 (by decide +kernel) rfl, Or.inl rfl, tyX12_ok, nmX12, rfl, by decide +kernel, by decide +kernel⟩
theorem kF_X12_48_X12 : gm_flF RX12 48 10 16 (.array .int) := ⟨RX12, TX12, 41, "LoadsUnseenModel", tyX12, rfl, by decide, iw_X12, am_in 843 (by decide +kernel) rfl, Or.inl rfl, tyX12_ok, nmX12, rfl, by decide +kernel, by decide +kernel⟩
theorem kF_X12_51_X12 : gm_flF RX12 51 10 17 (.array .int) := ⟨RX12, TX12, 41, "LoadsUnseenModel", tyX12, rfl, by decide, iw_X12, am_in 844 (by decide +kernel) rfl, Or.inl rfl, tyX12_ok, nmX12, rfl, by decide +kernel, by decide +kernel⟩
theorem kF_X12_54_X12 : gm_flF RX12 54 10 21 (.array .int) := ⟨RX12, TX12, 41, "LoadsUnseenModel", tyX12, rfl, by decide, iw_X12, am_in 848 (by decide +kernel) rfl, Or.inl rfl, tyX12_ok, nmX12, rfl, by decide +kernel, by decide +kernel⟩
theorem kF_X12_57_X12 : gm_flF RX12 57 10 22 (.array .int) := ⟨RX12, TX12, 41, "LoadsUnseenModel", tyX12, rfl, by decide, iw_X12, am_in 849 (by decide +kernel) rfl, Or.inl rfl, tyX12_ok, nmX12, rfl, by decide +kernel, by decide +kernel⟩
theorem kF_X12_60_X12 : gm_flF RX12 60 10 23 (.array .int) := ⟨RX12, TX12, 41, "LoadsUnseenModel", tyX12, rfl, by decide, iw_X12, am_in 850 (by decide +kernel) rfl, Or.inl rfl, tyX12_ok, nmX12, rfl, by decide +kernel, by decide +kernel⟩
theorem kF_X12_63_X12 : gm_flF RX12 63 10 24 (.array .int) := ⟨RX12, TX12, 41, "LoadsUnseenModel", tyX12, rfl, by decide, iw_X12, am_in 851 (by decide +kernel) rfl, Or.inl rfl, tyX12_ok, nmX12, rfl, by decide +kernel, by decide +kernel⟩
theorem kF_X12_66_X12 : gm_flF RX12 66 10 25 (.array .int) := ⟨RX12, TX12, 41, "LoadsUnseenModel", tyX12, rfl, by decide, iw_X12, am_in 852 (by decide +kernel) rfl, Or.inl rfl, tyX12_ok, nmX12, rfl, by decide +kernel, by decide +kernel⟩
theorem kF_X12_69_X12 : gm_flF RX12 69 10 26 (.array .int) := ⟨RX12, TX12, 41, "LoadsUnseenModel", tyX12, rfl, by decide, iw_X12, am_in 853 (by decide +kernel) rfl, Or.inl rfl, tyX12_ok, nmX12, rfl, by decide +kernel, by decide +kernel⟩
theorem kF_X12_72_X12 : gm_flF RX12 72 10 27 (.array .int) := ⟨RX12, TX12, 41, "LoadsUnseenModel", tyX12, rfl, by decide, iw_X12, am_in 854 (by decide +kernel) rfl, Or.inl rfl, tyX12_ok, nmX12, rfl, by decide +kernel, by decide +kernel⟩
theorem kF_X12_75_X12 : gm_flF RX12 75 10 28 (.array .int) := ⟨RX12, TX12, 41, "LoadsUnseenModel", tyX12, rfl, by decide, iw_X12, am_in 855 (by decide +kernel) rfl, Or.inl rfl, tyX12_ok, nmX12, rfl, by decide +kernel, by decide +kernel⟩
theorem kF_X12_78_X12 : gm_flF RX12 78 10 32 (.array .boolean) := ⟨RX12, TX12, 41, "LoadsUnseenModel", tyX12, rfl, by decide, iw_X12, am_in 859 (by decide +kernel) rfl, Or.inl rfl, tyX12_ok, nmX12, rfl, by decide +kernel, by decide +kernel⟩
theorem kF_X12_81_X12 : gm_flF RX12 81 10 33 (.array .int) := ⟨RX12, TX12, 41, "LoadsUnseenModel", tyX12, rfl, by decide, iw_X12, am_in 860 (by decide +kernel) rfl, Or.inl rfl, tyX12_ok, nmX12, rfl, by decide +kernel, by decide +kernel⟩
theorem kF_X12_84_X12 : gm_flF RX12 84 10 34 (.array .int) := ⟨RX12, TX12, 41, "LoadsUnseenModel", tyX12, rfl, by decide, iw_X12, am_in 861 (by decide +kernel) rfl, Or.inl rfl, tyX12_ok, nmX12, rfl, by decide +kernel, by decide +kernel⟩
theorem kF_X12_87_X12 : gm_flF RX12 87 10 35 (.array .int) := ⟨RX12, TX12, 41, "LoadsUnseenModel", tyX12, rfl, by decide, iw_X12, am_in 862 (by decide +kernel) rfl, Or.inl rfl, tyX12_ok, nmX12, rfl, by decide +kernel, by decide +kernel⟩
theorem kF_X12_90_X12 : gm_flF RX12 90 10 36 (.array .int) := ⟨RX12, TX12, 41, "LoadsUnseenModel", tyX12, rfl, by decide, iw_X12, am_in 863 (by decide +kernel) rfl, Or.inl rfl, tyX12_ok, nmX12, rfl, by decide +kernel, by decide +kernel⟩
theorem kF_X12_93_X12 : gm_flF RX12 93 10 37 (.array .int) := ⟨RX12, TX12, 41, "LoadsUnseenModel", tyX12, rfl, by decide, iw_X12, am_in 864 (by decide +kernel) rfl, Or.inl rfl, tyX12_ok, nmX12, rfl, by decide +kernel, by decide +kernel⟩
theorem kF_X12_96_X12 : gm_flF RX12 96 10 38 (.array .int) := ⟨RX12, TX12, 41, "LoadsUnseenModel", tyX12, rfl, by decide, iw_X12, am_in 865 (by decide +kernel) rfl, Or.inl rfl, tyX12_ok, nmX12, rfl, by decide +kernel, by decide +kernel⟩
theorem kF_X12_99_X12 : gm_flF RX12 99 10 39 (.array .int) := ⟨RX12, TX12, 41, "LoadsUnseenModel", tyX12, rfl, by decide, iw_X12, am_in 866 (by decide +kernel) rfl, Or.inl rfl, tyX12_ok, nmX12, rfl, by decide +kernel, by decide +kernel⟩
theorem kF_X12_102_X12 : gm_flF RX12 102 10 40 (.array .int) := ⟨RX12, TX12, 41, "LoadsUnseenModel", tyX12, rfl, by decide, iw_X12, am_in 867 (by decide +kernel) rfl, Or.inl rfl, tyX12_ok, nmX12, rfl, by decide +kernel, by decide +kernel⟩
section GWQ
variable {G : gm_G} {cc : ByteArray} {nL : Nat} {own nm : String} {d mc ms : Nat} {Ex : gm_Ex} {pc : Nat} {L L' : List (Option Value)} {st rest As : List Value} {ws : va_W} {ce sl : Nat} {K : va_W → Prop}
theorem g_alen {q0 a n : Nat} {f : Nat → Int32} (hd : decode cc pc = .ok (.arraylength, 1)) (he : ws[q0]? = some (a, .inl (G.2.2 0, n, .inl f))) (k : GW G cc nL own nm d mc ms Ex (pc + 1) L (.int (nI n) :: st) ws ce sl) : GW G cc nL own nm d mc ms Ex pc L (.ref a :: st) ws ce sl := by
  intro p e s m args below meth c A R Q H locs ls B hE hP hD hS hL
  exact va_alen B.1 B.2.1 B.2.2.2.2.2.1.1 hP q0 0 he rfl (v := nI n) rfl hd (k _ _ _ _ _ _ _ _ _ _ _ _ _ _ B hE hP hD hS hL)
theorem g_anew {idx N : Nat} {n : Int32} (hd : decode cc pc = .ok (.anewarray idx, 3)) (m1 : Cond.classLink own idx RX4 ∈ am_ws) (hn : ¬ n < 0) (hN : n.toNatClampNeg = N) (hb : N * 4 ≤ 536870912) (hc : ce + 1 ≤ mc) (hs : sl + N ≤ ms)
    (k : ∀ q, GW G cc nL own nm d mc ms Ex (pc + 3) L (.ref q :: st) (ws ++ [(q, .inl (G.2.2 4, N, .inr (.inr (.inr (.inr (fun _ => none))))))]) (ce + 1) (sl + N)) : GW G cc nL own nm d mc ms Ex pc L (.int n :: st) ws ce sl := by
  intro p e s m args below meth c A R Q H locs ls B hE hP hD hS hL
  have hR := B.2.2.2.2.2.2.2.2.1
  subst hN
  refine W.anew B.1 B.2.1 B.2.2.2.1 (B.2.2.2.2.1 _ m1) (va_AO.use B.2.2.2.2.2.1.2.2.2.2.2.2.2.1) rfl hd rfl hn hb (by omega) (by omega) fun cA kA comp f1 f2 f3 f4 => ?_
  have ec : cA = G.2.2 4 := Option.some.inj (f1.symm.trans B.2.2.2.2.2.1.2.2.2.2.2.2.1)
  subst ec
  generalize hH1 : H.push ({ cls := G.2.2 4, slots := Array.replicate n.toNatClampNeg .null, vm := .none } : Cell) = H1
  have z1 : H1.size = H.size + 1 := by rw [← hH1, Array.size_push]
  have e1 : H1[H.size]? = some (arrV (G.2.2 4) n.toNatClampNeg (fun _ => .null)) := by rw [← hH1, Array.getElem?_push_size, ← arrV_new]
  have o1 : ∀ q : Nat, q < H.size → H1[q]? = H[q]? := fun q hq => by rw [← hH1, Array.getElem?_push, if_neg (Nat.ne_of_lt hq)]
  have hk : ∀ (k : Nat) (x : Nat × va_E), ws[k]? = some x → H1[x.1]? = H[x.1]? := fun k x hx => o1 x.1 ((hP k x hx).lt)
  refine k H.size _ _ _ _ _ _ _ _ _ _ _ _ _ _ B hE ((hP.kept hk).app (fun k x hx => ?_)) (hD.push hP rfl (B.2.2.2.2.2.2.1 _ hS.1)) ⟨Nat.le_trans hS.1 (by omega), fun x h1 h2 => (o1 x (Nat.lt_of_lt_of_le h1 hS.1)).trans (hS.2.1 x h1 h2), hS.2.2⟩ hL
  have hz : k < 1 := (List.getElem?_eq_some_iff.mp hx).1
  rw [show k = 0 by omega] at hx
  cases hx
  show H1[H.size]? = some (vp_cell _ _)
  rw [vp_cell_q]
  exact e1
theorem g_ast {q0 qk a v n i : Nat} {vs : List Value} {f : Nat → Option Nat} {ws' : va_W} (hd : decode cc pc = .ok (.aastore, 1)) (he : ws[q0]? = some (a, .inl (G.2.2 4, n, .inr (.inr (.inr (.inr f)))))) (hv : ws[qk]? = some (v, .inr (2, vs))) (hi : i < n) (hn : n < 2 ^ 31) (hw : ws.set q0 (a, .inl (G.2.2 4, n, .inr (.inr (.inr (.inr (va_up f i (some v))))))) = ws') (k : GW G cc nL own nm d mc ms Ex (pc + 1) L st ws' ce sl) : GW G cc nL own nm d mc ms Ex pc L (.ref v :: .int (nI i) :: .ref a :: st) ws ce sl := by
  intro p e s m args below meth c A R Q H locs ls B hE hP hD hS hL
  subst hw
  refine va_astq (r := (RX4, TX4, 7)) B.1 B.2.1 B.2.2.2.2.2.1.1 hP hD hS q0 4 qk 2 he rfl hv rfl (vp_in_nI hi hn) hd (fun H1 locs1 hP1 hD1 hS1 => ?_)
  rw [nI_clamp (by omega)] at hP1 hD1
  exact k _ _ _ _ _ _ _ _ _ _ _ _ _ _ B hE hP1 hD1 hS1 hL
end GWQ
def fiF (f : Nat → Int32) (x : Int32) (i : Nat) : Nat → Int32 := fun j => if j < i then x else f j
theorem fiF_s (f : Nat → Int32) (x : Int32) (i : Nat) : upd (fiF f x i) i x = fiF f x (i + 1) := by
  funext j
  simp only [upd, fiF]
  by_cases e : j = i
  · subst e; simp
  · by_cases h : j < i
    · simp [e, h, show j < i + 1 by omega]
    · simp [e, h, show ¬ j < i + 1 by omega]
theorem fiF_0 (f : Nat → Int32) (x : Int32) : fiF f x 0 = f := by
  funext j; simp [fiF]
set_option maxHeartbeats 4000000 in
set_option maxRecDepth 100000 in
theorem g_fl {G : gm_G} {d q0 a n : Nat} {f : Nat → Int32} {x : Int32} {ws : va_W} {K : va_W → Prop} (hn : n < 2 ^ 31) (he : ws[q0]? = some (a, .inl (G.2.2 0, n, .inl f))) (hK : K (ws.set q0 (a, .inl (G.2.2 0, n, .inl (fiF f x n))))) : ∀ i, i ≤ n → GW G cJ7_fill_53178 4 RJ7 "fill" d 0 0 (gm_ex G 0 0 K) 5 [some (.ref a), some (.int x), some (.int (nI i)), some (.int (nI n))] [] (ws.set q0 (a, .inl (G.2.2 0, n, .inl (fiF f x i)))) 0 0 := by
  have hq : q0 < ws.length := (List.getElem?_eq_some_iff.mp he).1
  refine am_dn n (fun i hi ih => ?_)
  refine g_iload_n dJ7_fill_53178_5 rfl ?_
  refine g_iload_n dJ7_fill_53178_6 rfl ?_
  refine g_icmp_ge (tgt := 20) dJ7_fill_53178_7 (by decide) (fun h => ?_) (fun h => ?_)
  · have h2 := (nI_leI (by omega) (by omega)).mp h
    obtain rfl : i = n := by omega
    exact g_ret dJ7_fill_53178_20 hK
  · have h2 : i < n := by
      rcases Nat.lt_or_ge i n with z | z
      · exact z
      · exact absurd ((nI_leI (by omega) (by omega)).mpr z) h
    refine g_aload_n dJ7_fill_53178_10 rfl ?_
    refine g_iload_n dJ7_fill_53178_11 rfl ?_
    refine g_iload_n dJ7_fill_53178_12 rfl ?_
    refine g_iast (q0 := q0) (t := 0) (n := n) (f := fiF f x i) dJ7_fill_53178_13 (by rw [List.getElem?_set_self hq]) rfl h2 hn rfl ?_
    rw [List.set_set, fiF_s]
    refine g_iinc (L' := [_, _, _, _]) dJ7_fill_53178_14 rfl (nI_inc _) rfl ?_
    refine g_goto (tgt := 5) dJ7_fill_53178_17 (by decide) ?_
    exact ih (i + 1) (by omega) (by omega)
theorem i_fill {G : gm_G} {d q0 a n : Nat} {f : Nat → Int32} {x : Int32} {ws : va_W} {K : va_W → Prop} (hn : n < 2 ^ 31) (he : ws[q0]? = some (a, .inl (G.2.2 0, n, .inl f))) (hK : K (ws.set q0 (a, .inl (G.2.2 0, n, .inl (fiF f x n))))) : CI G d yJ7_fill_53178 [.ref a, .int x] ws 0 0 K := by
  have hq : q0 < ws.length := (List.getElem?_eq_some_iff.mp he).1
  refine CI.of (L0 := [_, _, _, _]) cJ7_fill_53178 4 (by decide) (by decide) kcJ7_fill_53178 (Nat.le_of_ble_eq_true rfl) rfl ?_
  refine g_iconst (v := nI 0) dJ7_fill_53178_0 (by decide) ?_
  refine g_istore_n (L' := [_, _, _, _]) dJ7_fill_53178_1 (Nat.le_of_ble_eq_true rfl) rfl ?_
  refine g_aload_n dJ7_fill_53178_2 rfl ?_
  refine g_alen dJ7_fill_53178_3 he ?_
  refine g_istore_n (L' := [_, _, _, _]) dJ7_fill_53178_4 (Nat.le_of_ble_eq_true rfl) rfl ?_
  have e0 : ws.set q0 (a, .inl (G.2.2 0, n, .inl (fiF f x 0))) = ws := by
    rw [fiF_0]
    apply List.ext_getElem?
    intro k
    rw [List.getElem?_set]
    split
    · rename_i hk
      subst hk
      rw [he]
    · rfl
  have z := g_fl (d := d) (x := x) hn he hK 0 (by omega)
  rw [e0] at z
  exact z
