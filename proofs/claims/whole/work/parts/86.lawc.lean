/-! ===== the law: its 33 cases ===== -/
set_option maxHeartbeats 4000000 in
set_option maxRecDepth 100000 in
theorem cs_0 {G : am_G} {d : Nat} {I : am_I} {J : am_J} {b Ln i : Nat} {xs : Nat → Int32} (hb : G.2.2.2 94 = b) (hL : Ln ≤ 3072) (hi : i + 6 ≤ Ln) (hc : cpE I J) (kx : ∀ I J, cpE I J → AW G cL_law 4 RL (d + 46) (lw_eA b Ln xs) 1253 [some (.ref 94), some (.ref 0), some (.ref 63), some (.int (nI i))] [] I J) : AW G cL_law 4 RL (d + 46) (lw_eA b Ln xs) 180 [some (.ref 94), some (.ref 0), some (.ref 63), some (.int (nI i))] [] I J := by
  refine a_aload_n dL_law_180 rfl ?_
  refine a_aload_n dL_law_181 rfl ?_
  refine a_iload_n dL_law_182 rfl ?_
  refine a_iconst (v := nI 1) dL_law_183 (by decide) ?_
  refine a_iadd (v := nI (i + 1)) dL_law_184 (nI_add _ _) ?_
  refine a_sld dL_law_185 hb hL (by omega) ?_
  refine a_callVi (As := [_]) dL_law_186 km_L_13 ⟨by decide, _, _, _, rfl, rfl⟩ rfl rfl (Nat.le_of_ble_eq_true rfl) ?_
  refine CMi.mono (w_net hc) (fun r0 I1 J1 hq => ?_)
  refine a_aload_n dL_law_189 rfl ?_
  refine a_aload_n dL_law_190 rfl ?_
  refine a_iload_n dL_law_191 rfl ?_
  refine a_iconst (v := nI 1) dL_law_192 (by decide) ?_
  refine a_iadd (v := nI (i + 1)) dL_law_193 (nI_add _ _) ?_
  refine a_sld dL_law_194 hb hL (by omega) ?_
  refine a_callVi (As := [_]) dL_law_195 km_L_17 ⟨by decide, _, _, _, rfl, rfl⟩ rfl rfl (Nat.le_of_ble_eq_true rfl) ?_
  refine CMi.mono hq (fun r1 I2 J2 hr => ?_)
  obtain ⟨rfl, hc2⟩ := hr
  exact a_icmp_eq (tgt := 1253) dL_law_198 (by decide) (fun _ => kx _ _ hc2) (fun h => absurd rfl h)
set_option maxHeartbeats 4000000 in
set_option maxRecDepth 100000 in
theorem cs_1 {G : am_G} {d : Nat} {I : am_I} {J : am_J} {b Ln i : Nat} {xs : Nat → Int32} (hb : G.2.2.2 94 = b) (hL : Ln ≤ 3072) (hi : i + 6 ≤ Ln) (hc : cpE I J) (kx : ∀ I J, cpE I J → AW G cL_law 4 RL (d + 46) (lw_eA b Ln xs) 1253 [some (.ref 94), some (.ref 0), some (.ref 63), some (.int (nI i))] [] I J) : AW G cL_law 4 RL (d + 46) (lw_eA b Ln xs) 203 [some (.ref 94), some (.ref 0), some (.ref 63), some (.int (nI i))] [] I J := by
  refine a_aload_n dL_law_203 rfl ?_
  refine a_aload_n dL_law_204 rfl ?_
  refine a_iload_n dL_law_205 rfl ?_
  refine a_iconst (v := nI 1) dL_law_206 (by decide) ?_
  refine a_iadd (v := nI (i + 1)) dL_law_207 (nI_add _ _) ?_
  refine a_sld dL_law_208 hb hL (by omega) ?_
  refine a_aload_n dL_law_209 rfl ?_
  refine a_iload_n dL_law_210 rfl ?_
  refine a_iconst (v := nI 2) dL_law_211 (by decide) ?_
  refine a_iadd (v := nI (i + 2)) dL_law_212 (nI_add _ _) ?_
  refine a_sld dL_law_213 hb hL (by omega) ?_
  refine a_aload_n dL_law_214 rfl ?_
  refine a_iload_n dL_law_215 rfl ?_
  refine a_iconst (v := nI 3) dL_law_216 (by decide) ?_
  refine a_iadd (v := nI (i + 3)) dL_law_217 (nI_add _ _) ?_
  refine a_sld dL_law_218 hb hL (by omega) ?_
  refine a_callVi (As := [_, _, _]) dL_law_219 km_L_18 ⟨by decide, _, _, _, rfl, rfl⟩ rfl rfl (Nat.le_of_ble_eq_true rfl) ?_
  refine CMi.mono (w_line hc) (fun r0 I1 J1 hq => ?_)
  refine a_aload_n dL_law_222 rfl ?_
  refine a_aload_n dL_law_223 rfl ?_
  refine a_iload_n dL_law_224 rfl ?_
  refine a_iconst (v := nI 1) dL_law_225 (by decide) ?_
  refine a_iadd (v := nI (i + 1)) dL_law_226 (nI_add _ _) ?_
  refine a_sld dL_law_227 hb hL (by omega) ?_
  refine a_aload_n dL_law_228 rfl ?_
  refine a_iload_n dL_law_229 rfl ?_
  refine a_iconst (v := nI 2) dL_law_230 (by decide) ?_
  refine a_iadd (v := nI (i + 2)) dL_law_231 (nI_add _ _) ?_
  refine a_sld dL_law_232 hb hL (by omega) ?_
  refine a_aload_n dL_law_233 rfl ?_
  refine a_iload_n dL_law_234 rfl ?_
  refine a_iconst (v := nI 3) dL_law_235 (by decide) ?_
  refine a_iadd (v := nI (i + 3)) dL_law_236 (nI_add _ _) ?_
  refine a_sld dL_law_237 hb hL (by omega) ?_
  refine a_callVi (As := [_, _, _]) dL_law_238 km_L_22 ⟨by decide, _, _, _, rfl, rfl⟩ rfl rfl (Nat.le_of_ble_eq_true rfl) ?_
  refine CMi.mono hq (fun r1 I2 J2 hr => ?_)
  obtain ⟨rfl, hc2⟩ := hr
  exact a_icmp_eq (tgt := 1253) dL_law_241 (by decide) (fun _ => kx _ _ hc2) (fun h => absurd rfl h)
set_option maxHeartbeats 4000000 in
set_option maxRecDepth 100000 in
theorem cs_2 {G : am_G} {d : Nat} {I : am_I} {J : am_J} {b Ln i : Nat} {xs : Nat → Int32} (hb : G.2.2.2 94 = b) (hL : Ln ≤ 3072) (hi : i + 6 ≤ Ln) (hc : cpE I J) (kx : ∀ I J, cpE I J → AW G cL_law 4 RL (d + 46) (lw_eA b Ln xs) 1253 [some (.ref 94), some (.ref 0), some (.ref 63), some (.int (nI i))] [] I J) : AW G cL_law 4 RL (d + 46) (lw_eA b Ln xs) 246 [some (.ref 94), some (.ref 0), some (.ref 63), some (.int (nI i))] [] I J := by
  refine a_aload_n dL_law_246 rfl ?_
  refine a_aload_n dL_law_247 rfl ?_
  refine a_iload_n dL_law_248 rfl ?_
  refine a_iconst (v := nI 1) dL_law_249 (by decide) ?_
  refine a_iadd (v := nI (i + 1)) dL_law_250 (nI_add _ _) ?_
  refine a_sld dL_law_251 hb hL (by omega) ?_
  refine a_aload_n dL_law_252 rfl ?_
  refine a_iload_n dL_law_253 rfl ?_
  refine a_iconst (v := nI 2) dL_law_254 (by decide) ?_
  refine a_iadd (v := nI (i + 2)) dL_law_255 (nI_add _ _) ?_
  refine a_sld dL_law_256 hb hL (by omega) ?_
  refine a_callVi (As := [_, _]) dL_law_257 km_L_23 ⟨by decide, _, _, _, rfl, rfl⟩ rfl rfl (Nat.le_of_ble_eq_true rfl) ?_
  refine CMi.mono (w_told hc) (fun r0 I1 J1 hq => ?_)
  refine a_aload_n dL_law_260 rfl ?_
  refine a_aload_n dL_law_261 rfl ?_
  refine a_iload_n dL_law_262 rfl ?_
  refine a_iconst (v := nI 1) dL_law_263 (by decide) ?_
  refine a_iadd (v := nI (i + 1)) dL_law_264 (nI_add _ _) ?_
  refine a_sld dL_law_265 hb hL (by omega) ?_
  refine a_aload_n dL_law_266 rfl ?_
  refine a_iload_n dL_law_267 rfl ?_
  refine a_iconst (v := nI 2) dL_law_268 (by decide) ?_
  refine a_iadd (v := nI (i + 2)) dL_law_269 (nI_add _ _) ?_
  refine a_sld dL_law_270 hb hL (by omega) ?_
  refine a_callVi (As := [_, _]) dL_law_271 km_L_27 ⟨by decide, _, _, _, rfl, rfl⟩ rfl rfl (Nat.le_of_ble_eq_true rfl) ?_
  refine CMi.mono hq (fun r1 I2 J2 hr => ?_)
  obtain ⟨rfl, hc2⟩ := hr
  exact a_icmp_eq (tgt := 1253) dL_law_274 (by decide) (fun _ => kx _ _ hc2) (fun h => absurd rfl h)
set_option maxHeartbeats 4000000 in
set_option maxRecDepth 100000 in
theorem cs_3 {G : am_G} {d : Nat} {I : am_I} {J : am_J} {b Ln i : Nat} {xs : Nat → Int32} (hb : G.2.2.2 94 = b) (hL : Ln ≤ 3072) (hi : i + 6 ≤ Ln) (hc : cpE I J) (kx : ∀ I J, cpE I J → AW G cL_law 4 RL (d + 46) (lw_eA b Ln xs) 1253 [some (.ref 94), some (.ref 0), some (.ref 63), some (.int (nI i))] [] I J) : AW G cL_law 4 RL (d + 46) (lw_eA b Ln xs) 279 [some (.ref 94), some (.ref 0), some (.ref 63), some (.int (nI i))] [] I J := by
  refine a_aload_n dL_law_279 rfl ?_
  refine a_aload_n dL_law_280 rfl ?_
  refine a_iload_n dL_law_281 rfl ?_
  refine a_iconst (v := nI 1) dL_law_282 (by decide) ?_
  refine a_iadd (v := nI (i + 1)) dL_law_283 (nI_add _ _) ?_
  refine a_sld dL_law_284 hb hL (by omega) ?_
  refine a_aload_n dL_law_285 rfl ?_
  refine a_iload_n dL_law_286 rfl ?_
  refine a_iconst (v := nI 2) dL_law_287 (by decide) ?_
  refine a_iadd (v := nI (i + 2)) dL_law_288 (nI_add _ _) ?_
  refine a_sld dL_law_289 hb hL (by omega) ?_
  refine a_callVi (As := [_, _]) dL_law_290 km_L_28 ⟨by decide, _, _, _, rfl, rfl⟩ rfl rfl (Nat.le_of_ble_eq_true rfl) ?_
  refine CMi.mono (w_mark hc) (fun r0 I1 J1 hq => ?_)
  refine a_aload_n dL_law_293 rfl ?_
  refine a_aload_n dL_law_294 rfl ?_
  refine a_iload_n dL_law_295 rfl ?_
  refine a_iconst (v := nI 1) dL_law_296 (by decide) ?_
  refine a_iadd (v := nI (i + 1)) dL_law_297 (nI_add _ _) ?_
  refine a_sld dL_law_298 hb hL (by omega) ?_
  refine a_aload_n dL_law_299 rfl ?_
  refine a_iload_n dL_law_300 rfl ?_
  refine a_iconst (v := nI 2) dL_law_301 (by decide) ?_
  refine a_iadd (v := nI (i + 2)) dL_law_302 (nI_add _ _) ?_
  refine a_sld dL_law_303 hb hL (by omega) ?_
  refine a_callVi (As := [_, _]) dL_law_304 km_L_31 ⟨by decide, _, _, _, rfl, rfl⟩ rfl rfl (Nat.le_of_ble_eq_true rfl) ?_
  refine CMi.mono hq (fun r1 I2 J2 hr => ?_)
  obtain ⟨rfl, hc2⟩ := hr
  exact a_icmp_eq (tgt := 1253) dL_law_307 (by decide) (fun _ => kx _ _ hc2) (fun h => absurd rfl h)
set_option maxHeartbeats 4000000 in
set_option maxRecDepth 100000 in
theorem cs_4 {G : am_G} {d : Nat} {I : am_I} {J : am_J} {b Ln i : Nat} {xs : Nat → Int32} (hb : G.2.2.2 94 = b) (hL : Ln ≤ 3072) (hi : i + 6 ≤ Ln) (hc : cpE I J) (kx : ∀ I J, cpE I J → AW G cL_law 4 RL (d + 46) (lw_eA b Ln xs) 1253 [some (.ref 94), some (.ref 0), some (.ref 63), some (.int (nI i))] [] I J) : AW G cL_law 4 RL (d + 46) (lw_eA b Ln xs) 312 [some (.ref 94), some (.ref 0), some (.ref 63), some (.int (nI i))] [] I J := by
  by_cases hz : xs (i + 2) = 0
  · refine a_aload_n dL_law_312 rfl ?_
    refine a_aload_n dL_law_313 rfl ?_
    refine a_iload_n dL_law_314 rfl ?_
    refine a_iconst (v := nI 1) dL_law_315 (by decide) ?_
    refine a_iadd (v := nI (i + 1)) dL_law_316 (nI_add _ _) ?_
    refine a_sld dL_law_317 hb hL (by omega) ?_
    refine a_aload_n dL_law_318 rfl ?_
    refine a_iload_n dL_law_319 rfl ?_
    refine a_iconst (v := nI 2) dL_law_320 (by decide) ?_
    refine a_iadd (v := nI (i + 2)) dL_law_321 (nI_add _ _) ?_
    refine a_sld dL_law_322 hb hL (by omega) ?_
    refine a_if_eq (tgt := 330) dL_law_323 (by decide) (fun h323 => ?_) (fun h323 => absurd hz h323)
    refine a_iconst (v := nI 0) dL_law_330 (by decide) ?_
    refine a_callVi (As := [_, _]) dL_law_331 km_L_32 ⟨by decide, _, _, _, rfl, rfl⟩ rfl rfl (Nat.le_of_ble_eq_true rfl) ?_
    refine CMi.mono (w_down hc (Or.inl rfl)) (fun r0 I1 J1 hq => ?_)
    refine a_aload_n dL_law_334 rfl ?_
    refine a_aload_n dL_law_335 rfl ?_
    refine a_iload_n dL_law_336 rfl ?_
    refine a_iconst (v := nI 1) dL_law_337 (by decide) ?_
    refine a_iadd (v := nI (i + 1)) dL_law_338 (nI_add _ _) ?_
    refine a_sld dL_law_339 hb hL (by omega) ?_
    refine a_aload_n dL_law_340 rfl ?_
    refine a_iload_n dL_law_341 rfl ?_
    refine a_iconst (v := nI 2) dL_law_342 (by decide) ?_
    refine a_iadd (v := nI (i + 2)) dL_law_343 (nI_add _ _) ?_
    refine a_sld dL_law_344 hb hL (by omega) ?_
    refine a_if_eq (tgt := 352) dL_law_345 (by decide) (fun h345 => ?_) (fun h345 => absurd hz h345)
    refine a_iconst (v := nI 0) dL_law_352 (by decide) ?_
    refine a_callVi (As := [_, _]) dL_law_353 km_L_36 ⟨by decide, _, _, _, rfl, rfl⟩ rfl rfl (Nat.le_of_ble_eq_true rfl) ?_
    refine CMi.mono hq (fun r1 I2 J2 hr => ?_)
    obtain ⟨rfl, hc2⟩ := hr
    exact a_icmp_eq (tgt := 1253) dL_law_356 (by decide) (fun _ => kx _ _ hc2) (fun h => absurd rfl h)
  · refine a_aload_n dL_law_312 rfl ?_
    refine a_aload_n dL_law_313 rfl ?_
    refine a_iload_n dL_law_314 rfl ?_
    refine a_iconst (v := nI 1) dL_law_315 (by decide) ?_
    refine a_iadd (v := nI (i + 1)) dL_law_316 (nI_add _ _) ?_
    refine a_sld dL_law_317 hb hL (by omega) ?_
    refine a_aload_n dL_law_318 rfl ?_
    refine a_iload_n dL_law_319 rfl ?_
    refine a_iconst (v := nI 2) dL_law_320 (by decide) ?_
    refine a_iadd (v := nI (i + 2)) dL_law_321 (nI_add _ _) ?_
    refine a_sld dL_law_322 hb hL (by omega) ?_
    refine a_if_eq (tgt := 330) dL_law_323 (by decide) (fun h323 => absurd h323 hz) (fun h323 => ?_)
    refine a_iconst (v := nI 1) dL_law_326 (by decide) ?_
    refine a_goto (tgt := 331) dL_law_327 (by decide) ?_
    refine a_callVi (As := [_, _]) dL_law_331 km_L_32 ⟨by decide, _, _, _, rfl, rfl⟩ rfl rfl (Nat.le_of_ble_eq_true rfl) ?_
    refine CMi.mono (w_down hc (Or.inr rfl)) (fun r0 I1 J1 hq => ?_)
    refine a_aload_n dL_law_334 rfl ?_
    refine a_aload_n dL_law_335 rfl ?_
    refine a_iload_n dL_law_336 rfl ?_
    refine a_iconst (v := nI 1) dL_law_337 (by decide) ?_
    refine a_iadd (v := nI (i + 1)) dL_law_338 (nI_add _ _) ?_
    refine a_sld dL_law_339 hb hL (by omega) ?_
    refine a_aload_n dL_law_340 rfl ?_
    refine a_iload_n dL_law_341 rfl ?_
    refine a_iconst (v := nI 2) dL_law_342 (by decide) ?_
    refine a_iadd (v := nI (i + 2)) dL_law_343 (nI_add _ _) ?_
    refine a_sld dL_law_344 hb hL (by omega) ?_
    refine a_if_eq (tgt := 352) dL_law_345 (by decide) (fun h345 => absurd h345 hz) (fun h345 => ?_)
    refine a_iconst (v := nI 1) dL_law_348 (by decide) ?_
    refine a_goto (tgt := 353) dL_law_349 (by decide) ?_
    refine a_callVi (As := [_, _]) dL_law_353 km_L_36 ⟨by decide, _, _, _, rfl, rfl⟩ rfl rfl (Nat.le_of_ble_eq_true rfl) ?_
    refine CMi.mono hq (fun r1 I2 J2 hr => ?_)
    obtain ⟨rfl, hc2⟩ := hr
    exact a_icmp_eq (tgt := 1253) dL_law_356 (by decide) (fun _ => kx _ _ hc2) (fun h => absurd rfl h)
set_option maxHeartbeats 4000000 in
set_option maxRecDepth 100000 in
theorem cs_5 {G : am_G} {d : Nat} {I : am_I} {J : am_J} {b Ln i : Nat} {xs : Nat → Int32} (hb : G.2.2.2 94 = b) (hL : Ln ≤ 3072) (hi : i + 6 ≤ Ln) (hc : cpE I J) (kx : ∀ I J, cpE I J → AW G cL_law 4 RL (d + 46) (lw_eA b Ln xs) 1253 [some (.ref 94), some (.ref 0), some (.ref 63), some (.int (nI i))] [] I J) : AW G cL_law 4 RL (d + 46) (lw_eA b Ln xs) 361 [some (.ref 94), some (.ref 0), some (.ref 63), some (.int (nI i))] [] I J := by
  refine a_aload_n dL_law_361 rfl ?_
  refine a_aload_n dL_law_362 rfl ?_
  refine a_iload_n dL_law_363 rfl ?_
  refine a_iconst (v := nI 1) dL_law_364 (by decide) ?_
  refine a_iadd (v := nI (i + 1)) dL_law_365 (nI_add _ _) ?_
  refine a_sld dL_law_366 hb hL (by omega) ?_
  refine a_aload_n dL_law_367 rfl ?_
  refine a_iload_n dL_law_368 rfl ?_
  refine a_iconst (v := nI 2) dL_law_369 (by decide) ?_
  refine a_iadd (v := nI (i + 2)) dL_law_370 (nI_add _ _) ?_
  refine a_sld dL_law_371 hb hL (by omega) ?_
  refine a_callVi (As := [_, _]) dL_law_372 km_L_37 ⟨by decide, _, _, _, rfl, rfl⟩ rfl rfl (Nat.le_of_ble_eq_true rfl) ?_
  refine CMi.mono (w_rate hc) (fun r0 I1 J1 hq => ?_)
  refine a_aload_n dL_law_375 rfl ?_
  refine a_aload_n dL_law_376 rfl ?_
  refine a_iload_n dL_law_377 rfl ?_
  refine a_iconst (v := nI 1) dL_law_378 (by decide) ?_
  refine a_iadd (v := nI (i + 1)) dL_law_379 (nI_add _ _) ?_
  refine a_sld dL_law_380 hb hL (by omega) ?_
  refine a_aload_n dL_law_381 rfl ?_
  refine a_iload_n dL_law_382 rfl ?_
  refine a_iconst (v := nI 2) dL_law_383 (by decide) ?_
  refine a_iadd (v := nI (i + 2)) dL_law_384 (nI_add _ _) ?_
  refine a_sld dL_law_385 hb hL (by omega) ?_
  refine a_callVi (As := [_, _]) dL_law_386 km_L_40 ⟨by decide, _, _, _, rfl, rfl⟩ rfl rfl (Nat.le_of_ble_eq_true rfl) ?_
  refine CMi.mono hq (fun r1 I2 J2 hr => ?_)
  obtain ⟨rfl, hc2⟩ := hr
  exact a_icmp_eq (tgt := 1253) dL_law_389 (by decide) (fun _ => kx _ _ hc2) (fun h => absurd rfl h)
set_option maxHeartbeats 4000000 in
set_option maxRecDepth 100000 in
theorem cs_6 {G : am_G} {d : Nat} {I : am_I} {J : am_J} {b Ln i : Nat} {xs : Nat → Int32} (hb : G.2.2.2 94 = b) (hL : Ln ≤ 3072) (hi : i + 6 ≤ Ln) (hc : cpE I J) (kx : ∀ I J, cpE I J → AW G cL_law 4 RL (d + 46) (lw_eA b Ln xs) 1253 [some (.ref 94), some (.ref 0), some (.ref 63), some (.int (nI i))] [] I J) : AW G cL_law 4 RL (d + 46) (lw_eA b Ln xs) 394 [some (.ref 94), some (.ref 0), some (.ref 63), some (.int (nI i))] [] I J := by
  refine a_aload_n dL_law_394 rfl ?_
  refine a_aload_n dL_law_395 rfl ?_
  refine a_iload_n dL_law_396 rfl ?_
  refine a_iconst (v := nI 1) dL_law_397 (by decide) ?_
  refine a_iadd (v := nI (i + 1)) dL_law_398 (nI_add _ _) ?_
  refine a_sld dL_law_399 hb hL (by omega) ?_
  refine a_aload_n dL_law_400 rfl ?_
  refine a_iload_n dL_law_401 rfl ?_
  refine a_iconst (v := nI 2) dL_law_402 (by decide) ?_
  refine a_iadd (v := nI (i + 2)) dL_law_403 (nI_add _ _) ?_
  refine a_sld dL_law_404 hb hL (by omega) ?_
  refine a_aload_n dL_law_405 rfl ?_
  refine a_iload_n dL_law_406 rfl ?_
  refine a_iconst (v := nI 3) dL_law_407 (by decide) ?_
  refine a_iadd (v := nI (i + 3)) dL_law_408 (nI_add _ _) ?_
  refine a_sld dL_law_409 hb hL (by omega) ?_
  refine a_callVi (As := [_, _, _]) dL_law_410 km_L_41 ⟨by decide, _, _, _, rfl, rfl⟩ rfl rfl (Nat.le_of_ble_eq_true rfl) ?_
  refine CMi.mono (w_reading hc) (fun r0 I1 J1 hq => ?_)
  refine a_aload_n dL_law_413 rfl ?_
  refine a_aload_n dL_law_414 rfl ?_
  refine a_iload_n dL_law_415 rfl ?_
  refine a_iconst (v := nI 1) dL_law_416 (by decide) ?_
  refine a_iadd (v := nI (i + 1)) dL_law_417 (nI_add _ _) ?_
  refine a_sld dL_law_418 hb hL (by omega) ?_
  refine a_aload_n dL_law_419 rfl ?_
  refine a_iload_n dL_law_420 rfl ?_
  refine a_iconst (v := nI 2) dL_law_421 (by decide) ?_
  refine a_iadd (v := nI (i + 2)) dL_law_422 (nI_add _ _) ?_
  refine a_sld dL_law_423 hb hL (by omega) ?_
  refine a_aload_n dL_law_424 rfl ?_
  refine a_iload_n dL_law_425 rfl ?_
  refine a_iconst (v := nI 3) dL_law_426 (by decide) ?_
  refine a_iadd (v := nI (i + 3)) dL_law_427 (nI_add _ _) ?_
  refine a_sld dL_law_428 hb hL (by omega) ?_
  refine a_callVi (As := [_, _, _]) dL_law_429 km_L_44 ⟨by decide, _, _, _, rfl, rfl⟩ rfl rfl (Nat.le_of_ble_eq_true rfl) ?_
  refine CMi.mono hq (fun r1 I2 J2 hr => ?_)
  obtain ⟨rfl, hc2⟩ := hr
  exact a_icmp_eq (tgt := 1253) dL_law_432 (by decide) (fun _ => kx _ _ hc2) (fun h => absurd rfl h)
set_option maxHeartbeats 4000000 in
set_option maxRecDepth 100000 in
theorem cs_7 {G : am_G} {d : Nat} {I : am_I} {J : am_J} {b Ln i : Nat} {xs : Nat → Int32} (hb : G.2.2.2 94 = b) (hL : Ln ≤ 3072) (hi : i + 6 ≤ Ln) (hc : cpE I J) (kx : ∀ I J, cpE I J → AW G cL_law 4 RL (d + 46) (lw_eA b Ln xs) 1253 [some (.ref 94), some (.ref 0), some (.ref 63), some (.int (nI i))] [] I J) : AW G cL_law 4 RL (d + 46) (lw_eA b Ln xs) 437 [some (.ref 94), some (.ref 0), some (.ref 63), some (.int (nI i))] [] I J := by
  refine a_aload_n dL_law_437 rfl ?_
  refine a_aload_n dL_law_438 rfl ?_
  refine a_iload_n dL_law_439 rfl ?_
  refine a_iconst (v := nI 1) dL_law_440 (by decide) ?_
  refine a_iadd (v := nI (i + 1)) dL_law_441 (nI_add _ _) ?_
  refine a_sld dL_law_442 hb hL (by omega) ?_
  refine a_aload_n dL_law_443 rfl ?_
  refine a_iload_n dL_law_444 rfl ?_
  refine a_iconst (v := nI 2) dL_law_445 (by decide) ?_
  refine a_iadd (v := nI (i + 2)) dL_law_446 (nI_add _ _) ?_
  refine a_sld dL_law_447 hb hL (by omega) ?_
  refine a_aload_n dL_law_448 rfl ?_
  refine a_iload_n dL_law_449 rfl ?_
  refine a_iconst (v := nI 3) dL_law_450 (by decide) ?_
  refine a_iadd (v := nI (i + 3)) dL_law_451 (nI_add _ _) ?_
  refine a_sld dL_law_452 hb hL (by omega) ?_
  refine a_callVi (As := [_, _, _]) dL_law_453 km_L_45 ⟨by decide, _, _, _, rfl, rfl⟩ rfl rfl (Nat.le_of_ble_eq_true rfl) ?_
  refine CMi.mono (w_load hc) (fun r0 I1 J1 hq => ?_)
  refine a_aload_n dL_law_456 rfl ?_
  refine a_aload_n dL_law_457 rfl ?_
  refine a_iload_n dL_law_458 rfl ?_
  refine a_iconst (v := nI 1) dL_law_459 (by decide) ?_
  refine a_iadd (v := nI (i + 1)) dL_law_460 (nI_add _ _) ?_
  refine a_sld dL_law_461 hb hL (by omega) ?_
  refine a_aload_n dL_law_462 rfl ?_
  refine a_iload_n dL_law_463 rfl ?_
  refine a_iconst (v := nI 2) dL_law_464 (by decide) ?_
  refine a_iadd (v := nI (i + 2)) dL_law_465 (nI_add _ _) ?_
  refine a_sld dL_law_466 hb hL (by omega) ?_
  refine a_aload_n dL_law_467 rfl ?_
  refine a_iload_n dL_law_468 rfl ?_
  refine a_iconst (v := nI 3) dL_law_469 (by decide) ?_
  refine a_iadd (v := nI (i + 3)) dL_law_470 (nI_add _ _) ?_
  refine a_sld dL_law_471 hb hL (by omega) ?_
  refine a_callVi (As := [_, _, _]) dL_law_472 km_L_48 ⟨by decide, _, _, _, rfl, rfl⟩ rfl rfl (Nat.le_of_ble_eq_true rfl) ?_
  refine CMi.mono hq (fun r1 I2 J2 hr => ?_)
  obtain ⟨rfl, hc2⟩ := hr
  exact a_icmp_eq (tgt := 1253) dL_law_475 (by decide) (fun _ => kx _ _ hc2) (fun h => absurd rfl h)
set_option maxHeartbeats 4000000 in
set_option maxRecDepth 100000 in
theorem cs_8 {G : am_G} {d : Nat} {I : am_I} {J : am_J} {b Ln i : Nat} {xs : Nat → Int32} (hb : G.2.2.2 94 = b) (hL : Ln ≤ 3072) (hi : i + 6 ≤ Ln) (hc : cpE I J) (kx : ∀ I J, cpE I J → AW G cL_law 4 RL (d + 46) (lw_eA b Ln xs) 1253 [some (.ref 94), some (.ref 0), some (.ref 63), some (.int (nI i))] [] I J) : AW G cL_law 4 RL (d + 46) (lw_eA b Ln xs) 480 [some (.ref 94), some (.ref 0), some (.ref 63), some (.int (nI i))] [] I J := by
  refine a_aload_n dL_law_480 rfl ?_
  refine a_aload_n dL_law_481 rfl ?_
  refine a_iload_n dL_law_482 rfl ?_
  refine a_iconst (v := nI 1) dL_law_483 (by decide) ?_
  refine a_iadd (v := nI (i + 1)) dL_law_484 (nI_add _ _) ?_
  refine a_sld dL_law_485 hb hL (by omega) ?_
  refine a_callVi (As := [_]) dL_law_486 km_L_49 ⟨by decide, _, _, _, rfl, rfl⟩ rfl rfl (Nat.le_of_ble_eq_true rfl) ?_
  refine CMi.mono (w_mean hc) (fun r0 I1 J1 hq => ?_)
  refine a_aload_n dL_law_489 rfl ?_
  refine a_aload_n dL_law_490 rfl ?_
  refine a_iload_n dL_law_491 rfl ?_
  refine a_iconst (v := nI 1) dL_law_492 (by decide) ?_
  refine a_iadd (v := nI (i + 1)) dL_law_493 (nI_add _ _) ?_
  refine a_sld dL_law_494 hb hL (by omega) ?_
  refine a_callVi (As := [_]) dL_law_495 km_L_52 ⟨by decide, _, _, _, rfl, rfl⟩ rfl rfl (Nat.le_of_ble_eq_true rfl) ?_
  refine CMi.mono hq (fun r1 I2 J2 hr => ?_)
  obtain ⟨rfl, hc2⟩ := hr
  exact a_icmp_eq (tgt := 1253) dL_law_498 (by decide) (fun _ => kx _ _ hc2) (fun h => absurd rfl h)
set_option maxHeartbeats 4000000 in
set_option maxRecDepth 100000 in
theorem cs_9 {G : am_G} {d : Nat} {I : am_I} {J : am_J} {b Ln i : Nat} {xs : Nat → Int32} (hb : G.2.2.2 94 = b) (hL : Ln ≤ 3072) (hi : i + 6 ≤ Ln) (hc : cpE I J) (kx : ∀ I J, cpE I J → AW G cL_law 4 RL (d + 46) (lw_eA b Ln xs) 1253 [some (.ref 94), some (.ref 0), some (.ref 63), some (.int (nI i))] [] I J) : AW G cL_law 4 RL (d + 46) (lw_eA b Ln xs) 503 [some (.ref 94), some (.ref 0), some (.ref 63), some (.int (nI i))] [] I J := by
  refine a_aload_n dL_law_503 rfl ?_
  refine a_aload_n dL_law_504 rfl ?_
  refine a_iload_n dL_law_505 rfl ?_
  refine a_iconst (v := nI 1) dL_law_506 (by decide) ?_
  refine a_iadd (v := nI (i + 1)) dL_law_507 (nI_add _ _) ?_
  refine a_sld dL_law_508 hb hL (by omega) ?_
  refine a_aload_n dL_law_509 rfl ?_
  refine a_iload_n dL_law_510 rfl ?_
  refine a_iconst (v := nI 2) dL_law_511 (by decide) ?_
  refine a_iadd (v := nI (i + 2)) dL_law_512 (nI_add _ _) ?_
  refine a_sld dL_law_513 hb hL (by omega) ?_
  refine a_aload_n dL_law_514 rfl ?_
  refine a_iload_n dL_law_515 rfl ?_
  refine a_iconst (v := nI 3) dL_law_516 (by decide) ?_
  refine a_iadd (v := nI (i + 3)) dL_law_517 (nI_add _ _) ?_
  refine a_sld dL_law_518 hb hL (by omega) ?_
  refine a_callVi (As := [_, _, _]) dL_law_519 km_L_53 ⟨by decide, _, _, _, rfl, rfl⟩ rfl rfl (Nat.le_of_ble_eq_true rfl) ?_
  refine CMi.mono (w_route hc) (fun r0 I1 J1 hq => ?_)
  refine a_aload_n dL_law_522 rfl ?_
  refine a_aload_n dL_law_523 rfl ?_
  refine a_iload_n dL_law_524 rfl ?_
  refine a_iconst (v := nI 1) dL_law_525 (by decide) ?_
  refine a_iadd (v := nI (i + 1)) dL_law_526 (nI_add _ _) ?_
  refine a_sld dL_law_527 hb hL (by omega) ?_
  refine a_aload_n dL_law_528 rfl ?_
  refine a_iload_n dL_law_529 rfl ?_
  refine a_iconst (v := nI 2) dL_law_530 (by decide) ?_
  refine a_iadd (v := nI (i + 2)) dL_law_531 (nI_add _ _) ?_
  refine a_sld dL_law_532 hb hL (by omega) ?_
  refine a_aload_n dL_law_533 rfl ?_
  refine a_iload_n dL_law_534 rfl ?_
  refine a_iconst (v := nI 3) dL_law_535 (by decide) ?_
  refine a_iadd (v := nI (i + 3)) dL_law_536 (nI_add _ _) ?_
  refine a_sld dL_law_537 hb hL (by omega) ?_
  refine a_callVi (As := [_, _, _]) dL_law_538 km_L_56 ⟨by decide, _, _, _, rfl, rfl⟩ rfl rfl (Nat.le_of_ble_eq_true rfl) ?_
  refine CMi.mono hq (fun r1 I2 J2 hr => ?_)
  obtain ⟨rfl, hc2⟩ := hr
  exact a_icmp_eq (tgt := 1253) dL_law_541 (by decide) (fun _ => kx _ _ hc2) (fun h => absurd rfl h)
set_option maxHeartbeats 4000000 in
set_option maxRecDepth 100000 in
theorem cs_10 {G : am_G} {d : Nat} {I : am_I} {J : am_J} {b Ln i : Nat} {xs : Nat → Int32} (hb : G.2.2.2 94 = b) (hL : Ln ≤ 3072) (hi : i + 6 ≤ Ln) (hc : cpE I J) (kx : ∀ I J, cpE I J → AW G cL_law 4 RL (d + 46) (lw_eA b Ln xs) 1253 [some (.ref 94), some (.ref 0), some (.ref 63), some (.int (nI i))] [] I J) : AW G cL_law 4 RL (d + 46) (lw_eA b Ln xs) 546 [some (.ref 94), some (.ref 0), some (.ref 63), some (.int (nI i))] [] I J := by
  refine a_aload_n dL_law_546 rfl ?_
  refine a_aload_n dL_law_547 rfl ?_
  refine a_iload_n dL_law_548 rfl ?_
  refine a_iconst (v := nI 1) dL_law_549 (by decide) ?_
  refine a_iadd (v := nI (i + 1)) dL_law_550 (nI_add _ _) ?_
  refine a_sld dL_law_551 hb hL (by omega) ?_
  refine a_aload_n dL_law_552 rfl ?_
  refine a_iload_n dL_law_553 rfl ?_
  refine a_iconst (v := nI 2) dL_law_554 (by decide) ?_
  refine a_iadd (v := nI (i + 2)) dL_law_555 (nI_add _ _) ?_
  refine a_sld dL_law_556 hb hL (by omega) ?_
  refine a_callVi (As := [_, _]) dL_law_557 km_L_57 ⟨by decide, _, _, _, rfl, rfl⟩ rfl rfl (Nat.le_of_ble_eq_true rfl) ?_
  refine CMi.mono (w_carried hc) (fun r0 I1 J1 hq => ?_)
  refine a_aload_n dL_law_560 rfl ?_
  refine a_aload_n dL_law_561 rfl ?_
  refine a_iload_n dL_law_562 rfl ?_
  refine a_iconst (v := nI 1) dL_law_563 (by decide) ?_
  refine a_iadd (v := nI (i + 1)) dL_law_564 (nI_add _ _) ?_
  refine a_sld dL_law_565 hb hL (by omega) ?_
  refine a_aload_n dL_law_566 rfl ?_
  refine a_iload_n dL_law_567 rfl ?_
  refine a_iconst (v := nI 2) dL_law_568 (by decide) ?_
  refine a_iadd (v := nI (i + 2)) dL_law_569 (nI_add _ _) ?_
  refine a_sld dL_law_570 hb hL (by omega) ?_
  refine a_callVi (As := [_, _]) dL_law_571 km_L_60 ⟨by decide, _, _, _, rfl, rfl⟩ rfl rfl (Nat.le_of_ble_eq_true rfl) ?_
  refine CMi.mono hq (fun r1 I2 J2 hr => ?_)
  obtain ⟨rfl, hc2⟩ := hr
  exact a_icmp_eq (tgt := 1253) dL_law_574 (by decide) (fun _ => kx _ _ hc2) (fun h => absurd rfl h)
set_option maxHeartbeats 4000000 in
set_option maxRecDepth 100000 in
theorem cs_11 {G : am_G} {d : Nat} {I : am_I} {J : am_J} {b Ln i : Nat} {xs : Nat → Int32} (hb : G.2.2.2 94 = b) (hL : Ln ≤ 3072) (hi : i + 6 ≤ Ln) (hc : cpE I J) (kx : ∀ I J, cpE I J → AW G cL_law 4 RL (d + 46) (lw_eA b Ln xs) 1253 [some (.ref 94), some (.ref 0), some (.ref 63), some (.int (nI i))] [] I J) : AW G cL_law 4 RL (d + 46) (lw_eA b Ln xs) 579 [some (.ref 94), some (.ref 0), some (.ref 63), some (.int (nI i))] [] I J := by
  refine a_aload_n dL_law_579 rfl ?_
  refine a_aload_n dL_law_580 rfl ?_
  refine a_iload_n dL_law_581 rfl ?_
  refine a_iconst (v := nI 1) dL_law_582 (by decide) ?_
  refine a_iadd (v := nI (i + 1)) dL_law_583 (nI_add _ _) ?_
  refine a_sld dL_law_584 hb hL (by omega) ?_
  refine a_aload_n dL_law_585 rfl ?_
  refine a_iload_n dL_law_586 rfl ?_
  refine a_iconst (v := nI 2) dL_law_587 (by decide) ?_
  refine a_iadd (v := nI (i + 2)) dL_law_588 (nI_add _ _) ?_
  refine a_sld dL_law_589 hb hL (by omega) ?_
  refine a_aload_n dL_law_590 rfl ?_
  refine a_iload_n dL_law_591 rfl ?_
  refine a_iconst (v := nI 3) dL_law_592 (by decide) ?_
  refine a_iadd (v := nI (i + 3)) dL_law_593 (nI_add _ _) ?_
  refine a_sld dL_law_594 hb hL (by omega) ?_
  refine a_callVi (As := [_, _, _]) dL_law_595 km_L_61 ⟨by decide, _, _, _, rfl, rfl⟩ rfl rfl (Nat.le_of_ble_eq_true rfl) ?_
  refine CMi.mono (w_meter hc) (fun r0 I1 J1 hq => ?_)
  refine a_aload_n dL_law_598 rfl ?_
  refine a_aload_n dL_law_599 rfl ?_
  refine a_iload_n dL_law_600 rfl ?_
  refine a_iconst (v := nI 1) dL_law_601 (by decide) ?_
  refine a_iadd (v := nI (i + 1)) dL_law_602 (nI_add _ _) ?_
  refine a_sld dL_law_603 hb hL (by omega) ?_
  refine a_aload_n dL_law_604 rfl ?_
  refine a_iload_n dL_law_605 rfl ?_
  refine a_iconst (v := nI 2) dL_law_606 (by decide) ?_
  refine a_iadd (v := nI (i + 2)) dL_law_607 (nI_add _ _) ?_
  refine a_sld dL_law_608 hb hL (by omega) ?_
  refine a_aload_n dL_law_609 rfl ?_
  refine a_iload_n dL_law_610 rfl ?_
  refine a_iconst (v := nI 3) dL_law_611 (by decide) ?_
  refine a_iadd (v := nI (i + 3)) dL_law_612 (nI_add _ _) ?_
  refine a_sld dL_law_613 hb hL (by omega) ?_
  refine a_callVi (As := [_, _, _]) dL_law_614 km_L_64 ⟨by decide, _, _, _, rfl, rfl⟩ rfl rfl (Nat.le_of_ble_eq_true rfl) ?_
  refine CMi.mono hq (fun r1 I2 J2 hr => ?_)
  obtain ⟨rfl, hc2⟩ := hr
  exact a_icmp_eq (tgt := 1253) dL_law_617 (by decide) (fun _ => kx _ _ hc2) (fun h => absurd rfl h)
set_option maxHeartbeats 4000000 in
set_option maxRecDepth 100000 in
theorem cs_12 {G : am_G} {d : Nat} {I : am_I} {J : am_J} {b Ln i : Nat} {xs : Nat → Int32} (hb : G.2.2.2 94 = b) (hL : Ln ≤ 3072) (hi : i + 6 ≤ Ln) (hc : cpE I J) (kx : ∀ I J, cpE I J → AW G cL_law 4 RL (d + 46) (lw_eA b Ln xs) 1253 [some (.ref 94), some (.ref 0), some (.ref 63), some (.int (nI i))] [] I J) : AW G cL_law 4 RL (d + 46) (lw_eA b Ln xs) 622 [some (.ref 94), some (.ref 0), some (.ref 63), some (.int (nI i))] [] I J := by
  refine a_aload_n dL_law_622 rfl ?_
  refine a_aload_n dL_law_623 rfl ?_
  refine a_iload_n dL_law_624 rfl ?_
  refine a_iconst (v := nI 1) dL_law_625 (by decide) ?_
  refine a_iadd (v := nI (i + 1)) dL_law_626 (nI_add _ _) ?_
  refine a_sld dL_law_627 hb hL (by omega) ?_
  refine a_callVi (As := [_]) dL_law_628 km_L_65 ⟨by decide, _, _, _, rfl, rfl⟩ rfl rfl (Nat.le_of_ble_eq_true rfl) ?_
  refine CMi.mono (w_fits hc) (fun r0 I1 J1 hq => ?_)
  refine a_aload_n dL_law_631 rfl ?_
  refine a_aload_n dL_law_632 rfl ?_
  refine a_iload_n dL_law_633 rfl ?_
  refine a_iconst (v := nI 1) dL_law_634 (by decide) ?_
  refine a_iadd (v := nI (i + 1)) dL_law_635 (nI_add _ _) ?_
  refine a_sld dL_law_636 hb hL (by omega) ?_
  refine a_callVi (As := [_]) dL_law_637 km_L_68 ⟨by decide, _, _, _, rfl, rfl⟩ rfl rfl (Nat.le_of_ble_eq_true rfl) ?_
  refine CMi.mono hq (fun r1 I2 J2 hr => ?_)
  obtain ⟨rfl, hc2⟩ := hr
  exact a_icmp_eq (tgt := 1253) dL_law_640 (by decide) (fun _ => kx _ _ hc2) (fun h => absurd rfl h)
set_option maxHeartbeats 4000000 in
set_option maxRecDepth 100000 in
theorem cs_13 {G : am_G} {d : Nat} {I : am_I} {J : am_J} {b Ln i : Nat} {xs : Nat → Int32} (hb : G.2.2.2 94 = b) (hL : Ln ≤ 3072) (hi : i + 6 ≤ Ln) (hc : cpE I J) (kx : ∀ I J, cpE I J → AW G cL_law 4 RL (d + 46) (lw_eA b Ln xs) 1253 [some (.ref 94), some (.ref 0), some (.ref 63), some (.int (nI i))] [] I J) : AW G cL_law 4 RL (d + 46) (lw_eA b Ln xs) 645 [some (.ref 94), some (.ref 0), some (.ref 63), some (.int (nI i))] [] I J := by
  refine a_aload_n dL_law_645 rfl ?_
  refine a_aload_n dL_law_646 rfl ?_
  refine a_iload_n dL_law_647 rfl ?_
  refine a_iconst (v := nI 1) dL_law_648 (by decide) ?_
  refine a_iadd (v := nI (i + 1)) dL_law_649 (nI_add _ _) ?_
  refine a_sld dL_law_650 hb hL (by omega) ?_
  refine a_aload_n dL_law_651 rfl ?_
  refine a_iload_n dL_law_652 rfl ?_
  refine a_iconst (v := nI 2) dL_law_653 (by decide) ?_
  refine a_iadd (v := nI (i + 2)) dL_law_654 (nI_add _ _) ?_
  refine a_sld dL_law_655 hb hL (by omega) ?_
  refine a_callVi (As := [_, _]) dL_law_656 km_L_69 ⟨by decide, _, _, _, rfl, rfl⟩ rfl rfl (Nat.le_of_ble_eq_true rfl) ?_
  refine CMi.mono (w_fit hc) (fun r0 I1 J1 hq => ?_)
  refine a_aload_n dL_law_659 rfl ?_
  refine a_aload_n dL_law_660 rfl ?_
  refine a_iload_n dL_law_661 rfl ?_
  refine a_iconst (v := nI 1) dL_law_662 (by decide) ?_
  refine a_iadd (v := nI (i + 1)) dL_law_663 (nI_add _ _) ?_
  refine a_sld dL_law_664 hb hL (by omega) ?_
  refine a_aload_n dL_law_665 rfl ?_
  refine a_iload_n dL_law_666 rfl ?_
  refine a_iconst (v := nI 2) dL_law_667 (by decide) ?_
  refine a_iadd (v := nI (i + 2)) dL_law_668 (nI_add _ _) ?_
  refine a_sld dL_law_669 hb hL (by omega) ?_
  refine a_callVi (As := [_, _]) dL_law_670 km_L_72 ⟨by decide, _, _, _, rfl, rfl⟩ rfl rfl (Nat.le_of_ble_eq_true rfl) ?_
  refine CMi.mono hq (fun r1 I2 J2 hr => ?_)
  obtain ⟨rfl, hc2⟩ := hr
  exact a_icmp_eq (tgt := 1253) dL_law_673 (by decide) (fun _ => kx _ _ hc2) (fun h => absurd rfl h)
set_option maxHeartbeats 4000000 in
set_option maxRecDepth 100000 in
theorem cs_14 {G : am_G} {d : Nat} {I : am_I} {J : am_J} {b Ln i : Nat} {xs : Nat → Int32} (hb : G.2.2.2 94 = b) (hL : Ln ≤ 3072) (hi : i + 6 ≤ Ln) (hc : cpE I J) (kx : ∀ I J, cpE I J → AW G cL_law 4 RL (d + 46) (lw_eA b Ln xs) 1253 [some (.ref 94), some (.ref 0), some (.ref 63), some (.int (nI i))] [] I J) : AW G cL_law 4 RL (d + 46) (lw_eA b Ln xs) 678 [some (.ref 94), some (.ref 0), some (.ref 63), some (.int (nI i))] [] I J := by
  refine a_aload_n dL_law_678 rfl ?_
  refine a_aload_n dL_law_679 rfl ?_
  refine a_iload_n dL_law_680 rfl ?_
  refine a_iconst (v := nI 1) dL_law_681 (by decide) ?_
  refine a_iadd (v := nI (i + 1)) dL_law_682 (nI_add _ _) ?_
  refine a_sld dL_law_683 hb hL (by omega) ?_
  refine a_callVi (As := [_]) dL_law_684 km_L_73 ⟨by decide, _, _, _, rfl, rfl⟩ rfl rfl (Nat.le_of_ble_eq_true rfl) ?_
  refine CMi.mono (w_many hc) (fun r0 I1 J1 hq => ?_)
  refine a_aload_n dL_law_687 rfl ?_
  refine a_aload_n dL_law_688 rfl ?_
  refine a_iload_n dL_law_689 rfl ?_
  refine a_iconst (v := nI 1) dL_law_690 (by decide) ?_
  refine a_iadd (v := nI (i + 1)) dL_law_691 (nI_add _ _) ?_
  refine a_sld dL_law_692 hb hL (by omega) ?_
  refine a_callVi (As := [_]) dL_law_693 km_L_76 ⟨by decide, _, _, _, rfl, rfl⟩ rfl rfl (Nat.le_of_ble_eq_true rfl) ?_
  refine CMi.mono hq (fun r1 I2 J2 hr => ?_)
  obtain ⟨rfl, hc2⟩ := hr
  exact a_icmp_eq (tgt := 1253) dL_law_696 (by decide) (fun _ => kx _ _ hc2) (fun h => absurd rfl h)
set_option maxHeartbeats 4000000 in
set_option maxRecDepth 100000 in
theorem cs_15 {G : am_G} {d : Nat} {I : am_I} {J : am_J} {b Ln i : Nat} {xs : Nat → Int32} (hb : G.2.2.2 94 = b) (hL : Ln ≤ 3072) (hi : i + 6 ≤ Ln) (hc : cpE I J) (kx : ∀ I J, cpE I J → AW G cL_law 4 RL (d + 46) (lw_eA b Ln xs) 1253 [some (.ref 94), some (.ref 0), some (.ref 63), some (.int (nI i))] [] I J) : AW G cL_law 4 RL (d + 46) (lw_eA b Ln xs) 701 [some (.ref 94), some (.ref 0), some (.ref 63), some (.int (nI i))] [] I J := by
  by_cases hz : xs (i + 3) = 0
  · refine a_aload_n dL_law_701 rfl ?_
    refine a_aload_n dL_law_702 rfl ?_
    refine a_iload_n dL_law_703 rfl ?_
    refine a_iconst (v := nI 1) dL_law_704 (by decide) ?_
    refine a_iadd (v := nI (i + 1)) dL_law_705 (nI_add _ _) ?_
    refine a_sld dL_law_706 hb hL (by omega) ?_
    refine a_aload_n dL_law_707 rfl ?_
    refine a_iload_n dL_law_708 rfl ?_
    refine a_iconst (v := nI 2) dL_law_709 (by decide) ?_
    refine a_iadd (v := nI (i + 2)) dL_law_710 (nI_add _ _) ?_
    refine a_sld dL_law_711 hb hL (by omega) ?_
    refine a_aload_n dL_law_712 rfl ?_
    refine a_iload_n dL_law_713 rfl ?_
    refine a_iconst (v := nI 3) dL_law_714 (by decide) ?_
    refine a_iadd (v := nI (i + 3)) dL_law_715 (nI_add _ _) ?_
    refine a_sld dL_law_716 hb hL (by omega) ?_
    refine a_if_eq (tgt := 724) dL_law_717 (by decide) (fun h717 => ?_) (fun h717 => absurd hz h717)
    refine a_iconst (v := nI 0) dL_law_724 (by decide) ?_
    refine a_aload_n dL_law_725 rfl ?_
    refine a_iload_n dL_law_726 rfl ?_
    refine a_iconst (v := nI 4) dL_law_727 (by decide) ?_
    refine a_iadd (v := nI (i + 4)) dL_law_728 (nI_add _ _) ?_
    refine a_sld dL_law_729 hb hL (by omega) ?_
    refine a_callVi (As := [_, _, _, _]) dL_law_730 km_L_77 ⟨by decide, _, _, _, rfl, rfl⟩ rfl rfl (Nat.le_of_ble_eq_true rfl) ?_
    refine CMi.mono (w_bound hc (Or.inl rfl)) (fun r0 I1 J1 hq => ?_)
    refine a_aload_n dL_law_733 rfl ?_
    refine a_aload_n dL_law_734 rfl ?_
    refine a_iload_n dL_law_735 rfl ?_
    refine a_iconst (v := nI 1) dL_law_736 (by decide) ?_
    refine a_iadd (v := nI (i + 1)) dL_law_737 (nI_add _ _) ?_
    refine a_sld dL_law_738 hb hL (by omega) ?_
    refine a_aload_n dL_law_739 rfl ?_
    refine a_iload_n dL_law_740 rfl ?_
    refine a_iconst (v := nI 2) dL_law_741 (by decide) ?_
    refine a_iadd (v := nI (i + 2)) dL_law_742 (nI_add _ _) ?_
    refine a_sld dL_law_743 hb hL (by omega) ?_
    refine a_aload_n dL_law_744 rfl ?_
    refine a_iload_n dL_law_745 rfl ?_
    refine a_iconst (v := nI 3) dL_law_746 (by decide) ?_
    refine a_iadd (v := nI (i + 3)) dL_law_747 (nI_add _ _) ?_
    refine a_sld dL_law_748 hb hL (by omega) ?_
    refine a_if_eq (tgt := 756) dL_law_749 (by decide) (fun h749 => ?_) (fun h749 => absurd hz h749)
    refine a_iconst (v := nI 0) dL_law_756 (by decide) ?_
    refine a_aload_n dL_law_757 rfl ?_
    refine a_iload_n dL_law_758 rfl ?_
    refine a_iconst (v := nI 4) dL_law_759 (by decide) ?_
    refine a_iadd (v := nI (i + 4)) dL_law_760 (nI_add _ _) ?_
    refine a_sld dL_law_761 hb hL (by omega) ?_
    refine a_callVi (As := [_, _, _, _]) dL_law_762 km_L_81 ⟨by decide, _, _, _, rfl, rfl⟩ rfl rfl (Nat.le_of_ble_eq_true rfl) ?_
    refine CMi.mono hq (fun r1 I2 J2 hr => ?_)
    obtain ⟨rfl, hc2⟩ := hr
    exact a_icmp_eq (tgt := 1253) dL_law_765 (by decide) (fun _ => kx _ _ hc2) (fun h => absurd rfl h)
  · refine a_aload_n dL_law_701 rfl ?_
    refine a_aload_n dL_law_702 rfl ?_
    refine a_iload_n dL_law_703 rfl ?_
    refine a_iconst (v := nI 1) dL_law_704 (by decide) ?_
    refine a_iadd (v := nI (i + 1)) dL_law_705 (nI_add _ _) ?_
    refine a_sld dL_law_706 hb hL (by omega) ?_
    refine a_aload_n dL_law_707 rfl ?_
    refine a_iload_n dL_law_708 rfl ?_
    refine a_iconst (v := nI 2) dL_law_709 (by decide) ?_
    refine a_iadd (v := nI (i + 2)) dL_law_710 (nI_add _ _) ?_
    refine a_sld dL_law_711 hb hL (by omega) ?_
    refine a_aload_n dL_law_712 rfl ?_
    refine a_iload_n dL_law_713 rfl ?_
    refine a_iconst (v := nI 3) dL_law_714 (by decide) ?_
    refine a_iadd (v := nI (i + 3)) dL_law_715 (nI_add _ _) ?_
    refine a_sld dL_law_716 hb hL (by omega) ?_
    refine a_if_eq (tgt := 724) dL_law_717 (by decide) (fun h717 => absurd h717 hz) (fun h717 => ?_)
    refine a_iconst (v := nI 1) dL_law_720 (by decide) ?_
    refine a_goto (tgt := 725) dL_law_721 (by decide) ?_
    refine a_aload_n dL_law_725 rfl ?_
    refine a_iload_n dL_law_726 rfl ?_
    refine a_iconst (v := nI 4) dL_law_727 (by decide) ?_
    refine a_iadd (v := nI (i + 4)) dL_law_728 (nI_add _ _) ?_
    refine a_sld dL_law_729 hb hL (by omega) ?_
    refine a_callVi (As := [_, _, _, _]) dL_law_730 km_L_77 ⟨by decide, _, _, _, rfl, rfl⟩ rfl rfl (Nat.le_of_ble_eq_true rfl) ?_
    refine CMi.mono (w_bound hc (Or.inr rfl)) (fun r0 I1 J1 hq => ?_)
    refine a_aload_n dL_law_733 rfl ?_
    refine a_aload_n dL_law_734 rfl ?_
    refine a_iload_n dL_law_735 rfl ?_
    refine a_iconst (v := nI 1) dL_law_736 (by decide) ?_
    refine a_iadd (v := nI (i + 1)) dL_law_737 (nI_add _ _) ?_
    refine a_sld dL_law_738 hb hL (by omega) ?_
    refine a_aload_n dL_law_739 rfl ?_
    refine a_iload_n dL_law_740 rfl ?_
    refine a_iconst (v := nI 2) dL_law_741 (by decide) ?_
    refine a_iadd (v := nI (i + 2)) dL_law_742 (nI_add _ _) ?_
    refine a_sld dL_law_743 hb hL (by omega) ?_
    refine a_aload_n dL_law_744 rfl ?_
    refine a_iload_n dL_law_745 rfl ?_
    refine a_iconst (v := nI 3) dL_law_746 (by decide) ?_
    refine a_iadd (v := nI (i + 3)) dL_law_747 (nI_add _ _) ?_
    refine a_sld dL_law_748 hb hL (by omega) ?_
    refine a_if_eq (tgt := 756) dL_law_749 (by decide) (fun h749 => absurd h749 hz) (fun h749 => ?_)
    refine a_iconst (v := nI 1) dL_law_752 (by decide) ?_
    refine a_goto (tgt := 757) dL_law_753 (by decide) ?_
    refine a_aload_n dL_law_757 rfl ?_
    refine a_iload_n dL_law_758 rfl ?_
    refine a_iconst (v := nI 4) dL_law_759 (by decide) ?_
    refine a_iadd (v := nI (i + 4)) dL_law_760 (nI_add _ _) ?_
    refine a_sld dL_law_761 hb hL (by omega) ?_
    refine a_callVi (As := [_, _, _, _]) dL_law_762 km_L_81 ⟨by decide, _, _, _, rfl, rfl⟩ rfl rfl (Nat.le_of_ble_eq_true rfl) ?_
    refine CMi.mono hq (fun r1 I2 J2 hr => ?_)
    obtain ⟨rfl, hc2⟩ := hr
    exact a_icmp_eq (tgt := 1253) dL_law_765 (by decide) (fun _ => kx _ _ hc2) (fun h => absurd rfl h)
set_option maxHeartbeats 4000000 in
set_option maxRecDepth 100000 in
theorem cs_16 {G : am_G} {d : Nat} {I : am_I} {J : am_J} {b Ln i : Nat} {xs : Nat → Int32} (hb : G.2.2.2 94 = b) (hL : Ln ≤ 3072) (hi : i + 6 ≤ Ln) (hc : cpE I J) (kx : ∀ I J, cpE I J → AW G cL_law 4 RL (d + 46) (lw_eA b Ln xs) 1253 [some (.ref 94), some (.ref 0), some (.ref 63), some (.int (nI i))] [] I J) : AW G cL_law 4 RL (d + 46) (lw_eA b Ln xs) 770 [some (.ref 94), some (.ref 0), some (.ref 63), some (.int (nI i))] [] I J := by
  refine a_aload_n dL_law_770 rfl ?_
  refine a_aload_n dL_law_771 rfl ?_
  refine a_iload_n dL_law_772 rfl ?_
  refine a_iconst (v := nI 1) dL_law_773 (by decide) ?_
  refine a_iadd (v := nI (i + 1)) dL_law_774 (nI_add _ _) ?_
  refine a_sld dL_law_775 hb hL (by omega) ?_
  refine a_callVi (As := [_]) dL_law_776 km_L_82 ⟨by decide, _, _, _, rfl, rfl⟩ rfl rfl (Nat.le_of_ble_eq_true rfl) ?_
  refine CMi.mono (w_sure hc) (fun r0 I1 J1 hq => ?_)
  refine a_aload_n dL_law_779 rfl ?_
  refine a_aload_n dL_law_780 rfl ?_
  refine a_iload_n dL_law_781 rfl ?_
  refine a_iconst (v := nI 1) dL_law_782 (by decide) ?_
  refine a_iadd (v := nI (i + 1)) dL_law_783 (nI_add _ _) ?_
  refine a_sld dL_law_784 hb hL (by omega) ?_
  refine a_callVi (As := [_]) dL_law_785 km_L_85 ⟨by decide, _, _, _, rfl, rfl⟩ rfl rfl (Nat.le_of_ble_eq_true rfl) ?_
  refine CMi.mono hq (fun r1 I2 J2 hr => ?_)
  obtain ⟨rfl, hc2⟩ := hr
  exact a_icmp_eq (tgt := 1253) dL_law_788 (by decide) (fun _ => kx _ _ hc2) (fun h => absurd rfl h)
set_option maxHeartbeats 4000000 in
set_option maxRecDepth 100000 in
theorem cs_17 {G : am_G} {d : Nat} {I : am_I} {J : am_J} {b Ln i : Nat} {xs : Nat → Int32} (hb : G.2.2.2 94 = b) (hL : Ln ≤ 3072) (hi : i + 6 ≤ Ln) (hc : cpE I J) (kx : ∀ I J, cpE I J → AW G cL_law 4 RL (d + 46) (lw_eA b Ln xs) 1253 [some (.ref 94), some (.ref 0), some (.ref 63), some (.int (nI i))] [] I J) : AW G cL_law 4 RL (d + 46) (lw_eA b Ln xs) 793 [some (.ref 94), some (.ref 0), some (.ref 63), some (.int (nI i))] [] I J := by
  refine a_aload_n dL_law_793 rfl ?_
  refine a_callVi (As := []) dL_law_794 km_L_86 ⟨by decide, _, _, _, rfl, rfl⟩ rfl rfl (Nat.le_of_ble_eq_true rfl) ?_
  refine CMi.mono (w_tries hc) (fun r0 I1 J1 hq => ?_)
  refine a_aload_n dL_law_797 rfl ?_
  refine a_callVi (As := []) dL_law_798 km_L_90 ⟨by decide, _, _, _, rfl, rfl⟩ rfl rfl (Nat.le_of_ble_eq_true rfl) ?_
  refine CMi.mono hq (fun r1 I2 J2 hr => ?_)
  obtain ⟨rfl, hc2⟩ := hr
  exact a_icmp_eq (tgt := 1253) dL_law_801 (by decide) (fun _ => kx _ _ hc2) (fun h => absurd rfl h)
set_option maxHeartbeats 4000000 in
set_option maxRecDepth 100000 in
theorem cs_18 {G : am_G} {d : Nat} {I : am_I} {J : am_J} {b Ln i : Nat} {xs : Nat → Int32} (hb : G.2.2.2 94 = b) (hL : Ln ≤ 3072) (hi : i + 6 ≤ Ln) (hc : cpE I J) (kx : ∀ I J, cpE I J → AW G cL_law 4 RL (d + 46) (lw_eA b Ln xs) 1253 [some (.ref 94), some (.ref 0), some (.ref 63), some (.int (nI i))] [] I J) : AW G cL_law 4 RL (d + 46) (lw_eA b Ln xs) 806 [some (.ref 94), some (.ref 0), some (.ref 63), some (.int (nI i))] [] I J := by
  refine a_aload_n dL_law_806 rfl ?_
  refine a_aload_n dL_law_807 rfl ?_
  refine a_iload_n dL_law_808 rfl ?_
  refine a_iconst (v := nI 1) dL_law_809 (by decide) ?_
  refine a_iadd (v := nI (i + 1)) dL_law_810 (nI_add _ _) ?_
  refine a_sld dL_law_811 hb hL (by omega) ?_
  refine a_aload_n dL_law_812 rfl ?_
  refine a_iload_n dL_law_813 rfl ?_
  refine a_iconst (v := nI 2) dL_law_814 (by decide) ?_
  refine a_iadd (v := nI (i + 2)) dL_law_815 (nI_add _ _) ?_
  refine a_sld dL_law_816 hb hL (by omega) ?_
  refine a_callVi (As := [_, _]) dL_law_817 km_L_91 ⟨by decide, _, _, _, rfl, rfl⟩ rfl rfl (Nat.le_of_ble_eq_true rfl) ?_
  refine CMi.mono (w_guess hc) (fun r0 I1 J1 hq => ?_)
  refine a_aload_n dL_law_820 rfl ?_
  refine a_aload_n dL_law_821 rfl ?_
  refine a_iload_n dL_law_822 rfl ?_
  refine a_iconst (v := nI 1) dL_law_823 (by decide) ?_
  refine a_iadd (v := nI (i + 1)) dL_law_824 (nI_add _ _) ?_
  refine a_sld dL_law_825 hb hL (by omega) ?_
  refine a_aload_n dL_law_826 rfl ?_
  refine a_iload_n dL_law_827 rfl ?_
  refine a_iconst (v := nI 2) dL_law_828 (by decide) ?_
  refine a_iadd (v := nI (i + 2)) dL_law_829 (nI_add _ _) ?_
  refine a_sld dL_law_830 hb hL (by omega) ?_
  refine a_callVi (As := [_, _]) dL_law_831 km_L_94 ⟨by decide, _, _, _, rfl, rfl⟩ rfl rfl (Nat.le_of_ble_eq_true rfl) ?_
  refine CMi.mono hq (fun r1 I2 J2 hr => ?_)
  obtain ⟨rfl, hc2⟩ := hr
  exact a_icmp_eq (tgt := 1253) dL_law_834 (by decide) (fun _ => kx _ _ hc2) (fun h => absurd rfl h)
set_option maxHeartbeats 4000000 in
set_option maxRecDepth 100000 in
theorem cs_19 {G : am_G} {d : Nat} {I : am_I} {J : am_J} {b Ln i : Nat} {xs : Nat → Int32} (hb : G.2.2.2 94 = b) (hL : Ln ≤ 3072) (hi : i + 6 ≤ Ln) (hc : cpE I J) (kx : ∀ I J, cpE I J → AW G cL_law 4 RL (d + 46) (lw_eA b Ln xs) 1253 [some (.ref 94), some (.ref 0), some (.ref 63), some (.int (nI i))] [] I J) : AW G cL_law 4 RL (d + 46) (lw_eA b Ln xs) 839 [some (.ref 94), some (.ref 0), some (.ref 63), some (.int (nI i))] [] I J := by
  refine a_aload_n dL_law_839 rfl ?_
  refine a_aload_n dL_law_840 rfl ?_
  refine a_iload_n dL_law_841 rfl ?_
  refine a_iconst (v := nI 1) dL_law_842 (by decide) ?_
  refine a_iadd (v := nI (i + 1)) dL_law_843 (nI_add _ _) ?_
  refine a_sld dL_law_844 hb hL (by omega) ?_
  refine a_aload_n dL_law_845 rfl ?_
  refine a_iload_n dL_law_846 rfl ?_
  refine a_iconst (v := nI 2) dL_law_847 (by decide) ?_
  refine a_iadd (v := nI (i + 2)) dL_law_848 (nI_add _ _) ?_
  refine a_sld dL_law_849 hb hL (by omega) ?_
  refine a_aload_n dL_law_850 rfl ?_
  refine a_iload_n dL_law_851 rfl ?_
  refine a_iconst (v := nI 3) dL_law_852 (by decide) ?_
  refine a_iadd (v := nI (i + 3)) dL_law_853 (nI_add _ _) ?_
  refine a_sld dL_law_854 hb hL (by omega) ?_
  refine a_callVi (As := [_, _, _]) dL_law_855 km_L_95 ⟨by decide, _, _, _, rfl, rfl⟩ rfl rfl (Nat.le_of_ble_eq_true rfl) ?_
  refine CMi.mono (w_base hc) (fun r0 I1 J1 hq => ?_)
  refine a_aload_n dL_law_858 rfl ?_
  refine a_aload_n dL_law_859 rfl ?_
  refine a_iload_n dL_law_860 rfl ?_
  refine a_iconst (v := nI 1) dL_law_861 (by decide) ?_
  refine a_iadd (v := nI (i + 1)) dL_law_862 (nI_add _ _) ?_
  refine a_sld dL_law_863 hb hL (by omega) ?_
  refine a_aload_n dL_law_864 rfl ?_
  refine a_iload_n dL_law_865 rfl ?_
  refine a_iconst (v := nI 2) dL_law_866 (by decide) ?_
  refine a_iadd (v := nI (i + 2)) dL_law_867 (nI_add _ _) ?_
  refine a_sld dL_law_868 hb hL (by omega) ?_
  refine a_aload_n dL_law_869 rfl ?_
  refine a_iload_n dL_law_870 rfl ?_
  refine a_iconst (v := nI 3) dL_law_871 (by decide) ?_
  refine a_iadd (v := nI (i + 3)) dL_law_872 (nI_add _ _) ?_
  refine a_sld dL_law_873 hb hL (by omega) ?_
  refine a_callVi (As := [_, _, _]) dL_law_874 km_L_98 ⟨by decide, _, _, _, rfl, rfl⟩ rfl rfl (Nat.le_of_ble_eq_true rfl) ?_
  refine CMi.mono hq (fun r1 I2 J2 hr => ?_)
  obtain ⟨rfl, hc2⟩ := hr
  exact a_icmp_eq (tgt := 1253) dL_law_877 (by decide) (fun _ => kx _ _ hc2) (fun h => absurd rfl h)
set_option maxHeartbeats 4000000 in
set_option maxRecDepth 100000 in
theorem cs_20 {G : am_G} {d : Nat} {I : am_I} {J : am_J} {b Ln i : Nat} {xs : Nat → Int32} (hb : G.2.2.2 94 = b) (hL : Ln ≤ 3072) (hi : i + 6 ≤ Ln) (hc : cpE I J) (kx : ∀ I J, cpE I J → AW G cL_law 4 RL (d + 46) (lw_eA b Ln xs) 1253 [some (.ref 94), some (.ref 0), some (.ref 63), some (.int (nI i))] [] I J) : AW G cL_law 4 RL (d + 46) (lw_eA b Ln xs) 882 [some (.ref 94), some (.ref 0), some (.ref 63), some (.int (nI i))] [] I J := by
  refine a_aload_n dL_law_882 rfl ?_
  refine a_aload_n dL_law_883 rfl ?_
  refine a_iload_n dL_law_884 rfl ?_
  refine a_iconst (v := nI 1) dL_law_885 (by decide) ?_
  refine a_iadd (v := nI (i + 1)) dL_law_886 (nI_add _ _) ?_
  refine a_sld dL_law_887 hb hL (by omega) ?_
  refine a_callVi (As := [_]) dL_law_888 km_L_99 ⟨by decide, _, _, _, rfl, rfl⟩ rfl rfl (Nat.le_of_ble_eq_true rfl) ?_
  refine CMi.mono (w_changed hc) (fun r0 I1 J1 hq => ?_)
  refine a_aload_n dL_law_891 rfl ?_
  refine a_aload_n dL_law_892 rfl ?_
  refine a_iload_n dL_law_893 rfl ?_
  refine a_iconst (v := nI 1) dL_law_894 (by decide) ?_
  refine a_iadd (v := nI (i + 1)) dL_law_895 (nI_add _ _) ?_
  refine a_sld dL_law_896 hb hL (by omega) ?_
  refine a_callVi (As := [_]) dL_law_897 km_L_102 ⟨by decide, _, _, _, rfl, rfl⟩ rfl rfl (Nat.le_of_ble_eq_true rfl) ?_
  refine CMi.mono hq (fun r1 I2 J2 hr => ?_)
  obtain ⟨rfl, hc2⟩ := hr
  exact a_icmp_eq (tgt := 1253) dL_law_900 (by decide) (fun _ => kx _ _ hc2) (fun h => absurd rfl h)
set_option maxHeartbeats 4000000 in
set_option maxRecDepth 100000 in
theorem cs_21 {G : am_G} {d : Nat} {I : am_I} {J : am_J} {b Ln i : Nat} {xs : Nat → Int32} (hb : G.2.2.2 94 = b) (hL : Ln ≤ 3072) (hi : i + 6 ≤ Ln) (hc : cpE I J) (kx : ∀ I J, cpE I J → AW G cL_law 4 RL (d + 46) (lw_eA b Ln xs) 1253 [some (.ref 94), some (.ref 0), some (.ref 63), some (.int (nI i))] [] I J) : AW G cL_law 4 RL (d + 46) (lw_eA b Ln xs) 905 [some (.ref 94), some (.ref 0), some (.ref 63), some (.int (nI i))] [] I J := by
  refine a_aload_n dL_law_905 rfl ?_
  refine a_aload_n dL_law_906 rfl ?_
  refine a_iload_n dL_law_907 rfl ?_
  refine a_iconst (v := nI 1) dL_law_908 (by decide) ?_
  refine a_iadd (v := nI (i + 1)) dL_law_909 (nI_add _ _) ?_
  refine a_sld dL_law_910 hb hL (by omega) ?_
  refine a_aload_n dL_law_911 rfl ?_
  refine a_iload_n dL_law_912 rfl ?_
  refine a_iconst (v := nI 2) dL_law_913 (by decide) ?_
  refine a_iadd (v := nI (i + 2)) dL_law_914 (nI_add _ _) ?_
  refine a_sld dL_law_915 hb hL (by omega) ?_
  refine a_aload_n dL_law_916 rfl ?_
  refine a_iload_n dL_law_917 rfl ?_
  refine a_iconst (v := nI 3) dL_law_918 (by decide) ?_
  refine a_iadd (v := nI (i + 3)) dL_law_919 (nI_add _ _) ?_
  refine a_sld dL_law_920 hb hL (by omega) ?_
  refine a_callVi (As := [_, _, _]) dL_law_921 km_L_103 ⟨by decide, _, _, _, rfl, rfl⟩ rfl rfl (Nat.le_of_ble_eq_true rfl) ?_
  refine CMi.mono (w_worst hc) (fun r0 I1 J1 hq => ?_)
  refine a_aload_n dL_law_924 rfl ?_
  refine a_aload_n dL_law_925 rfl ?_
  refine a_iload_n dL_law_926 rfl ?_
  refine a_iconst (v := nI 1) dL_law_927 (by decide) ?_
  refine a_iadd (v := nI (i + 1)) dL_law_928 (nI_add _ _) ?_
  refine a_sld dL_law_929 hb hL (by omega) ?_
  refine a_aload_n dL_law_930 rfl ?_
  refine a_iload_n dL_law_931 rfl ?_
  refine a_iconst (v := nI 2) dL_law_932 (by decide) ?_
  refine a_iadd (v := nI (i + 2)) dL_law_933 (nI_add _ _) ?_
  refine a_sld dL_law_934 hb hL (by omega) ?_
  refine a_aload_n dL_law_935 rfl ?_
  refine a_iload_n dL_law_936 rfl ?_
  refine a_iconst (v := nI 3) dL_law_937 (by decide) ?_
  refine a_iadd (v := nI (i + 3)) dL_law_938 (nI_add _ _) ?_
  refine a_sld dL_law_939 hb hL (by omega) ?_
  refine a_callVi (As := [_, _, _]) dL_law_940 km_L_106 ⟨by decide, _, _, _, rfl, rfl⟩ rfl rfl (Nat.le_of_ble_eq_true rfl) ?_
  refine CMi.mono hq (fun r1 I2 J2 hr => ?_)
  obtain ⟨rfl, hc2⟩ := hr
  exact a_icmp_eq (tgt := 1253) dL_law_943 (by decide) (fun _ => kx _ _ hc2) (fun h => absurd rfl h)
set_option maxHeartbeats 4000000 in
set_option maxRecDepth 100000 in
theorem cs_22 {G : am_G} {d : Nat} {I : am_I} {J : am_J} {b Ln i : Nat} {xs : Nat → Int32} (hb : G.2.2.2 94 = b) (hL : Ln ≤ 3072) (hi : i + 6 ≤ Ln) (hc : cpE I J) (kx : ∀ I J, cpE I J → AW G cL_law 4 RL (d + 46) (lw_eA b Ln xs) 1253 [some (.ref 94), some (.ref 0), some (.ref 63), some (.int (nI i))] [] I J) : AW G cL_law 4 RL (d + 46) (lw_eA b Ln xs) 948 [some (.ref 94), some (.ref 0), some (.ref 63), some (.int (nI i))] [] I J := by
  refine a_aload_n dL_law_948 rfl ?_
  refine a_aload_n dL_law_949 rfl ?_
  refine a_iload_n dL_law_950 rfl ?_
  refine a_iconst (v := nI 1) dL_law_951 (by decide) ?_
  refine a_iadd (v := nI (i + 1)) dL_law_952 (nI_add _ _) ?_
  refine a_sld dL_law_953 hb hL (by omega) ?_
  refine a_callVi (As := [_]) dL_law_954 km_L_107 ⟨by decide, _, _, _, rfl, rfl⟩ rfl rfl (Nat.le_of_ble_eq_true rfl) ?_
  refine CMi.mono (w_meters hc) (fun r0 I1 J1 hq => ?_)
  refine a_aload_n dL_law_957 rfl ?_
  refine a_aload_n dL_law_958 rfl ?_
  refine a_iload_n dL_law_959 rfl ?_
  refine a_iconst (v := nI 1) dL_law_960 (by decide) ?_
  refine a_iadd (v := nI (i + 1)) dL_law_961 (nI_add _ _) ?_
  refine a_sld dL_law_962 hb hL (by omega) ?_
  refine a_callVi (As := [_]) dL_law_963 km_L_110 ⟨by decide, _, _, _, rfl, rfl⟩ rfl rfl (Nat.le_of_ble_eq_true rfl) ?_
  refine CMi.mono hq (fun r1 I2 J2 hr => ?_)
  obtain ⟨rfl, hc2⟩ := hr
  exact a_icmp_eq (tgt := 1253) dL_law_966 (by decide) (fun _ => kx _ _ hc2) (fun h => absurd rfl h)
set_option maxHeartbeats 4000000 in
set_option maxRecDepth 100000 in
theorem cs_23 {G : am_G} {d : Nat} {I : am_I} {J : am_J} {b Ln i : Nat} {xs : Nat → Int32} (hb : G.2.2.2 94 = b) (hL : Ln ≤ 3072) (hi : i + 6 ≤ Ln) (hc : cpE I J) (kx : ∀ I J, cpE I J → AW G cL_law 4 RL (d + 46) (lw_eA b Ln xs) 1253 [some (.ref 94), some (.ref 0), some (.ref 63), some (.int (nI i))] [] I J) : AW G cL_law 4 RL (d + 46) (lw_eA b Ln xs) 971 [some (.ref 94), some (.ref 0), some (.ref 63), some (.int (nI i))] [] I J := by
  refine a_aload_n dL_law_971 rfl ?_
  refine a_aload_n dL_law_972 rfl ?_
  refine a_iload_n dL_law_973 rfl ?_
  refine a_iconst (v := nI 1) dL_law_974 (by decide) ?_
  refine a_iadd (v := nI (i + 1)) dL_law_975 (nI_add _ _) ?_
  refine a_sld dL_law_976 hb hL (by omega) ?_
  refine a_aload_n dL_law_977 rfl ?_
  refine a_iload_n dL_law_978 rfl ?_
  refine a_iconst (v := nI 2) dL_law_979 (by decide) ?_
  refine a_iadd (v := nI (i + 2)) dL_law_980 (nI_add _ _) ?_
  refine a_sld dL_law_981 hb hL (by omega) ?_
  refine a_callVi (As := [_, _]) dL_law_982 km_L_111 ⟨by decide, _, _, _, rfl, rfl⟩ rfl rfl (Nat.le_of_ble_eq_true rfl) ?_
  refine CMi.mono (w_sheet hc) (fun r0 I1 J1 hq => ?_)
  refine a_aload_n dL_law_985 rfl ?_
  refine a_aload_n dL_law_986 rfl ?_
  refine a_iload_n dL_law_987 rfl ?_
  refine a_iconst (v := nI 1) dL_law_988 (by decide) ?_
  refine a_iadd (v := nI (i + 1)) dL_law_989 (nI_add _ _) ?_
  refine a_sld dL_law_990 hb hL (by omega) ?_
  refine a_aload_n dL_law_991 rfl ?_
  refine a_iload_n dL_law_992 rfl ?_
  refine a_iconst (v := nI 2) dL_law_993 (by decide) ?_
  refine a_iadd (v := nI (i + 2)) dL_law_994 (nI_add _ _) ?_
  refine a_sld dL_law_995 hb hL (by omega) ?_
  refine a_callVi (As := [_, _]) dL_law_996 km_L_114 ⟨by decide, _, _, _, rfl, rfl⟩ rfl rfl (Nat.le_of_ble_eq_true rfl) ?_
  refine CMi.mono hq (fun r1 I2 J2 hr => ?_)
  obtain ⟨rfl, hc2⟩ := hr
  exact a_icmp_eq (tgt := 1253) dL_law_999 (by decide) (fun _ => kx _ _ hc2) (fun h => absurd rfl h)
set_option maxHeartbeats 4000000 in
set_option maxRecDepth 100000 in
theorem cs_24 {G : am_G} {d : Nat} {I : am_I} {J : am_J} {b Ln i : Nat} {xs : Nat → Int32} (hb : G.2.2.2 94 = b) (hL : Ln ≤ 3072) (hi : i + 6 ≤ Ln) (hc : cpE I J) (kx : ∀ I J, cpE I J → AW G cL_law 4 RL (d + 46) (lw_eA b Ln xs) 1253 [some (.ref 94), some (.ref 0), some (.ref 63), some (.int (nI i))] [] I J) : AW G cL_law 4 RL (d + 46) (lw_eA b Ln xs) 1004 [some (.ref 94), some (.ref 0), some (.ref 63), some (.int (nI i))] [] I J := by
  refine a_aload_n dL_law_1004 rfl ?_
  refine a_aload_n dL_law_1005 rfl ?_
  refine a_iload_n dL_law_1006 rfl ?_
  refine a_iconst (v := nI 1) dL_law_1007 (by decide) ?_
  refine a_iadd (v := nI (i + 1)) dL_law_1008 (nI_add _ _) ?_
  refine a_sld dL_law_1009 hb hL (by omega) ?_
  refine a_aload_n dL_law_1010 rfl ?_
  refine a_iload_n dL_law_1011 rfl ?_
  refine a_iconst (v := nI 2) dL_law_1012 (by decide) ?_
  refine a_iadd (v := nI (i + 2)) dL_law_1013 (nI_add _ _) ?_
  refine a_sld dL_law_1014 hb hL (by omega) ?_
  refine a_aload_n dL_law_1015 rfl ?_
  refine a_iload_n dL_law_1016 rfl ?_
  refine a_iconst (v := nI 3) dL_law_1017 (by decide) ?_
  refine a_iadd (v := nI (i + 3)) dL_law_1018 (nI_add _ _) ?_
  refine a_sld dL_law_1019 hb hL (by omega) ?_
  refine a_callVi (As := [_, _, _]) dL_law_1020 km_L_115 ⟨by decide, _, _, _, rfl, rfl⟩ rfl rfl (Nat.le_of_ble_eq_true rfl) ?_
  refine CMi.mono (w_lay hc) (fun r0 I1 J1 hq => ?_)
  refine a_aload_n dL_law_1023 rfl ?_
  refine a_aload_n dL_law_1024 rfl ?_
  refine a_iload_n dL_law_1025 rfl ?_
  refine a_iconst (v := nI 1) dL_law_1026 (by decide) ?_
  refine a_iadd (v := nI (i + 1)) dL_law_1027 (nI_add _ _) ?_
  refine a_sld dL_law_1028 hb hL (by omega) ?_
  refine a_aload_n dL_law_1029 rfl ?_
  refine a_iload_n dL_law_1030 rfl ?_
  refine a_iconst (v := nI 2) dL_law_1031 (by decide) ?_
  refine a_iadd (v := nI (i + 2)) dL_law_1032 (nI_add _ _) ?_
  refine a_sld dL_law_1033 hb hL (by omega) ?_
  refine a_aload_n dL_law_1034 rfl ?_
  refine a_iload_n dL_law_1035 rfl ?_
  refine a_iconst (v := nI 3) dL_law_1036 (by decide) ?_
  refine a_iadd (v := nI (i + 3)) dL_law_1037 (nI_add _ _) ?_
  refine a_sld dL_law_1038 hb hL (by omega) ?_
  refine a_callVi (As := [_, _, _]) dL_law_1039 km_L_118 ⟨by decide, _, _, _, rfl, rfl⟩ rfl rfl (Nat.le_of_ble_eq_true rfl) ?_
  refine CMi.mono hq (fun r1 I2 J2 hr => ?_)
  obtain ⟨rfl, hc2⟩ := hr
  exact a_icmp_eq (tgt := 1253) dL_law_1042 (by decide) (fun _ => kx _ _ hc2) (fun h => absurd rfl h)
set_option maxHeartbeats 4000000 in
set_option maxRecDepth 100000 in
theorem cs_25 {G : am_G} {d : Nat} {I : am_I} {J : am_J} {b Ln i : Nat} {xs : Nat → Int32} (hb : G.2.2.2 94 = b) (hL : Ln ≤ 3072) (hi : i + 6 ≤ Ln) (hc : cpE I J) (kx : ∀ I J, cpE I J → AW G cL_law 4 RL (d + 46) (lw_eA b Ln xs) 1253 [some (.ref 94), some (.ref 0), some (.ref 63), some (.int (nI i))] [] I J) : AW G cL_law 4 RL (d + 46) (lw_eA b Ln xs) 1047 [some (.ref 94), some (.ref 0), some (.ref 63), some (.int (nI i))] [] I J := by
  refine a_aload_n dL_law_1047 rfl ?_
  refine a_aload_n dL_law_1048 rfl ?_
  refine a_iload_n dL_law_1049 rfl ?_
  refine a_iconst (v := nI 1) dL_law_1050 (by decide) ?_
  refine a_iadd (v := nI (i + 1)) dL_law_1051 (nI_add _ _) ?_
  refine a_sld dL_law_1052 hb hL (by omega) ?_
  refine a_aload_n dL_law_1053 rfl ?_
  refine a_iload_n dL_law_1054 rfl ?_
  refine a_iconst (v := nI 2) dL_law_1055 (by decide) ?_
  refine a_iadd (v := nI (i + 2)) dL_law_1056 (nI_add _ _) ?_
  refine a_sld dL_law_1057 hb hL (by omega) ?_
  refine a_callVi (As := [_, _]) dL_law_1058 km_L_119 ⟨by decide, _, _, _, rfl, rfl⟩ rfl rfl (Nat.le_of_ble_eq_true rfl) ?_
  refine CMi.mono (w_play hc) (fun r0 I1 J1 hq => ?_)
  refine a_aload_n dL_law_1061 rfl ?_
  refine a_aload_n dL_law_1062 rfl ?_
  refine a_iload_n dL_law_1063 rfl ?_
  refine a_iconst (v := nI 1) dL_law_1064 (by decide) ?_
  refine a_iadd (v := nI (i + 1)) dL_law_1065 (nI_add _ _) ?_
  refine a_sld dL_law_1066 hb hL (by omega) ?_
  refine a_aload_n dL_law_1067 rfl ?_
  refine a_iload_n dL_law_1068 rfl ?_
  refine a_iconst (v := nI 2) dL_law_1069 (by decide) ?_
  refine a_iadd (v := nI (i + 2)) dL_law_1070 (nI_add _ _) ?_
  refine a_sld dL_law_1071 hb hL (by omega) ?_
  refine a_callVi (As := [_, _]) dL_law_1072 km_L_122 ⟨by decide, _, _, _, rfl, rfl⟩ rfl rfl (Nat.le_of_ble_eq_true rfl) ?_
  refine CMi.mono hq (fun r1 I2 J2 hr => ?_)
  obtain ⟨rfl, hc2⟩ := hr
  exact a_icmp_eq (tgt := 1253) dL_law_1075 (by decide) (fun _ => kx _ _ hc2) (fun h => absurd rfl h)
set_option maxHeartbeats 4000000 in
set_option maxRecDepth 100000 in
theorem cs_26 {G : am_G} {d : Nat} {I : am_I} {J : am_J} {b Ln i : Nat} {xs : Nat → Int32} (hb : G.2.2.2 94 = b) (hL : Ln ≤ 3072) (hi : i + 6 ≤ Ln) (hc : cpE I J) (kx : ∀ I J, cpE I J → AW G cL_law 4 RL (d + 46) (lw_eA b Ln xs) 1253 [some (.ref 94), some (.ref 0), some (.ref 63), some (.int (nI i))] [] I J) : AW G cL_law 4 RL (d + 46) (lw_eA b Ln xs) 1080 [some (.ref 94), some (.ref 0), some (.ref 63), some (.int (nI i))] [] I J := by
  refine a_aload_n dL_law_1080 rfl ?_
  refine a_aload_n dL_law_1081 rfl ?_
  refine a_iload_n dL_law_1082 rfl ?_
  refine a_iconst (v := nI 1) dL_law_1083 (by decide) ?_
  refine a_iadd (v := nI (i + 1)) dL_law_1084 (nI_add _ _) ?_
  refine a_sld dL_law_1085 hb hL (by omega) ?_
  refine a_callVi (As := [_]) dL_law_1086 km_L_123 ⟨by decide, _, _, _, rfl, rfl⟩ rfl rfl (Nat.le_of_ble_eq_true rfl) ?_
  refine CMi.mono (w_tear hc) (fun r0 I1 J1 hq => ?_)
  refine a_aload_n dL_law_1089 rfl ?_
  refine a_aload_n dL_law_1090 rfl ?_
  refine a_iload_n dL_law_1091 rfl ?_
  refine a_iconst (v := nI 1) dL_law_1092 (by decide) ?_
  refine a_iadd (v := nI (i + 1)) dL_law_1093 (nI_add _ _) ?_
  refine a_sld dL_law_1094 hb hL (by omega) ?_
  refine a_callVi (As := [_]) dL_law_1095 km_L_126 ⟨by decide, _, _, _, rfl, rfl⟩ rfl rfl (Nat.le_of_ble_eq_true rfl) ?_
  refine CMi.mono hq (fun r1 I2 J2 hr => ?_)
  obtain ⟨rfl, hc2⟩ := hr
  exact a_icmp_eq (tgt := 1253) dL_law_1098 (by decide) (fun _ => kx _ _ hc2) (fun h => absurd rfl h)
set_option maxHeartbeats 4000000 in
set_option maxRecDepth 100000 in
theorem cs_27 {G : am_G} {d : Nat} {I : am_I} {J : am_J} {b Ln i : Nat} {xs : Nat → Int32} (hb : G.2.2.2 94 = b) (hL : Ln ≤ 3072) (hi : i + 6 ≤ Ln) (hc : cpE I J) (kx : ∀ I J, cpE I J → AW G cL_law 4 RL (d + 46) (lw_eA b Ln xs) 1253 [some (.ref 94), some (.ref 0), some (.ref 63), some (.int (nI i))] [] I J) : AW G cL_law 4 RL (d + 46) (lw_eA b Ln xs) 1103 [some (.ref 94), some (.ref 0), some (.ref 63), some (.int (nI i))] [] I J := by
  refine a_aload_n dL_law_1103 rfl ?_
  refine a_aload_n dL_law_1104 rfl ?_
  refine a_iload_n dL_law_1105 rfl ?_
  refine a_iconst (v := nI 1) dL_law_1106 (by decide) ?_
  refine a_iadd (v := nI (i + 1)) dL_law_1107 (nI_add _ _) ?_
  refine a_sld dL_law_1108 hb hL (by omega) ?_
  refine a_aload_n dL_law_1109 rfl ?_
  refine a_iload_n dL_law_1110 rfl ?_
  refine a_iconst (v := nI 2) dL_law_1111 (by decide) ?_
  refine a_iadd (v := nI (i + 2)) dL_law_1112 (nI_add _ _) ?_
  refine a_sld dL_law_1113 hb hL (by omega) ?_
  refine a_aload_n dL_law_1114 rfl ?_
  refine a_iload_n dL_law_1115 rfl ?_
  refine a_iconst (v := nI 3) dL_law_1116 (by decide) ?_
  refine a_iadd (v := nI (i + 3)) dL_law_1117 (nI_add _ _) ?_
  refine a_sld dL_law_1118 hb hL (by omega) ?_
  refine a_aload_n dL_law_1119 rfl ?_
  refine a_iload_n dL_law_1120 rfl ?_
  refine a_iconst (v := nI 4) dL_law_1121 (by decide) ?_
  refine a_iadd (v := nI (i + 4)) dL_law_1122 (nI_add _ _) ?_
  refine a_sld dL_law_1123 hb hL (by omega) ?_
  refine a_aload_n dL_law_1124 rfl ?_
  refine a_iload_n dL_law_1125 rfl ?_
  refine a_iconst (v := nI 5) dL_law_1126 (by decide) ?_
  refine a_iadd (v := nI (i + 5)) dL_law_1127 (nI_add _ _) ?_
  refine a_sld dL_law_1128 hb hL (by omega) ?_
  refine a_callVi (As := [_, _, _, _, _]) dL_law_1129 km_L_127 ⟨by decide, _, _, _, rfl, rfl⟩ rfl rfl (Nat.le_of_ble_eq_true rfl) ?_
  refine CMi.mono (w_copy hc) (fun r0 I1 J1 hq => ?_)
  refine a_aload_n dL_law_1132 rfl ?_
  refine a_aload_n dL_law_1133 rfl ?_
  refine a_iload_n dL_law_1134 rfl ?_
  refine a_iconst (v := nI 1) dL_law_1135 (by decide) ?_
  refine a_iadd (v := nI (i + 1)) dL_law_1136 (nI_add _ _) ?_
  refine a_sld dL_law_1137 hb hL (by omega) ?_
  refine a_aload_n dL_law_1138 rfl ?_
  refine a_iload_n dL_law_1139 rfl ?_
  refine a_iconst (v := nI 2) dL_law_1140 (by decide) ?_
  refine a_iadd (v := nI (i + 2)) dL_law_1141 (nI_add _ _) ?_
  refine a_sld dL_law_1142 hb hL (by omega) ?_
  refine a_aload_n dL_law_1143 rfl ?_
  refine a_iload_n dL_law_1144 rfl ?_
  refine a_iconst (v := nI 3) dL_law_1145 (by decide) ?_
  refine a_iadd (v := nI (i + 3)) dL_law_1146 (nI_add _ _) ?_
  refine a_sld dL_law_1147 hb hL (by omega) ?_
  refine a_aload_n dL_law_1148 rfl ?_
  refine a_iload_n dL_law_1149 rfl ?_
  refine a_iconst (v := nI 4) dL_law_1150 (by decide) ?_
  refine a_iadd (v := nI (i + 4)) dL_law_1151 (nI_add _ _) ?_
  refine a_sld dL_law_1152 hb hL (by omega) ?_
  refine a_aload_n dL_law_1153 rfl ?_
  refine a_iload_n dL_law_1154 rfl ?_
  refine a_iconst (v := nI 5) dL_law_1155 (by decide) ?_
  refine a_iadd (v := nI (i + 5)) dL_law_1156 (nI_add _ _) ?_
  refine a_sld dL_law_1157 hb hL (by omega) ?_
  refine a_callVi (As := [_, _, _, _, _]) dL_law_1158 km_L_131 ⟨by decide, _, _, _, rfl, rfl⟩ rfl rfl (Nat.le_of_ble_eq_true rfl) ?_
  refine CMi.mono hq (fun r1 I2 J2 hr => ?_)
  obtain ⟨rfl, hc2⟩ := hr
  exact a_icmp_eq (tgt := 1253) dL_law_1161 (by decide) (fun _ => kx _ _ hc2) (fun h => absurd rfl h)
set_option maxHeartbeats 4000000 in
set_option maxRecDepth 100000 in
theorem cs_28 {G : am_G} {d : Nat} {I : am_I} {J : am_J} {b Ln i : Nat} {xs : Nat → Int32} (hb : G.2.2.2 94 = b) (hL : Ln ≤ 3072) (hi : i + 6 ≤ Ln) (hc : cpE I J) (kx : ∀ I J, cpE I J → AW G cL_law 4 RL (d + 46) (lw_eA b Ln xs) 1253 [some (.ref 94), some (.ref 0), some (.ref 63), some (.int (nI i))] [] I J) : AW G cL_law 4 RL (d + 46) (lw_eA b Ln xs) 1166 [some (.ref 94), some (.ref 0), some (.ref 63), some (.int (nI i))] [] I J := by
  by_cases hz : xs (i + 2) = 0
  · refine a_aload_n dL_law_1166 rfl ?_
    refine a_callVl (As := []) dL_law_1167 km_L_132 ⟨by decide, _, _, _, rfl, rfl⟩ rfl rfl (Nat.le_of_ble_eq_true rfl) ?_
    refine CMl.mono (w_asked hc) (fun r0 I1 J1 hq => ?_)
    refine a_aload_n dL_law_1170 rfl ?_
    refine a_callVl (As := []) dL_law_1171 km_L_136 ⟨by decide, _, _, _, rfl, rfl⟩ rfl rfl (Nat.le_of_ble_eq_true rfl) ?_
    refine CMl.mono hq (fun r1 I2 J2 hr => ?_)
    obtain ⟨rfl, hc2⟩ := hr
    refine a_lcmp (v := 0) dL_law_1174 (by simp [lg_cmp]) ?_
    exact a_if_eq (tgt := 1253) dL_law_1175 (by decide) (fun _ => kx _ _ hc2) (fun h => absurd rfl h)
  · refine a_aload_n dL_law_1166 rfl ?_
    refine a_callVl (As := []) dL_law_1167 km_L_132 ⟨by decide, _, _, _, rfl, rfl⟩ rfl rfl (Nat.le_of_ble_eq_true rfl) ?_
    refine CMl.mono (w_asked hc) (fun r0 I1 J1 hq => ?_)
    refine a_aload_n dL_law_1170 rfl ?_
    refine a_callVl (As := []) dL_law_1171 km_L_136 ⟨by decide, _, _, _, rfl, rfl⟩ rfl rfl (Nat.le_of_ble_eq_true rfl) ?_
    refine CMl.mono hq (fun r1 I2 J2 hr => ?_)
    obtain ⟨rfl, hc2⟩ := hr
    refine a_lcmp (v := 0) dL_law_1174 (by simp [lg_cmp]) ?_
    exact a_if_eq (tgt := 1253) dL_law_1175 (by decide) (fun _ => kx _ _ hc2) (fun h => absurd rfl h)
set_option maxHeartbeats 4000000 in
set_option maxRecDepth 100000 in
theorem cs_29 {G : am_G} {d : Nat} {I : am_I} {J : am_J} {b Ln i : Nat} {xs : Nat → Int32} (hb : G.2.2.2 94 = b) (hL : Ln ≤ 3072) (hi : i + 6 ≤ Ln) (hc : cpE I J) (kx : ∀ I J, cpE I J → AW G cL_law 4 RL (d + 46) (lw_eA b Ln xs) 1253 [some (.ref 94), some (.ref 0), some (.ref 63), some (.int (nI i))] [] I J) : AW G cL_law 4 RL (d + 46) (lw_eA b Ln xs) 1180 [some (.ref 94), some (.ref 0), some (.ref 63), some (.int (nI i))] [] I J := by
  refine a_aload_n dL_law_1180 rfl ?_
  refine a_aload_n dL_law_1181 rfl ?_
  refine a_iload_n dL_law_1182 rfl ?_
  refine a_iconst (v := nI 1) dL_law_1183 (by decide) ?_
  refine a_iadd (v := nI (i + 1)) dL_law_1184 (nI_add _ _) ?_
  refine a_sld dL_law_1185 hb hL (by omega) ?_
  refine a_callVi (As := [_]) dL_law_1186 km_L_137 ⟨by decide, _, _, _, rfl, rfl⟩ rfl rfl (Nat.le_of_ble_eq_true rfl) ?_
  refine CMi.mono (w_count hc) (fun r0 I1 J1 hq => ?_)
  refine a_aload_n dL_law_1189 rfl ?_
  refine a_aload_n dL_law_1190 rfl ?_
  refine a_iload_n dL_law_1191 rfl ?_
  refine a_iconst (v := nI 1) dL_law_1192 (by decide) ?_
  refine a_iadd (v := nI (i + 1)) dL_law_1193 (nI_add _ _) ?_
  refine a_sld dL_law_1194 hb hL (by omega) ?_
  refine a_callVi (As := [_]) dL_law_1195 km_L_140 ⟨by decide, _, _, _, rfl, rfl⟩ rfl rfl (Nat.le_of_ble_eq_true rfl) ?_
  refine CMi.mono hq (fun r1 I2 J2 hr => ?_)
  obtain ⟨rfl, hc2⟩ := hr
  exact a_icmp_eq (tgt := 1253) dL_law_1198 (by decide) (fun _ => kx _ _ hc2) (fun h => absurd rfl h)
set_option maxHeartbeats 4000000 in
set_option maxRecDepth 100000 in
theorem cs_30 {G : am_G} {d : Nat} {I : am_I} {J : am_J} {b Ln i : Nat} {xs : Nat → Int32} (hb : G.2.2.2 94 = b) (hL : Ln ≤ 3072) (hi : i + 6 ≤ Ln) (hc : cpE I J) (kx : ∀ I J, cpE I J → AW G cL_law 4 RL (d + 46) (lw_eA b Ln xs) 1253 [some (.ref 94), some (.ref 0), some (.ref 63), some (.int (nI i))] [] I J) : AW G cL_law 4 RL (d + 46) (lw_eA b Ln xs) 1203 [some (.ref 94), some (.ref 0), some (.ref 63), some (.int (nI i))] [] I J := by
  refine a_aload_n dL_law_1203 rfl ?_
  refine a_callVi (As := []) dL_law_1204 km_L_141 ⟨by decide, _, _, _, rfl, rfl⟩ rfl rfl (Nat.le_of_ble_eq_true rfl) ?_
  refine CMi.mono (w_finding hc) (fun r0 I1 J1 hq => ?_)
  refine a_aload_n dL_law_1207 rfl ?_
  refine a_callVi (As := []) dL_law_1208 km_L_144 ⟨by decide, _, _, _, rfl, rfl⟩ rfl rfl (Nat.le_of_ble_eq_true rfl) ?_
  refine CMi.mono hq (fun r1 I2 J2 hr => ?_)
  obtain ⟨rfl, hc2⟩ := hr
  exact a_icmp_eq (tgt := 1253) dL_law_1211 (by decide) (fun _ => kx _ _ hc2) (fun h => absurd rfl h)
set_option maxHeartbeats 4000000 in
set_option maxRecDepth 100000 in
theorem cs_31 {G : am_G} {d : Nat} {I : am_I} {J : am_J} {b Ln i : Nat} {xs : Nat → Int32} (hb : G.2.2.2 94 = b) (hL : Ln ≤ 3072) (hi : i + 6 ≤ Ln) (hc : cpE I J) (kx : ∀ I J, cpE I J → AW G cL_law 4 RL (d + 46) (lw_eA b Ln xs) 1253 [some (.ref 94), some (.ref 0), some (.ref 63), some (.int (nI i))] [] I J) : AW G cL_law 4 RL (d + 46) (lw_eA b Ln xs) 1216 [some (.ref 94), some (.ref 0), some (.ref 63), some (.int (nI i))] [] I J := by
  refine a_aload_n dL_law_1216 rfl ?_
  refine a_aload_n dL_law_1217 rfl ?_
  refine a_iload_n dL_law_1218 rfl ?_
  refine a_iconst (v := nI 1) dL_law_1219 (by decide) ?_
  refine a_iadd (v := nI (i + 1)) dL_law_1220 (nI_add _ _) ?_
  refine a_sld dL_law_1221 hb hL (by omega) ?_
  refine a_callVi (As := [_]) dL_law_1222 km_L_145 ⟨by decide, _, _, _, rfl, rfl⟩ rfl rfl (Nat.le_of_ble_eq_true rfl) ?_
  refine CMi.mono (w_findings hc) (fun r0 I1 J1 hq => ?_)
  refine a_aload_n dL_law_1225 rfl ?_
  refine a_aload_n dL_law_1226 rfl ?_
  refine a_iload_n dL_law_1227 rfl ?_
  refine a_iconst (v := nI 1) dL_law_1228 (by decide) ?_
  refine a_iadd (v := nI (i + 1)) dL_law_1229 (nI_add _ _) ?_
  refine a_sld dL_law_1230 hb hL (by omega) ?_
  refine a_callVi (As := [_]) dL_law_1231 km_L_148 ⟨by decide, _, _, _, rfl, rfl⟩ rfl rfl (Nat.le_of_ble_eq_true rfl) ?_
  refine CMi.mono hq (fun r1 I2 J2 hr => ?_)
  obtain ⟨rfl, hc2⟩ := hr
  exact a_icmp_eq (tgt := 1253) dL_law_1234 (by decide) (fun _ => kx _ _ hc2) (fun h => absurd rfl h)
set_option maxHeartbeats 4000000 in
set_option maxRecDepth 100000 in
theorem cs_32 {G : am_G} {d : Nat} {I : am_I} {J : am_J} {b Ln i : Nat} {xs : Nat → Int32} (hb : G.2.2.2 94 = b) (hL : Ln ≤ 3072) (hi : i + 6 ≤ Ln) (hc : cpE I J) (kx : ∀ I J, cpE I J → AW G cL_law 4 RL (d + 46) (lw_eA b Ln xs) 1253 [some (.ref 94), some (.ref 0), some (.ref 63), some (.int (nI i))] [] I J) : AW G cL_law 4 RL (d + 46) (lw_eA b Ln xs) 1239 [some (.ref 94), some (.ref 0), some (.ref 63), some (.int (nI i))] [] I J := by
  refine a_aload_n dL_law_1239 rfl ?_
  refine a_callVl (As := []) dL_law_1240 km_L_149 ⟨by decide, _, _, _, rfl, rfl⟩ rfl rfl (Nat.le_of_ble_eq_true rfl) ?_
  refine CMl.mono (w_digest hc) (fun r0 I1 J1 hq => ?_)
  refine a_aload_n dL_law_1243 rfl ?_
  refine a_callVl (As := []) dL_law_1244 km_L_152 ⟨by decide, _, _, _, rfl, rfl⟩ rfl rfl (Nat.le_of_ble_eq_true rfl) ?_
  refine CMl.mono hq (fun r1 I2 J2 hr => ?_)
  obtain ⟨rfl, hc2⟩ := hr
  refine a_lcmp (v := 0) dL_law_1247 (by simp [lg_cmp]) ?_
  exact a_if_eq (tgt := 1253) dL_law_1248 (by decide) (fun _ => kx _ _ hc2) (fun h => absurd rfl h)
