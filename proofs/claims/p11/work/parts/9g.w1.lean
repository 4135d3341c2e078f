set_option maxHeartbeats 4000000 in
set_option maxRecDepth 100000 in
theorem lc_open {K : KC} {E : GE} {X : XT} {b N : Nat} {f : Nat → Int} {x m o t k n : Nat} {w : Wd} (LX : LawX K E X b N f) (ht : 5 * t + 5 ≤ N) (hI : INV x m o t w) (hk : k + 2000 ≤ 793047) (hn : n + 80000 ≤ 6722339) (kk : ∀ w', INV x m o (t + 1) w' → G E X 7 2220 (LL b x m o t) [] w' (k + 2000) (n + 80000)) : G E X 7 248 (LL b x m o t) [] w k n := by
  obtain ⟨C, hT, hH, hls, ⟨hRf, hRl, hRc, hRs⟩, hS⟩ := LX
  have hf := hS.2.2.2.1
  have hN := hS.2.2.2.2
  obtain ⟨τ, ad, bs, ss, pb, P, Q, ct, A, th, ba, st, pm, le, ri, sp, cm, hC, hM, hx, ho, ⟨n0, s0, hO0⟩, hg, hr⟩ := hI
  subst hx
  refine g_wf (fun hwf => ?_)
  refine g_aload_n C dL_law_248 rfl ?_
  refine g_aload_n C dL_law_249 rfl ?_
  refine g_iload C dL_law_250 rfl ?_
  refine g_iconst C dL_law_252 ?_
  refine g_iadd C dL_law_253 ?_
  refine g_sld (5 * t + 1) C hS (by omega) (by omega) dL_law_254 ?_
  refine g_aload_n C dL_law_255 rfl ?_
  refine g_iload C dL_law_256 rfl ?_
  refine g_iconst C dL_law_258 ?_
  refine g_iadd C dL_law_259 ?_
  refine g_sld (5 * t + 2) C hS (by omega) (by omega) dL_law_260 ?_
  refine g_aload_n C dL_law_261 rfl ?_
  refine x_callH C hT hH (w_L_open _ hls hC ho hO0 (hf (5 * t + 1)) (hf (5 * t + 2))) ml_RL_174 sm_yL_open in_RL co_yL_open hd_L_open rfl ⟨by omega, by omega⟩ rfl (Nat.le_of_ble_eq_true rfl) ⟨by omega, by omega⟩ dL_law_262 (fun v1 w1 hp => ?_)
  refine g_wf (fun hwf1 => ?_)
  obtain ⟨k1, nv, bs1, ss1, ct1, hv1, hOV, hnv, ⟨⟨pb2, hp2, hC1⟩, hkm⟩, hD⟩ := a_open hC ho ⟨n0, s0, hO0⟩ hp
  subst hv1
  have hM1 := hM.keep hkm.2
  refine g_istore C dL_law_265 (by decide) rfl ?_
  refine g_aload_n C dL_law_267 rfl ?_
  refine g_aload_n C dL_law_268 rfl ?_
  refine g_iload C dL_law_269 rfl ?_
  refine g_iconst C dL_law_271 ?_
  refine g_iadd C dL_law_272 ?_
  refine g_sld (5 * t + 1) C hS (by omega) (by omega) dL_law_273 ?_
  refine g_aload_n C dL_law_274 rfl ?_
  refine g_iload C dL_law_275 rfl ?_
  refine g_iconst C dL_law_277 ?_
  refine g_iadd C dL_law_278 ?_
  refine g_sld (5 * t + 2) C hS (by omega) (by omega) dL_law_279 ?_
  refine g_callV C (c_X8_open _ (hf (5 * t + 1)) (hf (5 * t + 2)) hM1) (ci := 10) rfl hM1.o rfl ml_RL_179 im_yX8_open se_RX8_yX8_open in_RX8 co_yX8_open hd_X8_open rfl ⟨by omega, by omega⟩ rfl (Nat.le_of_ble_eq_true rfl) ⟨by omega, by omega⟩ dL_law_280 (fun v280 w280 hp280 => ?_)
  refine g_wf (fun hwf2 => ?_)
  obtain ⟨t2, ba2, st2, cm2, ans, hv2, hM2, hk2, hcs⟩ := hp280
  subst hv2
  obtain ⟨hg2, hr2, hkk, hans⟩ := b_open hg hr hD hcs
  have hI2 := inv_md hwf1 hwf2 hC1 rfl ho hOV.u hk2 (fun _ _ => rfl) hM2 hg2 (rl_pb hp2 hr2)
  refine g_istore C dL_law_283 (by decide) rfl ?_
  refine g_goto (tgt := 2220) C dL_law_285 (by decide) ?_
  exact g_drop 5 (g_drop 6 (g_widen (by omega) (by omega) (kk _ hI2)))
set_option maxHeartbeats 4000000 in
set_option maxRecDepth 100000 in
theorem lc_forth {K : KC} {E : GE} {X : XT} {b N : Nat} {f : Nat → Int} {x m o t k n : Nat} {w : Wd} (LX : LawX K E X b N f) (ht : 5 * t + 5 ≤ N) (hI : INV x m o t w) (hk : k + 2000 ≤ 793047) (hn : n + 80000 ≤ 6722339) (kk : ∀ w', INV x m o (t + 1) w' → G E X 7 2220 (LL b x m o t) [] w' (k + 2000) (n + 80000)) : G E X 7 288 (LL b x m o t) [] w k n := by
  obtain ⟨C, hT, hH, hls, ⟨hRf, hRl, hRc, hRs⟩, hS⟩ := LX
  have hf := hS.2.2.2.1
  have hN := hS.2.2.2.2
  obtain ⟨τ, ad, bs, ss, pb, P, Q, ct, A, th, ba, st, pm, le, ri, sp, cm, hC, hM, hx, ho, ⟨n0, s0, hO0⟩, hg, hr⟩ := hI
  subst hx
  refine g_wf (fun hwf => ?_)
  refine g_aload_n C dL_law_288 rfl ?_
  refine g_aload_n C dL_law_289 rfl ?_
  refine g_iload C dL_law_290 rfl ?_
  refine g_iconst C dL_law_292 ?_
  refine g_iadd C dL_law_293 ?_
  refine g_sld (5 * t + 1) C hS (by omega) (by omega) dL_law_294 ?_
  refine g_aload_n C dL_law_295 rfl ?_
  refine g_iload C dL_law_296 rfl ?_
  refine g_iconst C dL_law_298 ?_
  refine g_iadd C dL_law_299 ?_
  refine g_sld (5 * t + 2) C hS (by omega) (by omega) dL_law_300 ?_
  refine g_aload_n C dL_law_301 rfl ?_
  refine x_callH C hT hH (w_L_forth _ hls hC ho hO0 (hf (5 * t + 1)) (hf (5 * t + 2))) ml_RL_180 sm_yL_forth in_RL co_yL_forth hd_L_forth rfl ⟨by omega, by omega⟩ rfl (Nat.le_of_ble_eq_true rfl) ⟨by omega, by omega⟩ dL_law_302 (fun v1 w1 hp => ?_)
  refine g_wf (fun hwf1 => ?_)
  obtain ⟨k1, nv, ss1, ct1, hv1, hOV, hnv, ⟨⟨pb2, hp2, hC1⟩, hkm⟩, hD⟩ := a_forth hC ho ⟨n0, s0, hO0⟩ hp
  subst hv1
  have hM1 := hM.keep hkm.2
  refine g_istore C dL_law_305 (by decide) rfl ?_
  refine g_aload_n C dL_law_307 rfl ?_
  refine g_aload_n C dL_law_308 rfl ?_
  refine g_iload C dL_law_309 rfl ?_
  refine g_iconst C dL_law_311 ?_
  refine g_iadd C dL_law_312 ?_
  refine g_sld (5 * t + 1) C hS (by omega) (by omega) dL_law_313 ?_
  refine g_aload_n C dL_law_314 rfl ?_
  refine g_iload C dL_law_315 rfl ?_
  refine g_iconst C dL_law_317 ?_
  refine g_iadd C dL_law_318 ?_
  refine g_sld (5 * t + 2) C hS (by omega) (by omega) dL_law_319 ?_
  refine g_callV C (c_X8_forth _ (hf (5 * t + 1)) (hf (5 * t + 2)) hM1 hg.2.1) (ci := 10) rfl hM1.o rfl ml_RL_182 im_yX8_forth se_RX8_yX8_forth in_RX8 co_yX8_forth hd_X8_forth rfl ⟨by omega, by omega⟩ rfl (Nat.le_of_ble_eq_true rfl) ⟨by omega, by omega⟩ dL_law_320 (fun v320 w320 hp320 => ?_)
  refine g_wf (fun hwf2 => ?_)
  obtain ⟨t2, st2, cm2, ans, hv2, hM2, hk2, hcs⟩ := hp320
  subst hv2
  obtain ⟨hg2, hr2, hkk, hans⟩ := b_forth hg hr hD hcs
  have hI2 := inv_md hwf1 hwf2 hC1 rfl ho hOV.u hk2 (fun _ _ => rfl) hM2 hg2 (rl_pb hp2 hr2)
  refine g_istore C dL_law_323 (by decide) rfl ?_
  refine g_goto (tgt := 2220) C dL_law_325 (by decide) ?_
  exact g_drop 5 (g_drop 6 (g_widen (by omega) (by omega) (kk _ hI2)))
set_option maxHeartbeats 4000000 in
set_option maxRecDepth 100000 in
theorem lc_back {K : KC} {E : GE} {X : XT} {b N : Nat} {f : Nat → Int} {x m o t k n : Nat} {w : Wd} (LX : LawX K E X b N f) (ht : 5 * t + 5 ≤ N) (hI : INV x m o t w) (hk : k + 2000 ≤ 793047) (hn : n + 80000 ≤ 6722339) (kk : ∀ w', INV x m o (t + 1) w' → G E X 7 2220 (LL b x m o t) [] w' (k + 2000) (n + 80000)) : G E X 7 328 (LL b x m o t) [] w k n := by
  obtain ⟨C, hT, hH, hls, ⟨hRf, hRl, hRc, hRs⟩, hS⟩ := LX
  have hf := hS.2.2.2.1
  have hN := hS.2.2.2.2
  obtain ⟨τ, ad, bs, ss, pb, P, Q, ct, A, th, ba, st, pm, le, ri, sp, cm, hC, hM, hx, ho, ⟨n0, s0, hO0⟩, hg, hr⟩ := hI
  subst hx
  refine g_wf (fun hwf => ?_)
  refine g_aload_n C dL_law_328 rfl ?_
  refine g_aload_n C dL_law_329 rfl ?_
  refine g_iload C dL_law_330 rfl ?_
  refine g_iconst C dL_law_332 ?_
  refine g_iadd C dL_law_333 ?_
  refine g_sld (5 * t + 1) C hS (by omega) (by omega) dL_law_334 ?_
  refine g_aload_n C dL_law_335 rfl ?_
  refine x_callH C hT hH (w_L_back _ hls hC ho hO0 (hf (5 * t + 1))) ml_RL_183 sm_yL_back in_RL co_yL_back hd_L_back rfl ⟨by omega, by omega⟩ rfl (Nat.le_of_ble_eq_true rfl) ⟨by omega, by omega⟩ dL_law_336 (fun v1 w1 hp => ?_)
  refine g_wf (fun hwf1 => ?_)
  obtain ⟨k1, nv, ss1, ct1, hv1, hOV, hnv, ⟨⟨pb2, hp2, hC1⟩, hkm⟩, hD⟩ := a_back hC ho ⟨n0, s0, hO0⟩ hp
  subst hv1
  have hM1 := hM.keep hkm.2
  refine g_istore C dL_law_339 (by decide) rfl ?_
  refine g_aload_n C dL_law_341 rfl ?_
  refine g_aload_n C dL_law_342 rfl ?_
  refine g_iload C dL_law_343 rfl ?_
  refine g_iconst C dL_law_345 ?_
  refine g_iadd C dL_law_346 ?_
  refine g_sld (5 * t + 1) C hS (by omega) (by omega) dL_law_347 ?_
  refine g_callV C (c_X8_back _ (hf (5 * t + 1)) hM1 hg.2.1) (ci := 10) rfl hM1.o rfl ml_RL_186 im_yX8_back se_RX8_yX8_back in_RX8 co_yX8_back hd_X8_back rfl ⟨by omega, by omega⟩ rfl (Nat.le_of_ble_eq_true rfl) ⟨by omega, by omega⟩ dL_law_348 (fun v348 w348 hp348 => ?_)
  refine g_wf (fun hwf2 => ?_)
  obtain ⟨t2, st2, cm2, ans, hv2, hM2, hk2, hcs⟩ := hp348
  subst hv2
  obtain ⟨hg2, hr2, hkk, hans⟩ := b_back hg hr hD hcs
  have hI2 := inv_md hwf1 hwf2 hC1 rfl ho hOV.u hk2 (fun _ _ => rfl) hM2 hg2 (rl_pb hp2 hr2)
  refine g_istore C dL_law_351 (by decide) rfl ?_
  refine g_goto (tgt := 2220) C dL_law_353 (by decide) ?_
  exact g_drop 5 (g_drop 6 (g_widen (by omega) (by omega) (kk _ hI2)))
set_option maxHeartbeats 4000000 in
set_option maxRecDepth 100000 in
theorem lc_walkCopy {K : KC} {E : GE} {X : XT} {b N : Nat} {f : Nat → Int} {x m o t k n : Nat} {w : Wd} (LX : LawX K E X b N f) (ht : 5 * t + 5 ≤ N) (hI : INV x m o t w) (hk : k + 2000 ≤ 793047) (hn : n + 80000 ≤ 6722339) (kk : ∀ w', INV x m o (t + 1) w' → G E X 7 2220 (LL b x m o t) [] w' (k + 2000) (n + 80000)) : G E X 7 356 (LL b x m o t) [] w k n := by
  obtain ⟨C, hT, hH, hls, ⟨hRf, hRl, hRc, hRs⟩, hS⟩ := LX
  have hf := hS.2.2.2.1
  have hN := hS.2.2.2.2
  obtain ⟨τ, ad, bs, ss, pb, P, Q, ct, A, th, ba, st, pm, le, ri, sp, cm, hC, hM, hx, ho, ⟨n0, s0, hO0⟩, hg, hr⟩ := hI
  subst hx
  refine g_wf (fun hwf => ?_)
  refine g_aload_n C dL_law_356 rfl ?_
  refine g_aload_n C dL_law_357 rfl ?_
  refine g_iload C dL_law_358 rfl ?_
  refine g_iconst C dL_law_360 ?_
  refine g_iadd C dL_law_361 ?_
  refine g_sld (5 * t + 1) C hS (by omega) (by omega) dL_law_362 ?_
  refine g_aload_n C dL_law_363 rfl ?_
  refine g_iload C dL_law_364 rfl ?_
  refine g_iconst C dL_law_366 ?_
  refine g_iadd C dL_law_367 ?_
  refine g_sld (5 * t + 2) C hS (by omega) (by omega) dL_law_368 ?_
  refine g_aload_n C dL_law_369 rfl ?_
  refine x_callH C hT hH (w_L_walkCopy _ hls hC ho hO0 (hf (5 * t + 1)) (hf (5 * t + 2))) ml_RL_187 sm_yL_walkCopy in_RL co_yL_walkCopy hd_L_walkCopy rfl ⟨by omega, by omega⟩ rfl (Nat.le_of_ble_eq_true rfl) ⟨by omega, by omega⟩ dL_law_370 (fun v1 w1 hp => ?_)
  refine g_wf (fun hwf1 => ?_)
  obtain ⟨k1, nv, bs1, ss1, ct1, hv1, hOV, hnv, ⟨⟨pb2, hp2, hC1⟩, hkm⟩, hD⟩ := a_walkCopy hC ho ⟨n0, s0, hO0⟩ hp
  subst hv1
  have hM1 := hM.keep hkm.2
  refine g_istore C dL_law_373 (by decide) rfl ?_
  refine g_aload_n C dL_law_375 rfl ?_
  refine g_aload_n C dL_law_376 rfl ?_
  refine g_iload C dL_law_377 rfl ?_
  refine g_iconst C dL_law_379 ?_
  refine g_iadd C dL_law_380 ?_
  refine g_sld (5 * t + 1) C hS (by omega) (by omega) dL_law_381 ?_
  refine g_aload_n C dL_law_382 rfl ?_
  refine g_iload C dL_law_383 rfl ?_
  refine g_iconst C dL_law_385 ?_
  refine g_iadd C dL_law_386 ?_
  refine g_sld (5 * t + 2) C hS (by omega) (by omega) dL_law_387 ?_
  refine g_callV C (c_X8_walkCopy _ (hf (5 * t + 1)) (hf (5 * t + 2)) hM1 hg.1 hg.2.1) (ci := 10) rfl hM1.o rfl ml_RL_189 im_yX8_walkCopy se_RX8_yX8_walkCopy in_RX8 co_yX8_walkCopy hd_X8_walkCopy rfl ⟨by omega, by omega⟩ rfl (Nat.le_of_ble_eq_true rfl) ⟨by omega, by omega⟩ dL_law_388 (fun v388 w388 hp388 => ?_)
  refine g_wf (fun hwf2 => ?_)
  obtain ⟨t2, ba2, st2, cm2, ans, hv2, hM2, hk2, hcs⟩ := hp388
  subst hv2
  obtain ⟨hg2, hr2, hkk, hans⟩ := b_walkCopy hg hr hD hcs
  have hI2 := inv_md hwf1 hwf2 hC1 rfl ho hOV.u hk2 (fun _ _ => rfl) hM2 hg2 (rl_pb hp2 hr2)
  refine g_istore C dL_law_391 (by decide) rfl ?_
  refine g_goto (tgt := 2220) C dL_law_393 (by decide) ?_
  exact g_drop 5 (g_drop 6 (g_widen (by omega) (by omega) (kk _ hI2)))
set_option maxHeartbeats 4000000 in
set_option maxRecDepth 100000 in
theorem lc_part {K : KC} {E : GE} {X : XT} {b N : Nat} {f : Nat → Int} {x m o t k n : Nat} {w : Wd} (LX : LawX K E X b N f) (ht : 5 * t + 5 ≤ N) (hI : INV x m o t w) (hk : k + 2000 ≤ 793047) (hn : n + 80000 ≤ 6722339) (kk : ∀ w', INV x m o (t + 1) w' → G E X 7 2220 (LL b x m o t) [] w' (k + 2000) (n + 80000)) : G E X 7 396 (LL b x m o t) [] w k n := by
  obtain ⟨C, hT, hH, hls, ⟨hRf, hRl, hRc, hRs⟩, hS⟩ := LX
  have hf := hS.2.2.2.1
  have hN := hS.2.2.2.2
  obtain ⟨τ, ad, bs, ss, pb, P, Q, ct, A, th, ba, st, pm, le, ri, sp, cm, hC, hM, hx, ho, ⟨n0, s0, hO0⟩, hg, hr⟩ := hI
  subst hx
  refine g_wf (fun hwf => ?_)
  refine g_aload_n C dL_law_396 rfl ?_
  refine g_aload_n C dL_law_397 rfl ?_
  refine g_iload C dL_law_398 rfl ?_
  refine g_iconst C dL_law_400 ?_
  refine g_iadd C dL_law_401 ?_
  refine g_sld (5 * t + 1) C hS (by omega) (by omega) dL_law_402 ?_
  refine g_aload_n C dL_law_403 rfl ?_
  refine g_iload C dL_law_404 rfl ?_
  refine g_iconst C dL_law_406 ?_
  refine g_iadd C dL_law_407 ?_
  refine g_sld (5 * t + 2) C hS (by omega) (by omega) dL_law_408 ?_
  refine g_aload_n C dL_law_409 rfl ?_
  refine x_callH C hT hH (w_L_part _ hls hC ho hO0 (hf (5 * t + 1)) (hf (5 * t + 2))) ml_RL_190 sm_yL_part in_RL co_yL_part hd_L_part rfl ⟨by omega, by omega⟩ rfl (Nat.le_of_ble_eq_true rfl) ⟨by omega, by omega⟩ dL_law_410 (fun v1 w1 hp => ?_)
  refine g_wf (fun hwf1 => ?_)
  obtain ⟨⟨k1, hv1, hk1⟩, hcalm⟩ := a_part hC ho ⟨n0, s0, hO0⟩ hp
  subst hv1
  have hkm : KM τ w w1 := by
    obtain ⟨_, _, _, _, _, _, q, _⟩ := hcalm
    exact q
  have hM1 := hM.keep hkm.2
  refine g_istore C dL_law_413 (by decide) rfl ?_
  refine g_aload_n C dL_law_415 rfl ?_
  refine g_aload_n C dL_law_416 rfl ?_
  refine g_iload C dL_law_417 rfl ?_
  refine g_iconst C dL_law_419 ?_
  refine g_iadd C dL_law_420 ?_
  refine g_sld (5 * t + 1) C hS (by omega) (by omega) dL_law_421 ?_
  refine g_aload_n C dL_law_422 rfl ?_
  refine g_iload C dL_law_423 rfl ?_
  refine g_iconst C dL_law_425 ?_
  refine g_iadd C dL_law_426 ?_
  refine g_sld (5 * t + 2) C hS (by omega) (by omega) dL_law_427 ?_
  refine g_callV C (c_X8_part _ (hf (5 * t + 1)) (hf (5 * t + 2)) hM1 hg.1 hg.2.1) (ci := 10) rfl hM1.o rfl ml_RL_192 im_yX8_part se_RX8_yX8_part in_RX8 co_yX8_part hd_X8_part rfl ⟨by omega, by omega⟩ rfl (Nat.le_of_ble_eq_true rfl) ⟨by omega, by omega⟩ dL_law_428 (fun v428 w428 hp428 => ?_)
  refine g_wf (fun hwf2 => ?_)
  obtain ⟨t2, ans, hv2, hM2, hk2, hcs⟩ := hp428
  subst hv2
  have h02 : 0 ≤ t2 ∧ t2 ≤ 2 := by omega
  have hI2 := inv_ask hwf1 hwf2 hcalm rfl ho hk2 hM2 h02 hg hr
  refine g_istore C dL_law_431 (by decide) rfl ?_
  refine g_goto (tgt := 2220) C dL_law_433 (by decide) ?_
  exact g_drop 5 (g_drop 6 (g_widen (by omega) (by omega) (kk _ hI2)))
set_option maxHeartbeats 4000000 in
set_option maxRecDepth 100000 in
theorem lc_walkText {K : KC} {E : GE} {X : XT} {b N : Nat} {f : Nat → Int} {x m o t k n : Nat} {w : Wd} (LX : LawX K E X b N f) (ht : 5 * t + 5 ≤ N) (hI : INV x m o t w) (hk : k + 2000 ≤ 793047) (hn : n + 80000 ≤ 6722339) (kk : ∀ w', INV x m o (t + 1) w' → G E X 7 2220 (LL b x m o t) [] w' (k + 2000) (n + 80000)) : G E X 7 436 (LL b x m o t) [] w k n := by
  obtain ⟨C, hT, hH, hls, ⟨hRf, hRl, hRc, hRs⟩, hS⟩ := LX
  have hf := hS.2.2.2.1
  have hN := hS.2.2.2.2
  obtain ⟨τ, ad, bs, ss, pb, P, Q, ct, A, th, ba, st, pm, le, ri, sp, cm, hC, hM, hx, ho, ⟨n0, s0, hO0⟩, hg, hr⟩ := hI
  subst hx
  refine g_wf (fun hwf => ?_)
  refine g_aload_n C dL_law_436 rfl ?_
  refine g_aload_n C dL_law_437 rfl ?_
  refine g_iload C dL_law_438 rfl ?_
  refine g_iconst C dL_law_440 ?_
  refine g_iadd C dL_law_441 ?_
  refine g_sld (5 * t + 1) C hS (by omega) (by omega) dL_law_442 ?_
  refine g_aload_n C dL_law_443 rfl ?_
  refine g_iload C dL_law_444 rfl ?_
  refine g_iconst C dL_law_446 ?_
  refine g_iadd C dL_law_447 ?_
  refine g_sld (5 * t + 2) C hS (by omega) (by omega) dL_law_448 ?_
  refine g_aload_n C dL_law_449 rfl ?_
  refine g_iload C dL_law_450 rfl ?_
  refine g_iconst C dL_law_452 ?_
  refine g_iadd C dL_law_453 ?_
  refine g_sld (5 * t + 3) C hS (by omega) (by omega) dL_law_454 ?_
  refine g_aload_n C dL_law_455 rfl ?_
  refine x_callH C hT hH (w_L_walkText _ hls hC ho hO0 (hf (5 * t + 1)) (hf (5 * t + 2)) (hf (5 * t + 3))) ml_RL_193 sm_yL_walkText in_RL co_yL_walkText hd_L_walkText rfl ⟨by omega, by omega⟩ rfl (Nat.le_of_ble_eq_true rfl) ⟨by omega, by omega⟩ dL_law_456 (fun v1 w1 hp => ?_)
  refine g_wf (fun hwf1 => ?_)
  obtain ⟨⟨k1, hv1, hk1⟩, hcalm⟩ := a_walkText hC ho ⟨n0, s0, hO0⟩ hp
  subst hv1
  have hkm : KM τ w w1 := by
    obtain ⟨_, _, _, _, _, _, q, _⟩ := hcalm
    exact q
  have hM1 := hM.keep hkm.2
  refine g_istore C dL_law_459 (by decide) rfl ?_
  refine g_aload_n C dL_law_461 rfl ?_
  refine g_aload_n C dL_law_462 rfl ?_
  refine g_iload C dL_law_463 rfl ?_
  refine g_iconst C dL_law_465 ?_
  refine g_iadd C dL_law_466 ?_
  refine g_sld (5 * t + 1) C hS (by omega) (by omega) dL_law_467 ?_
  refine g_aload_n C dL_law_468 rfl ?_
  refine g_iload C dL_law_469 rfl ?_
  refine g_iconst C dL_law_471 ?_
  refine g_iadd C dL_law_472 ?_
  refine g_sld (5 * t + 2) C hS (by omega) (by omega) dL_law_473 ?_
  refine g_aload_n C dL_law_474 rfl ?_
  refine g_iload C dL_law_475 rfl ?_
  refine g_iconst C dL_law_477 ?_
  refine g_iadd C dL_law_478 ?_
  refine g_sld (5 * t + 3) C hS (by omega) (by omega) dL_law_479 ?_
  refine t_callV C hT (c_X8_walkText _ (hf (5 * t + 1)) (hf (5 * t + 2)) (hf (5 * t + 3)) hM1 hg.1 hg.2.1) (RcV.ob (ci := 10) C rfl hM1.o) rfl ml_RL_196 im_yX8_walkText se_RX8_yX8_walkText in_RX8 co_yX8_walkText hd_X8_walkText rfl ⟨by omega, by omega⟩ rfl (Nat.le_of_ble_eq_true rfl) ⟨by omega, by omega⟩ dL_law_480 (fun v480 w480 hp480 => ?_)
  refine g_wf (fun hwf2 => ?_)
  obtain ⟨t2, s2, hv2, hM2, hk2, h02⟩ := hp480
  subst hv2
  have hI2 := inv_ask hwf1 hwf2 hcalm rfl ho hk2 hM2 h02 hg hr
  refine g_astore C dL_law_483 (by decide) rfl ?_
  refine g_goto (tgt := 2220) C dL_law_485 (by decide) ?_
  exact g_drop 5 (g_drop 6 (g_widen (by omega) (by omega) (kk _ hI2)))
set_option maxHeartbeats 4000000 in
set_option maxRecDepth 100000 in
theorem lc_test {K : KC} {E : GE} {X : XT} {b N : Nat} {f : Nat → Int} {x m o t k n : Nat} {w : Wd} (LX : LawX K E X b N f) (ht : 5 * t + 5 ≤ N) (hI : INV x m o t w) (hk : k + 2000 ≤ 793047) (hn : n + 80000 ≤ 6722339) (kk : ∀ w', INV x m o (t + 1) w' → G E X 7 2220 (LL b x m o t) [] w' (k + 2000) (n + 80000)) : G E X 7 488 (LL b x m o t) [] w k n := by
  obtain ⟨C, hT, hH, hls, ⟨hRf, hRl, hRc, hRs⟩, hS⟩ := LX
  have hf := hS.2.2.2.1
  have hN := hS.2.2.2.2
  obtain ⟨τ, ad, bs, ss, pb, P, Q, ct, A, th, ba, st, pm, le, ri, sp, cm, hC, hM, hx, ho, ⟨n0, s0, hO0⟩, hg, hr⟩ := hI
  subst hx
  refine g_wf (fun hwf => ?_)
  refine g_aload_n C dL_law_488 rfl ?_
  refine g_aload_n C dL_law_489 rfl ?_
  refine g_iload C dL_law_490 rfl ?_
  refine g_iconst C dL_law_492 ?_
  refine g_iadd C dL_law_493 ?_
  refine g_sld (5 * t + 1) C hS (by omega) (by omega) dL_law_494 ?_
  refine g_aload_n C dL_law_495 rfl ?_
  refine g_iload C dL_law_496 rfl ?_
  refine g_iconst C dL_law_498 ?_
  refine g_iadd C dL_law_499 ?_
  refine g_sld (5 * t + 2) C hS (by omega) (by omega) dL_law_500 ?_
  refine g_aload_n C dL_law_501 rfl ?_
  refine x_callH C hT hH (w_L_test _ hls hC ho hO0 (hf (5 * t + 1)) (hf (5 * t + 2))) ml_RL_197 sm_yL_test in_RL co_yL_test hd_L_test rfl ⟨by omega, by omega⟩ rfl (Nat.le_of_ble_eq_true rfl) ⟨by omega, by omega⟩ dL_law_502 (fun v1 w1 hp => ?_)
  refine g_wf (fun hwf1 => ?_)
  obtain ⟨⟨k1, hv1, hk1⟩, hcalm⟩ := a_test hC ho ⟨n0, s0, hO0⟩ hp
  subst hv1
  have hkm : KM τ w w1 := by
    obtain ⟨_, _, _, _, _, _, q, _⟩ := hcalm
    exact q
  have hM1 := hM.keep hkm.2
  refine g_istore C dL_law_505 (by decide) rfl ?_
  refine g_aload_n C dL_law_507 rfl ?_
  refine g_aload_n C dL_law_508 rfl ?_
  refine g_iload C dL_law_509 rfl ?_
  refine g_iconst C dL_law_511 ?_
  refine g_iadd C dL_law_512 ?_
  refine g_sld (5 * t + 1) C hS (by omega) (by omega) dL_law_513 ?_
  refine g_aload_n C dL_law_514 rfl ?_
  refine g_iload C dL_law_515 rfl ?_
  refine g_iconst C dL_law_517 ?_
  refine g_iadd C dL_law_518 ?_
  refine g_sld (5 * t + 2) C hS (by omega) (by omega) dL_law_519 ?_
  refine g_callV C (c_X8_test _ (hf (5 * t + 1)) (hf (5 * t + 2)) hM1 hg.1 hg.2.1) (ci := 10) rfl hM1.o rfl ml_RL_199 im_yX8_test se_RX8_yX8_test in_RX8 co_yX8_test hd_X8_test rfl ⟨by omega, by omega⟩ rfl (Nat.le_of_ble_eq_true rfl) ⟨by omega, by omega⟩ dL_law_520 (fun v520 w520 hp520 => ?_)
  refine g_wf (fun hwf2 => ?_)
  obtain ⟨t2, ans, hv2, hM2, hk2, hcs⟩ := hp520
  subst hv2
  have h02 : 0 ≤ t2 ∧ t2 ≤ 2 := by omega
  have hI2 := inv_ask hwf1 hwf2 hcalm rfl ho hk2 hM2 h02 hg hr
  refine g_istore C dL_law_523 (by decide) rfl ?_
  refine g_goto (tgt := 2220) C dL_law_525 (by decide) ?_
  exact g_drop 5 (g_drop 6 (g_widen (by omega) (by omega) (kk _ hI2)))
set_option maxHeartbeats 4000000 in
set_option maxRecDepth 100000 in
theorem lc_walkBits {K : KC} {E : GE} {X : XT} {b N : Nat} {f : Nat → Int} {x m o t k n : Nat} {w : Wd} (LX : LawX K E X b N f) (ht : 5 * t + 5 ≤ N) (hI : INV x m o t w) (hk : k + 2000 ≤ 793047) (hn : n + 80000 ≤ 6722339) (kk : ∀ w', INV x m o (t + 1) w' → G E X 7 2220 (LL b x m o t) [] w' (k + 2000) (n + 80000)) : G E X 7 528 (LL b x m o t) [] w k n := by
  obtain ⟨C, hT, hH, hls, ⟨hRf, hRl, hRc, hRs⟩, hS⟩ := LX
  have hf := hS.2.2.2.1
  have hN := hS.2.2.2.2
  obtain ⟨τ, ad, bs, ss, pb, P, Q, ct, A, th, ba, st, pm, le, ri, sp, cm, hC, hM, hx, ho, ⟨n0, s0, hO0⟩, hg, hr⟩ := hI
  subst hx
  refine g_wf (fun hwf => ?_)
  refine g_aload_n C dL_law_528 rfl ?_
  refine g_aload_n C dL_law_529 rfl ?_
  refine g_iload C dL_law_530 rfl ?_
  refine g_iconst C dL_law_532 ?_
  refine g_iadd C dL_law_533 ?_
  refine g_sld (5 * t + 1) C hS (by omega) (by omega) dL_law_534 ?_
  refine g_aload_n C dL_law_535 rfl ?_
  refine g_iload C dL_law_536 rfl ?_
  refine g_iconst C dL_law_538 ?_
  refine g_iadd C dL_law_539 ?_
  refine g_sld (5 * t + 2) C hS (by omega) (by omega) dL_law_540 ?_
  refine g_bool C (hf _) dL_law_541 dL_law_544 dL_law_545 dL_law_548 ?_
  refine g_aload_n C dL_law_549 rfl ?_
  refine g_iload C dL_law_550 rfl ?_
  refine g_iconst C dL_law_552 ?_
  refine g_iadd C dL_law_553 ?_
  refine g_sld (5 * t + 3) C hS (by omega) (by omega) dL_law_554 ?_
  refine g_aload_n C dL_law_555 rfl ?_
  refine x_callH C hT hH (w_L_walkBits _ hls hC ho hO0 (hf (5 * t + 1)) (bI_01 _) (hf (5 * t + 3))) ml_RL_200 sm_yL_walkBits in_RL co_yL_walkBits hd_L_walkBits rfl ⟨by omega, by omega⟩ rfl (Nat.le_of_ble_eq_true rfl) ⟨by omega, by omega⟩ dL_law_556 (fun v1 w1 hp => ?_)
  refine g_wf (fun hwf1 => ?_)
  obtain ⟨⟨k1, hv1, hk1⟩, hcalm⟩ := a_walkBits hC ho ⟨n0, s0, hO0⟩ (y := bI (f (5 * t + 2) ≠ 0)) hp
  subst hv1
  have hkm : KM τ w w1 := by
    obtain ⟨_, _, _, _, _, _, q, _⟩ := hcalm
    exact q
  have hM1 := hM.keep hkm.2
  refine g_istore C dL_law_559 (by decide) rfl ?_
  refine g_aload_n C dL_law_561 rfl ?_
  refine g_aload_n C dL_law_562 rfl ?_
  refine g_iload C dL_law_563 rfl ?_
  refine g_iconst C dL_law_565 ?_
  refine g_iadd C dL_law_566 ?_
  refine g_sld (5 * t + 1) C hS (by omega) (by omega) dL_law_567 ?_
  refine g_aload_n C dL_law_568 rfl ?_
  refine g_iload C dL_law_569 rfl ?_
  refine g_iconst C dL_law_571 ?_
  refine g_iadd C dL_law_572 ?_
  refine g_sld (5 * t + 2) C hS (by omega) (by omega) dL_law_573 ?_
  refine g_bool C (hf _) dL_law_574 dL_law_577 dL_law_578 dL_law_581 ?_
  refine g_aload_n C dL_law_582 rfl ?_
  refine g_iload C dL_law_583 rfl ?_
  refine g_iconst C dL_law_585 ?_
  refine g_iadd C dL_law_586 ?_
  refine g_sld (5 * t + 3) C hS (by omega) (by omega) dL_law_587 ?_
  refine g_callV C (c_X8_walkBits _ (hf (5 * t + 1)) (hf (5 * t + 3)) (bI_01 _) hM1 hg.1 hg.2.1) (ci := 10) rfl hM1.o rfl ml_RL_203 im_yX8_walkBits se_RX8_yX8_walkBits in_RX8 co_yX8_walkBits hd_X8_walkBits rfl ⟨by omega, by omega⟩ rfl (Nat.le_of_ble_eq_true rfl) ⟨by omega, by omega⟩ dL_law_588 (fun v588 w588 hp588 => ?_)
  refine g_wf (fun hwf2 => ?_)
  obtain ⟨t2, ans, hv2, hM2, hk2, hcs⟩ := hp588
  subst hv2
  have h02 : 0 ≤ t2 ∧ t2 ≤ 2 := by omega
  have hI2 := inv_ask hwf1 hwf2 hcalm rfl ho hk2 hM2 h02 hg hr
  refine g_istore C dL_law_591 (by decide) rfl ?_
  refine g_goto (tgt := 2220) C dL_law_593 (by decide) ?_
  exact g_drop 5 (g_drop 6 (g_widen (by omega) (by omega) (kk _ hI2)))
set_option maxHeartbeats 4000000 in
set_option maxRecDepth 100000 in
theorem lc_bit {K : KC} {E : GE} {X : XT} {b N : Nat} {f : Nat → Int} {x m o t k n : Nat} {w : Wd} (LX : LawX K E X b N f) (ht : 5 * t + 5 ≤ N) (hI : INV x m o t w) (hk : k + 2000 ≤ 793047) (hn : n + 80000 ≤ 6722339) (kk : ∀ w', INV x m o (t + 1) w' → G E X 7 2220 (LL b x m o t) [] w' (k + 2000) (n + 80000)) : G E X 7 596 (LL b x m o t) [] w k n := by
  obtain ⟨C, hT, hH, hls, ⟨hRf, hRl, hRc, hRs⟩, hS⟩ := LX
  have hf := hS.2.2.2.1
  have hN := hS.2.2.2.2
  obtain ⟨τ, ad, bs, ss, pb, P, Q, ct, A, th, ba, st, pm, le, ri, sp, cm, hC, hM, hx, ho, ⟨n0, s0, hO0⟩, hg, hr⟩ := hI
  subst hx
  refine g_wf (fun hwf => ?_)
  refine g_aload_n C dL_law_596 rfl ?_
  refine g_aload_n C dL_law_597 rfl ?_
  refine g_iload C dL_law_598 rfl ?_
  refine g_iconst C dL_law_600 ?_
  refine g_iadd C dL_law_601 ?_
  refine g_sld (5 * t + 1) C hS (by omega) (by omega) dL_law_602 ?_
  refine g_aload_n C dL_law_603 rfl ?_
  refine g_iload C dL_law_604 rfl ?_
  refine g_iconst C dL_law_606 ?_
  refine g_iadd C dL_law_607 ?_
  refine g_sld (5 * t + 2) C hS (by omega) (by omega) dL_law_608 ?_
  refine g_bool C (hf _) dL_law_609 dL_law_612 dL_law_613 dL_law_616 ?_
  refine g_aload_n C dL_law_617 rfl ?_
  refine g_iload C dL_law_618 rfl ?_
  refine g_iconst C dL_law_620 ?_
  refine g_iadd C dL_law_621 ?_
  refine g_sld (5 * t + 3) C hS (by omega) (by omega) dL_law_622 ?_
  refine g_aload_n C dL_law_623 rfl ?_
  refine x_callH C hT hH (w_L_bit _ hls hC ho hO0 (hf (5 * t + 1)) (bI_01 _) (hf (5 * t + 3))) ml_RL_204 sm_yL_bit in_RL co_yL_bit hd_L_bit rfl ⟨by omega, by omega⟩ rfl (Nat.le_of_ble_eq_true rfl) ⟨by omega, by omega⟩ dL_law_624 (fun v1 w1 hp => ?_)
  refine g_wf (fun hwf1 => ?_)
  obtain ⟨⟨k1, hv1, hk1⟩, hcalm⟩ := a_bit hC ho ⟨n0, s0, hO0⟩ (y := bI (f (5 * t + 2) ≠ 0)) hp
  subst hv1
  have hkm : KM τ w w1 := by
    obtain ⟨_, _, _, _, _, _, q, _⟩ := hcalm
    exact q
  have hM1 := hM.keep hkm.2
  refine g_istore C dL_law_627 (by decide) rfl ?_
  refine g_aload_n C dL_law_629 rfl ?_
  refine g_aload_n C dL_law_630 rfl ?_
  refine g_iload C dL_law_631 rfl ?_
  refine g_iconst C dL_law_633 ?_
  refine g_iadd C dL_law_634 ?_
  refine g_sld (5 * t + 1) C hS (by omega) (by omega) dL_law_635 ?_
  refine g_aload_n C dL_law_636 rfl ?_
  refine g_iload C dL_law_637 rfl ?_
  refine g_iconst C dL_law_639 ?_
  refine g_iadd C dL_law_640 ?_
  refine g_sld (5 * t + 2) C hS (by omega) (by omega) dL_law_641 ?_
  refine g_bool C (hf _) dL_law_642 dL_law_645 dL_law_646 dL_law_649 ?_
  refine g_aload_n C dL_law_650 rfl ?_
  refine g_iload C dL_law_651 rfl ?_
  refine g_iconst C dL_law_653 ?_
  refine g_iadd C dL_law_654 ?_
  refine g_sld (5 * t + 3) C hS (by omega) (by omega) dL_law_655 ?_
  refine g_callV C (c_X8_bit _ (hf (5 * t + 1)) (hf (5 * t + 3)) (bI_01 _) hM1 hg.1 hg.2.1) (ci := 10) rfl hM1.o rfl ml_RL_206 im_yX8_bit se_RX8_yX8_bit in_RX8 co_yX8_bit hd_X8_bit rfl ⟨by omega, by omega⟩ rfl (Nat.le_of_ble_eq_true rfl) ⟨by omega, by omega⟩ dL_law_656 (fun v656 w656 hp656 => ?_)
  refine g_wf (fun hwf2 => ?_)
  obtain ⟨t2, ans, hv2, hM2, hk2, hcs⟩ := hp656
  subst hv2
  have h02 : 0 ≤ t2 ∧ t2 ≤ 2 := by omega
  have hI2 := inv_ask hwf1 hwf2 hcalm rfl ho hk2 hM2 h02 hg hr
  refine g_istore C dL_law_659 (by decide) rfl ?_
  refine g_goto (tgt := 2220) C dL_law_661 (by decide) ?_
  exact g_drop 5 (g_drop 6 (g_widen (by omega) (by omega) (kk _ hI2)))
set_option maxHeartbeats 4000000 in
set_option maxRecDepth 100000 in
theorem lc_isRead {K : KC} {E : GE} {X : XT} {b N : Nat} {f : Nat → Int} {x m o t k n : Nat} {w : Wd} (LX : LawX K E X b N f) (ht : 5 * t + 5 ≤ N) (hI : INV x m o t w) (hk : k + 2000 ≤ 793047) (hn : n + 80000 ≤ 6722339) (kk : ∀ w', INV x m o (t + 1) w' → G E X 7 2220 (LL b x m o t) [] w' (k + 2000) (n + 80000)) : G E X 7 664 (LL b x m o t) [] w k n := by
  obtain ⟨C, hT, hH, hls, ⟨hRf, hRl, hRc, hRs⟩, hS⟩ := LX
  have hf := hS.2.2.2.1
  have hN := hS.2.2.2.2
  obtain ⟨τ, ad, bs, ss, pb, P, Q, ct, A, th, ba, st, pm, le, ri, sp, cm, hC, hM, hx, ho, ⟨n0, s0, hO0⟩, hg, hr⟩ := hI
  subst hx
  refine g_wf (fun hwf => ?_)
  refine g_aload_n C dL_law_664 rfl ?_
  refine g_aload_n C dL_law_665 rfl ?_
  refine g_iload C dL_law_666 rfl ?_
  refine g_iconst C dL_law_668 ?_
  refine g_iadd C dL_law_669 ?_
  refine g_sld (5 * t + 1) C hS (by omega) (by omega) dL_law_670 ?_
  refine g_aload_n C dL_law_671 rfl ?_
  refine g_iload C dL_law_672 rfl ?_
  refine g_iconst C dL_law_674 ?_
  refine g_iadd C dL_law_675 ?_
  refine g_sld (5 * t + 2) C hS (by omega) (by omega) dL_law_676 ?_
  refine g_aload_n C dL_law_677 rfl ?_
  refine x_callH C hT hH (w_L_isRead _ hls hC ho hO0 (hf (5 * t + 1)) (hf (5 * t + 2))) ml_RL_207 sm_yL_isRead in_RL co_yL_isRead hd_L_isRead rfl ⟨by omega, by omega⟩ rfl (Nat.le_of_ble_eq_true rfl) ⟨by omega, by omega⟩ dL_law_678 (fun v1 w1 hp => ?_)
  refine g_wf (fun hwf1 => ?_)
  obtain ⟨⟨k1, hv1, hk1⟩, hcalm⟩ := a_isRead hC ho ⟨n0, s0, hO0⟩ hp
  subst hv1
  have hkm : KM τ w w1 := by
    obtain ⟨_, _, _, _, _, _, q, _⟩ := hcalm
    exact q
  have hM1 := hM.keep hkm.2
  refine g_istore C dL_law_681 (by decide) rfl ?_
  refine g_aload_n C dL_law_683 rfl ?_
  refine g_aload_n C dL_law_684 rfl ?_
  refine g_iload C dL_law_685 rfl ?_
  refine g_iconst C dL_law_687 ?_
  refine g_iadd C dL_law_688 ?_
  refine g_sld (5 * t + 1) C hS (by omega) (by omega) dL_law_689 ?_
  refine g_aload_n C dL_law_690 rfl ?_
  refine g_iload C dL_law_691 rfl ?_
  refine g_iconst C dL_law_693 ?_
  refine g_iadd C dL_law_694 ?_
  refine g_sld (5 * t + 2) C hS (by omega) (by omega) dL_law_695 ?_
  refine g_callV C (c_X8_isRead _ (hf (5 * t + 1)) (hf (5 * t + 2)) hM1) (ci := 10) rfl hM1.o rfl ml_RL_209 im_yX8_isRead se_RX8_yX8_isRead in_RX8 co_yX8_isRead hd_X8_isRead rfl ⟨by omega, by omega⟩ rfl (Nat.le_of_ble_eq_true rfl) ⟨by omega, by omega⟩ dL_law_696 (fun v696 w696 hp696 => ?_)
  refine g_wf (fun hwf2 => ?_)
  obtain ⟨t2, ans, hv2, hM2, hk2, hcs⟩ := hp696
  subst hv2
  have h02 : 0 ≤ t2 ∧ t2 ≤ 2 := by omega
  have hI2 := inv_ask hwf1 hwf2 hcalm rfl ho hk2 hM2 h02 hg hr
  obtain ⟨k9, nv, hv9, hOV, hnv, hans, hkk⟩ := e_isRead hg hr ⟨n0, s0, hO0⟩ hp hcs
  have hk9 : k1 = k9 := iI_inj (Option.some.inj hv9) (by omega) (by omega)
  subst hk9
  have h01 : k1 = 0 → ans = 0 ∨ ans = 1 := fun hk0 => by
    first
    | omega
    | (rcases hcs with q | q | ⟨-, -, -, r8, -, q⟩ <;> first | omega | (rw [q]; exact bI_01 _))
    | (rcases hcs with q | ⟨-, -, q⟩ <;> first | omega | (rw [q]; exact bI_01 _))
  obtain ⟨s9, hOV9⟩ := hOV
  have hOV2 := hk2.2 o _ (by omega) hOV9
  have hr9 : k1 = 0 → -2147483648 ≤ ans ∧ ans < 2147483648 := fun q => by rw [← hans q]; exact hnv q
  refine g_istore C dL_law_699 (by decide) rfl ?_
  refine g_aload_n C dL_law_701 rfl ?_
  refine g_callV C (c_X8_thrown _ hM2 h02) (ci := 10) rfl hM2.o rfl ml_RL_210 im_yX8_thrown se_RX8_yX8_thrown in_RX8 co_yX8_thrown hd_X8_thrown rfl ⟨by omega, by omega⟩ rfl (Nat.le_of_ble_eq_true rfl) ⟨by omega, by omega⟩ dL_law_702 (fun v702 w702 hp702 => ?_)
  obtain ⟨hv3, hw3⟩ := hp702
  subst hv3
  subst hw3
  refine g_iload C dL_law_705 rfl ?_
  refine g_icmp_eq (tgt := 712) C dL_law_707 (by decide) (by have := h02; omega) (by have := h02; omega) (fun h707 => ?_) (fun h707 => ?_)
  · refine g_iload C dL_law_712 rfl ?_
    refine g_if_ne (tgt := 737) C dL_law_714 (by decide) (by have := h02; omega) (fun h714 => ?_) (fun h714 => ?_)
    · refine g_goto (tgt := 2220) C dL_law_737 (by decide) ?_
      exact g_drop 5 (g_drop 6 (g_widen (by omega) (by omega) (kk _ hI2)))
    · refine g_aload_n C dL_law_717 rfl ?_
      refine g_getN (ci := 9) C rfl inTX7 0 (by decide) hH.2.2.2.2.2.2.1 rfl hOV2 rfl dL_law_718 ?_
      refine g_iload C dL_law_721 rfl ?_
      refine g_if_eq (tgt := 730) C dL_law_723 (by decide) (hr9 (by omega)) (fun h723 => ?_) (fun h723 => ?_)
      · refine g_lconst (z := 0) C dL_law_730 (by decide) ?_
        refine g_lcmp C dL_law_731 (by have h1 := hr9 (by omega); have h2 := hans (by omega); omega) (by have h1 := hr9 (by omega); omega) (fun c731 hc731 => ?_)
        refine g_if_eq (tgt := 737) C dL_law_732 (by decide) (by omega) (fun h732 => ?_) (fun h732 => ?_)
        · refine g_goto (tgt := 2220) C dL_law_737 (by decide) ?_
          exact g_drop 5 (g_drop 6 (g_widen (by omega) (by omega) (kk _ hI2)))
        · have h2 := hans (by omega)
          have h3 := h01 (by omega)
          omega
      · refine g_lconst (z := 1) C dL_law_726 (by decide) ?_
        refine g_goto (tgt := 731) C dL_law_727 (by decide) ?_
        refine g_lcmp C dL_law_731 (by have h1 := hr9 (by omega); have h2 := hans (by omega); omega) (by have h1 := hr9 (by omega); omega) (fun c731 hc731 => ?_)
        refine g_if_eq (tgt := 737) C dL_law_732 (by decide) (by omega) (fun h732 => ?_) (fun h732 => ?_)
        · refine g_goto (tgt := 2220) C dL_law_737 (by decide) ?_
          exact g_drop 5 (g_drop 6 (g_widen (by omega) (by omega) (kk _ hI2)))
        · have h2 := hans (by omega)
          have h3 := h01 (by omega)
          omega
  · omega
set_option maxHeartbeats 4000000 in
set_option maxRecDepth 100000 in
theorem lc_isNear {K : KC} {E : GE} {X : XT} {b N : Nat} {f : Nat → Int} {x m o t k n : Nat} {w : Wd} (LX : LawX K E X b N f) (ht : 5 * t + 5 ≤ N) (hI : INV x m o t w) (hk : k + 2000 ≤ 793047) (hn : n + 80000 ≤ 6722339) (kk : ∀ w', INV x m o (t + 1) w' → G E X 7 2220 (LL b x m o t) [] w' (k + 2000) (n + 80000)) : G E X 7 740 (LL b x m o t) [] w k n := by
  obtain ⟨C, hT, hH, hls, ⟨hRf, hRl, hRc, hRs⟩, hS⟩ := LX
  have hf := hS.2.2.2.1
  have hN := hS.2.2.2.2
  obtain ⟨τ, ad, bs, ss, pb, P, Q, ct, A, th, ba, st, pm, le, ri, sp, cm, hC, hM, hx, ho, ⟨n0, s0, hO0⟩, hg, hr⟩ := hI
  subst hx
  refine g_wf (fun hwf => ?_)
  refine g_aload_n C dL_law_740 rfl ?_
  refine g_aload_n C dL_law_741 rfl ?_
  refine g_iload C dL_law_742 rfl ?_
  refine g_iconst C dL_law_744 ?_
  refine g_iadd C dL_law_745 ?_
  refine g_sld (5 * t + 1) C hS (by omega) (by omega) dL_law_746 ?_
  refine g_aload_n C dL_law_747 rfl ?_
  refine g_iload C dL_law_748 rfl ?_
  refine g_iconst C dL_law_750 ?_
  refine g_iadd C dL_law_751 ?_
  refine g_sld (5 * t + 2) C hS (by omega) (by omega) dL_law_752 ?_
  refine g_aload_n C dL_law_753 rfl ?_
  refine x_callH C hT hH (w_L_isNear _ hls hC ho hO0 (hf (5 * t + 1)) (hf (5 * t + 2))) ml_RL_214 sm_yL_isNear in_RL co_yL_isNear hd_L_isNear rfl ⟨by omega, by omega⟩ rfl (Nat.le_of_ble_eq_true rfl) ⟨by omega, by omega⟩ dL_law_754 (fun v1 w1 hp => ?_)
  refine g_wf (fun hwf1 => ?_)
  obtain ⟨⟨k1, hv1, hk1⟩, hcalm⟩ := a_isNear hC ho ⟨n0, s0, hO0⟩ hp
  subst hv1
  have hkm : KM τ w w1 := by
    obtain ⟨_, _, _, _, _, _, q, _⟩ := hcalm
    exact q
  have hM1 := hM.keep hkm.2
  refine g_istore C dL_law_757 (by decide) rfl ?_
  refine g_aload_n C dL_law_759 rfl ?_
  refine g_aload_n C dL_law_760 rfl ?_
  refine g_iload C dL_law_761 rfl ?_
  refine g_iconst C dL_law_763 ?_
  refine g_iadd C dL_law_764 ?_
  refine g_sld (5 * t + 1) C hS (by omega) (by omega) dL_law_765 ?_
  refine g_aload_n C dL_law_766 rfl ?_
  refine g_iload C dL_law_767 rfl ?_
  refine g_iconst C dL_law_769 ?_
  refine g_iadd C dL_law_770 ?_
  refine g_sld (5 * t + 2) C hS (by omega) (by omega) dL_law_771 ?_
  refine g_callV C (c_X8_isNear _ (hf (5 * t + 1)) (hf (5 * t + 2)) hM1 hg.1 hg.2.1) (ci := 10) rfl hM1.o rfl ml_RL_216 im_yX8_isNear se_RX8_yX8_isNear in_RX8 co_yX8_isNear hd_X8_isNear rfl ⟨by omega, by omega⟩ rfl (Nat.le_of_ble_eq_true rfl) ⟨by omega, by omega⟩ dL_law_772 (fun v772 w772 hp772 => ?_)
  refine g_wf (fun hwf2 => ?_)
  obtain ⟨t2, ans, hv2, hM2, hk2, hcs⟩ := hp772
  subst hv2
  have h02 : 0 ≤ t2 ∧ t2 ≤ 2 := by omega
  have hI2 := inv_ask hwf1 hwf2 hcalm rfl ho hk2 hM2 h02 hg hr
  refine g_istore C dL_law_775 (by decide) rfl ?_
  refine g_goto (tgt := 2220) C dL_law_777 (by decide) ?_
  exact g_drop 5 (g_drop 6 (g_widen (by omega) (by omega) (kk _ hI2)))
set_option maxHeartbeats 4000000 in
set_option maxRecDepth 100000 in
theorem lc_decimals {K : KC} {E : GE} {X : XT} {b N : Nat} {f : Nat → Int} {x m o t k n : Nat} {w : Wd} (LX : LawX K E X b N f) (ht : 5 * t + 5 ≤ N) (hI : INV x m o t w) (hk : k + 2000 ≤ 793047) (hn : n + 80000 ≤ 6722339) (kk : ∀ w', INV x m o (t + 1) w' → G E X 7 2220 (LL b x m o t) [] w' (k + 2000) (n + 80000)) : G E X 7 780 (LL b x m o t) [] w k n := by
  obtain ⟨C, hT, hH, hls, ⟨hRf, hRl, hRc, hRs⟩, hS⟩ := LX
  have hf := hS.2.2.2.1
  have hN := hS.2.2.2.2
  obtain ⟨τ, ad, bs, ss, pb, P, Q, ct, A, th, ba, st, pm, le, ri, sp, cm, hC, hM, hx, ho, ⟨n0, s0, hO0⟩, hg, hr⟩ := hI
  subst hx
  refine g_wf (fun hwf => ?_)
  refine g_aload_n C dL_law_780 rfl ?_
  refine g_aload_n C dL_law_781 rfl ?_
  refine g_iload C dL_law_782 rfl ?_
  refine g_iconst C dL_law_784 ?_
  refine g_iadd C dL_law_785 ?_
  refine g_sld (5 * t + 1) C hS (by omega) (by omega) dL_law_786 ?_
  refine g_aload_n C dL_law_787 rfl ?_
  refine g_iload C dL_law_788 rfl ?_
  refine g_iconst C dL_law_790 ?_
  refine g_iadd C dL_law_791 ?_
  refine g_sld (5 * t + 2) C hS (by omega) (by omega) dL_law_792 ?_
  refine g_aload_n C dL_law_793 rfl ?_
  refine x_callH C hT hH (w_L_decimals _ hls hC ho hO0 (hf (5 * t + 1)) (hf (5 * t + 2))) ml_RL_217 sm_yL_decimals in_RL co_yL_decimals hd_L_decimals rfl ⟨by omega, by omega⟩ rfl (Nat.le_of_ble_eq_true rfl) ⟨by omega, by omega⟩ dL_law_794 (fun v1 w1 hp => ?_)
  refine g_wf (fun hwf1 => ?_)
  obtain ⟨⟨k1, hv1, hk1⟩, hcalm⟩ := a_decimals hC ho ⟨n0, s0, hO0⟩ hp
  subst hv1
  have hkm : KM τ w w1 := by
    obtain ⟨_, _, _, _, _, _, q, _⟩ := hcalm
    exact q
  have hM1 := hM.keep hkm.2
  refine g_istore C dL_law_797 (by decide) rfl ?_
  refine g_aload_n C dL_law_799 rfl ?_
  refine g_aload_n C dL_law_800 rfl ?_
  refine g_iload C dL_law_801 rfl ?_
  refine g_iconst C dL_law_803 ?_
  refine g_iadd C dL_law_804 ?_
  refine g_sld (5 * t + 1) C hS (by omega) (by omega) dL_law_805 ?_
  refine g_aload_n C dL_law_806 rfl ?_
  refine g_iload C dL_law_807 rfl ?_
  refine g_iconst C dL_law_809 ?_
  refine g_iadd C dL_law_810 ?_
  refine g_sld (5 * t + 2) C hS (by omega) (by omega) dL_law_811 ?_
  refine t_callV C hT (c_X8_decimals _ (hf (5 * t + 1)) (hf (5 * t + 2)) hM1 hg.1 hg.2.1) (RcV.ob (ci := 10) C rfl hM1.o) rfl ml_RL_219 im_yX8_decimals se_RX8_yX8_decimals in_RX8 co_yX8_decimals hd_X8_decimals rfl ⟨by omega, by omega⟩ rfl (Nat.le_of_ble_eq_true rfl) ⟨by omega, by omega⟩ dL_law_812 (fun v812 w812 hp812 => ?_)
  refine g_wf (fun hwf2 => ?_)
  obtain ⟨t2, s2, hv2, hM2, hk2, h02⟩ := hp812
  subst hv2
  have hI2 := inv_ask hwf1 hwf2 hcalm rfl ho hk2 hM2 h02 hg hr
  refine g_astore C dL_law_815 (by decide) rfl ?_
  refine g_goto (tgt := 2220) C dL_law_817 (by decide) ?_
  exact g_drop 5 (g_drop 6 (g_widen (by omega) (by omega) (kk _ hI2)))
