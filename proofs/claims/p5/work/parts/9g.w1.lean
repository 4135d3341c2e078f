set_option maxHeartbeats 4000000 in
set_option maxRecDepth 100000 in
theorem lc_open {K : KC} {E : GE} {X : XT} {b N : Nat} {f : Nat → Int} {x m o t k n : Nat} {w : Wd} (LX : LawX K E X b N f) (ht : 5 * t + 5 ≤ N) (hI : INV x m o t w) (hk : k + 2000 ≤ 912740) (hn : n + 80000 ≤ 6363261) (kk : ∀ w', INV x m o (t + 1) w' → G E X 7 2213 (LL b x m o t) [] w' (k + 2000) (n + 80000)) : G E X 7 248 (LL b x m o t) [] w k n := by
  obtain ⟨C, hT, hH, hls, ⟨hRf, hRl, hRc, hRs⟩, hS⟩ := LX
  have hf := hS.2.2.2.1
  have hN := hS.2.2.2.2
  obtain ⟨τ, ad, bs, ss, pb, P, Q, ct, A, th, ba, st, pm, le, ri, sp, cm, hC, hM, hx, ho, ⟨n0, s0, hO0⟩, hg, hr⟩ := hI
  subst hx
  refine g_wf (fun hwf => ?_)
  refine g_aload_n C dL_law_248 rfl ?_
  refine g_aload_n C dL_law_249 rfl ?_
  refine g_iload C dL_law_250 rfl ?_
  refine g_iconst C dL_law_252 ?_
  refine g_iadd C dL_law_253 ?_
  refine g_sld (5 * t + 1) C hS (by omega) (by omega) dL_law_254 ?_
  refine g_aload_n C dL_law_255 rfl ?_
  refine g_iload C dL_law_256 rfl ?_
  refine g_iconst C dL_law_258 ?_
  refine g_iadd C dL_law_259 ?_
  refine g_sld (5 * t + 2) C hS (by omega) (by omega) dL_law_260 ?_
  refine g_aload_n C dL_law_261 rfl ?_
  refine x_callH C hT hH (w_L_open _ hls hC ho hO0 (hf (5 * t + 1)) (hf (5 * t + 2))) ml_RL_174 sm_yL_open in_RL co_yL_open hd_L_open rfl ⟨by omega, by omega⟩ rfl (Nat.le_of_ble_eq_true rfl) ⟨by omega, by omega⟩ dL_law_262 (fun v1 w1 hp => ?_)
  refine g_wf (fun hwf1 => ?_)
  obtain ⟨k1, nv, bs1, ss1, ct1, hv1, hOV, hnv, ⟨⟨pb2, hp2, hC1⟩, hkm⟩, hD⟩ := a_open hC ho ⟨n0, s0, hO0⟩ hp
  subst hv1
  have hM1 := hM.keep hkm.2
  refine g_istore C dL_law_265 (by decide) rfl ?_
  refine g_aload_n C dL_law_267 rfl ?_
  refine g_aload_n C dL_law_268 rfl ?_
  refine g_iload C dL_law_269 rfl ?_
  refine g_iconst C dL_law_271 ?_
  refine g_iadd C dL_law_272 ?_
  refine g_sld (5 * t + 1) C hS (by omega) (by omega) dL_law_273 ?_
  refine g_aload_n C dL_law_274 rfl ?_
  refine g_iload C dL_law_275 rfl ?_
  refine g_iconst C dL_law_277 ?_
  refine g_iadd C dL_law_278 ?_
  refine g_sld (5 * t + 2) C hS (by omega) (by omega) dL_law_279 ?_
  refine g_callV C (c_X8_open _ (hf (5 * t + 1)) (hf (5 * t + 2)) hM1) (ci := 10) rfl hM1.o rfl ml_RL_179 im_yX8_open se_RX8_yX8_open in_RX8 co_yX8_open hd_X8_open rfl ⟨by omega, by omega⟩ rfl (Nat.le_of_ble_eq_true rfl) ⟨by omega, by omega⟩ dL_law_280 (fun v280 w280 hp280 => ?_)
  refine g_wf (fun hwf2 => ?_)
  obtain ⟨t2, ba2, st2, cm2, ans, hv2, hM2, hk2, hcs⟩ := hp280
  subst hv2
  obtain ⟨hg2, hr2, hkk, hans⟩ := b_open hg hr hD hcs
  have hI2 := inv_md hwf1 hwf2 hC1 rfl ho hOV.u hk2 (fun _ _ => rfl) hM2 hg2 (rl_pb hp2 hr2)
  refine g_istore C dL_law_283 (by decide) rfl ?_
  refine g_goto (tgt := 2213) C dL_law_285 (by decide) ?_
  exact g_drop 5 (g_drop 6 (g_widen (by omega) (by omega) (kk _ hI2)))
set_option maxHeartbeats 4000000 in
set_option maxRecDepth 100000 in
theorem lc_forth {K : KC} {E : GE} {X : XT} {b N : Nat} {f : Nat → Int} {x m o t k n : Nat} {w : Wd} (LX : LawX K E X b N f) (ht : 5 * t + 5 ≤ N) (hI : INV x m o t w) (hk : k + 2000 ≤ 912740) (hn : n + 80000 ≤ 6363261) (kk : ∀ w', INV x m o (t + 1) w' → G E X 7 2213 (LL b x m o t) [] w' (k + 2000) (n + 80000)) : G E X 7 288 (LL b x m o t) [] w k n := by
  obtain ⟨C, hT, hH, hls, ⟨hRf, hRl, hRc, hRs⟩, hS⟩ := LX
  have hf := hS.2.2.2.1
  have hN := hS.2.2.2.2
  obtain ⟨τ, ad, bs, ss, pb, P, Q, ct, A, th, ba, st, pm, le, ri, sp, cm, hC, hM, hx, ho, ⟨n0, s0, hO0⟩, hg, hr⟩ := hI
  subst hx
  refine g_wf (fun hwf => ?_)
  refine g_aload_n C dL_law_288 rfl ?_
  refine g_aload_n C dL_law_289 rfl ?_
  refine g_iload C dL_law_290 rfl ?_
  refine g_iconst C dL_law_292 ?_
  refine g_iadd C dL_law_293 ?_
  refine g_sld (5 * t + 1) C hS (by omega) (by omega) dL_law_294 ?_
  refine g_aload_n C dL_law_295 rfl ?_
  refine g_iload C dL_law_296 rfl ?_
  refine g_iconst C dL_law_298 ?_
  refine g_iadd C dL_law_299 ?_
  refine g_sld (5 * t + 2) C hS (by omega) (by omega) dL_law_300 ?_
  refine g_aload_n C dL_law_301 rfl ?_
  refine x_callH C hT hH (w_L_forth _ hls hC ho hO0 (hf (5 * t + 1)) (hf (5 * t + 2))) ml_RL_180 sm_yL_forth in_RL co_yL_forth hd_L_forth rfl ⟨by omega, by omega⟩ rfl (Nat.le_of_ble_eq_true rfl) ⟨by omega, by omega⟩ dL_law_302 (fun v1 w1 hp => ?_)
  refine g_wf (fun hwf1 => ?_)
  obtain ⟨k1, nv, ss1, ct1, hv1, hOV, hnv, ⟨⟨pb2, hp2, hC1⟩, hkm⟩, hD⟩ := a_forth hC ho ⟨n0, s0, hO0⟩ hp
  subst hv1
  have hM1 := hM.keep hkm.2
  refine g_istore C dL_law_305 (by decide) rfl ?_
  refine g_aload_n C dL_law_307 rfl ?_
  refine g_aload_n C dL_law_308 rfl ?_
  refine g_iload C dL_law_309 rfl ?_
  refine g_iconst C dL_law_311 ?_
  refine g_iadd C dL_law_312 ?_
  refine g_sld (5 * t + 1) C hS (by omega) (by omega) dL_law_313 ?_
  refine g_aload_n C dL_law_314 rfl ?_
  refine g_iload C dL_law_315 rfl ?_
  refine g_iconst C dL_law_317 ?_
  refine g_iadd C dL_law_318 ?_
  refine g_sld (5 * t + 2) C hS (by omega) (by omega) dL_law_319 ?_
  refine g_callV C (c_X8_forth _ (hf (5 * t + 1)) (hf (5 * t + 2)) hM1 hg.2.1) (ci := 10) rfl hM1.o rfl ml_RL_182 im_yX8_forth se_RX8_yX8_forth in_RX8 co_yX8_forth hd_X8_forth rfl ⟨by omega, by omega⟩ rfl (Nat.le_of_ble_eq_true rfl) ⟨by omega, by omega⟩ dL_law_320 (fun v320 w320 hp320 => ?_)
  refine g_wf (fun hwf2 => ?_)
  obtain ⟨t2, st2, cm2, ans, hv2, hM2, hk2, hcs⟩ := hp320
  subst hv2
  obtain ⟨hg2, hr2, hkk, hans⟩ := b_forth hg hr hD hcs
  have hI2 := inv_md hwf1 hwf2 hC1 rfl ho hOV.u hk2 (fun _ _ => rfl) hM2 hg2 (rl_pb hp2 hr2)
  refine g_istore C dL_law_323 (by decide) rfl ?_
  refine g_goto (tgt := 2213) C dL_law_325 (by decide) ?_
  exact g_drop 5 (g_drop 6 (g_widen (by omega) (by omega) (kk _ hI2)))
set_option maxHeartbeats 4000000 in
set_option maxRecDepth 100000 in
theorem lc_back {K : KC} {E : GE} {X : XT} {b N : Nat} {f : Nat → Int} {x m o t k n : Nat} {w : Wd} (LX : LawX K E X b N f) (ht : 5 * t + 5 ≤ N) (hI : INV x m o t w) (hk : k + 2000 ≤ 912740) (hn : n + 80000 ≤ 6363261) (kk : ∀ w', INV x m o (t + 1) w' → G E X 7 2213 (LL b x m o t) [] w' (k + 2000) (n + 80000)) : G E X 7 328 (LL b x m o t) [] w k n := by
  obtain ⟨C, hT, hH, hls, ⟨hRf, hRl, hRc, hRs⟩, hS⟩ := LX
  have hf := hS.2.2.2.1
  have hN := hS.2.2.2.2
  obtain ⟨τ, ad, bs, ss, pb, P, Q, ct, A, th, ba, st, pm, le, ri, sp, cm, hC, hM, hx, ho, ⟨n0, s0, hO0⟩, hg, hr⟩ := hI
  subst hx
  refine g_wf (fun hwf => ?_)
  refine g_aload_n C dL_law_328 rfl ?_
  refine g_aload_n C dL_law_329 rfl ?_
  refine g_iload C dL_law_330 rfl ?_
  refine g_iconst C dL_law_332 ?_
  refine g_iadd C dL_law_333 ?_
  refine g_sld (5 * t + 1) C hS (by omega) (by omega) dL_law_334 ?_
  refine g_aload_n C dL_law_335 rfl ?_
  refine x_callH C hT hH (w_L_back _ hls hC ho hO0 (hf (5 * t + 1))) ml_RL_183 sm_yL_back in_RL co_yL_back hd_L_back rfl ⟨by omega, by omega⟩ rfl (Nat.le_of_ble_eq_true rfl) ⟨by omega, by omega⟩ dL_law_336 (fun v1 w1 hp => ?_)
  refine g_wf (fun hwf1 => ?_)
  obtain ⟨k1, nv, ss1, ct1, hv1, hOV, hnv, ⟨⟨pb2, hp2, hC1⟩, hkm⟩, hD⟩ := a_back hC ho ⟨n0, s0, hO0⟩ hp
  subst hv1
  have hM1 := hM.keep hkm.2
  refine g_istore C dL_law_339 (by decide) rfl ?_
  refine g_aload_n C dL_law_341 rfl ?_
  refine g_aload_n C dL_law_342 rfl ?_
  refine g_iload C dL_law_343 rfl ?_
  refine g_iconst C dL_law_345 ?_
  refine g_iadd C dL_law_346 ?_
  refine g_sld (5 * t + 1) C hS (by omega) (by omega) dL_law_347 ?_
  refine g_callV C (c_X8_back _ (hf (5 * t + 1)) hM1 hg.2.1) (ci := 10) rfl hM1.o rfl ml_RL_186 im_yX8_back se_RX8_yX8_back in_RX8 co_yX8_back hd_X8_back rfl ⟨by omega, by omega⟩ rfl (Nat.le_of_ble_eq_true rfl) ⟨by omega, by omega⟩ dL_law_348 (fun v348 w348 hp348 => ?_)
  refine g_wf (fun hwf2 => ?_)
  obtain ⟨t2, st2, cm2, ans, hv2, hM2, hk2, hcs⟩ := hp348
  subst hv2
  obtain ⟨hg2, hr2, hkk, hans⟩ := b_back hg hr hD hcs
  have hI2 := inv_md hwf1 hwf2 hC1 rfl ho hOV.u hk2 (fun _ _ => rfl) hM2 hg2 (rl_pb hp2 hr2)
  refine g_istore C dL_law_351 (by decide) rfl ?_
  refine g_goto (tgt := 2213) C dL_law_353 (by decide) ?_
  exact g_drop 5 (g_drop 6 (g_widen (by omega) (by omega) (kk _ hI2)))
set_option maxHeartbeats 4000000 in
set_option maxRecDepth 100000 in
theorem lc_walkCopy {K : KC} {E : GE} {X : XT} {b N : Nat} {f : Nat → Int} {x m o t k n : Nat} {w : Wd} (LX : LawX K E X b N f) (ht : 5 * t + 5 ≤ N) (hI : INV x m o t w) (hk : k + 2000 ≤ 912740) (hn : n + 80000 ≤ 6363261) (kk : ∀ w', INV x m o (t + 1) w' → G E X 7 2213 (LL b x m o t) [] w' (k + 2000) (n + 80000)) : G E X 7 356 (LL b x m o t) [] w k n := by
  obtain ⟨C, hT, hH, hls, ⟨hRf, hRl, hRc, hRs⟩, hS⟩ := LX
  have hf := hS.2.2.2.1
  have hN := hS.2.2.2.2
  obtain ⟨τ, ad, bs, ss, pb, P, Q, ct, A, th, ba, st, pm, le, ri, sp, cm, hC, hM, hx, ho, ⟨n0, s0, hO0⟩, hg, hr⟩ := hI
  subst hx
  refine g_wf (fun hwf => ?_)
  refine g_aload_n C dL_law_356 rfl ?_
  refine g_aload_n C dL_law_357 rfl ?_
  refine g_iload C dL_law_358 rfl ?_
  refine g_iconst C dL_law_360 ?_
  refine g_iadd C dL_law_361 ?_
  refine g_sld (5 * t + 1) C hS (by omega) (by omega) dL_law_362 ?_
  refine g_aload_n C dL_law_363 rfl ?_
  refine g_iload C dL_law_364 rfl ?_
  refine g_iconst C dL_law_366 ?_
  refine g_iadd C dL_law_367 ?_
  refine g_sld (5 * t + 2) C hS (by omega) (by omega) dL_law_368 ?_
  refine g_aload_n C dL_law_369 rfl ?_
  refine x_callH C hT hH (w_L_walkCopy _ hls hC ho hO0 (hf (5 * t + 1)) (hf (5 * t + 2))) ml_RL_187 sm_yL_walkCopy in_RL co_yL_walkCopy hd_L_walkCopy rfl ⟨by omega, by omega⟩ rfl (Nat.le_of_ble_eq_true rfl) ⟨by omega, by omega⟩ dL_law_370 (fun v1 w1 hp => ?_)
  refine g_wf (fun hwf1 => ?_)
  obtain ⟨k1, nv, bs1, ss1, ct1, hv1, hOV, hnv, ⟨⟨pb2, hp2, hC1⟩, hkm⟩, hD⟩ := a_walkCopy hC ho ⟨n0, s0, hO0⟩ hp
  subst hv1
  have hM1 := hM.keep hkm.2
  refine g_istore C dL_law_373 (by decide) rfl ?_
  refine g_aload_n C dL_law_375 rfl ?_
  refine g_aload_n C dL_law_376 rfl ?_
  refine g_iload C dL_law_377 rfl ?_
  refine g_iconst C dL_law_379 ?_
  refine g_iadd C dL_law_380 ?_
  refine g_sld (5 * t + 1) C hS (by omega) (by omega) dL_law_381 ?_
  refine g_aload_n C dL_law_382 rfl ?_
  refine g_iload C dL_law_383 rfl ?_
  refine g_iconst C dL_law_385 ?_
  refine g_iadd C dL_law_386 ?_
  refine g_sld (5 * t + 2) C hS (by omega) (by omega) dL_law_387 ?_
  refine g_callV C (c_X8_walkCopy _ (hf (5 * t + 1)) (hf (5 * t + 2)) hM1 hg.1 hg.2.1) (ci := 10) rfl hM1.o rfl ml_RL_189 im_yX8_walkCopy se_RX8_yX8_walkCopy in_RX8 co_yX8_walkCopy hd_X8_walkCopy rfl ⟨by omega, by omega⟩ rfl (Nat.le_of_ble_eq_true rfl) ⟨by omega, by omega⟩ dL_law_388 (fun v388 w388 hp388 => ?_)
  refine g_wf (fun hwf2 => ?_)
  obtain ⟨t2, ba2, st2, cm2, ans, hv2, hM2, hk2, hcs⟩ := hp388
  subst hv2
  obtain ⟨hg2, hr2, hkk, hans⟩ := b_walkCopy hg hr hD hcs
  have hI2 := inv_md hwf1 hwf2 hC1 rfl ho hOV.u hk2 (fun _ _ => rfl) hM2 hg2 (rl_pb hp2 hr2)
  obtain ⟨s9, hOV9⟩ := hOV
  have hOV2 := hk2.2 o _ (by omega) hOV9
  have hr9 : k1 = 0 → -2147483648 ≤ ans ∧ ans < 2147483648 := fun q => by rw [← hans q]; exact hnv q
  refine g_istore C dL_law_391 (by decide) rfl ?_
  refine g_aload_n C dL_law_393 rfl ?_
  refine g_callV C (c_X8_thrown _ hM2 hg2.2.2.2.2.1) (ci := 10) rfl hM2.o rfl ml_RL_190 im_yX8_thrown se_RX8_yX8_thrown in_RX8 co_yX8_thrown hd_X8_thrown rfl ⟨by omega, by omega⟩ rfl (Nat.le_of_ble_eq_true rfl) ⟨by omega, by omega⟩ dL_law_394 (fun v394 w394 hp394 => ?_)
  obtain ⟨hv3, hw3⟩ := hp394
  subst hv3
  subst hw3
  refine g_iload C dL_law_397 rfl ?_
  refine g_icmp_eq (tgt := 404) C dL_law_399 (by decide) (by have := hg2.2.2.2.2.1; omega) (by have := hg2.2.2.2.2.1; omega) (fun h399 => ?_) (fun h399 => ?_)
  · refine g_iload C dL_law_404 rfl ?_
    refine g_if_ne (tgt := 422) C dL_law_406 (by decide) (by have := hg2.2.2.2.2.1; omega) (fun h406 => ?_) (fun h406 => ?_)
    · refine g_goto (tgt := 2213) C dL_law_422 (by decide) ?_
      exact g_drop 5 (g_drop 6 (g_widen (by omega) (by omega) (kk _ hI2)))
    · refine g_aload_n C dL_law_409 rfl ?_
      refine g_getN (ci := 9) C rfl inTX7 0 (by decide) hH.2.2.2.2.2.2.1 rfl hOV2 rfl dL_law_410 ?_
      refine g_iload C dL_law_413 rfl ?_
      refine g_i2l C dL_law_415 (hr9 (by omega)) ?_
      refine g_lcmp C dL_law_416 (by have h1 := hr9 (by omega); have h2 := hans (by omega); omega) (by have h1 := hr9 (by omega); omega) (fun c416 hc416 => ?_)
      refine g_if_eq (tgt := 422) C dL_law_417 (by decide) (by omega) (fun h417 => ?_) (fun h417 => ?_)
      · refine g_goto (tgt := 2213) C dL_law_422 (by decide) ?_
        exact g_drop 5 (g_drop 6 (g_widen (by omega) (by omega) (kk _ hI2)))
      · have h2 := hans (by omega)
        omega
  · omega
set_option maxHeartbeats 4000000 in
set_option maxRecDepth 100000 in
theorem lc_part {K : KC} {E : GE} {X : XT} {b N : Nat} {f : Nat → Int} {x m o t k n : Nat} {w : Wd} (LX : LawX K E X b N f) (ht : 5 * t + 5 ≤ N) (hI : INV x m o t w) (hk : k + 2000 ≤ 912740) (hn : n + 80000 ≤ 6363261) (kk : ∀ w', INV x m o (t + 1) w' → G E X 7 2213 (LL b x m o t) [] w' (k + 2000) (n + 80000)) : G E X 7 425 (LL b x m o t) [] w k n := by
  obtain ⟨C, hT, hH, hls, ⟨hRf, hRl, hRc, hRs⟩, hS⟩ := LX
  have hf := hS.2.2.2.1
  have hN := hS.2.2.2.2
  obtain ⟨τ, ad, bs, ss, pb, P, Q, ct, A, th, ba, st, pm, le, ri, sp, cm, hC, hM, hx, ho, ⟨n0, s0, hO0⟩, hg, hr⟩ := hI
  subst hx
  refine g_wf (fun hwf => ?_)
  refine g_aload_n C dL_law_425 rfl ?_
  refine g_aload_n C dL_law_426 rfl ?_
  refine g_iload C dL_law_427 rfl ?_
  refine g_iconst C dL_law_429 ?_
  refine g_iadd C dL_law_430 ?_
  refine g_sld (5 * t + 1) C hS (by omega) (by omega) dL_law_431 ?_
  refine g_aload_n C dL_law_432 rfl ?_
  refine g_iload C dL_law_433 rfl ?_
  refine g_iconst C dL_law_435 ?_
  refine g_iadd C dL_law_436 ?_
  refine g_sld (5 * t + 2) C hS (by omega) (by omega) dL_law_437 ?_
  refine g_aload_n C dL_law_438 rfl ?_
  refine x_callH C hT hH (w_L_part _ hls hC ho hO0 (hf (5 * t + 1)) (hf (5 * t + 2))) ml_RL_194 sm_yL_part in_RL co_yL_part hd_L_part rfl ⟨by omega, by omega⟩ rfl (Nat.le_of_ble_eq_true rfl) ⟨by omega, by omega⟩ dL_law_439 (fun v1 w1 hp => ?_)
  refine g_wf (fun hwf1 => ?_)
  obtain ⟨⟨k1, hv1, hk1⟩, hcalm⟩ := a_part hC ho ⟨n0, s0, hO0⟩ hp
  subst hv1
  have hkm : KM τ w w1 := by
    obtain ⟨_, _, _, _, _, _, q, _⟩ := hcalm
    exact q
  have hM1 := hM.keep hkm.2
  refine g_istore C dL_law_442 (by decide) rfl ?_
  refine g_aload_n C dL_law_444 rfl ?_
  refine g_aload_n C dL_law_445 rfl ?_
  refine g_iload C dL_law_446 rfl ?_
  refine g_iconst C dL_law_448 ?_
  refine g_iadd C dL_law_449 ?_
  refine g_sld (5 * t + 1) C hS (by omega) (by omega) dL_law_450 ?_
  refine g_aload_n C dL_law_451 rfl ?_
  refine g_iload C dL_law_452 rfl ?_
  refine g_iconst C dL_law_454 ?_
  refine g_iadd C dL_law_455 ?_
  refine g_sld (5 * t + 2) C hS (by omega) (by omega) dL_law_456 ?_
  refine g_callV C (c_X8_part _ (hf (5 * t + 1)) (hf (5 * t + 2)) hM1 hg.1 hg.2.1) (ci := 10) rfl hM1.o rfl ml_RL_196 im_yX8_part se_RX8_yX8_part in_RX8 co_yX8_part hd_X8_part rfl ⟨by omega, by omega⟩ rfl (Nat.le_of_ble_eq_true rfl) ⟨by omega, by omega⟩ dL_law_457 (fun v457 w457 hp457 => ?_)
  refine g_wf (fun hwf2 => ?_)
  obtain ⟨t2, ans, hv2, hM2, hk2, hcs⟩ := hp457
  subst hv2
  have h02 : 0 ≤ t2 ∧ t2 ≤ 2 := by omega
  have hI2 := inv_ask hwf1 hwf2 hcalm rfl ho hk2 hM2 h02 hg hr
  refine g_istore C dL_law_460 (by decide) rfl ?_
  refine g_goto (tgt := 2213) C dL_law_462 (by decide) ?_
  exact g_drop 5 (g_drop 6 (g_widen (by omega) (by omega) (kk _ hI2)))
set_option maxHeartbeats 4000000 in
set_option maxRecDepth 100000 in
theorem lc_walkText {K : KC} {E : GE} {X : XT} {b N : Nat} {f : Nat → Int} {x m o t k n : Nat} {w : Wd} (LX : LawX K E X b N f) (ht : 5 * t + 5 ≤ N) (hI : INV x m o t w) (hk : k + 2000 ≤ 912740) (hn : n + 80000 ≤ 6363261) (kk : ∀ w', INV x m o (t + 1) w' → G E X 7 2213 (LL b x m o t) [] w' (k + 2000) (n + 80000)) : G E X 7 465 (LL b x m o t) [] w k n := by
  obtain ⟨C, hT, hH, hls, ⟨hRf, hRl, hRc, hRs⟩, hS⟩ := LX
  have hf := hS.2.2.2.1
  have hN := hS.2.2.2.2
  obtain ⟨τ, ad, bs, ss, pb, P, Q, ct, A, th, ba, st, pm, le, ri, sp, cm, hC, hM, hx, ho, ⟨n0, s0, hO0⟩, hg, hr⟩ := hI
  subst hx
  refine g_wf (fun hwf => ?_)
  refine g_aload_n C dL_law_465 rfl ?_
  refine g_aload_n C dL_law_466 rfl ?_
  refine g_iload C dL_law_467 rfl ?_
  refine g_iconst C dL_law_469 ?_
  refine g_iadd C dL_law_470 ?_
  refine g_sld (5 * t + 1) C hS (by omega) (by omega) dL_law_471 ?_
  refine g_aload_n C dL_law_472 rfl ?_
  refine g_iload C dL_law_473 rfl ?_
  refine g_iconst C dL_law_475 ?_
  refine g_iadd C dL_law_476 ?_
  refine g_sld (5 * t + 2) C hS (by omega) (by omega) dL_law_477 ?_
  refine g_aload_n C dL_law_478 rfl ?_
  refine g_iload C dL_law_479 rfl ?_
  refine g_iconst C dL_law_481 ?_
  refine g_iadd C dL_law_482 ?_
  refine g_sld (5 * t + 3) C hS (by omega) (by omega) dL_law_483 ?_
  refine g_aload_n C dL_law_484 rfl ?_
  refine x_callH C hT hH (w_L_walkText _ hls hC ho hO0 (hf (5 * t + 1)) (hf (5 * t + 2)) (hf (5 * t + 3))) ml_RL_197 sm_yL_walkText in_RL co_yL_walkText hd_L_walkText rfl ⟨by omega, by omega⟩ rfl (Nat.le_of_ble_eq_true rfl) ⟨by omega, by omega⟩ dL_law_485 (fun v1 w1 hp => ?_)
  refine g_wf (fun hwf1 => ?_)
  obtain ⟨⟨k1, hv1, hk1⟩, hcalm⟩ := a_walkText hC ho ⟨n0, s0, hO0⟩ hp
  subst hv1
  have hkm : KM τ w w1 := by
    obtain ⟨_, _, _, _, _, _, q, _⟩ := hcalm
    exact q
  have hM1 := hM.keep hkm.2
  refine g_istore C dL_law_488 (by decide) rfl ?_
  refine g_aload_n C dL_law_490 rfl ?_
  refine g_aload_n C dL_law_491 rfl ?_
  refine g_iload C dL_law_492 rfl ?_
  refine g_iconst C dL_law_494 ?_
  refine g_iadd C dL_law_495 ?_
  refine g_sld (5 * t + 1) C hS (by omega) (by omega) dL_law_496 ?_
  refine g_aload_n C dL_law_497 rfl ?_
  refine g_iload C dL_law_498 rfl ?_
  refine g_iconst C dL_law_500 ?_
  refine g_iadd C dL_law_501 ?_
  refine g_sld (5 * t + 2) C hS (by omega) (by omega) dL_law_502 ?_
  refine g_aload_n C dL_law_503 rfl ?_
  refine g_iload C dL_law_504 rfl ?_
  refine g_iconst C dL_law_506 ?_
  refine g_iadd C dL_law_507 ?_
  refine g_sld (5 * t + 3) C hS (by omega) (by omega) dL_law_508 ?_
  refine t_callV C hT (c_X8_walkText _ (hf (5 * t + 1)) (hf (5 * t + 2)) (hf (5 * t + 3)) hM1 hg.1 hg.2.1) (RcV.ob (ci := 10) C rfl hM1.o) rfl ml_RL_200 im_yX8_walkText se_RX8_yX8_walkText in_RX8 co_yX8_walkText hd_X8_walkText rfl ⟨by omega, by omega⟩ rfl (Nat.le_of_ble_eq_true rfl) ⟨by omega, by omega⟩ dL_law_509 (fun v509 w509 hp509 => ?_)
  refine g_wf (fun hwf2 => ?_)
  obtain ⟨t2, s2, hv2, hM2, hk2, h02⟩ := hp509
  subst hv2
  have hI2 := inv_ask hwf1 hwf2 hcalm rfl ho hk2 hM2 h02 hg hr
  refine g_astore C dL_law_512 (by decide) rfl ?_
  refine g_goto (tgt := 2213) C dL_law_514 (by decide) ?_
  exact g_drop 5 (g_drop 6 (g_widen (by omega) (by omega) (kk _ hI2)))
set_option maxHeartbeats 4000000 in
set_option maxRecDepth 100000 in
theorem lc_test {K : KC} {E : GE} {X : XT} {b N : Nat} {f : Nat → Int} {x m o t k n : Nat} {w : Wd} (LX : LawX K E X b N f) (ht : 5 * t + 5 ≤ N) (hI : INV x m o t w) (hk : k + 2000 ≤ 912740) (hn : n + 80000 ≤ 6363261) (kk : ∀ w', INV x m o (t + 1) w' → G E X 7 2213 (LL b x m o t) [] w' (k + 2000) (n + 80000)) : G E X 7 517 (LL b x m o t) [] w k n := by
  obtain ⟨C, hT, hH, hls, ⟨hRf, hRl, hRc, hRs⟩, hS⟩ := LX
  have hf := hS.2.2.2.1
  have hN := hS.2.2.2.2
  obtain ⟨τ, ad, bs, ss, pb, P, Q, ct, A, th, ba, st, pm, le, ri, sp, cm, hC, hM, hx, ho, ⟨n0, s0, hO0⟩, hg, hr⟩ := hI
  subst hx
  refine g_wf (fun hwf => ?_)
  refine g_aload_n C dL_law_517 rfl ?_
  refine g_aload_n C dL_law_518 rfl ?_
  refine g_iload C dL_law_519 rfl ?_
  refine g_iconst C dL_law_521 ?_
  refine g_iadd C dL_law_522 ?_
  refine g_sld (5 * t + 1) C hS (by omega) (by omega) dL_law_523 ?_
  refine g_aload_n C dL_law_524 rfl ?_
  refine g_iload C dL_law_525 rfl ?_
  refine g_iconst C dL_law_527 ?_
  refine g_iadd C dL_law_528 ?_
  refine g_sld (5 * t + 2) C hS (by omega) (by omega) dL_law_529 ?_
  refine g_aload_n C dL_law_530 rfl ?_
  refine x_callH C hT hH (w_L_test _ hls hC ho hO0 (hf (5 * t + 1)) (hf (5 * t + 2))) ml_RL_201 sm_yL_test in_RL co_yL_test hd_L_test rfl ⟨by omega, by omega⟩ rfl (Nat.le_of_ble_eq_true rfl) ⟨by omega, by omega⟩ dL_law_531 (fun v1 w1 hp => ?_)
  refine g_wf (fun hwf1 => ?_)
  obtain ⟨⟨k1, hv1, hk1⟩, hcalm⟩ := a_test hC ho ⟨n0, s0, hO0⟩ hp
  subst hv1
  have hkm : KM τ w w1 := by
    obtain ⟨_, _, _, _, _, _, q, _⟩ := hcalm
    exact q
  have hM1 := hM.keep hkm.2
  refine g_istore C dL_law_534 (by decide) rfl ?_
  refine g_aload_n C dL_law_536 rfl ?_
  refine g_aload_n C dL_law_537 rfl ?_
  refine g_iload C dL_law_538 rfl ?_
  refine g_iconst C dL_law_540 ?_
  refine g_iadd C dL_law_541 ?_
  refine g_sld (5 * t + 1) C hS (by omega) (by omega) dL_law_542 ?_
  refine g_aload_n C dL_law_543 rfl ?_
  refine g_iload C dL_law_544 rfl ?_
  refine g_iconst C dL_law_546 ?_
  refine g_iadd C dL_law_547 ?_
  refine g_sld (5 * t + 2) C hS (by omega) (by omega) dL_law_548 ?_
  refine g_callV C (c_X8_test _ (hf (5 * t + 1)) (hf (5 * t + 2)) hM1 hg.1 hg.2.1) (ci := 10) rfl hM1.o rfl ml_RL_203 im_yX8_test se_RX8_yX8_test in_RX8 co_yX8_test hd_X8_test rfl ⟨by omega, by omega⟩ rfl (Nat.le_of_ble_eq_true rfl) ⟨by omega, by omega⟩ dL_law_549 (fun v549 w549 hp549 => ?_)
  refine g_wf (fun hwf2 => ?_)
  obtain ⟨t2, ans, hv2, hM2, hk2, hcs⟩ := hp549
  subst hv2
  have h02 : 0 ≤ t2 ∧ t2 ≤ 2 := by omega
  have hI2 := inv_ask hwf1 hwf2 hcalm rfl ho hk2 hM2 h02 hg hr
  refine g_istore C dL_law_552 (by decide) rfl ?_
  refine g_goto (tgt := 2213) C dL_law_554 (by decide) ?_
  exact g_drop 5 (g_drop 6 (g_widen (by omega) (by omega) (kk _ hI2)))
set_option maxHeartbeats 4000000 in
set_option maxRecDepth 100000 in
theorem lc_walkBits {K : KC} {E : GE} {X : XT} {b N : Nat} {f : Nat → Int} {x m o t k n : Nat} {w : Wd} (LX : LawX K E X b N f) (ht : 5 * t + 5 ≤ N) (hI : INV x m o t w) (hk : k + 2000 ≤ 912740) (hn : n + 80000 ≤ 6363261) (kk : ∀ w', INV x m o (t + 1) w' → G E X 7 2213 (LL b x m o t) [] w' (k + 2000) (n + 80000)) : G E X 7 557 (LL b x m o t) [] w k n := by
  obtain ⟨C, hT, hH, hls, ⟨hRf, hRl, hRc, hRs⟩, hS⟩ := LX
  have hf := hS.2.2.2.1
  have hN := hS.2.2.2.2
  obtain ⟨τ, ad, bs, ss, pb, P, Q, ct, A, th, ba, st, pm, le, ri, sp, cm, hC, hM, hx, ho, ⟨n0, s0, hO0⟩, hg, hr⟩ := hI
  subst hx
  refine g_wf (fun hwf => ?_)
  refine g_aload_n C dL_law_557 rfl ?_
  refine g_aload_n C dL_law_558 rfl ?_
  refine g_iload C dL_law_559 rfl ?_
  refine g_iconst C dL_law_561 ?_
  refine g_iadd C dL_law_562 ?_
  refine g_sld (5 * t + 1) C hS (by omega) (by omega) dL_law_563 ?_
  refine g_aload_n C dL_law_564 rfl ?_
  refine g_iload C dL_law_565 rfl ?_
  refine g_iconst C dL_law_567 ?_
  refine g_iadd C dL_law_568 ?_
  refine g_sld (5 * t + 2) C hS (by omega) (by omega) dL_law_569 ?_
  refine g_bool C (hf _) dL_law_570 dL_law_573 dL_law_574 dL_law_577 ?_
  refine g_aload_n C dL_law_578 rfl ?_
  refine g_iload C dL_law_579 rfl ?_
  refine g_iconst C dL_law_581 ?_
  refine g_iadd C dL_law_582 ?_
  refine g_sld (5 * t + 3) C hS (by omega) (by omega) dL_law_583 ?_
  refine g_aload_n C dL_law_584 rfl ?_
  refine x_callH C hT hH (w_L_walkBits _ hls hC ho hO0 (hf (5 * t + 1)) (bI_01 _) (hf (5 * t + 3))) ml_RL_204 sm_yL_walkBits in_RL co_yL_walkBits hd_L_walkBits rfl ⟨by omega, by omega⟩ rfl (Nat.le_of_ble_eq_true rfl) ⟨by omega, by omega⟩ dL_law_585 (fun v1 w1 hp => ?_)
  refine g_wf (fun hwf1 => ?_)
  obtain ⟨⟨k1, hv1, hk1⟩, hcalm⟩ := a_walkBits hC ho ⟨n0, s0, hO0⟩ (y := bI (f (5 * t + 2) ≠ 0)) hp
  subst hv1
  have hkm : KM τ w w1 := by
    obtain ⟨_, _, _, _, _, _, q, _⟩ := hcalm
    exact q
  have hM1 := hM.keep hkm.2
  refine g_istore C dL_law_588 (by decide) rfl ?_
  refine g_aload_n C dL_law_590 rfl ?_
  refine g_aload_n C dL_law_591 rfl ?_
  refine g_iload C dL_law_592 rfl ?_
  refine g_iconst C dL_law_594 ?_
  refine g_iadd C dL_law_595 ?_
  refine g_sld (5 * t + 1) C hS (by omega) (by omega) dL_law_596 ?_
  refine g_aload_n C dL_law_597 rfl ?_
  refine g_iload C dL_law_598 rfl ?_
  refine g_iconst C dL_law_600 ?_
  refine g_iadd C dL_law_601 ?_
  refine g_sld (5 * t + 2) C hS (by omega) (by omega) dL_law_602 ?_
  refine g_bool C (hf _) dL_law_603 dL_law_606 dL_law_607 dL_law_610 ?_
  refine g_aload_n C dL_law_611 rfl ?_
  refine g_iload C dL_law_612 rfl ?_
  refine g_iconst C dL_law_614 ?_
  refine g_iadd C dL_law_615 ?_
  refine g_sld (5 * t + 3) C hS (by omega) (by omega) dL_law_616 ?_
  refine g_callV C (c_X8_walkBits _ (hf (5 * t + 1)) (hf (5 * t + 3)) (bI_01 _) hM1 hg.1 hg.2.1) (ci := 10) rfl hM1.o rfl ml_RL_207 im_yX8_walkBits se_RX8_yX8_walkBits in_RX8 co_yX8_walkBits hd_X8_walkBits rfl ⟨by omega, by omega⟩ rfl (Nat.le_of_ble_eq_true rfl) ⟨by omega, by omega⟩ dL_law_617 (fun v617 w617 hp617 => ?_)
  refine g_wf (fun hwf2 => ?_)
  obtain ⟨t2, ans, hv2, hM2, hk2, hcs⟩ := hp617
  subst hv2
  have h02 : 0 ≤ t2 ∧ t2 ≤ 2 := by omega
  have hI2 := inv_ask hwf1 hwf2 hcalm rfl ho hk2 hM2 h02 hg hr
  refine g_istore C dL_law_620 (by decide) rfl ?_
  refine g_goto (tgt := 2213) C dL_law_622 (by decide) ?_
  exact g_drop 5 (g_drop 6 (g_widen (by omega) (by omega) (kk _ hI2)))
set_option maxHeartbeats 4000000 in
set_option maxRecDepth 100000 in
theorem lc_bit {K : KC} {E : GE} {X : XT} {b N : Nat} {f : Nat → Int} {x m o t k n : Nat} {w : Wd} (LX : LawX K E X b N f) (ht : 5 * t + 5 ≤ N) (hI : INV x m o t w) (hk : k + 2000 ≤ 912740) (hn : n + 80000 ≤ 6363261) (kk : ∀ w', INV x m o (t + 1) w' → G E X 7 2213 (LL b x m o t) [] w' (k + 2000) (n + 80000)) : G E X 7 625 (LL b x m o t) [] w k n := by
  obtain ⟨C, hT, hH, hls, ⟨hRf, hRl, hRc, hRs⟩, hS⟩ := LX
  have hf := hS.2.2.2.1
  have hN := hS.2.2.2.2
  obtain ⟨τ, ad, bs, ss, pb, P, Q, ct, A, th, ba, st, pm, le, ri, sp, cm, hC, hM, hx, ho, ⟨n0, s0, hO0⟩, hg, hr⟩ := hI
  subst hx
  refine g_wf (fun hwf => ?_)
  refine g_aload_n C dL_law_625 rfl ?_
  refine g_aload_n C dL_law_626 rfl ?_
  refine g_iload C dL_law_627 rfl ?_
  refine g_iconst C dL_law_629 ?_
  refine g_iadd C dL_law_630 ?_
  refine g_sld (5 * t + 1) C hS (by omega) (by omega) dL_law_631 ?_
  refine g_aload_n C dL_law_632 rfl ?_
  refine g_iload C dL_law_633 rfl ?_
  refine g_iconst C dL_law_635 ?_
  refine g_iadd C dL_law_636 ?_
  refine g_sld (5 * t + 2) C hS (by omega) (by omega) dL_law_637 ?_
  refine g_bool C (hf _) dL_law_638 dL_law_641 dL_law_642 dL_law_645 ?_
  refine g_aload_n C dL_law_646 rfl ?_
  refine g_iload C dL_law_647 rfl ?_
  refine g_iconst C dL_law_649 ?_
  refine g_iadd C dL_law_650 ?_
  refine g_sld (5 * t + 3) C hS (by omega) (by omega) dL_law_651 ?_
  refine g_aload_n C dL_law_652 rfl ?_
  refine x_callH C hT hH (w_L_bit _ hls hC ho hO0 (hf (5 * t + 1)) (bI_01 _) (hf (5 * t + 3))) ml_RL_208 sm_yL_bit in_RL co_yL_bit hd_L_bit rfl ⟨by omega, by omega⟩ rfl (Nat.le_of_ble_eq_true rfl) ⟨by omega, by omega⟩ dL_law_653 (fun v1 w1 hp => ?_)
  refine g_wf (fun hwf1 => ?_)
  obtain ⟨⟨k1, hv1, hk1⟩, hcalm⟩ := a_bit hC ho ⟨n0, s0, hO0⟩ (y := bI (f (5 * t + 2) ≠ 0)) hp
  subst hv1
  have hkm : KM τ w w1 := by
    obtain ⟨_, _, _, _, _, _, q, _⟩ := hcalm
    exact q
  have hM1 := hM.keep hkm.2
  refine g_istore C dL_law_656 (by decide) rfl ?_
  refine g_aload_n C dL_law_658 rfl ?_
  refine g_aload_n C dL_law_659 rfl ?_
  refine g_iload C dL_law_660 rfl ?_
  refine g_iconst C dL_law_662 ?_
  refine g_iadd C dL_law_663 ?_
  refine g_sld (5 * t + 1) C hS (by omega) (by omega) dL_law_664 ?_
  refine g_aload_n C dL_law_665 rfl ?_
  refine g_iload C dL_law_666 rfl ?_
  refine g_iconst C dL_law_668 ?_
  refine g_iadd C dL_law_669 ?_
  refine g_sld (5 * t + 2) C hS (by omega) (by omega) dL_law_670 ?_
  refine g_bool C (hf _) dL_law_671 dL_law_674 dL_law_675 dL_law_678 ?_
  refine g_aload_n C dL_law_679 rfl ?_
  refine g_iload C dL_law_680 rfl ?_
  refine g_iconst C dL_law_682 ?_
  refine g_iadd C dL_law_683 ?_
  refine g_sld (5 * t + 3) C hS (by omega) (by omega) dL_law_684 ?_
  refine g_callV C (c_X8_bit _ (hf (5 * t + 1)) (hf (5 * t + 3)) (bI_01 _) hM1 hg.1 hg.2.1) (ci := 10) rfl hM1.o rfl ml_RL_210 im_yX8_bit se_RX8_yX8_bit in_RX8 co_yX8_bit hd_X8_bit rfl ⟨by omega, by omega⟩ rfl (Nat.le_of_ble_eq_true rfl) ⟨by omega, by omega⟩ dL_law_685 (fun v685 w685 hp685 => ?_)
  refine g_wf (fun hwf2 => ?_)
  obtain ⟨t2, ans, hv2, hM2, hk2, hcs⟩ := hp685
  subst hv2
  have h02 : 0 ≤ t2 ∧ t2 ≤ 2 := by omega
  have hI2 := inv_ask hwf1 hwf2 hcalm rfl ho hk2 hM2 h02 hg hr
  refine g_istore C dL_law_688 (by decide) rfl ?_
  refine g_goto (tgt := 2213) C dL_law_690 (by decide) ?_
  exact g_drop 5 (g_drop 6 (g_widen (by omega) (by omega) (kk _ hI2)))
set_option maxHeartbeats 4000000 in
set_option maxRecDepth 100000 in
theorem lc_isRead {K : KC} {E : GE} {X : XT} {b N : Nat} {f : Nat → Int} {x m o t k n : Nat} {w : Wd} (LX : LawX K E X b N f) (ht : 5 * t + 5 ≤ N) (hI : INV x m o t w) (hk : k + 2000 ≤ 912740) (hn : n + 80000 ≤ 6363261) (kk : ∀ w', INV x m o (t + 1) w' → G E X 7 2213 (LL b x m o t) [] w' (k + 2000) (n + 80000)) : G E X 7 693 (LL b x m o t) [] w k n := by
  obtain ⟨C, hT, hH, hls, ⟨hRf, hRl, hRc, hRs⟩, hS⟩ := LX
  have hf := hS.2.2.2.1
  have hN := hS.2.2.2.2
  obtain ⟨τ, ad, bs, ss, pb, P, Q, ct, A, th, ba, st, pm, le, ri, sp, cm, hC, hM, hx, ho, ⟨n0, s0, hO0⟩, hg, hr⟩ := hI
  subst hx
  refine g_wf (fun hwf => ?_)
  refine g_aload_n C dL_law_693 rfl ?_
  refine g_aload_n C dL_law_694 rfl ?_
  refine g_iload C dL_law_695 rfl ?_
  refine g_iconst C dL_law_697 ?_
  refine g_iadd C dL_law_698 ?_
  refine g_sld (5 * t + 1) C hS (by omega) (by omega) dL_law_699 ?_
  refine g_aload_n C dL_law_700 rfl ?_
  refine g_iload C dL_law_701 rfl ?_
  refine g_iconst C dL_law_703 ?_
  refine g_iadd C dL_law_704 ?_
  refine g_sld (5 * t + 2) C hS (by omega) (by omega) dL_law_705 ?_
  refine g_aload_n C dL_law_706 rfl ?_
  refine x_callH C hT hH (w_L_isRead _ hls hC ho hO0 (hf (5 * t + 1)) (hf (5 * t + 2))) ml_RL_211 sm_yL_isRead in_RL co_yL_isRead hd_L_isRead rfl ⟨by omega, by omega⟩ rfl (Nat.le_of_ble_eq_true rfl) ⟨by omega, by omega⟩ dL_law_707 (fun v1 w1 hp => ?_)
  refine g_wf (fun hwf1 => ?_)
  obtain ⟨⟨k1, hv1, hk1⟩, hcalm⟩ := a_isRead hC ho ⟨n0, s0, hO0⟩ hp
  subst hv1
  have hkm : KM τ w w1 := by
    obtain ⟨_, _, _, _, _, _, q, _⟩ := hcalm
    exact q
  have hM1 := hM.keep hkm.2
  refine g_istore C dL_law_710 (by decide) rfl ?_
  refine g_aload_n C dL_law_712 rfl ?_
  refine g_aload_n C dL_law_713 rfl ?_
  refine g_iload C dL_law_714 rfl ?_
  refine g_iconst C dL_law_716 ?_
  refine g_iadd C dL_law_717 ?_
  refine g_sld (5 * t + 1) C hS (by omega) (by omega) dL_law_718 ?_
  refine g_aload_n C dL_law_719 rfl ?_
  refine g_iload C dL_law_720 rfl ?_
  refine g_iconst C dL_law_722 ?_
  refine g_iadd C dL_law_723 ?_
  refine g_sld (5 * t + 2) C hS (by omega) (by omega) dL_law_724 ?_
  refine g_callV C (c_X8_isRead _ (hf (5 * t + 1)) (hf (5 * t + 2)) hM1) (ci := 10) rfl hM1.o rfl ml_RL_213 im_yX8_isRead se_RX8_yX8_isRead in_RX8 co_yX8_isRead hd_X8_isRead rfl ⟨by omega, by omega⟩ rfl (Nat.le_of_ble_eq_true rfl) ⟨by omega, by omega⟩ dL_law_725 (fun v725 w725 hp725 => ?_)
  refine g_wf (fun hwf2 => ?_)
  obtain ⟨t2, ans, hv2, hM2, hk2, hcs⟩ := hp725
  subst hv2
  have h02 : 0 ≤ t2 ∧ t2 ≤ 2 := by omega
  have hI2 := inv_ask hwf1 hwf2 hcalm rfl ho hk2 hM2 h02 hg hr
  refine g_istore C dL_law_728 (by decide) rfl ?_
  refine g_goto (tgt := 2213) C dL_law_730 (by decide) ?_
  exact g_drop 5 (g_drop 6 (g_widen (by omega) (by omega) (kk _ hI2)))
set_option maxHeartbeats 4000000 in
set_option maxRecDepth 100000 in
theorem lc_isNear {K : KC} {E : GE} {X : XT} {b N : Nat} {f : Nat → Int} {x m o t k n : Nat} {w : Wd} (LX : LawX K E X b N f) (ht : 5 * t + 5 ≤ N) (hI : INV x m o t w) (hk : k + 2000 ≤ 912740) (hn : n + 80000 ≤ 6363261) (kk : ∀ w', INV x m o (t + 1) w' → G E X 7 2213 (LL b x m o t) [] w' (k + 2000) (n + 80000)) : G E X 7 733 (LL b x m o t) [] w k n := by
  obtain ⟨C, hT, hH, hls, ⟨hRf, hRl, hRc, hRs⟩, hS⟩ := LX
  have hf := hS.2.2.2.1
  have hN := hS.2.2.2.2
  obtain ⟨τ, ad, bs, ss, pb, P, Q, ct, A, th, ba, st, pm, le, ri, sp, cm, hC, hM, hx, ho, ⟨n0, s0, hO0⟩, hg, hr⟩ := hI
  subst hx
  refine g_wf (fun hwf => ?_)
  refine g_aload_n C dL_law_733 rfl ?_
  refine g_aload_n C dL_law_734 rfl ?_
  refine g_iload C dL_law_735 rfl ?_
  refine g_iconst C dL_law_737 ?_
  refine g_iadd C dL_law_738 ?_
  refine g_sld (5 * t + 1) C hS (by omega) (by omega) dL_law_739 ?_
  refine g_aload_n C dL_law_740 rfl ?_
  refine g_iload C dL_law_741 rfl ?_
  refine g_iconst C dL_law_743 ?_
  refine g_iadd C dL_law_744 ?_
  refine g_sld (5 * t + 2) C hS (by omega) (by omega) dL_law_745 ?_
  refine g_aload_n C dL_law_746 rfl ?_
  refine x_callH C hT hH (w_L_isNear _ hls hC ho hO0 (hf (5 * t + 1)) (hf (5 * t + 2))) ml_RL_214 sm_yL_isNear in_RL co_yL_isNear hd_L_isNear rfl ⟨by omega, by omega⟩ rfl (Nat.le_of_ble_eq_true rfl) ⟨by omega, by omega⟩ dL_law_747 (fun v1 w1 hp => ?_)
  refine g_wf (fun hwf1 => ?_)
  obtain ⟨⟨k1, hv1, hk1⟩, hcalm⟩ := a_isNear hC ho ⟨n0, s0, hO0⟩ hp
  subst hv1
  have hkm : KM τ w w1 := by
    obtain ⟨_, _, _, _, _, _, q, _⟩ := hcalm
    exact q
  have hM1 := hM.keep hkm.2
  refine g_istore C dL_law_750 (by decide) rfl ?_
  refine g_aload_n C dL_law_752 rfl ?_
  refine g_aload_n C dL_law_753 rfl ?_
  refine g_iload C dL_law_754 rfl ?_
  refine g_iconst C dL_law_756 ?_
  refine g_iadd C dL_law_757 ?_
  refine g_sld (5 * t + 1) C hS (by omega) (by omega) dL_law_758 ?_
  refine g_aload_n C dL_law_759 rfl ?_
  refine g_iload C dL_law_760 rfl ?_
  refine g_iconst C dL_law_762 ?_
  refine g_iadd C dL_law_763 ?_
  refine g_sld (5 * t + 2) C hS (by omega) (by omega) dL_law_764 ?_
  refine g_callV C (c_X8_isNear _ (hf (5 * t + 1)) (hf (5 * t + 2)) hM1 hg.1 hg.2.1) (ci := 10) rfl hM1.o rfl ml_RL_216 im_yX8_isNear se_RX8_yX8_isNear in_RX8 co_yX8_isNear hd_X8_isNear rfl ⟨by omega, by omega⟩ rfl (Nat.le_of_ble_eq_true rfl) ⟨by omega, by omega⟩ dL_law_765 (fun v765 w765 hp765 => ?_)
  refine g_wf (fun hwf2 => ?_)
  obtain ⟨t2, ans, hv2, hM2, hk2, hcs⟩ := hp765
  subst hv2
  have h02 : 0 ≤ t2 ∧ t2 ≤ 2 := by omega
  have hI2 := inv_ask hwf1 hwf2 hcalm rfl ho hk2 hM2 h02 hg hr
  refine g_istore C dL_law_768 (by decide) rfl ?_
  refine g_goto (tgt := 2213) C dL_law_770 (by decide) ?_
  exact g_drop 5 (g_drop 6 (g_widen (by omega) (by omega) (kk _ hI2)))
set_option maxHeartbeats 4000000 in
set_option maxRecDepth 100000 in
theorem lc_decimals {K : KC} {E : GE} {X : XT} {b N : Nat} {f : Nat → Int} {x m o t k n : Nat} {w : Wd} (LX : LawX K E X b N f) (ht : 5 * t + 5 ≤ N) (hI : INV x m o t w) (hk : k + 2000 ≤ 912740) (hn : n + 80000 ≤ 6363261) (kk : ∀ w', INV x m o (t + 1) w' → G E X 7 2213 (LL b x m o t) [] w' (k + 2000) (n + 80000)) : G E X 7 773 (LL b x m o t) [] w k n := by
  obtain ⟨C, hT, hH, hls, ⟨hRf, hRl, hRc, hRs⟩, hS⟩ := LX
  have hf := hS.2.2.2.1
  have hN := hS.2.2.2.2
  obtain ⟨τ, ad, bs, ss, pb, P, Q, ct, A, th, ba, st, pm, le, ri, sp, cm, hC, hM, hx, ho, ⟨n0, s0, hO0⟩, hg, hr⟩ := hI
  subst hx
  refine g_wf (fun hwf => ?_)
  refine g_aload_n C dL_law_773 rfl ?_
  refine g_aload_n C dL_law_774 rfl ?_
  refine g_iload C dL_law_775 rfl ?_
  refine g_iconst C dL_law_777 ?_
  refine g_iadd C dL_law_778 ?_
  refine g_sld (5 * t + 1) C hS (by omega) (by omega) dL_law_779 ?_
  refine g_aload_n C dL_law_780 rfl ?_
  refine g_iload C dL_law_781 rfl ?_
  refine g_iconst C dL_law_783 ?_
  refine g_iadd C dL_law_784 ?_
  refine g_sld (5 * t + 2) C hS (by omega) (by omega) dL_law_785 ?_
  refine g_aload_n C dL_law_786 rfl ?_
  refine x_callH C hT hH (w_L_decimals _ hls hC ho hO0 (hf (5 * t + 1)) (hf (5 * t + 2))) ml_RL_217 sm_yL_decimals in_RL co_yL_decimals hd_L_decimals rfl ⟨by omega, by omega⟩ rfl (Nat.le_of_ble_eq_true rfl) ⟨by omega, by omega⟩ dL_law_787 (fun v1 w1 hp => ?_)
  refine g_wf (fun hwf1 => ?_)
  obtain ⟨⟨k1, hv1, hk1⟩, hcalm⟩ := a_decimals hC ho ⟨n0, s0, hO0⟩ hp
  subst hv1
  have hkm : KM τ w w1 := by
    obtain ⟨_, _, _, _, _, _, q, _⟩ := hcalm
    exact q
  have hM1 := hM.keep hkm.2
  refine g_istore C dL_law_790 (by decide) rfl ?_
  refine g_aload_n C dL_law_792 rfl ?_
  refine g_aload_n C dL_law_793 rfl ?_
  refine g_iload C dL_law_794 rfl ?_
  refine g_iconst C dL_law_796 ?_
  refine g_iadd C dL_law_797 ?_
  refine g_sld (5 * t + 1) C hS (by omega) (by omega) dL_law_798 ?_
  refine g_aload_n C dL_law_799 rfl ?_
  refine g_iload C dL_law_800 rfl ?_
  refine g_iconst C dL_law_802 ?_
  refine g_iadd C dL_law_803 ?_
  refine g_sld (5 * t + 2) C hS (by omega) (by omega) dL_law_804 ?_
  refine t_callV C hT (c_X8_decimals _ (hf (5 * t + 1)) (hf (5 * t + 2)) hM1 hg.1 hg.2.1) (RcV.ob (ci := 10) C rfl hM1.o) rfl ml_RL_219 im_yX8_decimals se_RX8_yX8_decimals in_RX8 co_yX8_decimals hd_X8_decimals rfl ⟨by omega, by omega⟩ rfl (Nat.le_of_ble_eq_true rfl) ⟨by omega, by omega⟩ dL_law_805 (fun v805 w805 hp805 => ?_)
  refine g_wf (fun hwf2 => ?_)
  obtain ⟨t2, s2, hv2, hM2, hk2, h02⟩ := hp805
  subst hv2
  have hI2 := inv_ask hwf1 hwf2 hcalm rfl ho hk2 hM2 h02 hg hr
  refine g_astore C dL_law_808 (by decide) rfl ?_
  refine g_goto (tgt := 2213) C dL_law_810 (by decide) ?_
  exact g_drop 5 (g_drop 6 (g_widen (by omega) (by omega) (kk _ hI2)))
