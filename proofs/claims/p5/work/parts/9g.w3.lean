set_option maxHeartbeats 4000000 in
set_option maxRecDepth 100000 in
theorem lc_mirror {K : KC} {E : GE} {X : XT} {b N : Nat} {f : Nat → Int} {x m o t k n : Nat} {w : Wd} (LX : LawX K E X b N f) (ht : 5 * t + 5 ≤ N) (hI : INV x m o t w) (hk : k + 2000 ≤ 912740) (hn : n + 80000 ≤ 6363261) (kk : ∀ w', INV x m o (t + 1) w' → G E X 7 2213 (LL b x m o t) [] w' (k + 2000) (n + 80000)) : G E X 7 1313 (LL b x m o t) [] w k n := by
  obtain ⟨C, hT, hH, hls, ⟨hRf, hRl, hRc, hRs⟩, hS⟩ := LX
  have hf := hS.2.2.2.1
  have hN := hS.2.2.2.2
  obtain ⟨τ, ad, bs, ss, pb, P, Q, ct, A, th, ba, st, pm, le, ri, sp, cm, hC, hM, hx, ho, ⟨n0, s0, hO0⟩, hg, hr⟩ := hI
  subst hx
  refine g_wf (fun hwf => ?_)
  refine g_aload_n C dL_law_1313 rfl ?_
  refine g_aload_n C dL_law_1314 rfl ?_
  refine g_iload C dL_law_1315 rfl ?_
  refine g_iconst C dL_law_1317 ?_
  refine g_iadd C dL_law_1318 ?_
  refine g_sld (5 * t + 1) C hS (by omega) (by omega) dL_law_1319 ?_
  refine g_aload_n C dL_law_1320 rfl ?_
  refine g_iload C dL_law_1321 rfl ?_
  refine g_iconst C dL_law_1323 ?_
  refine g_iadd C dL_law_1324 ?_
  refine g_sld (5 * t + 2) C hS (by omega) (by omega) dL_law_1325 ?_
  refine g_bool C (hf _) dL_law_1326 dL_law_1329 dL_law_1330 dL_law_1333 ?_
  refine g_aload_n C dL_law_1334 rfl ?_
  refine x_callH C hT hH (w_L_mirror _ hls hC ho hO0 (hf (5 * t + 1)) (bI_01 _)) ml_RL_258 sm_yL_mirror in_RL co_yL_mirror hd_L_mirror rfl ⟨by omega, by omega⟩ rfl (Nat.le_of_ble_eq_true rfl) ⟨by omega, by omega⟩ dL_law_1335 (fun v1 w1 hp => ?_)
  refine g_wf (fun hwf1 => ?_)
  obtain ⟨k1, nv, pb1, ct1, hv1, hOV, hnv, ⟨⟨pb2, hp2, hC1⟩, hkm⟩, hD⟩ := a_mirror hC ho ⟨n0, s0, hO0⟩ hp
  subst hv1
  have hM1 := hM.keep hkm.2
  refine g_istore C dL_law_1338 (by decide) rfl ?_
  refine g_aload_n C dL_law_1340 rfl ?_
  refine g_aload_n C dL_law_1341 rfl ?_
  refine g_iload C dL_law_1342 rfl ?_
  refine g_iconst C dL_law_1344 ?_
  refine g_iadd C dL_law_1345 ?_
  refine g_sld (5 * t + 1) C hS (by omega) (by omega) dL_law_1346 ?_
  refine g_aload_n C dL_law_1347 rfl ?_
  refine g_iload C dL_law_1348 rfl ?_
  refine g_iconst C dL_law_1350 ?_
  refine g_iadd C dL_law_1351 ?_
  refine g_sld (5 * t + 2) C hS (by omega) (by omega) dL_law_1352 ?_
  refine g_bool C (hf _) dL_law_1353 dL_law_1356 dL_law_1357 dL_law_1360 ?_
  refine g_callV C (c_X8_mirror _ (hf (5 * t + 1)) (bI_01 _) hM1 hg.2.2.1) (ci := 10) rfl hM1.o rfl ml_RL_260 im_yX8_mirror se_RX8_yX8_mirror in_RX8 co_yX8_mirror hd_X8_mirror rfl ⟨by omega, by omega⟩ rfl (Nat.le_of_ble_eq_true rfl) ⟨by omega, by omega⟩ dL_law_1361 (fun v1361 w1361 hp1361 => ?_)
  refine g_wf (fun hwf2 => ?_)
  obtain ⟨τ2, A2, t2, pm2, le2, ri2, cm2, ans, hτ2, hv2, hM2, hk2, hcs⟩ := hp1361
  subst hv2
  obtain ⟨hg2, hr2, hkk, hans⟩ := b_mirror hg hr hD hcs
  have hI2 := inv_md hwf1 hwf2 hC1 rfl ho hOV.u hk2 hτ2 hM2 hg2 (rl_pb hp2 hr2)
  refine g_istore C dL_law_1364 (by decide) rfl ?_
  refine g_goto (tgt := 2213) C dL_law_1366 (by decide) ?_
  exact g_drop 5 (g_drop 6 (g_widen (by omega) (by omega) (kk _ hI2)))
set_option maxHeartbeats 4000000 in
set_option maxRecDepth 100000 in
theorem lc_divideBy {K : KC} {E : GE} {X : XT} {b N : Nat} {f : Nat → Int} {x m o t k n : Nat} {w : Wd} (LX : LawX K E X b N f) (ht : 5 * t + 5 ≤ N) (hI : INV x m o t w) (hk : k + 2000 ≤ 912740) (hn : n + 80000 ≤ 6363261) (kk : ∀ w', INV x m o (t + 1) w' → G E X 7 2213 (LL b x m o t) [] w' (k + 2000) (n + 80000)) : G E X 7 1369 (LL b x m o t) [] w k n := by
  obtain ⟨C, hT, hH, hls, ⟨hRf, hRl, hRc, hRs⟩, hS⟩ := LX
  have hf := hS.2.2.2.1
  have hN := hS.2.2.2.2
  obtain ⟨τ, ad, bs, ss, pb, P, Q, ct, A, th, ba, st, pm, le, ri, sp, cm, hC, hM, hx, ho, ⟨n0, s0, hO0⟩, hg, hr⟩ := hI
  subst hx
  refine g_wf (fun hwf => ?_)
  refine g_aload_n C dL_law_1369 rfl ?_
  refine g_aload_n C dL_law_1370 rfl ?_
  refine g_iload C dL_law_1371 rfl ?_
  refine g_iconst C dL_law_1373 ?_
  refine g_iadd C dL_law_1374 ?_
  refine g_sld (5 * t + 1) C hS (by omega) (by omega) dL_law_1375 ?_
  refine g_aload_n C dL_law_1376 rfl ?_
  refine g_iload C dL_law_1377 rfl ?_
  refine g_iconst C dL_law_1379 ?_
  refine g_iadd C dL_law_1380 ?_
  refine g_sld (5 * t + 2) C hS (by omega) (by omega) dL_law_1381 ?_
  refine g_aload_n C dL_law_1382 rfl ?_
  refine x_callH C hT hH (w_L_divideBy _ hls hC ho hO0 (hf (5 * t + 1)) (hf (5 * t + 2))) ml_RL_261 sm_yL_divideBy in_RL co_yL_divideBy hd_L_divideBy rfl ⟨by omega, by omega⟩ rfl (Nat.le_of_ble_eq_true rfl) ⟨by omega, by omega⟩ dL_law_1383 (fun v1 w1 hp => ?_)
  refine g_wf (fun hwf1 => ?_)
  obtain ⟨k1, nv, pb1, ct1, hv1, hOV, hnv, ⟨⟨pb2, hp2, hC1⟩, hkm⟩, hD⟩ := a_divideBy hC ho ⟨n0, s0, hO0⟩ hp
  subst hv1
  have hM1 := hM.keep hkm.2
  refine g_istore C dL_law_1386 (by decide) rfl ?_
  refine g_aload_n C dL_law_1388 rfl ?_
  refine g_aload_n C dL_law_1389 rfl ?_
  refine g_iload C dL_law_1390 rfl ?_
  refine g_iconst C dL_law_1392 ?_
  refine g_iadd C dL_law_1393 ?_
  refine g_sld (5 * t + 1) C hS (by omega) (by omega) dL_law_1394 ?_
  refine g_aload_n C dL_law_1395 rfl ?_
  refine g_iload C dL_law_1396 rfl ?_
  refine g_iconst C dL_law_1398 ?_
  refine g_iadd C dL_law_1399 ?_
  refine g_sld (5 * t + 2) C hS (by omega) (by omega) dL_law_1400 ?_
  refine g_callV C (c_X8_divideBy _ (hf (5 * t + 1)) (hf (5 * t + 2)) hM1 hg.2.2.1) (ci := 10) rfl hM1.o rfl ml_RL_263 im_yX8_divideBy se_RX8_yX8_divideBy in_RX8 co_yX8_divideBy hd_X8_divideBy rfl ⟨by omega, by omega⟩ rfl (Nat.le_of_ble_eq_true rfl) ⟨by omega, by omega⟩ dL_law_1401 (fun v1401 w1401 hp1401 => ?_)
  refine g_wf (fun hwf2 => ?_)
  obtain ⟨τ2, A2, t2, pm2, le2, ri2, cm2, ans, hτ2, hv2, hM2, hk2, hcs⟩ := hp1401
  subst hv2
  obtain ⟨hg2, hr2, hkk, hans⟩ := b_divideBy hg hr hD hcs
  have hI2 := inv_md hwf1 hwf2 hC1 rfl ho hOV.u hk2 hτ2 hM2 hg2 (rl_pb hp2 hr2)
  refine g_istore C dL_law_1404 (by decide) rfl ?_
  refine g_goto (tgt := 2213) C dL_law_1406 (by decide) ?_
  exact g_drop 5 (g_drop 6 (g_widen (by omega) (by omega) (kk _ hI2)))
set_option maxHeartbeats 4000000 in
set_option maxRecDepth 100000 in
theorem lc_pairCopy {K : KC} {E : GE} {X : XT} {b N : Nat} {f : Nat → Int} {x m o t k n : Nat} {w : Wd} (LX : LawX K E X b N f) (ht : 5 * t + 5 ≤ N) (hI : INV x m o t w) (hk : k + 2000 ≤ 912740) (hn : n + 80000 ≤ 6363261) (kk : ∀ w', INV x m o (t + 1) w' → G E X 7 2213 (LL b x m o t) [] w' (k + 2000) (n + 80000)) : G E X 7 1409 (LL b x m o t) [] w k n := by
  obtain ⟨C, hT, hH, hls, ⟨hRf, hRl, hRc, hRs⟩, hS⟩ := LX
  have hf := hS.2.2.2.1
  have hN := hS.2.2.2.2
  obtain ⟨τ, ad, bs, ss, pb, P, Q, ct, A, th, ba, st, pm, le, ri, sp, cm, hC, hM, hx, ho, ⟨n0, s0, hO0⟩, hg, hr⟩ := hI
  subst hx
  refine g_wf (fun hwf => ?_)
  refine g_aload_n C dL_law_1409 rfl ?_
  refine g_aload_n C dL_law_1410 rfl ?_
  refine g_iload C dL_law_1411 rfl ?_
  refine g_iconst C dL_law_1413 ?_
  refine g_iadd C dL_law_1414 ?_
  refine g_sld (5 * t + 1) C hS (by omega) (by omega) dL_law_1415 ?_
  refine g_aload_n C dL_law_1416 rfl ?_
  refine g_iload C dL_law_1417 rfl ?_
  refine g_iconst C dL_law_1419 ?_
  refine g_iadd C dL_law_1420 ?_
  refine g_sld (5 * t + 2) C hS (by omega) (by omega) dL_law_1421 ?_
  refine g_aload_n C dL_law_1422 rfl ?_
  refine x_callH C hT hH (w_L_pairCopy _ hls hC ho hO0 (hf (5 * t + 1)) (hf (5 * t + 2))) ml_RL_264 sm_yL_pairCopy in_RL co_yL_pairCopy hd_L_pairCopy rfl ⟨by omega, by omega⟩ rfl (Nat.le_of_ble_eq_true rfl) ⟨by omega, by omega⟩ dL_law_1423 (fun v1 w1 hp => ?_)
  refine g_wf (fun hwf1 => ?_)
  obtain ⟨k1, nv, pb1, ct1, hv1, hOV, hnv, ⟨⟨pb2, hp2, hC1⟩, hkm⟩, hD⟩ := a_pairCopy hC ho ⟨n0, s0, hO0⟩ hp
  subst hv1
  have hM1 := hM.keep hkm.2
  refine g_istore C dL_law_1426 (by decide) rfl ?_
  refine g_aload_n C dL_law_1428 rfl ?_
  refine g_aload_n C dL_law_1429 rfl ?_
  refine g_iload C dL_law_1430 rfl ?_
  refine g_iconst C dL_law_1432 ?_
  refine g_iadd C dL_law_1433 ?_
  refine g_sld (5 * t + 1) C hS (by omega) (by omega) dL_law_1434 ?_
  refine g_aload_n C dL_law_1435 rfl ?_
  refine g_iload C dL_law_1436 rfl ?_
  refine g_iconst C dL_law_1438 ?_
  refine g_iadd C dL_law_1439 ?_
  refine g_sld (5 * t + 2) C hS (by omega) (by omega) dL_law_1440 ?_
  refine g_callV C (c_X8_pairCopy _ (hf (5 * t + 1)) (hf (5 * t + 2)) hM1 hg.2.2.1) (ci := 10) rfl hM1.o rfl ml_RL_266 im_yX8_pairCopy se_RX8_yX8_pairCopy in_RX8 co_yX8_pairCopy hd_X8_pairCopy rfl ⟨by omega, by omega⟩ rfl (Nat.le_of_ble_eq_true rfl) ⟨by omega, by omega⟩ dL_law_1441 (fun v1441 w1441 hp1441 => ?_)
  refine g_wf (fun hwf2 => ?_)
  obtain ⟨τ2, A2, t2, pm2, le2, ri2, cm2, ans, hτ2, hv2, hM2, hk2, hcs⟩ := hp1441
  subst hv2
  obtain ⟨hg2, hr2, hkk, hans⟩ := b_pairCopy hg hr hD hcs
  have hI2 := inv_md hwf1 hwf2 hC1 rfl ho hOV.u hk2 hτ2 hM2 hg2 (rl_pb hp2 hr2)
  refine g_istore C dL_law_1444 (by decide) rfl ?_
  refine g_goto (tgt := 2213) C dL_law_1446 (by decide) ?_
  exact g_drop 5 (g_drop 6 (g_widen (by omega) (by omega) (kk _ hI2)))
set_option maxHeartbeats 4000000 in
set_option maxRecDepth 100000 in
theorem lc_pairBase {K : KC} {E : GE} {X : XT} {b N : Nat} {f : Nat → Int} {x m o t k n : Nat} {w : Wd} (LX : LawX K E X b N f) (ht : 5 * t + 5 ≤ N) (hI : INV x m o t w) (hk : k + 2000 ≤ 912740) (hn : n + 80000 ≤ 6363261) (kk : ∀ w', INV x m o (t + 1) w' → G E X 7 2213 (LL b x m o t) [] w' (k + 2000) (n + 80000)) : G E X 7 1449 (LL b x m o t) [] w k n := by
  obtain ⟨C, hT, hH, hls, ⟨hRf, hRl, hRc, hRs⟩, hS⟩ := LX
  have hf := hS.2.2.2.1
  have hN := hS.2.2.2.2
  obtain ⟨τ, ad, bs, ss, pb, P, Q, ct, A, th, ba, st, pm, le, ri, sp, cm, hC, hM, hx, ho, ⟨n0, s0, hO0⟩, hg, hr⟩ := hI
  subst hx
  refine g_wf (fun hwf => ?_)
  refine g_aload_n C dL_law_1449 rfl ?_
  refine g_aload_n C dL_law_1450 rfl ?_
  refine g_iload C dL_law_1451 rfl ?_
  refine g_iconst C dL_law_1453 ?_
  refine g_iadd C dL_law_1454 ?_
  refine g_sld (5 * t + 1) C hS (by omega) (by omega) dL_law_1455 ?_
  refine g_aload_n C dL_law_1456 rfl ?_
  refine x_callH C hT hH (w_L_pairBase _ hls hC ho hO0 (hf (5 * t + 1))) ml_RL_267 sm_yL_pairBase in_RL co_yL_pairBase hd_L_pairBase rfl ⟨by omega, by omega⟩ rfl (Nat.le_of_ble_eq_true rfl) ⟨by omega, by omega⟩ dL_law_1457 (fun v1 w1 hp => ?_)
  refine g_wf (fun hwf1 => ?_)
  obtain ⟨⟨k1, hv1, hk1⟩, hcalm⟩ := a_pairBase hC ho ⟨n0, s0, hO0⟩ hp
  subst hv1
  have hkm : KM τ w w1 := by
    obtain ⟨_, _, _, _, _, _, q, _⟩ := hcalm
    exact q
  have hM1 := hM.keep hkm.2
  refine g_istore C dL_law_1460 (by decide) rfl ?_
  refine g_aload_n C dL_law_1462 rfl ?_
  refine g_aload_n C dL_law_1463 rfl ?_
  refine g_iload C dL_law_1464 rfl ?_
  refine g_iconst C dL_law_1466 ?_
  refine g_iadd C dL_law_1467 ?_
  refine g_sld (5 * t + 1) C hS (by omega) (by omega) dL_law_1468 ?_
  refine g_callV C (c_X8_pairBase _ (hf (5 * t + 1)) hM1) (ci := 10) rfl hM1.o rfl ml_RL_269 im_yX8_pairBase se_RX8_yX8_pairBase in_RX8 co_yX8_pairBase hd_X8_pairBase rfl ⟨by omega, by omega⟩ rfl (Nat.le_of_ble_eq_true rfl) ⟨by omega, by omega⟩ dL_law_1469 (fun v1469 w1469 hp1469 => ?_)
  refine g_wf (fun hwf2 => ?_)
  obtain ⟨t2, ans, hv2, hM2, hk2, hcs⟩ := hp1469
  subst hv2
  have h02 : 0 ≤ t2 ∧ t2 ≤ 2 := by omega
  have hI2 := inv_ask hwf1 hwf2 hcalm rfl ho hk2 hM2 h02 hg hr
  refine g_istore C dL_law_1472 (by decide) rfl ?_
  refine g_goto (tgt := 2213) C dL_law_1474 (by decide) ?_
  exact g_drop 5 (g_drop 6 (g_widen (by omega) (by omega) (kk _ hI2)))
set_option maxHeartbeats 4000000 in
set_option maxRecDepth 100000 in
theorem lc_pairText {K : KC} {E : GE} {X : XT} {b N : Nat} {f : Nat → Int} {x m o t k n : Nat} {w : Wd} (LX : LawX K E X b N f) (ht : 5 * t + 5 ≤ N) (hI : INV x m o t w) (hk : k + 2000 ≤ 912740) (hn : n + 80000 ≤ 6363261) (kk : ∀ w', INV x m o (t + 1) w' → G E X 7 2213 (LL b x m o t) [] w' (k + 2000) (n + 80000)) : G E X 7 1477 (LL b x m o t) [] w k n := by
  obtain ⟨C, hT, hH, hls, ⟨hRf, hRl, hRc, hRs⟩, hS⟩ := LX
  have hf := hS.2.2.2.1
  have hN := hS.2.2.2.2
  obtain ⟨τ, ad, bs, ss, pb, P, Q, ct, A, th, ba, st, pm, le, ri, sp, cm, hC, hM, hx, ho, ⟨n0, s0, hO0⟩, hg, hr⟩ := hI
  subst hx
  refine g_wf (fun hwf => ?_)
  refine g_aload_n C dL_law_1477 rfl ?_
  refine g_aload_n C dL_law_1478 rfl ?_
  refine g_iload C dL_law_1479 rfl ?_
  refine g_iconst C dL_law_1481 ?_
  refine g_iadd C dL_law_1482 ?_
  refine g_sld (5 * t + 1) C hS (by omega) (by omega) dL_law_1483 ?_
  refine g_aload_n C dL_law_1484 rfl ?_
  refine g_iload C dL_law_1485 rfl ?_
  refine g_iconst C dL_law_1487 ?_
  refine g_iadd C dL_law_1488 ?_
  refine g_sld (5 * t + 2) C hS (by omega) (by omega) dL_law_1489 ?_
  refine g_bool C (hf _) dL_law_1490 dL_law_1493 dL_law_1494 dL_law_1497 ?_
  refine g_aload_n C dL_law_1498 rfl ?_
  refine x_callH C hT hH (w_L_pairText _ hls hC ho hO0 (hf (5 * t + 1)) (bI_01 _)) ml_RL_270 sm_yL_pairText in_RL co_yL_pairText hd_L_pairText rfl ⟨by omega, by omega⟩ rfl (Nat.le_of_ble_eq_true rfl) ⟨by omega, by omega⟩ dL_law_1499 (fun v1 w1 hp => ?_)
  refine g_wf (fun hwf1 => ?_)
  obtain ⟨⟨k1, hv1, hk1⟩, hcalm⟩ := a_pairText hC ho ⟨n0, s0, hO0⟩ (y := bI (f (5 * t + 2) ≠ 0)) hp
  subst hv1
  have hkm : KM τ w w1 := by
    obtain ⟨_, _, _, _, _, _, q, _⟩ := hcalm
    exact q
  have hM1 := hM.keep hkm.2
  refine g_istore C dL_law_1502 (by decide) rfl ?_
  refine g_aload_n C dL_law_1504 rfl ?_
  refine g_aload_n C dL_law_1505 rfl ?_
  refine g_iload C dL_law_1506 rfl ?_
  refine g_iconst C dL_law_1508 ?_
  refine g_iadd C dL_law_1509 ?_
  refine g_sld (5 * t + 1) C hS (by omega) (by omega) dL_law_1510 ?_
  refine g_aload_n C dL_law_1511 rfl ?_
  refine g_iload C dL_law_1512 rfl ?_
  refine g_iconst C dL_law_1514 ?_
  refine g_iadd C dL_law_1515 ?_
  refine g_sld (5 * t + 2) C hS (by omega) (by omega) dL_law_1516 ?_
  refine g_bool C (hf _) dL_law_1517 dL_law_1520 dL_law_1521 dL_law_1524 ?_
  refine t_callV C hT (c_X8_pairText _ (hf (5 * t + 1)) (bI_01 _) hM1) (RcV.ob (ci := 10) C rfl hM1.o) rfl ml_RL_272 im_yX8_pairText se_RX8_yX8_pairText in_RX8 co_yX8_pairText hd_X8_pairText rfl ⟨by omega, by omega⟩ rfl (Nat.le_of_ble_eq_true rfl) ⟨by omega, by omega⟩ dL_law_1525 (fun v1525 w1525 hp1525 => ?_)
  refine g_wf (fun hwf2 => ?_)
  obtain ⟨t2, s2, hv2, hM2, hk2, h02⟩ := hp1525
  subst hv2
  have hI2 := inv_ask hwf1 hwf2 hcalm rfl ho hk2 hM2 h02 hg hr
  refine g_astore C dL_law_1528 (by decide) rfl ?_
  refine g_goto (tgt := 2213) C dL_law_1530 (by decide) ?_
  exact g_drop 5 (g_drop 6 (g_widen (by omega) (by omega) (kk _ hI2)))
set_option maxHeartbeats 4000000 in
set_option maxRecDepth 100000 in
theorem lc_pairNorm {K : KC} {E : GE} {X : XT} {b N : Nat} {f : Nat → Int} {x m o t k n : Nat} {w : Wd} (LX : LawX K E X b N f) (ht : 5 * t + 5 ≤ N) (hI : INV x m o t w) (hk : k + 2000 ≤ 912740) (hn : n + 80000 ≤ 6363261) (kk : ∀ w', INV x m o (t + 1) w' → G E X 7 2213 (LL b x m o t) [] w' (k + 2000) (n + 80000)) : G E X 7 1533 (LL b x m o t) [] w k n := by
  obtain ⟨C, hT, hH, hls, ⟨hRf, hRl, hRc, hRs⟩, hS⟩ := LX
  have hf := hS.2.2.2.1
  have hN := hS.2.2.2.2
  obtain ⟨τ, ad, bs, ss, pb, P, Q, ct, A, th, ba, st, pm, le, ri, sp, cm, hC, hM, hx, ho, ⟨n0, s0, hO0⟩, hg, hr⟩ := hI
  subst hx
  refine g_wf (fun hwf => ?_)
  refine g_aload_n C dL_law_1533 rfl ?_
  refine g_aload_n C dL_law_1534 rfl ?_
  refine g_iload C dL_law_1535 rfl ?_
  refine g_iconst C dL_law_1537 ?_
  refine g_iadd C dL_law_1538 ?_
  refine g_sld (5 * t + 1) C hS (by omega) (by omega) dL_law_1539 ?_
  refine g_aload_n C dL_law_1540 rfl ?_
  refine x_callH C hT hH (w_L_pairNorm _ hls hC ho hO0 (hf (5 * t + 1))) ml_RL_273 sm_yL_pairNorm in_RL co_yL_pairNorm hd_L_pairNorm rfl ⟨by omega, by omega⟩ rfl (Nat.le_of_ble_eq_true rfl) ⟨by omega, by omega⟩ dL_law_1541 (fun v1 w1 hp => ?_)
  refine g_wf (fun hwf1 => ?_)
  obtain ⟨⟨k1, hv1, hk1⟩, hcalm⟩ := a_pairNorm hC ho ⟨n0, s0, hO0⟩ hp
  subst hv1
  have hkm : KM τ w w1 := by
    obtain ⟨_, _, _, _, _, _, q, _⟩ := hcalm
    exact q
  have hM1 := hM.keep hkm.2
  refine g_istore C dL_law_1544 (by decide) rfl ?_
  refine g_aload_n C dL_law_1546 rfl ?_
  refine g_aload_n C dL_law_1547 rfl ?_
  refine g_iload C dL_law_1548 rfl ?_
  refine g_iconst C dL_law_1550 ?_
  refine g_iadd C dL_law_1551 ?_
  refine g_sld (5 * t + 1) C hS (by omega) (by omega) dL_law_1552 ?_
  refine t_callV C hT (c_X8_pairNorm _ (hf (5 * t + 1)) hM1 hg.2.2.1) (RcV.ob (ci := 10) C rfl hM1.o) rfl ml_RL_275 im_yX8_pairNorm se_RX8_yX8_pairNorm in_RX8 co_yX8_pairNorm hd_X8_pairNorm rfl ⟨by omega, by omega⟩ rfl (Nat.le_of_ble_eq_true rfl) ⟨by omega, by omega⟩ dL_law_1553 (fun v1553 w1553 hp1553 => ?_)
  refine g_wf (fun hwf2 => ?_)
  obtain ⟨t2, s2, hv2, hM2, hk2, h02⟩ := hp1553
  subst hv2
  have hI2 := inv_ask hwf1 hwf2 hcalm rfl ho hk2 hM2 h02 hg hr
  refine g_astore C dL_law_1556 (by decide) rfl ?_
  refine g_goto (tgt := 2213) C dL_law_1558 (by decide) ?_
  exact g_drop 5 (g_drop 6 (g_widen (by omega) (by omega) (kk _ hI2)))
set_option maxHeartbeats 4000000 in
set_option maxRecDepth 100000 in
theorem lc_pairBits {K : KC} {E : GE} {X : XT} {b N : Nat} {f : Nat → Int} {x m o t k n : Nat} {w : Wd} (LX : LawX K E X b N f) (ht : 5 * t + 5 ≤ N) (hI : INV x m o t w) (hk : k + 2000 ≤ 912740) (hn : n + 80000 ≤ 6363261) (kk : ∀ w', INV x m o (t + 1) w' → G E X 7 2213 (LL b x m o t) [] w' (k + 2000) (n + 80000)) : G E X 7 1561 (LL b x m o t) [] w k n := by
  obtain ⟨C, hT, hH, hls, ⟨hRf, hRl, hRc, hRs⟩, hS⟩ := LX
  have hf := hS.2.2.2.1
  have hN := hS.2.2.2.2
  obtain ⟨τ, ad, bs, ss, pb, P, Q, ct, A, th, ba, st, pm, le, ri, sp, cm, hC, hM, hx, ho, ⟨n0, s0, hO0⟩, hg, hr⟩ := hI
  subst hx
  refine g_wf (fun hwf => ?_)
  refine g_aload_n C dL_law_1561 rfl ?_
  refine g_aload_n C dL_law_1562 rfl ?_
  refine g_iload C dL_law_1563 rfl ?_
  refine g_iconst C dL_law_1565 ?_
  refine g_iadd C dL_law_1566 ?_
  refine g_sld (5 * t + 1) C hS (by omega) (by omega) dL_law_1567 ?_
  refine g_aload_n C dL_law_1568 rfl ?_
  refine g_iload C dL_law_1569 rfl ?_
  refine g_iconst C dL_law_1571 ?_
  refine g_iadd C dL_law_1572 ?_
  refine g_sld (5 * t + 2) C hS (by omega) (by omega) dL_law_1573 ?_
  refine g_bool C (hf _) dL_law_1574 dL_law_1577 dL_law_1578 dL_law_1581 ?_
  refine g_aload_n C dL_law_1582 rfl ?_
  refine g_iload C dL_law_1583 rfl ?_
  refine g_iconst C dL_law_1585 ?_
  refine g_iadd C dL_law_1586 ?_
  refine g_sld (5 * t + 3) C hS (by omega) (by omega) dL_law_1587 ?_
  refine g_aload_n C dL_law_1588 rfl ?_
  refine x_callH C hT hH (w_L_pairBits _ hls hC ho hO0 (hf (5 * t + 1)) (bI_01 _) (hf (5 * t + 3))) ml_RL_276 sm_yL_pairBits in_RL co_yL_pairBits hd_L_pairBits rfl ⟨by omega, by omega⟩ rfl (Nat.le_of_ble_eq_true rfl) ⟨by omega, by omega⟩ dL_law_1589 (fun v1 w1 hp => ?_)
  refine g_wf (fun hwf1 => ?_)
  obtain ⟨⟨k1, hv1, hk1⟩, hcalm⟩ := a_pairBits hC ho ⟨n0, s0, hO0⟩ (y := bI (f (5 * t + 2) ≠ 0)) hp
  subst hv1
  have hkm : KM τ w w1 := by
    obtain ⟨_, _, _, _, _, _, q, _⟩ := hcalm
    exact q
  have hM1 := hM.keep hkm.2
  refine g_istore C dL_law_1592 (by decide) rfl ?_
  refine g_aload_n C dL_law_1594 rfl ?_
  refine g_aload_n C dL_law_1595 rfl ?_
  refine g_iload C dL_law_1596 rfl ?_
  refine g_iconst C dL_law_1598 ?_
  refine g_iadd C dL_law_1599 ?_
  refine g_sld (5 * t + 1) C hS (by omega) (by omega) dL_law_1600 ?_
  refine g_aload_n C dL_law_1601 rfl ?_
  refine g_iload C dL_law_1602 rfl ?_
  refine g_iconst C dL_law_1604 ?_
  refine g_iadd C dL_law_1605 ?_
  refine g_sld (5 * t + 2) C hS (by omega) (by omega) dL_law_1606 ?_
  refine g_bool C (hf _) dL_law_1607 dL_law_1610 dL_law_1611 dL_law_1614 ?_
  refine g_aload_n C dL_law_1615 rfl ?_
  refine g_iload C dL_law_1616 rfl ?_
  refine g_iconst C dL_law_1618 ?_
  refine g_iadd C dL_law_1619 ?_
  refine g_sld (5 * t + 3) C hS (by omega) (by omega) dL_law_1620 ?_
  refine g_callV C (c_X8_pairBits _ (hf (5 * t + 1)) (hf (5 * t + 3)) (bI_01 _) hM1) (ci := 10) rfl hM1.o rfl ml_RL_278 im_yX8_pairBits se_RX8_yX8_pairBits in_RX8 co_yX8_pairBits hd_X8_pairBits rfl ⟨by omega, by omega⟩ rfl (Nat.le_of_ble_eq_true rfl) ⟨by omega, by omega⟩ dL_law_1621 (fun v1621 w1621 hp1621 => ?_)
  refine g_wf (fun hwf2 => ?_)
  obtain ⟨t2, ans, hv2, hM2, hk2, hcs⟩ := hp1621
  subst hv2
  have h02 : 0 ≤ t2 ∧ t2 ≤ 2 := by omega
  have hI2 := inv_ask hwf1 hwf2 hcalm rfl ho hk2 hM2 h02 hg hr
  refine g_istore C dL_law_1624 (by decide) rfl ?_
  refine g_goto (tgt := 2213) C dL_law_1626 (by decide) ?_
  exact g_drop 5 (g_drop 6 (g_widen (by omega) (by omega) (kk _ hI2)))
set_option maxHeartbeats 4000000 in
set_option maxRecDepth 100000 in
theorem lc_rank {K : KC} {E : GE} {X : XT} {b N : Nat} {f : Nat → Int} {x m o t k n : Nat} {w : Wd} (LX : LawX K E X b N f) (ht : 5 * t + 5 ≤ N) (hI : INV x m o t w) (hk : k + 2000 ≤ 912740) (hn : n + 80000 ≤ 6363261) (kk : ∀ w', INV x m o (t + 1) w' → G E X 7 2213 (LL b x m o t) [] w' (k + 2000) (n + 80000)) : G E X 7 1629 (LL b x m o t) [] w k n := by
  obtain ⟨C, hT, hH, hls, ⟨hRf, hRl, hRc, hRs⟩, hS⟩ := LX
  have hf := hS.2.2.2.1
  have hN := hS.2.2.2.2
  obtain ⟨τ, ad, bs, ss, pb, P, Q, ct, A, th, ba, st, pm, le, ri, sp, cm, hC, hM, hx, ho, ⟨n0, s0, hO0⟩, hg, hr⟩ := hI
  subst hx
  refine g_wf (fun hwf => ?_)
  refine g_aload_n C dL_law_1629 rfl ?_
  refine g_aload_n C dL_law_1630 rfl ?_
  refine g_iload C dL_law_1631 rfl ?_
  refine g_iconst C dL_law_1633 ?_
  refine g_iadd C dL_law_1634 ?_
  refine g_sld (5 * t + 1) C hS (by omega) (by omega) dL_law_1635 ?_
  refine g_aload_n C dL_law_1636 rfl ?_
  refine x_callH C hT hH (w_L_rank _ hls hC ho hO0 (hf (5 * t + 1))) ml_RL_279 sm_yL_rank in_RL co_yL_rank hd_L_rank rfl ⟨by omega, by omega⟩ rfl (Nat.le_of_ble_eq_true rfl) ⟨by omega, by omega⟩ dL_law_1637 (fun v1 w1 hp => ?_)
  refine g_wf (fun hwf1 => ?_)
  obtain ⟨⟨k1, hv1, hk1⟩, hcalm⟩ := a_rank hC ho ⟨n0, s0, hO0⟩ hp
  subst hv1
  have hkm : KM τ w w1 := by
    obtain ⟨_, _, _, _, _, _, q, _⟩ := hcalm
    exact q
  have hM1 := hM.keep hkm.2
  refine g_istore C dL_law_1640 (by decide) rfl ?_
  refine g_aload_n C dL_law_1642 rfl ?_
  refine g_aload_n C dL_law_1643 rfl ?_
  refine g_iload C dL_law_1644 rfl ?_
  refine g_iconst C dL_law_1646 ?_
  refine g_iadd C dL_law_1647 ?_
  refine g_sld (5 * t + 1) C hS (by omega) (by omega) dL_law_1648 ?_
  refine g_callV C (c_X8_rank _ (hf (5 * t + 1)) hM1 hg.2.2.1) (ci := 10) rfl hM1.o rfl ml_RL_281 im_yX8_rank se_RX8_yX8_rank in_RX8 co_yX8_rank hd_X8_rank rfl ⟨by omega, by omega⟩ rfl (Nat.le_of_ble_eq_true rfl) ⟨by omega, by omega⟩ dL_law_1649 (fun v1649 w1649 hp1649 => ?_)
  refine g_wf (fun hwf2 => ?_)
  obtain ⟨t2, ans, hv2, hM2, hk2, hcs⟩ := hp1649
  subst hv2
  have h02 : 0 ≤ t2 ∧ t2 ≤ 2 := by omega
  have hI2 := inv_ask hwf1 hwf2 hcalm rfl ho hk2 hM2 h02 hg hr
  refine g_istore C dL_law_1652 (by decide) rfl ?_
  refine g_goto (tgt := 2213) C dL_law_1654 (by decide) ?_
  exact g_drop 5 (g_drop 6 (g_widen (by omega) (by omega) (kk _ hI2)))
set_option maxHeartbeats 4000000 in
set_option maxRecDepth 100000 in
theorem lc_order {K : KC} {E : GE} {X : XT} {b N : Nat} {f : Nat → Int} {x m o t k n : Nat} {w : Wd} (LX : LawX K E X b N f) (ht : 5 * t + 5 ≤ N) (hI : INV x m o t w) (hk : k + 2000 ≤ 912740) (hn : n + 80000 ≤ 6363261) (kk : ∀ w', INV x m o (t + 1) w' → G E X 7 2213 (LL b x m o t) [] w' (k + 2000) (n + 80000)) : G E X 7 1657 (LL b x m o t) [] w k n := by
  obtain ⟨C, hT, hH, hls, ⟨hRf, hRl, hRc, hRs⟩, hS⟩ := LX
  have hf := hS.2.2.2.1
  have hN := hS.2.2.2.2
  obtain ⟨τ, ad, bs, ss, pb, P, Q, ct, A, th, ba, st, pm, le, ri, sp, cm, hC, hM, hx, ho, ⟨n0, s0, hO0⟩, hg, hr⟩ := hI
  subst hx
  refine g_wf (fun hwf => ?_)
  refine g_aload_n C dL_law_1657 rfl ?_
  refine g_aload_n C dL_law_1658 rfl ?_
  refine g_iload C dL_law_1659 rfl ?_
  refine g_iconst C dL_law_1661 ?_
  refine g_iadd C dL_law_1662 ?_
  refine g_sld (5 * t + 1) C hS (by omega) (by omega) dL_law_1663 ?_
  refine g_aload_n C dL_law_1664 rfl ?_
  refine g_iload C dL_law_1665 rfl ?_
  refine g_iconst C dL_law_1667 ?_
  refine g_iadd C dL_law_1668 ?_
  refine g_sld (5 * t + 2) C hS (by omega) (by omega) dL_law_1669 ?_
  refine g_aload_n C dL_law_1670 rfl ?_
  refine g_iload C dL_law_1671 rfl ?_
  refine g_iconst C dL_law_1673 ?_
  refine g_iadd C dL_law_1674 ?_
  refine g_sld (5 * t + 3) C hS (by omega) (by omega) dL_law_1675 ?_
  refine g_bool C (hf _) dL_law_1676 dL_law_1679 dL_law_1680 dL_law_1683 ?_
  refine g_aload_n C dL_law_1684 rfl ?_
  refine x_callH C hT hH (w_L_order _ hls hC ho hO0 (hf (5 * t + 1)) (hf (5 * t + 2)) (bI_01 _)) ml_RL_282 sm_yL_order in_RL co_yL_order hd_L_order rfl ⟨by omega, by omega⟩ rfl (Nat.le_of_ble_eq_true rfl) ⟨by omega, by omega⟩ dL_law_1685 (fun v1 w1 hp => ?_)
  refine g_wf (fun hwf1 => ?_)
  obtain ⟨⟨k1, hv1, hk1⟩, hcalm⟩ := a_order hC ho ⟨n0, s0, hO0⟩ (y := bI (f (5 * t + 3) ≠ 0)) hp
  subst hv1
  have hkm : KM τ w w1 := by
    obtain ⟨_, _, _, _, _, _, q, _⟩ := hcalm
    exact q
  have hM1 := hM.keep hkm.2
  refine g_istore C dL_law_1688 (by decide) rfl ?_
  refine g_aload_n C dL_law_1690 rfl ?_
  refine g_aload_n C dL_law_1691 rfl ?_
  refine g_iload C dL_law_1692 rfl ?_
  refine g_iconst C dL_law_1694 ?_
  refine g_iadd C dL_law_1695 ?_
  refine g_sld (5 * t + 1) C hS (by omega) (by omega) dL_law_1696 ?_
  refine g_aload_n C dL_law_1697 rfl ?_
  refine g_iload C dL_law_1698 rfl ?_
  refine g_iconst C dL_law_1700 ?_
  refine g_iadd C dL_law_1701 ?_
  refine g_sld (5 * t + 2) C hS (by omega) (by omega) dL_law_1702 ?_
  refine g_aload_n C dL_law_1703 rfl ?_
  refine g_iload C dL_law_1704 rfl ?_
  refine g_iconst C dL_law_1706 ?_
  refine g_iadd C dL_law_1707 ?_
  refine g_sld (5 * t + 3) C hS (by omega) (by omega) dL_law_1708 ?_
  refine g_bool C (hf _) dL_law_1709 dL_law_1712 dL_law_1713 dL_law_1716 ?_
  refine g_callV C (c_X8_order _ (hf (5 * t + 1)) (hf (5 * t + 2)) (bI_01 _) hM1) (ci := 10) rfl hM1.o rfl ml_RL_285 im_yX8_order se_RX8_yX8_order in_RX8 co_yX8_order hd_X8_order rfl ⟨by omega, by omega⟩ rfl (Nat.le_of_ble_eq_true rfl) ⟨by omega, by omega⟩ dL_law_1717 (fun v1717 w1717 hp1717 => ?_)
  refine g_wf (fun hwf2 => ?_)
  obtain ⟨t2, ans, hv2, hM2, hk2, hcs⟩ := hp1717
  subst hv2
  have h02 : 0 ≤ t2 ∧ t2 ≤ 2 := by omega
  have hI2 := inv_ask hwf1 hwf2 hcalm rfl ho hk2 hM2 h02 hg hr
  refine g_istore C dL_law_1720 (by decide) rfl ?_
  refine g_goto (tgt := 2213) C dL_law_1722 (by decide) ?_
  exact g_drop 5 (g_drop 6 (g_widen (by omega) (by omega) (kk _ hI2)))
set_option maxHeartbeats 4000000 in
set_option maxRecDepth 100000 in
theorem lc_isSame {K : KC} {E : GE} {X : XT} {b N : Nat} {f : Nat → Int} {x m o t k n : Nat} {w : Wd} (LX : LawX K E X b N f) (ht : 5 * t + 5 ≤ N) (hI : INV x m o t w) (hk : k + 2000 ≤ 912740) (hn : n + 80000 ≤ 6363261) (kk : ∀ w', INV x m o (t + 1) w' → G E X 7 2213 (LL b x m o t) [] w' (k + 2000) (n + 80000)) : G E X 7 1725 (LL b x m o t) [] w k n := by
  obtain ⟨C, hT, hH, hls, ⟨hRf, hRl, hRc, hRs⟩, hS⟩ := LX
  have hf := hS.2.2.2.1
  have hN := hS.2.2.2.2
  obtain ⟨τ, ad, bs, ss, pb, P, Q, ct, A, th, ba, st, pm, le, ri, sp, cm, hC, hM, hx, ho, ⟨n0, s0, hO0⟩, hg, hr⟩ := hI
  subst hx
  refine g_wf (fun hwf => ?_)
  refine g_aload_n C dL_law_1725 rfl ?_
  refine g_aload_n C dL_law_1726 rfl ?_
  refine g_iload C dL_law_1727 rfl ?_
  refine g_iconst C dL_law_1729 ?_
  refine g_iadd C dL_law_1730 ?_
  refine g_sld (5 * t + 1) C hS (by omega) (by omega) dL_law_1731 ?_
  refine g_aload_n C dL_law_1732 rfl ?_
  refine g_iload C dL_law_1733 rfl ?_
  refine g_iconst C dL_law_1735 ?_
  refine g_iadd C dL_law_1736 ?_
  refine g_sld (5 * t + 2) C hS (by omega) (by omega) dL_law_1737 ?_
  refine g_aload_n C dL_law_1738 rfl ?_
  refine x_callH C hT hH (w_L_isSame _ hls hC ho hO0 (hf (5 * t + 1)) (hf (5 * t + 2))) ml_RL_286 sm_yL_isSame in_RL co_yL_isSame hd_L_isSame rfl ⟨by omega, by omega⟩ rfl (Nat.le_of_ble_eq_true rfl) ⟨by omega, by omega⟩ dL_law_1739 (fun v1 w1 hp => ?_)
  refine g_wf (fun hwf1 => ?_)
  obtain ⟨⟨k1, hv1, hk1⟩, hcalm⟩ := a_isSame hC ho ⟨n0, s0, hO0⟩ hp
  subst hv1
  have hkm : KM τ w w1 := by
    obtain ⟨_, _, _, _, _, _, q, _⟩ := hcalm
    exact q
  have hM1 := hM.keep hkm.2
  refine g_istore C dL_law_1742 (by decide) rfl ?_
  refine g_aload_n C dL_law_1744 rfl ?_
  refine g_aload_n C dL_law_1745 rfl ?_
  refine g_iload C dL_law_1746 rfl ?_
  refine g_iconst C dL_law_1748 ?_
  refine g_iadd C dL_law_1749 ?_
  refine g_sld (5 * t + 1) C hS (by omega) (by omega) dL_law_1750 ?_
  refine g_aload_n C dL_law_1751 rfl ?_
  refine g_iload C dL_law_1752 rfl ?_
  refine g_iconst C dL_law_1754 ?_
  refine g_iadd C dL_law_1755 ?_
  refine g_sld (5 * t + 2) C hS (by omega) (by omega) dL_law_1756 ?_
  refine g_callV C (c_X8_isSame _ (hf (5 * t + 1)) (hf (5 * t + 2)) hM1 hg.2.2.1) (ci := 10) rfl hM1.o rfl ml_RL_288 im_yX8_isSame se_RX8_yX8_isSame in_RX8 co_yX8_isSame hd_X8_isSame rfl ⟨by omega, by omega⟩ rfl (Nat.le_of_ble_eq_true rfl) ⟨by omega, by omega⟩ dL_law_1757 (fun v1757 w1757 hp1757 => ?_)
  refine g_wf (fun hwf2 => ?_)
  obtain ⟨t2, ans, hv2, hM2, hk2, hcs⟩ := hp1757
  subst hv2
  have h02 : 0 ≤ t2 ∧ t2 ≤ 2 := by omega
  have hI2 := inv_ask hwf1 hwf2 hcalm rfl ho hk2 hM2 h02 hg hr
  refine g_istore C dL_law_1760 (by decide) rfl ?_
  refine g_goto (tgt := 2213) C dL_law_1762 (by decide) ?_
  exact g_drop 5 (g_drop 6 (g_widen (by omega) (by omega) (kk _ hI2)))
set_option maxHeartbeats 4000000 in
set_option maxRecDepth 100000 in
theorem lc_extreme {K : KC} {E : GE} {X : XT} {b N : Nat} {f : Nat → Int} {x m o t k n : Nat} {w : Wd} (LX : LawX K E X b N f) (ht : 5 * t + 5 ≤ N) (hI : INV x m o t w) (hk : k + 2000 ≤ 912740) (hn : n + 80000 ≤ 6363261) (kk : ∀ w', INV x m o (t + 1) w' → G E X 7 2213 (LL b x m o t) [] w' (k + 2000) (n + 80000)) : G E X 7 1765 (LL b x m o t) [] w k n := by
  obtain ⟨C, hT, hH, hls, ⟨hRf, hRl, hRc, hRs⟩, hS⟩ := LX
  have hf := hS.2.2.2.1
  have hN := hS.2.2.2.2
  obtain ⟨τ, ad, bs, ss, pb, P, Q, ct, A, th, ba, st, pm, le, ri, sp, cm, hC, hM, hx, ho, ⟨n0, s0, hO0⟩, hg, hr⟩ := hI
  subst hx
  refine g_wf (fun hwf => ?_)
  refine g_aload_n C dL_law_1765 rfl ?_
  refine g_aload_n C dL_law_1766 rfl ?_
  refine g_iload C dL_law_1767 rfl ?_
  refine g_iconst C dL_law_1769 ?_
  refine g_iadd C dL_law_1770 ?_
  refine g_sld (5 * t + 1) C hS (by omega) (by omega) dL_law_1771 ?_
  refine g_bool C (hf _) dL_law_1772 dL_law_1775 dL_law_1776 dL_law_1779 ?_
  refine g_aload_n C dL_law_1780 rfl ?_
  refine g_iload C dL_law_1781 rfl ?_
  refine g_iconst C dL_law_1783 ?_
  refine g_iadd C dL_law_1784 ?_
  refine g_sld (5 * t + 2) C hS (by omega) (by omega) dL_law_1785 ?_
  refine g_bool C (hf _) dL_law_1786 dL_law_1789 dL_law_1790 dL_law_1793 ?_
  refine t_callV C hT (s_X6_extreme _ hC (bI_01 _) (bI_01 _)) (RcV.ob (ci := 8) C rfl hC.o) rfl ml_RL_289 im_yX6_extreme se_RX6_yX6_extreme in_RX6 co_yX6_extreme hd_X6_extreme rfl ⟨by omega, by omega⟩ rfl (Nat.le_of_ble_eq_true rfl) ⟨by omega, by omega⟩ dL_law_1794 (fun v1794 w1794 hp1794 => ?_)
  refine g_wf (fun hwf1 => ?_)
  obtain ⟨⟨s1, hv1⟩, hC1, hko⟩ := hp1794
  subst hv1
  have hkm := hko.km
  have hM1 := hM.keep hkm.2
  have hOU : OU w1794 o := ⟨n0, s0, hko.2 o _ (Or.inr ho) hO0⟩
  have hcalm : CALM τ ad o w w1794 bs ss pb P Q ct := ⟨_, _, _, hC1, fun _ _ => ⟨rfl, rfl⟩, fun _ _ => rfl, hkm, hOU⟩
  refine g_pop C dL_law_1797 rfl ?_
  refine g_aload_n C dL_law_1798 rfl ?_
  refine g_aload_n C dL_law_1799 rfl ?_
  refine g_iload C dL_law_1800 rfl ?_
  refine g_iconst C dL_law_1802 ?_
  refine g_iadd C dL_law_1803 ?_
  refine g_sld (5 * t + 1) C hS (by omega) (by omega) dL_law_1804 ?_
  refine g_bool C (hf _) dL_law_1805 dL_law_1808 dL_law_1809 dL_law_1812 ?_
  refine g_aload_n C dL_law_1813 rfl ?_
  refine g_iload C dL_law_1814 rfl ?_
  refine g_iconst C dL_law_1816 ?_
  refine g_iadd C dL_law_1817 ?_
  refine g_sld (5 * t + 2) C hS (by omega) (by omega) dL_law_1818 ?_
  refine g_bool C (hf _) dL_law_1819 dL_law_1822 dL_law_1823 dL_law_1826 ?_
  refine t_callV C hT (c_X8_extreme _ (bI_01 _) (bI_01 _) hM1) (RcV.ob (ci := 10) C rfl hM1.o) rfl ml_RL_293 im_yX8_extreme se_RX8_yX8_extreme in_RX8 co_yX8_extreme hd_X8_extreme rfl ⟨by omega, by omega⟩ rfl (Nat.le_of_ble_eq_true rfl) ⟨by omega, by omega⟩ dL_law_1827 (fun v1827 w1827 hp1827 => ?_)
  refine g_wf (fun hwf2 => ?_)
  obtain ⟨t2, s2, hv2, hM2, hk2, h02⟩ := hp1827
  subst hv2
  have hI2 := inv_ask hwf1 hwf2 hcalm rfl ho hk2 hM2 h02 hg hr
  refine g_pop C dL_law_1830 rfl ?_
  refine g_goto (tgt := 2213) C dL_law_1831 (by decide) ?_
  exact g_drop 5 (g_drop 6 (g_widen (by omega) (by omega) (kk _ hI2)))
set_option maxHeartbeats 4000000 in
set_option maxRecDepth 100000 in
theorem lc_split {K : KC} {E : GE} {X : XT} {b N : Nat} {f : Nat → Int} {x m o t k n : Nat} {w : Wd} (LX : LawX K E X b N f) (ht : 5 * t + 5 ≤ N) (hI : INV x m o t w) (hk : k + 2000 ≤ 912740) (hn : n + 80000 ≤ 6363261) (kk : ∀ w', INV x m o (t + 1) w' → G E X 7 2213 (LL b x m o t) [] w' (k + 2000) (n + 80000)) : G E X 7 1834 (LL b x m o t) [] w k n := by
  obtain ⟨C, hT, hH, hls, ⟨hRf, hRl, hRc, hRs⟩, hS⟩ := LX
  have hf := hS.2.2.2.1
  have hN := hS.2.2.2.2
  obtain ⟨τ, ad, bs, ss, pb, P, Q, ct, A, th, ba, st, pm, le, ri, sp, cm, hC, hM, hx, ho, ⟨n0, s0, hO0⟩, hg, hr⟩ := hI
  subst hx
  refine g_wf (fun hwf => ?_)
  refine g_aload_n C dL_law_1834 rfl ?_
  refine g_aload_n C dL_law_1835 rfl ?_
  refine g_iload C dL_law_1836 rfl ?_
  refine g_iconst C dL_law_1838 ?_
  refine g_iadd C dL_law_1839 ?_
  refine g_sld (5 * t + 1) C hS (by omega) (by omega) dL_law_1840 ?_
  refine g_aload_n C dL_law_1841 rfl ?_
  refine g_iload C dL_law_1842 rfl ?_
  refine g_iconst C dL_law_1844 ?_
  refine g_iadd C dL_law_1845 ?_
  refine g_sld (5 * t + 2) C hS (by omega) (by omega) dL_law_1846 ?_
  refine g_aload_n C dL_law_1847 rfl ?_
  refine x_callH C hT hH (w_L_split _ hls hC ho hO0 (hf (5 * t + 1)) (hf (5 * t + 2))) ml_RL_294 sm_yL_split in_RL co_yL_split hd_L_split rfl ⟨by omega, by omega⟩ rfl (Nat.le_of_ble_eq_true rfl) ⟨by omega, by omega⟩ dL_law_1848 (fun v1 w1 hp => ?_)
  refine g_wf (fun hwf1 => ?_)
  obtain ⟨k1, nv, P1, Q1, ct1, hv1, hOV, hnv, ⟨⟨pb2, hp2, hC1⟩, hkm⟩, hD⟩ := a_split hC ho ⟨n0, s0, hO0⟩ hp
  subst hv1
  have hM1 := hM.keep hkm.2
  refine g_istore C dL_law_1851 (by decide) rfl ?_
  refine g_aload_n C dL_law_1853 rfl ?_
  refine g_aload_n C dL_law_1854 rfl ?_
  refine g_iload C dL_law_1855 rfl ?_
  refine g_iconst C dL_law_1857 ?_
  refine g_iadd C dL_law_1858 ?_
  refine g_sld (5 * t + 1) C hS (by omega) (by omega) dL_law_1859 ?_
  refine g_aload_n C dL_law_1860 rfl ?_
  refine g_iload C dL_law_1861 rfl ?_
  refine g_iconst C dL_law_1863 ?_
  refine g_iadd C dL_law_1864 ?_
  refine g_sld (5 * t + 2) C hS (by omega) (by omega) dL_law_1865 ?_
  refine g_callV C (c_X8_split _ (hf (5 * t + 1)) (hf (5 * t + 2)) hM1 hg.2.2.2.1) (ci := 10) rfl hM1.o rfl ml_RL_296 im_yX8_split se_RX8_yX8_split in_RX8 co_yX8_split hd_X8_split rfl ⟨by omega, by omega⟩ rfl (Nat.le_of_ble_eq_true rfl) ⟨by omega, by omega⟩ dL_law_1866 (fun v1866 w1866 hp1866 => ?_)
  refine g_wf (fun hwf2 => ?_)
  obtain ⟨τ2, A2, t2, sp2, cm2, ans, hτ2, hv2, hM2, hk2, hcs⟩ := hp1866
  subst hv2
  obtain ⟨hg2, hr2, hkk, hans⟩ := b_split hg hr hD hcs
  have hI2 := inv_md hwf1 hwf2 hC1 rfl ho hOV.u hk2 hτ2 hM2 hg2 (rl_pb hp2 hr2)
  refine g_istore C dL_law_1869 (by decide) rfl ?_
  refine g_goto (tgt := 2213) C dL_law_1871 (by decide) ?_
  exact g_drop 5 (g_drop 6 (g_widen (by omega) (by omega) (kk _ hI2)))
