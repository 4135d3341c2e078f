set_option maxHeartbeats 4000000 in
set_option maxRecDepth 100000 in
theorem lc_mirror {K : KC} {E : GE} {X : XT} {b N : Nat} {f : Nat → Int} {x m o t k n : Nat} {w : Wd} (LX : LawX K E X b N f) (ht : 5 * t + 5 ≤ N) (hI : INV x m o t w) (hk : k + 2000 ≤ 793047) (hn : n + 80000 ≤ 6722339) (kk : ∀ w', INV x m o (t + 1) w' → G E X 7 2220 (LL b x m o t) [] w' (k + 2000) (n + 80000)) : G E X 7 1320 (LL b x m o t) [] w k n := by
  obtain ⟨C, hT, hH, hls, ⟨hRf, hRl, hRc, hRs⟩, hS⟩ := LX
  have hf := hS.2.2.2.1
  have hN := hS.2.2.2.2
  obtain ⟨τ, ad, bs, ss, pb, P, Q, ct, A, th, ba, st, pm, le, ri, sp, cm, hC, hM, hx, ho, ⟨n0, s0, hO0⟩, hg, hr⟩ := hI
  subst hx
  refine g_wf (fun hwf => ?_)
  refine g_aload_n C dL_law_1320 rfl ?_
  refine g_aload_n C dL_law_1321 rfl ?_
  refine g_iload C dL_law_1322 rfl ?_
  refine g_iconst C dL_law_1324 ?_
  refine g_iadd C dL_law_1325 ?_
  refine g_sld (5 * t + 1) C hS (by omega) (by omega) dL_law_1326 ?_
  refine g_aload_n C dL_law_1327 rfl ?_
  refine g_iload C dL_law_1328 rfl ?_
  refine g_iconst C dL_law_1330 ?_
  refine g_iadd C dL_law_1331 ?_
  refine g_sld (5 * t + 2) C hS (by omega) (by omega) dL_law_1332 ?_
  refine g_bool C (hf _) dL_law_1333 dL_law_1336 dL_law_1337 dL_law_1340 ?_
  refine g_aload_n C dL_law_1341 rfl ?_
  refine x_callH C hT hH (w_L_mirror _ hls hC ho hO0 (hf (5 * t + 1)) (bI_01 _)) ml_RL_258 sm_yL_mirror in_RL co_yL_mirror hd_L_mirror rfl ⟨by omega, by omega⟩ rfl (Nat.le_of_ble_eq_true rfl) ⟨by omega, by omega⟩ dL_law_1342 (fun v1 w1 hp => ?_)
  refine g_wf (fun hwf1 => ?_)
  obtain ⟨k1, nv, pb1, ct1, hv1, hOV, hnv, ⟨⟨pb2, hp2, hC1⟩, hkm⟩, hD⟩ := a_mirror hC ho ⟨n0, s0, hO0⟩ hp
  subst hv1
  have hM1 := hM.keep hkm.2
  refine g_istore C dL_law_1345 (by decide) rfl ?_
  refine g_aload_n C dL_law_1347 rfl ?_
  refine g_aload_n C dL_law_1348 rfl ?_
  refine g_iload C dL_law_1349 rfl ?_
  refine g_iconst C dL_law_1351 ?_
  refine g_iadd C dL_law_1352 ?_
  refine g_sld (5 * t + 1) C hS (by omega) (by omega) dL_law_1353 ?_
  refine g_aload_n C dL_law_1354 rfl ?_
  refine g_iload C dL_law_1355 rfl ?_
  refine g_iconst C dL_law_1357 ?_
  refine g_iadd C dL_law_1358 ?_
  refine g_sld (5 * t + 2) C hS (by omega) (by omega) dL_law_1359 ?_
  refine g_bool C (hf _) dL_law_1360 dL_law_1363 dL_law_1364 dL_law_1367 ?_
  refine g_callV C (c_X8_mirror _ (hf (5 * t + 1)) (bI_01 _) hM1 hg.2.2.1) (ci := 10) rfl hM1.o rfl ml_RL_260 im_yX8_mirror se_RX8_yX8_mirror in_RX8 co_yX8_mirror hd_X8_mirror rfl ⟨by omega, by omega⟩ rfl (Nat.le_of_ble_eq_true rfl) ⟨by omega, by omega⟩ dL_law_1368 (fun v1368 w1368 hp1368 => ?_)
  refine g_wf (fun hwf2 => ?_)
  obtain ⟨τ2, A2, t2, pm2, le2, ri2, cm2, ans, hτ2, hv2, hM2, hk2, hcs⟩ := hp1368
  subst hv2
  obtain ⟨hg2, hr2, hkk, hans⟩ := b_mirror hg hr hD hcs
  have hI2 := inv_md hwf1 hwf2 hC1 rfl ho hOV.u hk2 hτ2 hM2 hg2 (rl_pb hp2 hr2)
  refine g_istore C dL_law_1371 (by decide) rfl ?_
  refine g_goto (tgt := 2220) C dL_law_1373 (by decide) ?_
  exact g_drop 5 (g_drop 6 (g_widen (by omega) (by omega) (kk _ hI2)))
set_option maxHeartbeats 4000000 in
set_option maxRecDepth 100000 in
theorem lc_divideBy {K : KC} {E : GE} {X : XT} {b N : Nat} {f : Nat → Int} {x m o t k n : Nat} {w : Wd} (LX : LawX K E X b N f) (ht : 5 * t + 5 ≤ N) (hI : INV x m o t w) (hk : k + 2000 ≤ 793047) (hn : n + 80000 ≤ 6722339) (kk : ∀ w', INV x m o (t + 1) w' → G E X 7 2220 (LL b x m o t) [] w' (k + 2000) (n + 80000)) : G E X 7 1376 (LL b x m o t) [] w k n := by
  obtain ⟨C, hT, hH, hls, ⟨hRf, hRl, hRc, hRs⟩, hS⟩ := LX
  have hf := hS.2.2.2.1
  have hN := hS.2.2.2.2
  obtain ⟨τ, ad, bs, ss, pb, P, Q, ct, A, th, ba, st, pm, le, ri, sp, cm, hC, hM, hx, ho, ⟨n0, s0, hO0⟩, hg, hr⟩ := hI
  subst hx
  refine g_wf (fun hwf => ?_)
  refine g_aload_n C dL_law_1376 rfl ?_
  refine g_aload_n C dL_law_1377 rfl ?_
  refine g_iload C dL_law_1378 rfl ?_
  refine g_iconst C dL_law_1380 ?_
  refine g_iadd C dL_law_1381 ?_
  refine g_sld (5 * t + 1) C hS (by omega) (by omega) dL_law_1382 ?_
  refine g_aload_n C dL_law_1383 rfl ?_
  refine g_iload C dL_law_1384 rfl ?_
  refine g_iconst C dL_law_1386 ?_
  refine g_iadd C dL_law_1387 ?_
  refine g_sld (5 * t + 2) C hS (by omega) (by omega) dL_law_1388 ?_
  refine g_aload_n C dL_law_1389 rfl ?_
  refine x_callH C hT hH (w_L_divideBy _ hls hC ho hO0 (hf (5 * t + 1)) (hf (5 * t + 2))) ml_RL_261 sm_yL_divideBy in_RL co_yL_divideBy hd_L_divideBy rfl ⟨by omega, by omega⟩ rfl (Nat.le_of_ble_eq_true rfl) ⟨by omega, by omega⟩ dL_law_1390 (fun v1 w1 hp => ?_)
  refine g_wf (fun hwf1 => ?_)
  obtain ⟨k1, nv, pb1, ct1, hv1, hOV, hnv, ⟨⟨pb2, hp2, hC1⟩, hkm⟩, hD⟩ := a_divideBy hC ho ⟨n0, s0, hO0⟩ hp
  subst hv1
  have hM1 := hM.keep hkm.2
  refine g_istore C dL_law_1393 (by decide) rfl ?_
  refine g_aload_n C dL_law_1395 rfl ?_
  refine g_aload_n C dL_law_1396 rfl ?_
  refine g_iload C dL_law_1397 rfl ?_
  refine g_iconst C dL_law_1399 ?_
  refine g_iadd C dL_law_1400 ?_
  refine g_sld (5 * t + 1) C hS (by omega) (by omega) dL_law_1401 ?_
  refine g_aload_n C dL_law_1402 rfl ?_
  refine g_iload C dL_law_1403 rfl ?_
  refine g_iconst C dL_law_1405 ?_
  refine g_iadd C dL_law_1406 ?_
  refine g_sld (5 * t + 2) C hS (by omega) (by omega) dL_law_1407 ?_
  refine g_callV C (c_X8_divideBy _ (hf (5 * t + 1)) (hf (5 * t + 2)) hM1 hg.2.2.1) (ci := 10) rfl hM1.o rfl ml_RL_263 im_yX8_divideBy se_RX8_yX8_divideBy in_RX8 co_yX8_divideBy hd_X8_divideBy rfl ⟨by omega, by omega⟩ rfl (Nat.le_of_ble_eq_true rfl) ⟨by omega, by omega⟩ dL_law_1408 (fun v1408 w1408 hp1408 => ?_)
  refine g_wf (fun hwf2 => ?_)
  obtain ⟨τ2, A2, t2, pm2, le2, ri2, cm2, ans, hτ2, hv2, hM2, hk2, hcs⟩ := hp1408
  subst hv2
  obtain ⟨hg2, hr2, hkk, hans⟩ := b_divideBy hg hr hD hcs
  have hI2 := inv_md hwf1 hwf2 hC1 rfl ho hOV.u hk2 hτ2 hM2 hg2 (rl_pb hp2 hr2)
  refine g_istore C dL_law_1411 (by decide) rfl ?_
  refine g_goto (tgt := 2220) C dL_law_1413 (by decide) ?_
  exact g_drop 5 (g_drop 6 (g_widen (by omega) (by omega) (kk _ hI2)))
set_option maxHeartbeats 4000000 in
set_option maxRecDepth 100000 in
theorem lc_pairCopy {K : KC} {E : GE} {X : XT} {b N : Nat} {f : Nat → Int} {x m o t k n : Nat} {w : Wd} (LX : LawX K E X b N f) (ht : 5 * t + 5 ≤ N) (hI : INV x m o t w) (hk : k + 2000 ≤ 793047) (hn : n + 80000 ≤ 6722339) (kk : ∀ w', INV x m o (t + 1) w' → G E X 7 2220 (LL b x m o t) [] w' (k + 2000) (n + 80000)) : G E X 7 1416 (LL b x m o t) [] w k n := by
  obtain ⟨C, hT, hH, hls, ⟨hRf, hRl, hRc, hRs⟩, hS⟩ := LX
  have hf := hS.2.2.2.1
  have hN := hS.2.2.2.2
  obtain ⟨τ, ad, bs, ss, pb, P, Q, ct, A, th, ba, st, pm, le, ri, sp, cm, hC, hM, hx, ho, ⟨n0, s0, hO0⟩, hg, hr⟩ := hI
  subst hx
  refine g_wf (fun hwf => ?_)
  refine g_aload_n C dL_law_1416 rfl ?_
  refine g_aload_n C dL_law_1417 rfl ?_
  refine g_iload C dL_law_1418 rfl ?_
  refine g_iconst C dL_law_1420 ?_
  refine g_iadd C dL_law_1421 ?_
  refine g_sld (5 * t + 1) C hS (by omega) (by omega) dL_law_1422 ?_
  refine g_aload_n C dL_law_1423 rfl ?_
  refine g_iload C dL_law_1424 rfl ?_
  refine g_iconst C dL_law_1426 ?_
  refine g_iadd C dL_law_1427 ?_
  refine g_sld (5 * t + 2) C hS (by omega) (by omega) dL_law_1428 ?_
  refine g_aload_n C dL_law_1429 rfl ?_
  refine x_callH C hT hH (w_L_pairCopy _ hls hC ho hO0 (hf (5 * t + 1)) (hf (5 * t + 2))) ml_RL_264 sm_yL_pairCopy in_RL co_yL_pairCopy hd_L_pairCopy rfl ⟨by omega, by omega⟩ rfl (Nat.le_of_ble_eq_true rfl) ⟨by omega, by omega⟩ dL_law_1430 (fun v1 w1 hp => ?_)
  refine g_wf (fun hwf1 => ?_)
  obtain ⟨k1, nv, pb1, ct1, hv1, hOV, hnv, ⟨⟨pb2, hp2, hC1⟩, hkm⟩, hD⟩ := a_pairCopy hC ho ⟨n0, s0, hO0⟩ hp
  subst hv1
  have hM1 := hM.keep hkm.2
  refine g_istore C dL_law_1433 (by decide) rfl ?_
  refine g_aload_n C dL_law_1435 rfl ?_
  refine g_aload_n C dL_law_1436 rfl ?_
  refine g_iload C dL_law_1437 rfl ?_
  refine g_iconst C dL_law_1439 ?_
  refine g_iadd C dL_law_1440 ?_
  refine g_sld (5 * t + 1) C hS (by omega) (by omega) dL_law_1441 ?_
  refine g_aload_n C dL_law_1442 rfl ?_
  refine g_iload C dL_law_1443 rfl ?_
  refine g_iconst C dL_law_1445 ?_
  refine g_iadd C dL_law_1446 ?_
  refine g_sld (5 * t + 2) C hS (by omega) (by omega) dL_law_1447 ?_
  refine g_callV C (c_X8_pairCopy _ (hf (5 * t + 1)) (hf (5 * t + 2)) hM1 hg.2.2.1) (ci := 10) rfl hM1.o rfl ml_RL_266 im_yX8_pairCopy se_RX8_yX8_pairCopy in_RX8 co_yX8_pairCopy hd_X8_pairCopy rfl ⟨by omega, by omega⟩ rfl (Nat.le_of_ble_eq_true rfl) ⟨by omega, by omega⟩ dL_law_1448 (fun v1448 w1448 hp1448 => ?_)
  refine g_wf (fun hwf2 => ?_)
  obtain ⟨τ2, A2, t2, pm2, le2, ri2, cm2, ans, hτ2, hv2, hM2, hk2, hcs⟩ := hp1448
  subst hv2
  obtain ⟨hg2, hr2, hkk, hans⟩ := b_pairCopy hg hr hD hcs
  have hI2 := inv_md hwf1 hwf2 hC1 rfl ho hOV.u hk2 hτ2 hM2 hg2 (rl_pb hp2 hr2)
  refine g_istore C dL_law_1451 (by decide) rfl ?_
  refine g_goto (tgt := 2220) C dL_law_1453 (by decide) ?_
  exact g_drop 5 (g_drop 6 (g_widen (by omega) (by omega) (kk _ hI2)))
set_option maxHeartbeats 4000000 in
set_option maxRecDepth 100000 in
theorem lc_pairBase {K : KC} {E : GE} {X : XT} {b N : Nat} {f : Nat → Int} {x m o t k n : Nat} {w : Wd} (LX : LawX K E X b N f) (ht : 5 * t + 5 ≤ N) (hI : INV x m o t w) (hk : k + 2000 ≤ 793047) (hn : n + 80000 ≤ 6722339) (kk : ∀ w', INV x m o (t + 1) w' → G E X 7 2220 (LL b x m o t) [] w' (k + 2000) (n + 80000)) : G E X 7 1456 (LL b x m o t) [] w k n := by
  obtain ⟨C, hT, hH, hls, ⟨hRf, hRl, hRc, hRs⟩, hS⟩ := LX
  have hf := hS.2.2.2.1
  have hN := hS.2.2.2.2
  obtain ⟨τ, ad, bs, ss, pb, P, Q, ct, A, th, ba, st, pm, le, ri, sp, cm, hC, hM, hx, ho, ⟨n0, s0, hO0⟩, hg, hr⟩ := hI
  subst hx
  refine g_wf (fun hwf => ?_)
  refine g_aload_n C dL_law_1456 rfl ?_
  refine g_aload_n C dL_law_1457 rfl ?_
  refine g_iload C dL_law_1458 rfl ?_
  refine g_iconst C dL_law_1460 ?_
  refine g_iadd C dL_law_1461 ?_
  refine g_sld (5 * t + 1) C hS (by omega) (by omega) dL_law_1462 ?_
  refine g_aload_n C dL_law_1463 rfl ?_
  refine x_callH C hT hH (w_L_pairBase _ hls hC ho hO0 (hf (5 * t + 1))) ml_RL_267 sm_yL_pairBase in_RL co_yL_pairBase hd_L_pairBase rfl ⟨by omega, by omega⟩ rfl (Nat.le_of_ble_eq_true rfl) ⟨by omega, by omega⟩ dL_law_1464 (fun v1 w1 hp => ?_)
  refine g_wf (fun hwf1 => ?_)
  obtain ⟨⟨k1, hv1, hk1⟩, hcalm⟩ := a_pairBase hC ho ⟨n0, s0, hO0⟩ hp
  subst hv1
  have hkm : KM τ w w1 := by
    obtain ⟨_, _, _, _, _, _, q, _⟩ := hcalm
    exact q
  have hM1 := hM.keep hkm.2
  refine g_istore C dL_law_1467 (by decide) rfl ?_
  refine g_aload_n C dL_law_1469 rfl ?_
  refine g_aload_n C dL_law_1470 rfl ?_
  refine g_iload C dL_law_1471 rfl ?_
  refine g_iconst C dL_law_1473 ?_
  refine g_iadd C dL_law_1474 ?_
  refine g_sld (5 * t + 1) C hS (by omega) (by omega) dL_law_1475 ?_
  refine g_callV C (c_X8_pairBase _ (hf (5 * t + 1)) hM1) (ci := 10) rfl hM1.o rfl ml_RL_269 im_yX8_pairBase se_RX8_yX8_pairBase in_RX8 co_yX8_pairBase hd_X8_pairBase rfl ⟨by omega, by omega⟩ rfl (Nat.le_of_ble_eq_true rfl) ⟨by omega, by omega⟩ dL_law_1476 (fun v1476 w1476 hp1476 => ?_)
  refine g_wf (fun hwf2 => ?_)
  obtain ⟨t2, ans, hv2, hM2, hk2, hcs⟩ := hp1476
  subst hv2
  have h02 : 0 ≤ t2 ∧ t2 ≤ 2 := by omega
  have hI2 := inv_ask hwf1 hwf2 hcalm rfl ho hk2 hM2 h02 hg hr
  refine g_istore C dL_law_1479 (by decide) rfl ?_
  refine g_goto (tgt := 2220) C dL_law_1481 (by decide) ?_
  exact g_drop 5 (g_drop 6 (g_widen (by omega) (by omega) (kk _ hI2)))
set_option maxHeartbeats 4000000 in
set_option maxRecDepth 100000 in
theorem lc_pairText {K : KC} {E : GE} {X : XT} {b N : Nat} {f : Nat → Int} {x m o t k n : Nat} {w : Wd} (LX : LawX K E X b N f) (ht : 5 * t + 5 ≤ N) (hI : INV x m o t w) (hk : k + 2000 ≤ 793047) (hn : n + 80000 ≤ 6722339) (kk : ∀ w', INV x m o (t + 1) w' → G E X 7 2220 (LL b x m o t) [] w' (k + 2000) (n + 80000)) : G E X 7 1484 (LL b x m o t) [] w k n := by
  obtain ⟨C, hT, hH, hls, ⟨hRf, hRl, hRc, hRs⟩, hS⟩ := LX
  have hf := hS.2.2.2.1
  have hN := hS.2.2.2.2
  obtain ⟨τ, ad, bs, ss, pb, P, Q, ct, A, th, ba, st, pm, le, ri, sp, cm, hC, hM, hx, ho, ⟨n0, s0, hO0⟩, hg, hr⟩ := hI
  subst hx
  refine g_wf (fun hwf => ?_)
  refine g_aload_n C dL_law_1484 rfl ?_
  refine g_aload_n C dL_law_1485 rfl ?_
  refine g_iload C dL_law_1486 rfl ?_
  refine g_iconst C dL_law_1488 ?_
  refine g_iadd C dL_law_1489 ?_
  refine g_sld (5 * t + 1) C hS (by omega) (by omega) dL_law_1490 ?_
  refine g_aload_n C dL_law_1491 rfl ?_
  refine g_iload C dL_law_1492 rfl ?_
  refine g_iconst C dL_law_1494 ?_
  refine g_iadd C dL_law_1495 ?_
  refine g_sld (5 * t + 2) C hS (by omega) (by omega) dL_law_1496 ?_
  refine g_bool C (hf _) dL_law_1497 dL_law_1500 dL_law_1501 dL_law_1504 ?_
  refine g_aload_n C dL_law_1505 rfl ?_
  refine x_callH C hT hH (w_L_pairText _ hls hC ho hO0 (hf (5 * t + 1)) (bI_01 _)) ml_RL_270 sm_yL_pairText in_RL co_yL_pairText hd_L_pairText rfl ⟨by omega, by omega⟩ rfl (Nat.le_of_ble_eq_true rfl) ⟨by omega, by omega⟩ dL_law_1506 (fun v1 w1 hp => ?_)
  refine g_wf (fun hwf1 => ?_)
  obtain ⟨⟨k1, hv1, hk1⟩, hcalm⟩ := a_pairText hC ho ⟨n0, s0, hO0⟩ (y := bI (f (5 * t + 2) ≠ 0)) hp
  subst hv1
  have hkm : KM τ w w1 := by
    obtain ⟨_, _, _, _, _, _, q, _⟩ := hcalm
    exact q
  have hM1 := hM.keep hkm.2
  refine g_istore C dL_law_1509 (by decide) rfl ?_
  refine g_aload_n C dL_law_1511 rfl ?_
  refine g_aload_n C dL_law_1512 rfl ?_
  refine g_iload C dL_law_1513 rfl ?_
  refine g_iconst C dL_law_1515 ?_
  refine g_iadd C dL_law_1516 ?_
  refine g_sld (5 * t + 1) C hS (by omega) (by omega) dL_law_1517 ?_
  refine g_aload_n C dL_law_1518 rfl ?_
  refine g_iload C dL_law_1519 rfl ?_
  refine g_iconst C dL_law_1521 ?_
  refine g_iadd C dL_law_1522 ?_
  refine g_sld (5 * t + 2) C hS (by omega) (by omega) dL_law_1523 ?_
  refine g_bool C (hf _) dL_law_1524 dL_law_1527 dL_law_1528 dL_law_1531 ?_
  refine t_callV C hT (c_X8_pairText _ (hf (5 * t + 1)) (bI_01 _) hM1) (RcV.ob (ci := 10) C rfl hM1.o) rfl ml_RL_272 im_yX8_pairText se_RX8_yX8_pairText in_RX8 co_yX8_pairText hd_X8_pairText rfl ⟨by omega, by omega⟩ rfl (Nat.le_of_ble_eq_true rfl) ⟨by omega, by omega⟩ dL_law_1532 (fun v1532 w1532 hp1532 => ?_)
  refine g_wf (fun hwf2 => ?_)
  obtain ⟨t2, s2, hv2, hM2, hk2, h02⟩ := hp1532
  subst hv2
  have hI2 := inv_ask hwf1 hwf2 hcalm rfl ho hk2 hM2 h02 hg hr
  refine g_astore C dL_law_1535 (by decide) rfl ?_
  refine g_goto (tgt := 2220) C dL_law_1537 (by decide) ?_
  exact g_drop 5 (g_drop 6 (g_widen (by omega) (by omega) (kk _ hI2)))
set_option maxHeartbeats 4000000 in
set_option maxRecDepth 100000 in
theorem lc_pairNorm {K : KC} {E : GE} {X : XT} {b N : Nat} {f : Nat → Int} {x m o t k n : Nat} {w : Wd} (LX : LawX K E X b N f) (ht : 5 * t + 5 ≤ N) (hI : INV x m o t w) (hk : k + 2000 ≤ 793047) (hn : n + 80000 ≤ 6722339) (kk : ∀ w', INV x m o (t + 1) w' → G E X 7 2220 (LL b x m o t) [] w' (k + 2000) (n + 80000)) : G E X 7 1540 (LL b x m o t) [] w k n := by
  obtain ⟨C, hT, hH, hls, ⟨hRf, hRl, hRc, hRs⟩, hS⟩ := LX
  have hf := hS.2.2.2.1
  have hN := hS.2.2.2.2
  obtain ⟨τ, ad, bs, ss, pb, P, Q, ct, A, th, ba, st, pm, le, ri, sp, cm, hC, hM, hx, ho, ⟨n0, s0, hO0⟩, hg, hr⟩ := hI
  subst hx
  refine g_wf (fun hwf => ?_)
  refine g_aload_n C dL_law_1540 rfl ?_
  refine g_aload_n C dL_law_1541 rfl ?_
  refine g_iload C dL_law_1542 rfl ?_
  refine g_iconst C dL_law_1544 ?_
  refine g_iadd C dL_law_1545 ?_
  refine g_sld (5 * t + 1) C hS (by omega) (by omega) dL_law_1546 ?_
  refine g_aload_n C dL_law_1547 rfl ?_
  refine x_callH C hT hH (w_L_pairNorm _ hls hC ho hO0 (hf (5 * t + 1))) ml_RL_273 sm_yL_pairNorm in_RL co_yL_pairNorm hd_L_pairNorm rfl ⟨by omega, by omega⟩ rfl (Nat.le_of_ble_eq_true rfl) ⟨by omega, by omega⟩ dL_law_1548 (fun v1 w1 hp => ?_)
  refine g_wf (fun hwf1 => ?_)
  obtain ⟨⟨k1, hv1, hk1⟩, hcalm⟩ := a_pairNorm hC ho ⟨n0, s0, hO0⟩ hp
  subst hv1
  have hkm : KM τ w w1 := by
    obtain ⟨_, _, _, _, _, _, q, _⟩ := hcalm
    exact q
  have hM1 := hM.keep hkm.2
  refine g_istore C dL_law_1551 (by decide) rfl ?_
  refine g_aload_n C dL_law_1553 rfl ?_
  refine g_aload_n C dL_law_1554 rfl ?_
  refine g_iload C dL_law_1555 rfl ?_
  refine g_iconst C dL_law_1557 ?_
  refine g_iadd C dL_law_1558 ?_
  refine g_sld (5 * t + 1) C hS (by omega) (by omega) dL_law_1559 ?_
  refine t_callV C hT (c_X8_pairNorm _ (hf (5 * t + 1)) hM1 hg.2.2.1) (RcV.ob (ci := 10) C rfl hM1.o) rfl ml_RL_275 im_yX8_pairNorm se_RX8_yX8_pairNorm in_RX8 co_yX8_pairNorm hd_X8_pairNorm rfl ⟨by omega, by omega⟩ rfl (Nat.le_of_ble_eq_true rfl) ⟨by omega, by omega⟩ dL_law_1560 (fun v1560 w1560 hp1560 => ?_)
  refine g_wf (fun hwf2 => ?_)
  obtain ⟨t2, s2, hv2, hM2, hk2, h02⟩ := hp1560
  subst hv2
  have hI2 := inv_ask hwf1 hwf2 hcalm rfl ho hk2 hM2 h02 hg hr
  refine g_astore C dL_law_1563 (by decide) rfl ?_
  refine g_goto (tgt := 2220) C dL_law_1565 (by decide) ?_
  exact g_drop 5 (g_drop 6 (g_widen (by omega) (by omega) (kk _ hI2)))
set_option maxHeartbeats 4000000 in
set_option maxRecDepth 100000 in
theorem lc_pairBits {K : KC} {E : GE} {X : XT} {b N : Nat} {f : Nat → Int} {x m o t k n : Nat} {w : Wd} (LX : LawX K E X b N f) (ht : 5 * t + 5 ≤ N) (hI : INV x m o t w) (hk : k + 2000 ≤ 793047) (hn : n + 80000 ≤ 6722339) (kk : ∀ w', INV x m o (t + 1) w' → G E X 7 2220 (LL b x m o t) [] w' (k + 2000) (n + 80000)) : G E X 7 1568 (LL b x m o t) [] w k n := by
  obtain ⟨C, hT, hH, hls, ⟨hRf, hRl, hRc, hRs⟩, hS⟩ := LX
  have hf := hS.2.2.2.1
  have hN := hS.2.2.2.2
  obtain ⟨τ, ad, bs, ss, pb, P, Q, ct, A, th, ba, st, pm, le, ri, sp, cm, hC, hM, hx, ho, ⟨n0, s0, hO0⟩, hg, hr⟩ := hI
  subst hx
  refine g_wf (fun hwf => ?_)
  refine g_aload_n C dL_law_1568 rfl ?_
  refine g_aload_n C dL_law_1569 rfl ?_
  refine g_iload C dL_law_1570 rfl ?_
  refine g_iconst C dL_law_1572 ?_
  refine g_iadd C dL_law_1573 ?_
  refine g_sld (5 * t + 1) C hS (by omega) (by omega) dL_law_1574 ?_
  refine g_aload_n C dL_law_1575 rfl ?_
  refine g_iload C dL_law_1576 rfl ?_
  refine g_iconst C dL_law_1578 ?_
  refine g_iadd C dL_law_1579 ?_
  refine g_sld (5 * t + 2) C hS (by omega) (by omega) dL_law_1580 ?_
  refine g_bool C (hf _) dL_law_1581 dL_law_1584 dL_law_1585 dL_law_1588 ?_
  refine g_aload_n C dL_law_1589 rfl ?_
  refine g_iload C dL_law_1590 rfl ?_
  refine g_iconst C dL_law_1592 ?_
  refine g_iadd C dL_law_1593 ?_
  refine g_sld (5 * t + 3) C hS (by omega) (by omega) dL_law_1594 ?_
  refine g_aload_n C dL_law_1595 rfl ?_
  refine x_callH C hT hH (w_L_pairBits _ hls hC ho hO0 (hf (5 * t + 1)) (bI_01 _) (hf (5 * t + 3))) ml_RL_276 sm_yL_pairBits in_RL co_yL_pairBits hd_L_pairBits rfl ⟨by omega, by omega⟩ rfl (Nat.le_of_ble_eq_true rfl) ⟨by omega, by omega⟩ dL_law_1596 (fun v1 w1 hp => ?_)
  refine g_wf (fun hwf1 => ?_)
  obtain ⟨⟨k1, hv1, hk1⟩, hcalm⟩ := a_pairBits hC ho ⟨n0, s0, hO0⟩ (y := bI (f (5 * t + 2) ≠ 0)) hp
  subst hv1
  have hkm : KM τ w w1 := by
    obtain ⟨_, _, _, _, _, _, q, _⟩ := hcalm
    exact q
  have hM1 := hM.keep hkm.2
  refine g_istore C dL_law_1599 (by decide) rfl ?_
  refine g_aload_n C dL_law_1601 rfl ?_
  refine g_aload_n C dL_law_1602 rfl ?_
  refine g_iload C dL_law_1603 rfl ?_
  refine g_iconst C dL_law_1605 ?_
  refine g_iadd C dL_law_1606 ?_
  refine g_sld (5 * t + 1) C hS (by omega) (by omega) dL_law_1607 ?_
  refine g_aload_n C dL_law_1608 rfl ?_
  refine g_iload C dL_law_1609 rfl ?_
  refine g_iconst C dL_law_1611 ?_
  refine g_iadd C dL_law_1612 ?_
  refine g_sld (5 * t + 2) C hS (by omega) (by omega) dL_law_1613 ?_
  refine g_bool C (hf _) dL_law_1614 dL_law_1617 dL_law_1618 dL_law_1621 ?_
  refine g_aload_n C dL_law_1622 rfl ?_
  refine g_iload C dL_law_1623 rfl ?_
  refine g_iconst C dL_law_1625 ?_
  refine g_iadd C dL_law_1626 ?_
  refine g_sld (5 * t + 3) C hS (by omega) (by omega) dL_law_1627 ?_
  refine g_callV C (c_X8_pairBits _ (hf (5 * t + 1)) (hf (5 * t + 3)) (bI_01 _) hM1) (ci := 10) rfl hM1.o rfl ml_RL_278 im_yX8_pairBits se_RX8_yX8_pairBits in_RX8 co_yX8_pairBits hd_X8_pairBits rfl ⟨by omega, by omega⟩ rfl (Nat.le_of_ble_eq_true rfl) ⟨by omega, by omega⟩ dL_law_1628 (fun v1628 w1628 hp1628 => ?_)
  refine g_wf (fun hwf2 => ?_)
  obtain ⟨t2, ans, hv2, hM2, hk2, hcs⟩ := hp1628
  subst hv2
  have h02 : 0 ≤ t2 ∧ t2 ≤ 2 := by omega
  have hI2 := inv_ask hwf1 hwf2 hcalm rfl ho hk2 hM2 h02 hg hr
  refine g_istore C dL_law_1631 (by decide) rfl ?_
  refine g_goto (tgt := 2220) C dL_law_1633 (by decide) ?_
  exact g_drop 5 (g_drop 6 (g_widen (by omega) (by omega) (kk _ hI2)))
set_option maxHeartbeats 4000000 in
set_option maxRecDepth 100000 in
theorem lc_rank {K : KC} {E : GE} {X : XT} {b N : Nat} {f : Nat → Int} {x m o t k n : Nat} {w : Wd} (LX : LawX K E X b N f) (ht : 5 * t + 5 ≤ N) (hI : INV x m o t w) (hk : k + 2000 ≤ 793047) (hn : n + 80000 ≤ 6722339) (kk : ∀ w', INV x m o (t + 1) w' → G E X 7 2220 (LL b x m o t) [] w' (k + 2000) (n + 80000)) : G E X 7 1636 (LL b x m o t) [] w k n := by
  obtain ⟨C, hT, hH, hls, ⟨hRf, hRl, hRc, hRs⟩, hS⟩ := LX
  have hf := hS.2.2.2.1
  have hN := hS.2.2.2.2
  obtain ⟨τ, ad, bs, ss, pb, P, Q, ct, A, th, ba, st, pm, le, ri, sp, cm, hC, hM, hx, ho, ⟨n0, s0, hO0⟩, hg, hr⟩ := hI
  subst hx
  refine g_wf (fun hwf => ?_)
  refine g_aload_n C dL_law_1636 rfl ?_
  refine g_aload_n C dL_law_1637 rfl ?_
  refine g_iload C dL_law_1638 rfl ?_
  refine g_iconst C dL_law_1640 ?_
  refine g_iadd C dL_law_1641 ?_
  refine g_sld (5 * t + 1) C hS (by omega) (by omega) dL_law_1642 ?_
  refine g_aload_n C dL_law_1643 rfl ?_
  refine x_callH C hT hH (w_L_rank _ hls hC ho hO0 (hf (5 * t + 1))) ml_RL_279 sm_yL_rank in_RL co_yL_rank hd_L_rank rfl ⟨by omega, by omega⟩ rfl (Nat.le_of_ble_eq_true rfl) ⟨by omega, by omega⟩ dL_law_1644 (fun v1 w1 hp => ?_)
  refine g_wf (fun hwf1 => ?_)
  obtain ⟨⟨k1, hv1, hk1⟩, hcalm⟩ := a_rank hC ho ⟨n0, s0, hO0⟩ hp
  subst hv1
  have hkm : KM τ w w1 := by
    obtain ⟨_, _, _, _, _, _, q, _⟩ := hcalm
    exact q
  have hM1 := hM.keep hkm.2
  refine g_istore C dL_law_1647 (by decide) rfl ?_
  refine g_aload_n C dL_law_1649 rfl ?_
  refine g_aload_n C dL_law_1650 rfl ?_
  refine g_iload C dL_law_1651 rfl ?_
  refine g_iconst C dL_law_1653 ?_
  refine g_iadd C dL_law_1654 ?_
  refine g_sld (5 * t + 1) C hS (by omega) (by omega) dL_law_1655 ?_
  refine g_callV C (c_X8_rank _ (hf (5 * t + 1)) hM1 hg.2.2.1) (ci := 10) rfl hM1.o rfl ml_RL_281 im_yX8_rank se_RX8_yX8_rank in_RX8 co_yX8_rank hd_X8_rank rfl ⟨by omega, by omega⟩ rfl (Nat.le_of_ble_eq_true rfl) ⟨by omega, by omega⟩ dL_law_1656 (fun v1656 w1656 hp1656 => ?_)
  refine g_wf (fun hwf2 => ?_)
  obtain ⟨t2, ans, hv2, hM2, hk2, hcs⟩ := hp1656
  subst hv2
  have h02 : 0 ≤ t2 ∧ t2 ≤ 2 := by omega
  have hI2 := inv_ask hwf1 hwf2 hcalm rfl ho hk2 hM2 h02 hg hr
  refine g_istore C dL_law_1659 (by decide) rfl ?_
  refine g_goto (tgt := 2220) C dL_law_1661 (by decide) ?_
  exact g_drop 5 (g_drop 6 (g_widen (by omega) (by omega) (kk _ hI2)))
set_option maxHeartbeats 4000000 in
set_option maxRecDepth 100000 in
theorem lc_order {K : KC} {E : GE} {X : XT} {b N : Nat} {f : Nat → Int} {x m o t k n : Nat} {w : Wd} (LX : LawX K E X b N f) (ht : 5 * t + 5 ≤ N) (hI : INV x m o t w) (hk : k + 2000 ≤ 793047) (hn : n + 80000 ≤ 6722339) (kk : ∀ w', INV x m o (t + 1) w' → G E X 7 2220 (LL b x m o t) [] w' (k + 2000) (n + 80000)) : G E X 7 1664 (LL b x m o t) [] w k n := by
  obtain ⟨C, hT, hH, hls, ⟨hRf, hRl, hRc, hRs⟩, hS⟩ := LX
  have hf := hS.2.2.2.1
  have hN := hS.2.2.2.2
  obtain ⟨τ, ad, bs, ss, pb, P, Q, ct, A, th, ba, st, pm, le, ri, sp, cm, hC, hM, hx, ho, ⟨n0, s0, hO0⟩, hg, hr⟩ := hI
  subst hx
  refine g_wf (fun hwf => ?_)
  refine g_aload_n C dL_law_1664 rfl ?_
  refine g_aload_n C dL_law_1665 rfl ?_
  refine g_iload C dL_law_1666 rfl ?_
  refine g_iconst C dL_law_1668 ?_
  refine g_iadd C dL_law_1669 ?_
  refine g_sld (5 * t + 1) C hS (by omega) (by omega) dL_law_1670 ?_
  refine g_aload_n C dL_law_1671 rfl ?_
  refine g_iload C dL_law_1672 rfl ?_
  refine g_iconst C dL_law_1674 ?_
  refine g_iadd C dL_law_1675 ?_
  refine g_sld (5 * t + 2) C hS (by omega) (by omega) dL_law_1676 ?_
  refine g_aload_n C dL_law_1677 rfl ?_
  refine g_iload C dL_law_1678 rfl ?_
  refine g_iconst C dL_law_1680 ?_
  refine g_iadd C dL_law_1681 ?_
  refine g_sld (5 * t + 3) C hS (by omega) (by omega) dL_law_1682 ?_
  refine g_bool C (hf _) dL_law_1683 dL_law_1686 dL_law_1687 dL_law_1690 ?_
  refine g_aload_n C dL_law_1691 rfl ?_
  refine x_callH C hT hH (w_L_order _ hls hC ho hO0 (hf (5 * t + 1)) (hf (5 * t + 2)) (bI_01 _)) ml_RL_282 sm_yL_order in_RL co_yL_order hd_L_order rfl ⟨by omega, by omega⟩ rfl (Nat.le_of_ble_eq_true rfl) ⟨by omega, by omega⟩ dL_law_1692 (fun v1 w1 hp => ?_)
  refine g_wf (fun hwf1 => ?_)
  obtain ⟨⟨k1, hv1, hk1⟩, hcalm⟩ := a_order hC ho ⟨n0, s0, hO0⟩ (y := bI (f (5 * t + 3) ≠ 0)) hp
  subst hv1
  have hkm : KM τ w w1 := by
    obtain ⟨_, _, _, _, _, _, q, _⟩ := hcalm
    exact q
  have hM1 := hM.keep hkm.2
  refine g_istore C dL_law_1695 (by decide) rfl ?_
  refine g_aload_n C dL_law_1697 rfl ?_
  refine g_aload_n C dL_law_1698 rfl ?_
  refine g_iload C dL_law_1699 rfl ?_
  refine g_iconst C dL_law_1701 ?_
  refine g_iadd C dL_law_1702 ?_
  refine g_sld (5 * t + 1) C hS (by omega) (by omega) dL_law_1703 ?_
  refine g_aload_n C dL_law_1704 rfl ?_
  refine g_iload C dL_law_1705 rfl ?_
  refine g_iconst C dL_law_1707 ?_
  refine g_iadd C dL_law_1708 ?_
  refine g_sld (5 * t + 2) C hS (by omega) (by omega) dL_law_1709 ?_
  refine g_aload_n C dL_law_1710 rfl ?_
  refine g_iload C dL_law_1711 rfl ?_
  refine g_iconst C dL_law_1713 ?_
  refine g_iadd C dL_law_1714 ?_
  refine g_sld (5 * t + 3) C hS (by omega) (by omega) dL_law_1715 ?_
  refine g_bool C (hf _) dL_law_1716 dL_law_1719 dL_law_1720 dL_law_1723 ?_
  refine g_callV C (c_X8_order _ (hf (5 * t + 1)) (hf (5 * t + 2)) (bI_01 _) hM1) (ci := 10) rfl hM1.o rfl ml_RL_285 im_yX8_order se_RX8_yX8_order in_RX8 co_yX8_order hd_X8_order rfl ⟨by omega, by omega⟩ rfl (Nat.le_of_ble_eq_true rfl) ⟨by omega, by omega⟩ dL_law_1724 (fun v1724 w1724 hp1724 => ?_)
  refine g_wf (fun hwf2 => ?_)
  obtain ⟨t2, ans, hv2, hM2, hk2, hcs⟩ := hp1724
  subst hv2
  have h02 : 0 ≤ t2 ∧ t2 ≤ 2 := by omega
  have hI2 := inv_ask hwf1 hwf2 hcalm rfl ho hk2 hM2 h02 hg hr
  refine g_istore C dL_law_1727 (by decide) rfl ?_
  refine g_goto (tgt := 2220) C dL_law_1729 (by decide) ?_
  exact g_drop 5 (g_drop 6 (g_widen (by omega) (by omega) (kk _ hI2)))
set_option maxHeartbeats 4000000 in
set_option maxRecDepth 100000 in
theorem lc_isSame {K : KC} {E : GE} {X : XT} {b N : Nat} {f : Nat → Int} {x m o t k n : Nat} {w : Wd} (LX : LawX K E X b N f) (ht : 5 * t + 5 ≤ N) (hI : INV x m o t w) (hk : k + 2000 ≤ 793047) (hn : n + 80000 ≤ 6722339) (kk : ∀ w', INV x m o (t + 1) w' → G E X 7 2220 (LL b x m o t) [] w' (k + 2000) (n + 80000)) : G E X 7 1732 (LL b x m o t) [] w k n := by
  obtain ⟨C, hT, hH, hls, ⟨hRf, hRl, hRc, hRs⟩, hS⟩ := LX
  have hf := hS.2.2.2.1
  have hN := hS.2.2.2.2
  obtain ⟨τ, ad, bs, ss, pb, P, Q, ct, A, th, ba, st, pm, le, ri, sp, cm, hC, hM, hx, ho, ⟨n0, s0, hO0⟩, hg, hr⟩ := hI
  subst hx
  refine g_wf (fun hwf => ?_)
  refine g_aload_n C dL_law_1732 rfl ?_
  refine g_aload_n C dL_law_1733 rfl ?_
  refine g_iload C dL_law_1734 rfl ?_
  refine g_iconst C dL_law_1736 ?_
  refine g_iadd C dL_law_1737 ?_
  refine g_sld (5 * t + 1) C hS (by omega) (by omega) dL_law_1738 ?_
  refine g_aload_n C dL_law_1739 rfl ?_
  refine g_iload C dL_law_1740 rfl ?_
  refine g_iconst C dL_law_1742 ?_
  refine g_iadd C dL_law_1743 ?_
  refine g_sld (5 * t + 2) C hS (by omega) (by omega) dL_law_1744 ?_
  refine g_aload_n C dL_law_1745 rfl ?_
  refine x_callH C hT hH (w_L_isSame _ hls hC ho hO0 (hf (5 * t + 1)) (hf (5 * t + 2))) ml_RL_286 sm_yL_isSame in_RL co_yL_isSame hd_L_isSame rfl ⟨by omega, by omega⟩ rfl (Nat.le_of_ble_eq_true rfl) ⟨by omega, by omega⟩ dL_law_1746 (fun v1 w1 hp => ?_)
  refine g_wf (fun hwf1 => ?_)
  obtain ⟨⟨k1, hv1, hk1⟩, hcalm⟩ := a_isSame hC ho ⟨n0, s0, hO0⟩ hp
  subst hv1
  have hkm : KM τ w w1 := by
    obtain ⟨_, _, _, _, _, _, q, _⟩ := hcalm
    exact q
  have hM1 := hM.keep hkm.2
  refine g_istore C dL_law_1749 (by decide) rfl ?_
  refine g_aload_n C dL_law_1751 rfl ?_
  refine g_aload_n C dL_law_1752 rfl ?_
  refine g_iload C dL_law_1753 rfl ?_
  refine g_iconst C dL_law_1755 ?_
  refine g_iadd C dL_law_1756 ?_
  refine g_sld (5 * t + 1) C hS (by omega) (by omega) dL_law_1757 ?_
  refine g_aload_n C dL_law_1758 rfl ?_
  refine g_iload C dL_law_1759 rfl ?_
  refine g_iconst C dL_law_1761 ?_
  refine g_iadd C dL_law_1762 ?_
  refine g_sld (5 * t + 2) C hS (by omega) (by omega) dL_law_1763 ?_
  refine g_callV C (c_X8_isSame _ (hf (5 * t + 1)) (hf (5 * t + 2)) hM1 hg.2.2.1) (ci := 10) rfl hM1.o rfl ml_RL_288 im_yX8_isSame se_RX8_yX8_isSame in_RX8 co_yX8_isSame hd_X8_isSame rfl ⟨by omega, by omega⟩ rfl (Nat.le_of_ble_eq_true rfl) ⟨by omega, by omega⟩ dL_law_1764 (fun v1764 w1764 hp1764 => ?_)
  refine g_wf (fun hwf2 => ?_)
  obtain ⟨t2, ans, hv2, hM2, hk2, hcs⟩ := hp1764
  subst hv2
  have h02 : 0 ≤ t2 ∧ t2 ≤ 2 := by omega
  have hI2 := inv_ask hwf1 hwf2 hcalm rfl ho hk2 hM2 h02 hg hr
  refine g_istore C dL_law_1767 (by decide) rfl ?_
  refine g_goto (tgt := 2220) C dL_law_1769 (by decide) ?_
  exact g_drop 5 (g_drop 6 (g_widen (by omega) (by omega) (kk _ hI2)))
set_option maxHeartbeats 4000000 in
set_option maxRecDepth 100000 in
theorem lc_extreme {K : KC} {E : GE} {X : XT} {b N : Nat} {f : Nat → Int} {x m o t k n : Nat} {w : Wd} (LX : LawX K E X b N f) (ht : 5 * t + 5 ≤ N) (hI : INV x m o t w) (hk : k + 2000 ≤ 793047) (hn : n + 80000 ≤ 6722339) (kk : ∀ w', INV x m o (t + 1) w' → G E X 7 2220 (LL b x m o t) [] w' (k + 2000) (n + 80000)) : G E X 7 1772 (LL b x m o t) [] w k n := by
  obtain ⟨C, hT, hH, hls, ⟨hRf, hRl, hRc, hRs⟩, hS⟩ := LX
  have hf := hS.2.2.2.1
  have hN := hS.2.2.2.2
  obtain ⟨τ, ad, bs, ss, pb, P, Q, ct, A, th, ba, st, pm, le, ri, sp, cm, hC, hM, hx, ho, ⟨n0, s0, hO0⟩, hg, hr⟩ := hI
  subst hx
  refine g_wf (fun hwf => ?_)
  refine g_aload_n C dL_law_1772 rfl ?_
  refine g_aload_n C dL_law_1773 rfl ?_
  refine g_iload C dL_law_1774 rfl ?_
  refine g_iconst C dL_law_1776 ?_
  refine g_iadd C dL_law_1777 ?_
  refine g_sld (5 * t + 1) C hS (by omega) (by omega) dL_law_1778 ?_
  refine g_bool C (hf _) dL_law_1779 dL_law_1782 dL_law_1783 dL_law_1786 ?_
  refine g_aload_n C dL_law_1787 rfl ?_
  refine g_iload C dL_law_1788 rfl ?_
  refine g_iconst C dL_law_1790 ?_
  refine g_iadd C dL_law_1791 ?_
  refine g_sld (5 * t + 2) C hS (by omega) (by omega) dL_law_1792 ?_
  refine g_bool C (hf _) dL_law_1793 dL_law_1796 dL_law_1797 dL_law_1800 ?_
  refine t_callV C hT (s_X6_extreme _ hC (bI_01 _) (bI_01 _)) (RcV.ob (ci := 8) C rfl hC.o) rfl ml_RL_289 im_yX6_extreme se_RX6_yX6_extreme in_RX6 co_yX6_extreme hd_X6_extreme rfl ⟨by omega, by omega⟩ rfl (Nat.le_of_ble_eq_true rfl) ⟨by omega, by omega⟩ dL_law_1801 (fun v1801 w1801 hp1801 => ?_)
  refine g_wf (fun hwf1 => ?_)
  obtain ⟨⟨s1, hv1⟩, hC1, hko⟩ := hp1801
  subst hv1
  have hkm := hko.km
  have hM1 := hM.keep hkm.2
  have hOU : OU w1801 o := ⟨n0, s0, hko.2 o _ (Or.inr ho) hO0⟩
  have hcalm : CALM τ ad o w w1801 bs ss pb P Q ct := ⟨_, _, _, hC1, fun _ _ => ⟨rfl, rfl⟩, fun _ _ => rfl, hkm, hOU⟩
  refine g_pop C dL_law_1804 rfl ?_
  refine g_aload_n C dL_law_1805 rfl ?_
  refine g_aload_n C dL_law_1806 rfl ?_
  refine g_iload C dL_law_1807 rfl ?_
  refine g_iconst C dL_law_1809 ?_
  refine g_iadd C dL_law_1810 ?_
  refine g_sld (5 * t + 1) C hS (by omega) (by omega) dL_law_1811 ?_
  refine g_bool C (hf _) dL_law_1812 dL_law_1815 dL_law_1816 dL_law_1819 ?_
  refine g_aload_n C dL_law_1820 rfl ?_
  refine g_iload C dL_law_1821 rfl ?_
  refine g_iconst C dL_law_1823 ?_
  refine g_iadd C dL_law_1824 ?_
  refine g_sld (5 * t + 2) C hS (by omega) (by omega) dL_law_1825 ?_
  refine g_bool C (hf _) dL_law_1826 dL_law_1829 dL_law_1830 dL_law_1833 ?_
  refine t_callV C hT (c_X8_extreme _ (bI_01 _) (bI_01 _) hM1) (RcV.ob (ci := 10) C rfl hM1.o) rfl ml_RL_293 im_yX8_extreme se_RX8_yX8_extreme in_RX8 co_yX8_extreme hd_X8_extreme rfl ⟨by omega, by omega⟩ rfl (Nat.le_of_ble_eq_true rfl) ⟨by omega, by omega⟩ dL_law_1834 (fun v1834 w1834 hp1834 => ?_)
  refine g_wf (fun hwf2 => ?_)
  obtain ⟨t2, s2, hv2, hM2, hk2, h02⟩ := hp1834
  subst hv2
  have hI2 := inv_ask hwf1 hwf2 hcalm rfl ho hk2 hM2 h02 hg hr
  refine g_pop C dL_law_1837 rfl ?_
  refine g_goto (tgt := 2220) C dL_law_1838 (by decide) ?_
  exact g_drop 5 (g_drop 6 (g_widen (by omega) (by omega) (kk _ hI2)))
set_option maxHeartbeats 4000000 in
set_option maxRecDepth 100000 in
theorem lc_split {K : KC} {E : GE} {X : XT} {b N : Nat} {f : Nat → Int} {x m o t k n : Nat} {w : Wd} (LX : LawX K E X b N f) (ht : 5 * t + 5 ≤ N) (hI : INV x m o t w) (hk : k + 2000 ≤ 793047) (hn : n + 80000 ≤ 6722339) (kk : ∀ w', INV x m o (t + 1) w' → G E X 7 2220 (LL b x m o t) [] w' (k + 2000) (n + 80000)) : G E X 7 1841 (LL b x m o t) [] w k n := by
  obtain ⟨C, hT, hH, hls, ⟨hRf, hRl, hRc, hRs⟩, hS⟩ := LX
  have hf := hS.2.2.2.1
  have hN := hS.2.2.2.2
  obtain ⟨τ, ad, bs, ss, pb, P, Q, ct, A, th, ba, st, pm, le, ri, sp, cm, hC, hM, hx, ho, ⟨n0, s0, hO0⟩, hg, hr⟩ := hI
  subst hx
  refine g_wf (fun hwf => ?_)
  refine g_aload_n C dL_law_1841 rfl ?_
  refine g_aload_n C dL_law_1842 rfl ?_
  refine g_iload C dL_law_1843 rfl ?_
  refine g_iconst C dL_law_1845 ?_
  refine g_iadd C dL_law_1846 ?_
  refine g_sld (5 * t + 1) C hS (by omega) (by omega) dL_law_1847 ?_
  refine g_aload_n C dL_law_1848 rfl ?_
  refine g_iload C dL_law_1849 rfl ?_
  refine g_iconst C dL_law_1851 ?_
  refine g_iadd C dL_law_1852 ?_
  refine g_sld (5 * t + 2) C hS (by omega) (by omega) dL_law_1853 ?_
  refine g_aload_n C dL_law_1854 rfl ?_
  refine x_callH C hT hH (w_L_split _ hls hC ho hO0 (hf (5 * t + 1)) (hf (5 * t + 2))) ml_RL_294 sm_yL_split in_RL co_yL_split hd_L_split rfl ⟨by omega, by omega⟩ rfl (Nat.le_of_ble_eq_true rfl) ⟨by omega, by omega⟩ dL_law_1855 (fun v1 w1 hp => ?_)
  refine g_wf (fun hwf1 => ?_)
  obtain ⟨k1, nv, P1, Q1, ct1, hv1, hOV, hnv, ⟨⟨pb2, hp2, hC1⟩, hkm⟩, hD⟩ := a_split hC ho ⟨n0, s0, hO0⟩ hp
  subst hv1
  have hM1 := hM.keep hkm.2
  refine g_istore C dL_law_1858 (by decide) rfl ?_
  refine g_aload_n C dL_law_1860 rfl ?_
  refine g_aload_n C dL_law_1861 rfl ?_
  refine g_iload C dL_law_1862 rfl ?_
  refine g_iconst C dL_law_1864 ?_
  refine g_iadd C dL_law_1865 ?_
  refine g_sld (5 * t + 1) C hS (by omega) (by omega) dL_law_1866 ?_
  refine g_aload_n C dL_law_1867 rfl ?_
  refine g_iload C dL_law_1868 rfl ?_
  refine g_iconst C dL_law_1870 ?_
  refine g_iadd C dL_law_1871 ?_
  refine g_sld (5 * t + 2) C hS (by omega) (by omega) dL_law_1872 ?_
  refine g_callV C (c_X8_split _ (hf (5 * t + 1)) (hf (5 * t + 2)) hM1 hg.2.2.2.1) (ci := 10) rfl hM1.o rfl ml_RL_296 im_yX8_split se_RX8_yX8_split in_RX8 co_yX8_split hd_X8_split rfl ⟨by omega, by omega⟩ rfl (Nat.le_of_ble_eq_true rfl) ⟨by omega, by omega⟩ dL_law_1873 (fun v1873 w1873 hp1873 => ?_)
  refine g_wf (fun hwf2 => ?_)
  obtain ⟨τ2, A2, t2, sp2, cm2, ans, hτ2, hv2, hM2, hk2, hcs⟩ := hp1873
  subst hv2
  obtain ⟨hg2, hr2, hkk, hans⟩ := b_split hg hr hD hcs
  have hI2 := inv_md hwf1 hwf2 hC1 rfl ho hOV.u hk2 hτ2 hM2 hg2 (rl_pb hp2 hr2)
  refine g_istore C dL_law_1876 (by decide) rfl ?_
  refine g_goto (tgt := 2220) C dL_law_1878 (by decide) ?_
  exact g_drop 5 (g_drop 6 (g_widen (by omega) (by omega) (kk _ hI2)))
