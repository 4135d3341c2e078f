/-! the law's loop and its entry -/
theorem b63 (x : Int32) : ∃ y : Int, x &&& Int32.ofInt 63 = Int32.ofInt y ∧ 0 ≤ y ∧ y ≤ 63 := by
  refine ⟨x.toInt % (2 : Int) ^ 6, ?_, ?_, ?_⟩
  · have e := i_mask (x := x.toInt) (m := 63) 6 (by omega) (by decide)
    rw [← i_of x] at e
    exact e
  · exact Int.emod_nonneg _ (by decide)
  · have := Int.emod_lt_of_pos x.toInt (b := (2 : Int) ^ 6) (by decide)
    have e : (2 : Int) ^ 6 = 64 := by decide
    omega
theorem INV.up {x m o t : Nat} {w : Wd} (h : INV x m o t w) : INV x m o (t + 1) w := by
  obtain ⟨τ, ad, bs, ss, pb, P, Q, ct, A, th, ba, st, pm, le, ri, sp, cm, h1, h2, h3, h4, h5, h6, h7⟩ := h
  exact ⟨τ, ad, bs, ss, pb, P, Q, ct, A, th, ba, st, pm, le, ri, sp, cm, h1, h2, h3, h4, h5, h6.up, h7⟩
theorem cs_mark {τ ad : Nat → Nat} {w w' : Wd} {bs ss : Nat → Int} {pb : Nat → PT} {P Q : Nat → Nat} {ct : Nat → Int} (h : CS τ ad w bs ss pb P Q ct) (f : wF w) {m : Nat} (tag : Nat) (hm : w.1 ≤ m) (hw' : m < w'.1) (k : ∀ a x, w.2 a = some x → w'.2 a = some x) : ∃ τ' ad' : Nat → Nat, τ' m = tag ∧ ad' 100 = ad 100 ∧ CS τ' ad' w' bs ss pb P Q ct := by
  have lt := fun t (h1 : 100 ≤ t) (h2 : us t = true) => h.lt f h1 h2
  refine ⟨tam (fun q => if q = m then tag else τ q) w'.1, adm ad w'.1, ?_, adm_u (by omega), (h.kq (fun t x _ _ e => k _ _ e)).retag (fun t h1 h2 => ?_)⟩
  · show (if m < w'.1 then (if m = m then tag else τ m) else m - w'.1) = tag
    rw [if_pos hw', if_pos rfl]
  · have l := lt t h1 h2
    refine ⟨by omega, ?_⟩
    show (if ad t = m then tag else τ (ad t)) = τ (ad t)
    rw [if_neg (by omega)]
theorem inv_0 {τ3 τ4 ad3 : Nat → Nat} {u w w' : Wd} {m : Nat} {A : MA} {ba st pm le ri : Nat → Int} {sp : Nat → Nat → Int} {cm : Nat → Int} (fu : wF u) (fw : wF w)
    (hC3 : CS τ3 ad3 u (fun _ => 2) (fun _ => 0) (fun _ => (2, 1, 0)) (fun _ => 5) (fun _ => 0) (fun _ => 0)) (hk : Keep τ3 u w) (ht : ∀ a, a < u.1 → τ4 a = τ3 a) (hM : MSx τ4 w m A 0 ba st pm le ri sp cm) (hi4 : ∀ i, i < 3 → ba i = 2 ∧ st i = 0 ∧ pm i = 2 ∧ le i = 1 ∧ ri i = 0 ∧ SpR (sp i) 5 0) (hc : ∀ i, cm i = 0)
    (hw' : w'.1 = w.1 + 1) (hx' : ∀ a x, w.2 a = some x → w'.2 a = some x) (ho : w'.2 w.1 = some (true, eO 9 [jJ 0, .null])) : INV (ad3 100) m w.1 0 w' := by
  have hC5 := (hC3.ke hk).kq (w' := w') (fun t x _ _ e => hx' _ _ e)
  have lt := fun t (h1 : 100 ≤ t) (h2 : us t = true) => hC3.lt fu h1 h2
  have l1 := hk.1
  refine ⟨tam (fun q => if q = w.1 then 199 else τ4 q) w'.1, adm ad3 w'.1, _, _, _, _, _, _, A, 0, ba, st, pm, le, ri, sp, cm, hC5.retag (fun t h1 h2 => ?_), (hM.tag fw (fun a ha => ?_)).keep (fun a x _ e => hx' a x e), adm_u (by omega), ?_, ⟨0, .null, ho⟩, ?_, ?_⟩
  · have l := lt t h1 h2
    refine ⟨by omega, ?_⟩
    show (if ad3 t = w.1 then 199 else τ4 (ad3 t)) = τ3 (ad3 t)
    rw [if_neg (by omega)]
    exact ht _ l
  · show (if a < w'.1 then (if a = w.1 then 199 else τ4 a) else a - w'.1) = τ4 a
    rw [if_pos (by omega), if_neg (by omega)]
  · show (if w.1 < w'.1 then (if w.1 = w.1 then 199 else τ4 w.1) else w.1 - w'.1) = 199
    rw [if_pos (by omega), if_pos rfl]
  · refine ⟨fun i hi => by rw [(hi4 i hi).1]; exact GB2, fun i hi => by rw [(hi4 i hi).2.1]; omega, fun i hi => ?_, fun i hi => ⟨5, 0, (hi4 i hi).2.2.2.2.2⟩, by omega, fun i _ => by rw [hc i]; omega⟩
    obtain ⟨-, -, g1, g2, g3, -⟩ := hi4 i hi
    rw [g1, g2, g3]
    exact ⟨GB2, lg_sm (by omega), lg_sm (by omega)⟩
  · exact ⟨fun i hi => ⟨(hi4 i hi).1.symm, (hi4 i hi).2.1.symm, (hi4 i hi).2.2.2.2.2⟩, fun i hi => by
    obtain ⟨-, -, g1, g2, g3, -⟩ := hi4 i hi
    rw [g1, g2, g3], fun i _ => (hc i).symm⟩
set_option maxHeartbeats 4000000 in
set_option maxRecDepth 100000 in
theorem law_step {K : KC} {E : GE} {X : XT} {b N : Nat} {f : Nat → Int} (LX : LawX K E X b N f) (hend : ∀ (L' : List (Option Value)) (w : Wd) (k n : Nat), k ≤ 793047 → n ≤ 6722339 → G E X 7 2227 L' [iI 1] w k n) {x m o t k n : Nat} {w : Wd} (ht : 5 * t ≤ N) (hI : INV x m o t w) (hk0 : k ≤ 793047 ∧ n ≤ 6722339) (hkn : 5 * t + 5 ≤ N → k + 2000 ≤ 793047 ∧ n + 80000 ≤ 6722339) (again : 5 * t + 5 ≤ N → ∀ w', INV x m o (t + 1) w' → G E X 7 27 (LL b x m o (t + 1)) [] w' (k + 2000) (n + 80000)) : G E X 7 27 (LL b x m o t) [] w k n := by
  obtain ⟨C, hT, hH, hls, ⟨hRf, hRl, hRc, hRs⟩, hS⟩ := id LX
  have hf := hS.2.2.2.1
  have hN := hS.2.2.2.2
  have J : 5 * t + 5 ≤ N → ∀ w', INV x m o (t + 1) w' → G E X 7 2220 (LL b x m o t) [] w' (k + 2000) (n + 80000) := fun h5 w' h' => by
    refine g_iinc C dL_law_2220 rfl (by decide) rfl ?_
    refine g_goto (tgt := 27) C dL_law_2223 (by decide) ?_
    refine g_eq ?_ rfl (again h5 w' h')
    show [some (Value.ref b), some (.ref x), some (.ref m), some (.ref o), some (iI (5 * (t : Int) + 5)), none, none] = [some (.ref b), some (.ref x), some (.ref m), some (.ref o), some (iI (5 * ((t + 1 : Nat) : Int))), none, none]
    rw [show 5 * ((t + 1 : Nat) : Int) = 5 * (t : Int) + 5 by omega]
  refine g_iload C dL_law_27 rfl ?_
  refine g_aload_n C dL_law_29 rfl ?_
  refine g_slen C hS dL_law_30 ?_
  refine g_iconst C dL_law_31 ?_
  refine g_isub C dL_law_32 ?_
  refine g_icmp_gt (tgt := 2226) C dL_law_33 (by decide) (by omega) (by omega) (fun h33 => ?_) (fun h33 => ?_)
  · refine g_iconst C dL_law_2226 ?_
    exact hend _ _ _ _ (by omega) (by omega)
  · have h5 : 5 * t + 5 ≤ N := by omega
    obtain ⟨hk, hn⟩ := hkn h5
    refine g_aload_n C dL_law_36 rfl ?_
    refine g_iload C dL_law_37 rfl ?_
    refine g_sld (5 * t) C hS (by omega) (by omega) dL_law_39 ?_
    refine g_bipush C dL_law_40 (by decide) ?_
    obtain ⟨y, hy, y0, y1⟩ := b63 (Int32.ofInt (f (5 * t)))
    refine g_iand (z := y) C dL_law_42 hy ?_
    rcases (show y = 0 ∨ y = 1 ∨ y = 2 ∨ y = 3 ∨ y = 4 ∨ y = 5 ∨ y = 6 ∨ y = 7 ∨ y = 8 ∨ y = 9 ∨ y = 10 ∨ y = 11 ∨ y = 12 ∨ y = 13 ∨ y = 14 ∨ y = 15 ∨ y = 16 ∨ y = 17 ∨ y = 18 ∨ y = 19 ∨ y = 20 ∨ y = 21 ∨ y = 22 ∨ y = 23 ∨ y = 24 ∨ y = 25 ∨ y = 26 ∨ y = 27 ∨ y = 28 ∨ y = 29 ∨ y = 30 ∨ y = 31 ∨ y = 32 ∨ y = 33 ∨ y = 34 ∨ y = 35 ∨ y = 36 ∨ y = 37 ∨ y = 38 ∨ y = 39 ∨ y = 40 ∨ y = 41 ∨ y = 42 ∨ y = 43 ∨ y = 44 ∨ y = 45 ∨ y = 46 ∨ y = 47 ∨ 48 ≤ y by omega) with q | q | q | q | q | q | q | q | q | q | q | q | q | q | q | q | q | q | q | q | q | q | q | q | q | q | q | q | q | q | q | q | q | q | q | q | q | q | q | q | q | q | q | q | q | q | q | q | q
    · subst q
      refine g_tin (tgt := 248) C dL_law_43 (by omega) (by omega) rfl rfl ?_
      exact lc_open LX h5 hI (by omega) (by omega) (J h5)
    · subst q
      refine g_tin (tgt := 288) C dL_law_43 (by omega) (by omega) rfl rfl ?_
      exact lc_forth LX h5 hI (by omega) (by omega) (J h5)
    · subst q
      refine g_tin (tgt := 328) C dL_law_43 (by omega) (by omega) rfl rfl ?_
      exact lc_back LX h5 hI (by omega) (by omega) (J h5)
    · subst q
      refine g_tin (tgt := 356) C dL_law_43 (by omega) (by omega) rfl rfl ?_
      exact lc_walkCopy LX h5 hI (by omega) (by omega) (J h5)
    · subst q
      refine g_tin (tgt := 396) C dL_law_43 (by omega) (by omega) rfl rfl ?_
      exact lc_part LX h5 hI (by omega) (by omega) (J h5)
    · subst q
      refine g_tin (tgt := 436) C dL_law_43 (by omega) (by omega) rfl rfl ?_
      exact lc_walkText LX h5 hI (by omega) (by omega) (J h5)
    · subst q
      refine g_tin (tgt := 488) C dL_law_43 (by omega) (by omega) rfl rfl ?_
      exact lc_test LX h5 hI (by omega) (by omega) (J h5)
    · subst q
      refine g_tin (tgt := 528) C dL_law_43 (by omega) (by omega) rfl rfl ?_
      exact lc_walkBits LX h5 hI (by omega) (by omega) (J h5)
    · subst q
      refine g_tin (tgt := 596) C dL_law_43 (by omega) (by omega) rfl rfl ?_
      exact lc_bit LX h5 hI (by omega) (by omega) (J h5)
    · subst q
      refine g_tin (tgt := 664) C dL_law_43 (by omega) (by omega) rfl rfl ?_
      exact lc_isRead LX h5 hI (by omega) (by omega) (J h5)
    · subst q
      refine g_tin (tgt := 740) C dL_law_43 (by omega) (by omega) rfl rfl ?_
      exact lc_isNear LX h5 hI (by omega) (by omega) (J h5)
    · subst q
      refine g_tin (tgt := 780) C dL_law_43 (by omega) (by omega) rfl rfl ?_
      exact lc_decimals LX h5 hI (by omega) (by omega) (J h5)
    · subst q
      refine g_tin (tgt := 820) C dL_law_43 (by omega) (by omega) rfl rfl ?_
      exact lc_alike LX h5 hI (by omega) (by omega) (J h5)
    · subst q
      refine g_tin (tgt := 848) C dL_law_43 (by omega) (by omega) rfl rfl ?_
      exact lc_rootText LX h5 hI (by omega) (by omega) (J h5)
    · subst q
      refine g_tin (tgt := 888) C dL_law_43 (by omega) (by omega) rfl rfl ?_
      exact lc_period LX h5 hI (by omega) (by omega) (J h5)
    · subst q
      refine g_tin (tgt := 916) C dL_law_43 (by omega) (by omega) rfl rfl ?_
      exact lc_periodText LX h5 hI (by omega) (by omega) (J h5)
    · subst q
      refine g_tin (tgt := 944) C dL_law_43 (by omega) (by omega) rfl rfl ?_
      exact lc_solution LX h5 hI (by omega) (by omega) (J h5)
    · subst q
      refine g_tin (tgt := 1000) C dL_law_43 (by omega) (by omega) rfl rfl ?_
      exact lc_minus LX h5 hI (by omega) (by omega) (J h5)
    · subst q
      refine g_tin (tgt := 1056) C dL_law_43 (by omega) (by omega) rfl rfl ?_
      exact lc_middle LX h5 hI (by omega) (by omega) (J h5)
    · subst q
      refine g_tin (tgt := 1084) C dL_law_43 (by omega) (by omega) rfl rfl ?_
      exact lc_put LX h5 hI (by omega) (by omega) (J h5)
    · subst q
      refine g_tin (tgt := 1148) C dL_law_43 (by omega) (by omega) rfl rfl ?_
      exact lc_take LX h5 hI (by omega) (by omega) (J h5)
    · subst q
      refine g_tin (tgt := 1188) C dL_law_43 (by omega) (by omega) rfl rfl ?_
      exact lc_least LX h5 hI (by omega) (by omega) (J h5)
    · subst q
      refine g_tin (tgt := 1228) C dL_law_43 (by omega) (by omega) rfl rfl ?_
      exact lc_compose LX h5 hI (by omega) (by omega) (J h5)
    · subst q
      refine g_tin (tgt := 1280) C dL_law_43 (by omega) (by omega) rfl rfl ?_
      exact lc_power LX h5 hI (by omega) (by omega) (J h5)
    · subst q
      refine g_tin (tgt := 1320) C dL_law_43 (by omega) (by omega) rfl rfl ?_
      exact lc_mirror LX h5 hI (by omega) (by omega) (J h5)
    · subst q
      refine g_tin (tgt := 1376) C dL_law_43 (by omega) (by omega) rfl rfl ?_
      exact lc_divideBy LX h5 hI (by omega) (by omega) (J h5)
    · subst q
      refine g_tin (tgt := 1416) C dL_law_43 (by omega) (by omega) rfl rfl ?_
      exact lc_pairCopy LX h5 hI (by omega) (by omega) (J h5)
    · subst q
      refine g_tin (tgt := 1456) C dL_law_43 (by omega) (by omega) rfl rfl ?_
      exact lc_pairBase LX h5 hI (by omega) (by omega) (J h5)
    · subst q
      refine g_tin (tgt := 1484) C dL_law_43 (by omega) (by omega) rfl rfl ?_
      exact lc_pairText LX h5 hI (by omega) (by omega) (J h5)
    · subst q
      refine g_tin (tgt := 1540) C dL_law_43 (by omega) (by omega) rfl rfl ?_
      exact lc_pairNorm LX h5 hI (by omega) (by omega) (J h5)
    · subst q
      refine g_tin (tgt := 1568) C dL_law_43 (by omega) (by omega) rfl rfl ?_
      exact lc_pairBits LX h5 hI (by omega) (by omega) (J h5)
    · subst q
      refine g_tin (tgt := 1636) C dL_law_43 (by omega) (by omega) rfl rfl ?_
      exact lc_rank LX h5 hI (by omega) (by omega) (J h5)
    · subst q
      refine g_tin (tgt := 1664) C dL_law_43 (by omega) (by omega) rfl rfl ?_
      exact lc_order LX h5 hI (by omega) (by omega) (J h5)
    · subst q
      refine g_tin (tgt := 1732) C dL_law_43 (by omega) (by omega) rfl rfl ?_
      exact lc_isSame LX h5 hI (by omega) (by omega) (J h5)
    · subst q
      refine g_tin (tgt := 1772) C dL_law_43 (by omega) (by omega) rfl rfl ?_
      exact lc_extreme LX h5 hI (by omega) (by omega) (J h5)
    · subst q
      refine g_tin (tgt := 1841) C dL_law_43 (by omega) (by omega) rfl rfl ?_
      exact lc_split LX h5 hI (by omega) (by omega) (J h5)
    · subst q
      refine g_tin (tgt := 1881) C dL_law_43 (by omega) (by omega) rfl rfl ?_
      exact lc_euclid LX h5 hI (by omega) (by omega) (J h5)
    · subst q
      refine g_tin (tgt := 1909) C dL_law_43 (by omega) (by omega) rfl rfl ?_
      exact lc_settle LX h5 hI (by omega) (by omega) (J h5)
    · subst q
      refine g_tin (tgt := 1937) C dL_law_43 (by omega) (by omega) rfl rfl ?_
      exact lc_splitNumber LX h5 hI (by omega) (by omega) (J h5)
    · subst q
      refine g_tin (tgt := 1977) C dL_law_43 (by omega) (by omega) rfl rfl ?_
      exact lc_way LX h5 hI (by omega) (by omega) (J h5)
    · subst q
      refine g_tin (tgt := 2005) C dL_law_43 (by omega) (by omega) rfl rfl ?_
      exact lc_product LX h5 hI (by omega) (by omega) (J h5)
    · subst q
      refine g_tin (tgt := 2045) C dL_law_43 (by omega) (by omega) rfl rfl ?_
      exact lc_symbol LX h5 hI (by omega) (by omega) (J h5)
    · subst q
      refine g_tin (tgt := 2085) C dL_law_43 (by omega) (by omega) rfl rfl ?_
      exact lc_inverse LX h5 hI (by omega) (by omega) (J h5)
    · subst q
      refine g_tin (tgt := 2125) C dL_law_43 (by omega) (by omega) rfl rfl ?_
      exact lc_isPrime LX h5 hI (by omega) (by omega) (J h5)
    · subst q
      refine g_tin (tgt := 2153) C dL_law_43 (by omega) (by omega) rfl rfl ?_
      exact lc_house LX h5 hI (by omega) (by omega) (J h5)
    · subst q
      refine g_tin (tgt := 2181) C dL_law_43 (by omega) (by omega) rfl rfl ?_
      exact lc_knock LX h5 hI (by omega) (by omega) (J h5)
    · subst q
      refine g_tin (tgt := 2194) C dL_law_43 (by omega) (by omega) rfl rfl ?_
      exact lc_isSound LX h5 hI (by omega) (by omega) (J h5)
    · subst q
      refine g_tin (tgt := 2207) C dL_law_43 (by omega) (by omega) rfl rfl ?_
      exact lc_digest LX h5 hI (by omega) (by omega) (J h5)
    · refine g_tout (tgt := 2220) C dL_law_43 (by omega) (by omega) rfl ?_
      exact g_widen (by omega) (by omega) (J h5 w hI.up)
theorem law_loop {K : KC} {E : GE} {X : XT} {b N : Nat} {f : Nat → Int} (LX : LawX K E X b N f) (hend : ∀ (L' : List (Option Value)) (w : Wd) (k n : Nat), k ≤ 793047 → n ≤ 6722339 → G E X 7 2227 L' [iI 1] w k n) {x m o k n : Nat} (hk : k + 2000 * 64 ≤ 793047) (hn : n + 80000 * 64 ≤ 6722339) : ∀ (r t : Nat) (w : Wd), N < 5 * (t + r) + 5 → 5 * t ≤ N → INV x m o t w → G E X 7 27 (LL b x m o t) [] w (k + 2000 * t) (n + 80000 * t) := by
  intro r
  have hN := LX.2.2.2.2.2.2.2.2.2
  induction r with
  | zero =>
    intro t w h1 h2 h3
    exact law_step LX hend h2 h3 ⟨by omega, by omega⟩ (fun h => by omega) (fun h => by omega)
  | succ r ih =>
    intro t w h1 h2 h3
    refine law_step LX hend h2 h3 ⟨by omega, by omega⟩ (fun h => ⟨by omega, by omega⟩) (fun h w' h' => ?_)
    exact g_widen (by omega) (by omega) (ih (t + 1) w' (by omega) (by omega) h')
set_option maxHeartbeats 4000000 in
set_option maxRecDepth 100000 in
theorem s_X7_init (l : Launch) {K : KC} {E : GE} {w : Wd} {a : Nat} {fs : List Value} (hO : w.2 a = some (true, eO 9 fs)) : St K E l yX7_init cX7_init 1 none 1 (0) (0) [.ref a] w (fun r' w' => r' = none ∧ w' = w) := by
  refine st_intro [some (.ref a)] rfl (Nat.le_of_ble_eq_true rfl) pn_X7 ?_
  intro X C hT hRm hl hnm hQ
  obtain ⟨hRf, hRl, hRc, hRs⟩ := hRm
  refine g_wf (fun hwf => ?_)
  refine g_aload_n C dX7_init_0 rfl ?_
  refine g_objInit C ml_RX7_1 (by omega) (by omega) (Nat.le_of_ble_eq_true rfl) dX7_init_1 ?_
  exact g_return C hQ dX7_init_4 (Nat.le_refl _) (Nat.le_refl _) ⟨rfl, rfl⟩
set_option maxHeartbeats 4000000 in
set_option maxRecDepth 100000 in
theorem law_body {K : KC} {E : GE} {X : XT} {b N : Nat} {f : Nat → Int} (LX : LawX K E X b N f) (hend : ∀ (L' : List (Option Value)) (w : Wd) (k n : Nat), k ≤ 793047 → n ≤ 6722339 → G E X 7 2227 L' [iI 1] w k n) {w : Wd} : G E X 7 0 [some (.ref b), none, none, none, none, none, none] [] w 0 0 := by
  obtain ⟨C, hT, hH, hls, ⟨hRf, hRl, hRc, hRs⟩, hS⟩ := id LX
  have hN := hS.2.2.2.2
  refine g_wf (fun hwf => ?_)
  refine g_new (ci := 8) C rfl inTX6 tyX6 tyX6_ok kl_RL_8 ib_RX6 in_RX6 (fs := [.null, .null, .null, .null, .null, .null, .null, .null, .null, .null, iI 0, iI 0, iI 0, iI 0, iI 0]) (by intro j hj; repeat (first | rfl | (cases j; rfl) | (rename_i j; cases j; rfl) | omega)) (by omega) dL_law_0 ?_
  refine g_gen (fun u1 hu1 => ?_)
  have nu1 : u1.1 = w.1 + 1 := by rw [hu1]; rfl
  have eu1 : u1.2 w.1 = some (true, eO 8 [.null, .null, .null, .null, .null, .null, .null, .null, .null, .null, iI 0, iI 0, iI 0, iI 0, iI 0]) := by rw [hu1]; exact wpush_s
  clear hu1
  refine g_dup C dL_law_3 rfl ?_
  refine t_callI C hT (s_X6_init _ eu1 (τ := fun _ => 0)) ml_RL_169 im_yX6_init in_RX6 co_yX6_init rfl hd_X6_init rfl ⟨by omega, by omega⟩ rfl (Nat.le_of_ble_eq_true rfl) ⟨by omega, by omega⟩ dL_law_4 (fun v4 w4 hp4 => ?_)
  obtain ⟨hv4, nu2, hC2, -⟩ := hp4
  subst hv4
  refine g_wf (fun f4 => ?_)
  refine g_astore_n C dL_law_7 (by decide) rfl ?_
  refine g_new (ci := 10) C rfl inTX8 tyX8 tyX8_ok kl_RL_170 ib_RX8 in_RX8 (fs := [iI 0, .null, .null, .null, .null, .null, .null, .null]) (by intro j hj; repeat (first | rfl | (cases j; rfl) | (rename_i j; cases j; rfl) | omega)) (by omega) dL_law_8 ?_
  refine g_gen (fun u5 hu5 => ?_)
  have nu5 : u5.1 = w4.1 + 1 := by rw [hu5]; rfl
  have eu5 : u5.2 w4.1 = some (true, eO 10 [iI 0, .null, .null, .null, .null, .null, .null, .null]) := by rw [hu5]; exact wpush_s
  have xu5 : ∀ a x, w4.2 a = some x → u5.2 a = some x := by rw [hu5]; exact (Ex.push f4 _).2
  refine g_wf (fun f5 => ?_)
  obtain ⟨τ3, ad3, hτ3, hx3, hC3⟩ := cs_mark (m := w4.1) (w' := u5) hC2 f4 1 (Nat.le_refl _) (by omega) xu5
  refine g_dup C dL_law_11 rfl ?_
  refine g_callI C (c_X8_init _ eu5 hτ3) ml_RL_172 im_yX8_init in_RX8 co_yX8_init rfl hd_X8_init rfl ⟨by omega, by omega⟩ rfl (Nat.le_of_ble_eq_true rfl) ⟨by omega, by omega⟩ dL_law_12 (fun v12 w12 hp12 => ?_)
  obtain ⟨τ4, A, ba, st, pm, le, ri, sp, cm, hv12, ht4, hM4, hk4, hi4, hc4, nu12⟩ := hp12
  subst hv12
  refine g_wf (fun f12 => ?_)
  refine g_astore_n C dL_law_15 (by decide) rfl ?_
  refine g_new (ci := 9) C rfl inTX7 tyX7 tyX7_ok kl_RL_14 ib_RX7 in_RX7 (fs := [jJ 0, .null]) (by intro j hj; repeat (first | rfl | (cases j; rfl) | (rename_i j; cases j; rfl) | omega)) (by omega) dL_law_16 ?_
  refine g_gen (fun u16 hu16 => ?_)
  have nu16 : u16.1 = w12.1 + 1 := by rw [hu16]; rfl
  have eu16 : u16.2 w12.1 = some (true, eO 9 [jJ 0, .null]) := by rw [hu16]; exact wpush_s
  have xu16 : ∀ a x, w12.2 a = some x → u16.2 a = some x := by rw [hu16]; exact (Ex.push f12 _).2
  refine g_dup C dL_law_19 rfl ?_
  refine t_nI C hT (s_X7_init _ eu16) 8 rfl im_yX7_init in_RX7 co_yX7_init rfl hd_X7_init rfl ⟨by omega, by omega⟩ rfl (Nat.le_of_ble_eq_true rfl) ⟨by omega, by omega⟩ dL_law_20 (fun v20 w20 hp20 => ?_)
  obtain ⟨hv20, hw20⟩ := hp20
  subst hv20
  subst hw20
  have hI0 := inv_0 (w' := w20) f5 f12 hC3 hk4 ht4 hM4 hi4 hc4 nu16 xu16 eu16
  rw [hx3] at hI0
  refine g_astore_n C dL_law_23 (by decide) rfl ?_
  refine g_iconst C dL_law_24 ?_
  refine g_istore C dL_law_25 (by decide) rfl ?_
  exact g_widen (k' := 1000 + 2000 * 0) (n' := 5000 + 80000 * 0) (by omega) (by omega) (law_loop LX hend (k := 1000) (n := 5000) (by omega) (by omega) N 0 _ (by omega) (by omega) hI0)
