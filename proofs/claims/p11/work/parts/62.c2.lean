set_option maxHeartbeats 4000000 in
set_option maxRecDepth 100000 in
theorem c_X5_compareSize (l : Launch) {E : GE} {w : Wd} {a r : Nat} {f : Nat → Int} {u : Nat} {bl : Int} (h1 : RA w a r f u bl) {b s : Nat} {g : Nat → Int} {v : Nat} {bm : Int} (h2 : RA w b s g v bm) : Sp E l yX5_compareSize cX5_compareSize 3 (some .int) 1 (0) (0) [.ref a, .ref b] w (fun r' w' => (∃ d : Int, r' = some (iI d) ∧ (V18 f < V18 g ∧ d = -1 ∨ V18 f = V18 g ∧ d = 0 ∨ V18 g < V18 f ∧ d = 1)) ∧ w' = w) := by
  refine sp_intro [some (.ref a), some (.ref b), none] rfl (Nat.le_of_ble_eq_true rfl) pn_X5 ?_
  intro X C hRm hl hnm hQ
  obtain ⟨hRf, hRl, hRc, hRs⟩ := hRm
  refine g_wf (fun hwf => ?_)
  have hB28 : B28 = 268435456 := rfl
  have hne := h1.ne
  obtain ⟨hO, hR, hf, hbl⟩ := id h1
  have hu18 := hf.2.1
  have hne2 := h2.ne
  have hn12 := h1.ne2 h2
  have hn21 := h2.ne2 h1
  obtain ⟨hO2, hR2, hg, hbm⟩ := id h2
  have hv18 := hg.2.1
  obtain ⟨q, hq1, hq2, hq3, hq4, hq5, hq6⟩ := mx18 hu18 hv18
  refine g_bipush C dX5_compareSize_0 (by decide) ?_
  refine g_aload_n C dX5_compareSize_2 rfl ?_
  refine g_get (ci := 7) C rfl inTX5 1 (by decide) fl_RX5_17 rfl hO rfl dX5_compareSize_3 ?_
  refine g_aload_n C dX5_compareSize_6 rfl ?_
  refine g_get (ci := 7) C rfl inTX5 1 (by decide) fl_RX5_17 rfl hO2 rfl dX5_compareSize_7 ?_
  refine g_max C ml_RX5_60 (by omega) (by omega) (by omega) (by omega) (Nat.le_of_ble_eq_true rfl) (by omega) dX5_compareSize_10 ?_
  rw [hq5]
  refine g_min C ml_RX5_66 (by omega) (by omega) (by omega) (by omega) (Nat.le_of_ble_eq_true rfl) (by omega) dX5_compareSize_13 ?_
  rw [hq6]
  refine g_iconst C dX5_compareSize_16 ?_
  refine g_isub C dX5_compareSize_17 ?_
  refine g_istore_n C dX5_compareSize_18 (by decide) rfl ?_
  refine g_loop (σ := Int) (fun i => -1 ≤ i ∧ i ≤ 17 ∧ ∀ j : Nat, i < j → j < 18 → f j = g j) (fun i => G E X 3 19 [some (.ref a), some (.ref b), some (iI i)] [] w 0 0) (fun i => (i + 1).toNat) ?_ ((q : Int) - 1) ⟨by omega, by omega, fun j h3 h4 => by rw [hf.2.2.1 j (by omega) h4, hg.2.2.1 j (by omega) h4]⟩
  rintro i ⟨hi0, hi1, heq⟩ ih
  refine g_iload_n C dX5_compareSize_19 rfl ?_
  refine g_if_lt (tgt := 65) C dX5_compareSize_20 (by decide) (by omega) (fun h20 => ?_) (fun h20 => ?_)
  · refine g_iconst C dX5_compareSize_65 ?_
    exact g_ireturn C hQ dX5_compareSize_66 (Nat.le_refl _) (Nat.le_refl _) ⟨⟨0, rfl, Or.inr (Or.inl ⟨nv_congr (fun j hj => heq j (by omega) hj), rfl⟩)⟩, rfl⟩
  · obtain ⟨k, rfl⟩ := Int.eq_ofNat_of_zero_le (show 0 ≤ i by omega)
    have hfk := hf.1 k (by omega)
    have hgk := hg.1 k (by omega)
    refine g_aload_n C dX5_compareSize_23 rfl ?_
    refine g_get (ci := 7) C rfl inTX5 0 (by decide) fl_RX5_9 rfl hO rfl dX5_compareSize_24 ?_
    refine g_iload_n C dX5_compareSize_27 rfl ?_
    refine g_ialoadN (k) C hR (by omega) (by omega) dX5_compareSize_28 ?_
    refine g_aload_n C dX5_compareSize_29 rfl ?_
    refine g_get (ci := 7) C rfl inTX5 0 (by decide) fl_RX5_9 rfl hO2 rfl dX5_compareSize_30 ?_
    refine g_iload_n C dX5_compareSize_33 rfl ?_
    refine g_ialoadN (k) C hR2 (by omega) (by omega) dX5_compareSize_34 ?_
    refine g_icmp_eq (tgt := 59) C dX5_compareSize_35 (by decide) (by omega) (by omega) (fun h35 => ?_) (fun h35 => ?_)
    · refine g_iinc C dX5_compareSize_59 rfl (by decide) rfl ?_
      refine g_goto (tgt := 19) C dX5_compareSize_62 (by decide) ?_
      exact ih ((k : Int) + -1) ⟨by omega, by omega, fun j h3 h4 => by
        by_cases c : j = k
        · rw [c]; omega
        · exact heq j (by omega) h4⟩ (by omega)
    · refine g_aload_n C dX5_compareSize_38 rfl ?_
      refine g_get (ci := 7) C rfl inTX5 0 (by decide) fl_RX5_9 rfl hO rfl dX5_compareSize_39 ?_
      refine g_iload_n C dX5_compareSize_42 rfl ?_
      refine g_ialoadN (k) C hR (by omega) (by omega) dX5_compareSize_43 ?_
      refine g_aload_n C dX5_compareSize_44 rfl ?_
      refine g_get (ci := 7) C rfl inTX5 0 (by decide) fl_RX5_9 rfl hO2 rfl dX5_compareSize_45 ?_
      refine g_iload_n C dX5_compareSize_48 rfl ?_
      refine g_ialoadN (k) C hR2 (by omega) (by omega) dX5_compareSize_49 ?_
      refine g_icmp_le (tgt := 57) C dX5_compareSize_50 (by decide) (by omega) (by omega) (fun h50 => ?_) (fun h50 => ?_)
      · refine g_iconst C dX5_compareSize_57 ?_
        exact g_ireturn C hQ dX5_compareSize_58 (Nat.le_refl _) (Nat.le_refl _) ⟨⟨_, rfl, by
          first
          | exact Or.inr (Or.inr ⟨nv_cmp (by decide) (hg.1.dg (Nat.le_refl _)) (hf.1.dg (Nat.le_refl _)) (k := k) (by omega) (fun j h3 h4 => (heq j (by omega) h4).symm) (by omega), rfl⟩)
          | exact Or.inl ⟨nv_cmp (by decide) (hf.1.dg (Nat.le_refl _)) (hg.1.dg (Nat.le_refl _)) (k := k) (by omega) (fun j h3 h4 => heq j (by omega) h4) (by omega), rfl⟩⟩, rfl⟩
      · refine g_iconst C dX5_compareSize_53 ?_
        refine g_goto (tgt := 58) C dX5_compareSize_54 (by decide) ?_
        exact g_ireturn C hQ dX5_compareSize_58 (Nat.le_refl _) (Nat.le_refl _) ⟨⟨_, rfl, by
          first
          | exact Or.inr (Or.inr ⟨nv_cmp (by decide) (hg.1.dg (Nat.le_refl _)) (hf.1.dg (Nat.le_refl _)) (k := k) (by omega) (fun j h3 h4 => (heq j (by omega) h4).symm) (by omega), rfl⟩)
          | exact Or.inl ⟨nv_cmp (by decide) (hf.1.dg (Nat.le_refl _)) (hg.1.dg (Nat.le_refl _)) (k := k) (by omega) (fun j h3 h4 => heq j (by omega) h4) (by omega), rfl⟩⟩, rfl⟩
set_option maxHeartbeats 4000000 in
set_option maxRecDepth 100000 in
theorem c_X5_addSize (l : Launch) {E : GE} {w : Wd} {a r : Nat} {f : Nat → Int} {u : Nat} {bl : Int} (h1 : RA w a r f u bl) {b s : Nat} {g : Nat → Int} {v : Nat} {bm : Int} (h2 : RA w b s g v bm) (hrs : r ≠ s) (hbd : V18 f + V18 g < B28 ^ 18) : Sp E l yX5_addSize cX5_addSize 5 none 1 (0) (0) [.ref a, .ref b] w (fun r' w' => r' = none ∧ ∃ f' u', RA w' a r f' u' (if 0 < u' then bl else 0) ∧ V18 f' = V18 f + V18 g ∧ FrW w w' a r) := by
  refine sp_intro [some (.ref a), some (.ref b), none, none, none] rfl (Nat.le_of_ble_eq_true rfl) pn_X5 ?_
  intro X C hRm hl hnm hQ
  obtain ⟨hRf, hRl, hRc, hRs⟩ := hRm
  refine g_wf (fun hwf => ?_)
  have hB28 : B28 = 268435456 := rfl
  have hne := h1.ne
  obtain ⟨hO, hR, hf, hbl⟩ := id h1
  have hu18 := hf.2.1
  have hne2 := h2.ne
  have hn12 := h1.ne2 h2
  have hn21 := h2.ne2 h1
  obtain ⟨hO2, hR2, hg, hbm⟩ := id h2
  have hv18 := hg.2.1
  obtain ⟨q, hq1, hq2, hq3, hq4, hq5, hq6⟩ := mx18 hu18 hv18
  obtain ⟨e, he1, he2, he3⟩ := mn18 (q + 1)
  refine g_bipush C dX5_addSize_0 (by decide) ?_
  refine g_aload_n C dX5_addSize_2 rfl ?_
  refine g_get (ci := 7) C rfl inTX5 1 (by decide) fl_RX5_17 rfl hO rfl dX5_addSize_3 ?_
  refine g_aload_n C dX5_addSize_6 rfl ?_
  refine g_get (ci := 7) C rfl inTX5 1 (by decide) fl_RX5_17 rfl hO2 rfl dX5_addSize_7 ?_
  refine g_max C ml_RX5_60 (by omega) (by omega) (by omega) (by omega) (Nat.le_of_ble_eq_true rfl) (by omega) dX5_addSize_10 ?_
  rw [hq5]
  refine g_iconst C dX5_addSize_13 ?_
  refine g_iadd C dX5_addSize_14 ?_
  rw [show (q : Int) + 1 = ((q + 1 : Nat) : Int) by omega]
  refine g_min C ml_RX5_66 (by omega) (by omega) (by omega) (by omega) (Nat.le_of_ble_eq_true rfl) (by omega) dX5_addSize_15 ?_
  rw [he3]
  refine g_istore_n C dX5_addSize_18 (by decide) rfl ?_
  refine g_iconst C dX5_addSize_19 ?_
  refine g_istore_n C dX5_addSize_20 (by decide) rfl ?_
  refine g_iconst C dX5_addSize_21 ?_
  refine g_istore C dX5_addSize_22 (by decide) rfl ?_
  suffices hh : G E X 5 24 [some (.ref a), some (.ref b), some (iI (e : Int)), some (iI 0), some (iI ((0 : Nat) : Int))] [] (wset w r (true, eI 18 f)) 0 0 by rw [wset_id hR] at hh; exact hh
  refine g_loop (σ := Nat × Int × (Nat → Int)) (fun t => t.1 ≤ e ∧ (t.2.1 = 0 ∨ t.2.1 = 1) ∧ DC t.2.2 ∧ (∀ i, t.1 ≤ i → t.2.2 i = f i) ∧ nv B28 t.2.2 t.1 + t.2.1 * B28 ^ t.1 = nv B28 f t.1 + nv B28 g t.1) (fun t => G E X 5 24 [some (.ref a), some (.ref b), some (iI (e : Int)), some (iI t.2.1), some (iI (t.1 : Int))] [] (wset w r (true, eI 18 t.2.2)) 0 0) (fun t => e - t.1) ?_ (0, 0, f) ⟨Nat.zero_le _, Or.inl rfl, hf.1, fun i _ => rfl, by rfl⟩
  rintro ⟨j, c, h⟩ hq ih
  obtain ⟨hj, hc, hdh, hhi, hv⟩ := hq
  dsimp only at hj hc hdh hhi hv ⊢
  have hOk : (wset w r (true, eI 18 h)).2 a = some (true, oW r u bl) := by rw [wset_n hne]; exact hO
  have hO2k : (wset w r (true, eI 18 h)).2 b = some (true, oW s v bm) := by rw [wset_n hn21]; exact hO2
  have hR2k : (wset w r (true, eI 18 h)).2 s = some (true, eI 18 g) := by rw [wset_n (Ne.symm hrs)]; exact hR2
  refine g_iload C dX5_addSize_24 rfl ?_
  refine g_iload_n C dX5_addSize_26 rfl ?_
  refine g_icmp_ge (tgt := 70) C dX5_addSize_27 (by decide) (by omega) (by omega) (fun h27 => ?_) (fun h27 => ?_)
  · have ej : j = e := by omega
    subst ej
    have hc0 : c = 0 := by
      rcases hc with c1 | c1
      · exact c1
      · exfalso
        have hn0 := nv_nonneg (B := B28) (by decide) (hdh.dg he1)
        rw [c1, Int.one_mul] at hv
        rcases he2 with ⟨k1, k2⟩ | ⟨k1, k2⟩
        · have e1 : nv B28 f j = V18 f := (nv_zeros (B := B28) (f := f) (m := j) (n := 18) he1 (fun i h3 h4 => hf.2.2.1 i (by omega) h4)).symm
          have e2 : nv B28 g j = V18 g := (nv_zeros (B := B28) (f := g) (m := j) (n := 18) he1 (fun i h3 h4 => hg.2.2.1 i (by omega) h4)).symm
          have l1 := hf.lt
          have l2 := hg.lt
          have l3 := pw28_le hq1
          have l4 := pw28_le hq2
          have l5 : B28 ^ j = B28 ^ q * B28 := by rw [k1, Int.pow_succ]
          have l6 := pw_pos (B := B28) (by decide) q
          rw [e1, e2] at hv
          have l7 : B28 ^ q * 2 ≤ B28 ^ q * B28 := Int.mul_le_mul_of_nonneg_left (by decide) (Int.le_of_lt l6)
          omega
        · subst k1
          unfold V18 at hbd
          omega
    rw [hc0, Int.zero_mul, Int.add_zero] at hv
    have hz : ∀ i, j ≤ i → i < 18 → h i = 0 := fun i h3 h4 => by
      rw [hhi i h3]
      exact hf.2.2.1 i (by omega) h4
    have hV : V18 h = V18 f + V18 g := by
      rw [show V18 h = nv B28 h j from nv_zeros he1 hz, hv]
      congr 1
      · exact (nv_zeros he1 (fun i h3 h4 => hf.2.2.1 i (by omega) h4)).symm
      · exact (nv_zeros he1 (fun i h3 h4 => hg.2.2.1 i (by omega) h4)).symm
    refine g_aload_n C dX5_addSize_70 rfl ?_
    refine g_iload_n C dX5_addSize_71 rfl ?_
    refine g_callV C (c_X5_trim _ (p := j) hOk wset_s hdh he1 hz hbl) (ci := 7) rfl hOk rfl ml_RX5_30 im_yX5_trim se_RX5_yX5_trim in_RX5 co_yX5_trim hd_X5_trim rfl ⟨by omega, by omega⟩ rfl (Nat.le_of_ble_eq_true rfl) ⟨by omega, by omega⟩ dX5_addSize_72 (fun v72 w72 hp72 => ?_)
    obtain ⟨rfl, u', hw9, hO9, fr9⟩ := hp72
    exact g_return C hQ dX5_addSize_75 (Nat.le_refl _) (Nat.le_refl _) ⟨rfl, h, u', ⟨hO9, by rw [fr9.2 r (Ne.symm hne)]; exact wset_s, hw9, by split <;> omega⟩, hV, ⟨fr9.1, fun x h3 h4 => by rw [fr9.2 x h3, wset_n h4]⟩⟩
  · have hfk := hf.1 j (by omega)
    have hgk := hg.1 j (by omega)
    have hm28 := mod28 (c + (f j + g j))
    have hm28e : (c + (f j + g j)) % B28 = (c + (f j + g j)) % 268435456 := rfl
    have hd28e : (c + (f j + g j)) / B28 = (c + (f j + g j)) / 268435456 := rfl
    refine g_iload_n C dX5_addSize_30 rfl ?_
    refine g_aload_n C dX5_addSize_31 rfl ?_
    refine g_get (ci := 7) C rfl inTX5 0 (by decide) fl_RX5_9 rfl hOk rfl dX5_addSize_32 ?_
    refine g_iload C dX5_addSize_35 rfl ?_
    refine g_ialoadN (j) C wset_s (by omega) (by omega) dX5_addSize_37 ?_
    rw [hhi j (Nat.le_refl _)]
    refine g_aload_n C dX5_addSize_38 rfl ?_
    refine g_get (ci := 7) C rfl inTX5 0 (by decide) fl_RX5_9 rfl hO2k rfl dX5_addSize_39 ?_
    refine g_iload C dX5_addSize_42 rfl ?_
    refine g_ialoadN (j) C hR2k (by omega) (by omega) dX5_addSize_44 ?_
    refine g_iadd C dX5_addSize_45 ?_
    refine g_iadd C dX5_addSize_46 ?_
    refine g_istore_n C dX5_addSize_47 (by decide) rfl ?_
    refine g_aload_n C dX5_addSize_48 rfl ?_
    refine g_get (ci := 7) C rfl inTX5 0 (by decide) fl_RX5_9 rfl hOk rfl dX5_addSize_49 ?_
    refine g_iload C dX5_addSize_52 rfl ?_
    refine g_iload_n C dX5_addSize_54 rfl ?_
    refine g_ldc (z := 268435455) C ko_RX5_69 (by decide) dX5_addSize_55 ?_
    refine g_iand (z := (c + (f j + g j)) % B28) C dX5_addSize_57 (i_mask 28 (by omega) mask28) ?_
    refine g_iastoreN (j) C wset_s (by omega) (by omega) dX5_addSize_58 ?_
    rw [wset_set]
    refine g_iload_n C dX5_addSize_59 rfl ?_
    refine g_bipush C dX5_addSize_60 (by decide) ?_
    refine g_iushr (z := (c + (f j + g j)) / B28) C dX5_addSize_62 (i_ushr 28 (by omega) (by omega) (by decide)) ?_
    refine g_istore_n C dX5_addSize_63 (by decide) rfl ?_
    refine g_iinc C dX5_addSize_64 rfl (by decide) rfl ?_
    refine g_goto (tgt := 24) C dX5_addSize_67 (by decide) ?_
    exact ih (j + 1, (c + (f j + g j)) / B28, iup h j ((c + (f j + g j)) % B28)) ⟨by dsimp only; omega, by dsimp only; omega, hdh.up _ hm28, fun i h3 => by dsimp only at h3 ⊢; rw [iup_n (by omega)]; exact hhi i (by omega), add_step (by decide) hv (by omega)⟩ (by dsimp only; omega)
set_option maxHeartbeats 4000000 in
set_option maxRecDepth 100000 in
theorem c_X5_takeSize (l : Launch) {E : GE} {w : Wd} {a r : Nat} {f : Nat → Int} {u : Nat} {bl : Int} (h1 : RA w a r f u bl) {b s : Nat} {g : Nat → Int} {v : Nat} {bm : Int} (h2 : RA w b s g v bm) (hrs : r ≠ s) (hle : V18 g ≤ V18 f) : Sp E l yX5_takeSize cX5_takeSize 6 none 1 (0) (0) [.ref a, .ref b] w (fun r' w' => r' = none ∧ ∃ f' u', RA w' a r f' u' (if 0 < u' then bl else 0) ∧ V18 f' = V18 f - V18 g ∧ FrW w w' a r) := by
  refine sp_intro [some (.ref a), some (.ref b), none, none, none, none] rfl (Nat.le_of_ble_eq_true rfl) pn_X5 ?_
  intro X C hRm hl hnm hQ
  obtain ⟨hRf, hRl, hRc, hRs⟩ := hRm
  refine g_wf (fun hwf => ?_)
  have hB28 : B28 = 268435456 := rfl
  have hne := h1.ne
  obtain ⟨hO, hR, hf, hbl⟩ := id h1
  have hu18 := hf.2.1
  have hne2 := h2.ne
  have hn12 := h1.ne2 h2
  have hn21 := h2.ne2 h1
  obtain ⟨hO2, hR2, hg, hbm⟩ := id h2
  have hv18 := hg.2.1
  have hvu := hf.len hg hle
  obtain ⟨e, he1, he2, he3⟩ := mn18 u
  have heu : e = u := by omega
  subst heu
  refine g_bipush C dX5_takeSize_0 (by decide) ?_
  refine g_aload_n C dX5_takeSize_2 rfl ?_
  refine g_get (ci := 7) C rfl inTX5 1 (by decide) fl_RX5_17 rfl hO rfl dX5_takeSize_3 ?_
  refine g_min C ml_RX5_66 (by omega) (by omega) (by omega) (by omega) (Nat.le_of_ble_eq_true rfl) (by omega) dX5_takeSize_6 ?_
  rw [he3]
  refine g_istore_n C dX5_takeSize_9 (by decide) rfl ?_
  refine g_iconst C dX5_takeSize_10 ?_
  refine g_istore_n C dX5_takeSize_11 (by decide) rfl ?_
  refine g_iconst C dX5_takeSize_12 ?_
  refine g_istore C dX5_takeSize_13 (by decide) rfl ?_
  suffices hh : G E X 6 15 [some (.ref a), some (.ref b), some (iI (e : Int)), some (iI 0), some (iI ((0 : Nat) : Int)), none] [] (wset w r (true, eI 18 f)) 0 0 by rw [wset_id hR] at hh; exact hh
  refine g_loop (σ := Nat × Int × (Nat → Int)) (fun t => t.1 ≤ e ∧ (t.2.1 = 0 ∨ t.2.1 = 1) ∧ DC t.2.2 ∧ (∀ i, t.1 ≤ i → t.2.2 i = f i) ∧ nv B28 t.2.2 t.1 = nv B28 f t.1 - nv B28 g t.1 + t.2.1 * B28 ^ t.1) (fun t => G E X 6 15 [some (.ref a), some (.ref b), some (iI (e : Int)), some (iI t.2.1), some (iI (t.1 : Int)), none] [] (wset w r (true, eI 18 t.2.2)) 0 0) (fun t => e - t.1) ?_ (0, 0, f) ⟨Nat.zero_le _, Or.inl rfl, hf.1, fun i _ => rfl, by rfl⟩
  rintro ⟨j, c, h⟩ hq ih
  obtain ⟨hj, hc, hdh, hhi, hv⟩ := hq
  dsimp only at hj hc hdh hhi hv ⊢
  have hOk : (wset w r (true, eI 18 h)).2 a = some (true, oW r e bl) := by rw [wset_n hne]; exact hO
  have hO2k : (wset w r (true, eI 18 h)).2 b = some (true, oW s v bm) := by rw [wset_n hn21]; exact hO2
  have hR2k : (wset w r (true, eI 18 h)).2 s = some (true, eI 18 g) := by rw [wset_n (Ne.symm hrs)]; exact hR2
  refine g_iload C dX5_takeSize_15 rfl ?_
  refine g_iload_n C dX5_takeSize_17 rfl ?_
  refine g_icmp_ge (tgt := 69) C dX5_takeSize_18 (by decide) (by omega) (by omega) (fun h18 => ?_) (fun h18 => ?_)
  · have ej : j = e := by omega
    subst ej
    have hn0 := nv_lt (B := B28) (by decide) (hdh.dg he1)
    have e1 : nv B28 f j = V18 f := hf.val.symm
    have e2 : nv B28 g j = V18 g := (nv_zeros (B := B28) (f := g) (m := j) (n := 18) he1 (fun i h3 h4 => hg.2.2.1 i (by omega) h4)).symm
    rw [e1, e2] at hv
    have hc0 : c = 0 := by
      rcases hc with c1 | c1
      · exact c1
      · rw [c1, Int.one_mul] at hv; omega
    rw [hc0, Int.zero_mul, Int.add_zero] at hv
    have hz : ∀ i, j ≤ i → i < 18 → h i = 0 := fun i h3 h4 => by
      rw [hhi i h3]
      exact hf.2.2.1 i h3 h4
    have hV : V18 h = V18 f - V18 g := by
      rw [show V18 h = nv B28 h j from nv_zeros he1 hz, hv]
    refine g_aload_n C dX5_takeSize_69 rfl ?_
    refine g_iload_n C dX5_takeSize_70 rfl ?_
    refine g_callV C (c_X5_trim _ (p := j) hOk wset_s hdh he1 hz hbl) (ci := 7) rfl hOk rfl ml_RX5_30 im_yX5_trim se_RX5_yX5_trim in_RX5 co_yX5_trim hd_X5_trim rfl ⟨by omega, by omega⟩ rfl (Nat.le_of_ble_eq_true rfl) ⟨by omega, by omega⟩ dX5_takeSize_71 (fun v71 w71 hp71 => ?_)
    obtain ⟨rfl, u', hw9, hO9, fr9⟩ := hp71
    exact g_return C hQ dX5_takeSize_74 (Nat.le_refl _) (Nat.le_refl _) ⟨rfl, h, u', ⟨hO9, by rw [fr9.2 r (Ne.symm hne)]; exact wset_s, hw9, by split <;> omega⟩, hV, ⟨fr9.1, fun x h3 h4 => by rw [fr9.2 x h3, wset_n h4]⟩⟩
  · have hfk := hf.1 j (by omega)
    have hgk := hg.1 j (by omega)
    have hm28 := mod28 (f j - g j - c)
    have hm28e : (f j - g j - c) % B28 = (f j - g j - c) % 268435456 := rfl
    have J62 : ∀ c2 : Int, (c2 = 0 ∧ 0 ≤ f j - g j - c ∨ c2 = 1 ∧ f j - g j - c < 0) → G E X 6 62 [some (.ref a), some (.ref b), some (iI (e : Int)), some (iI c), some (iI (j : Int)), some (iI (f j - g j - c))] [iI c2] (wset w r (true, eI 18 (iup h j ((f j - g j - c) % B28)))) 0 0 := by
      intro c2 hc2
      refine g_istore_n C dX5_takeSize_62 (by decide) rfl ?_
      refine g_iinc C dX5_takeSize_63 rfl (by decide) rfl ?_
      refine g_goto (tgt := 15) C dX5_takeSize_66 (by decide) ?_
      have hsb : (f j - g j - c) % B28 = f j - c - g j + c2 * B28 := by rcases hc2 with ⟨c3, c4⟩ | ⟨c3, c4⟩ <;> (rw [c3]; omega)
      refine g_drop 5 ?_
      exact ih (j + 1, c2, iup h j ((f j - g j - c) % B28)) ⟨by dsimp only; omega, by dsimp only; omega, hdh.up _ hm28, fun i h3 => by dsimp only at h3 ⊢; rw [iup_n (by omega)]; exact hhi i (by omega), sub_step (l' := c2) hv hsb⟩ (by dsimp only; omega)
    refine g_aload_n C dX5_takeSize_21 rfl ?_
    refine g_get (ci := 7) C rfl inTX5 0 (by decide) fl_RX5_9 rfl hOk rfl dX5_takeSize_22 ?_
    refine g_iload C dX5_takeSize_25 rfl ?_
    refine g_ialoadN (j) C wset_s (by omega) (by omega) dX5_takeSize_27 ?_
    rw [hhi j (Nat.le_refl _)]
    refine g_aload_n C dX5_takeSize_28 rfl ?_
    refine g_get (ci := 7) C rfl inTX5 0 (by decide) fl_RX5_9 rfl hO2k rfl dX5_takeSize_29 ?_
    refine g_iload C dX5_takeSize_32 rfl ?_
    refine g_ialoadN (j) C hR2k (by omega) (by omega) dX5_takeSize_34 ?_
    refine g_isub C dX5_takeSize_35 ?_
    refine g_iload_n C dX5_takeSize_36 rfl ?_
    refine g_isub C dX5_takeSize_37 ?_
    refine g_istore C dX5_takeSize_38 (by decide) rfl ?_
    refine g_aload_n C dX5_takeSize_40 rfl ?_
    refine g_get (ci := 7) C rfl inTX5 0 (by decide) fl_RX5_9 rfl hOk rfl dX5_takeSize_41 ?_
    refine g_iload C dX5_takeSize_44 rfl ?_
    refine g_iload C dX5_takeSize_46 rfl ?_
    refine g_ldc (z := 268435455) C ko_RX5_69 (by decide) dX5_takeSize_48 ?_
    refine g_iand (z := (f j - g j - c) % B28) C dX5_takeSize_50 (i_mask 28 (by omega) mask28) ?_
    refine g_iastoreN (j) C wset_s (by omega) (by omega) dX5_takeSize_51 ?_
    rw [wset_set]
    refine g_iload C dX5_takeSize_52 rfl ?_
    refine g_if_ge (tgt := 61) C dX5_takeSize_54 (by decide) (by omega) (fun h54 => ?_) (fun h54 => ?_)
    · refine g_iconst C dX5_takeSize_61 ?_
      exact J62 _ (by omega)
    · refine g_iconst C dX5_takeSize_57 ?_
      refine g_goto (tgt := 62) C dX5_takeSize_58 (by decide) ?_
      exact J62 _ (by omega)
