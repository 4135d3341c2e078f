set_option maxHeartbeats 4000000 in
set_option maxRecDepth 100000 in
theorem c_X5_takeFromSize (l : Launch) {E : GE} {w : Wd} {a r : Nat} {f : Nat → Int} {u : Nat} {bl : Int} (h1 : RA w a r f u bl) {b s : Nat} {g : Nat → Int} {v : Nat} {bm : Int} (h2 : RA w b s g v bm) (hrs : r ≠ s) (hle : V18 f ≤ V18 g) : Sp E l yX5_takeFromSize cX5_takeFromSize 6 none 1 (0) (0) [.ref a, .ref b] w (fun r' w' => r' = none ∧ ∃ f' u', RA w' a r f' u' (if 0 < u' then bl else 0) ∧ V18 f' = V18 g - V18 f ∧ FrW w w' a r) := by
  refine sp_intro [some (.ref a), some (.ref b), none, none, none, none] rfl (Nat.le_of_ble_eq_true rfl) pn_X5 ?_
  intro X C hRm hl hnm hQ
  obtain ⟨hRf, hRl, hRc, hRs⟩ := hRm
  refine g_wf (fun hwf => ?_)
  have hB28 : B28 = 268435456 := rfl
  have hne := h1.ne
  obtain ⟨hO, hR, hf, hbl⟩ := id h1
  have hu18 := hf.2.1
  have hne2 := h2.ne
  have hn12 := h1.ne2 h2
  have hn21 := h2.ne2 h1
  obtain ⟨hO2, hR2, hg, hbm⟩ := id h2
  have hv18 := hg.2.1
  have hvu := hg.len hf hle
  obtain ⟨e, he1, he2, he3⟩ := mn18 v
  have heu : e = v := by omega
  subst heu
  refine g_bipush C dX5_takeFromSize_0 (by decide) ?_
  refine g_aload_n C dX5_takeFromSize_2 rfl ?_
  refine g_get (ci := 7) C rfl inTX5 1 (by decide) fl_RX5_17 rfl hO2 rfl dX5_takeFromSize_3 ?_
  refine g_min C ml_RX5_66 (by omega) (by omega) (by omega) (by omega) (Nat.le_of_ble_eq_true rfl) (by omega) dX5_takeFromSize_6 ?_
  rw [he3]
  refine g_istore_n C dX5_takeFromSize_9 (by decide) rfl ?_
  refine g_iconst C dX5_takeFromSize_10 ?_
  refine g_istore_n C dX5_takeFromSize_11 (by decide) rfl ?_
  refine g_iconst C dX5_takeFromSize_12 ?_
  refine g_istore C dX5_takeFromSize_13 (by decide) rfl ?_
  suffices hh : G E X 6 15 [some (.ref a), some (.ref b), some (iI (e : Int)), some (iI 0), some (iI ((0 : Nat) : Int)), none] [] (wset w r (true, eI 18 f)) 0 0 by rw [wset_id hR] at hh; exact hh
  refine g_loop (σ := Nat × Int × (Nat → Int)) (fun t => t.1 ≤ e ∧ (t.2.1 = 0 ∨ t.2.1 = 1) ∧ DC t.2.2 ∧ (∀ i, t.1 ≤ i → t.2.2 i = f i) ∧ nv B28 t.2.2 t.1 = nv B28 g t.1 - nv B28 f t.1 + t.2.1 * B28 ^ t.1) (fun t => G E X 6 15 [some (.ref a), some (.ref b), some (iI (e : Int)), some (iI t.2.1), some (iI (t.1 : Int)), none] [] (wset w r (true, eI 18 t.2.2)) 0 0) (fun t => e - t.1) ?_ (0, 0, f) ⟨Nat.zero_le _, Or.inl rfl, hf.1, fun i _ => rfl, by rfl⟩
  rintro ⟨j, c, h⟩ hq ih
  obtain ⟨hj, hc, hdh, hhi, hv⟩ := hq
  dsimp only at hj hc hdh hhi hv ⊢
  have hOk : (wset w r (true, eI 18 h)).2 a = some (true, oW r u bl) := by rw [wset_n hne]; exact hO
  have hO2k : (wset w r (true, eI 18 h)).2 b = some (true, oW s e bm) := by rw [wset_n hn21]; exact hO2
  have hR2k : (wset w r (true, eI 18 h)).2 s = some (true, eI 18 g) := by rw [wset_n (Ne.symm hrs)]; exact hR2
  refine g_iload C dX5_takeFromSize_15 rfl ?_
  refine g_iload_n C dX5_takeFromSize_17 rfl ?_
  refine g_icmp_ge (tgt := 69) C dX5_takeFromSize_18 (by decide) (by omega) (by omega) (fun h18 => ?_) (fun h18 => ?_)
  · have ej : j = e := by omega
    subst ej
    have hn0 := nv_lt (B := B28) (by decide) (hdh.dg he1)
    have e1 : nv B28 g j = V18 g := hg.val.symm
    have e2 : nv B28 f j = V18 f := (nv_zeros (B := B28) (f := f) (m := j) (n := 18) he1 (fun i h3 h4 => hf.2.2.1 i (by omega) h4)).symm
    rw [e1, e2] at hv
    have hc0 : c = 0 := by
      rcases hc with c1 | c1
      · exact c1
      · rw [c1, Int.one_mul] at hv; omega
    rw [hc0, Int.zero_mul, Int.add_zero] at hv
    have hz : ∀ i, j ≤ i → i < 18 → h i = 0 := fun i h3 h4 => by
      rw [hhi i h3]
      exact hf.2.2.1 i (by omega) h4
    have hV : V18 h = V18 g - V18 f := by
      rw [show V18 h = nv B28 h j from nv_zeros he1 hz, hv]
    refine g_aload_n C dX5_takeFromSize_69 rfl ?_
    refine g_iload_n C dX5_takeFromSize_70 rfl ?_
    refine g_callV C (c_X5_trim _ (p := j) hOk wset_s hdh he1 hz hbl) (ci := 7) rfl hOk rfl ml_RX5_30 im_yX5_trim se_RX5_yX5_trim in_RX5 co_yX5_trim hd_X5_trim rfl ⟨by omega, by omega⟩ rfl (Nat.le_of_ble_eq_true rfl) ⟨by omega, by omega⟩ dX5_takeFromSize_71 (fun v71 w71 hp71 => ?_)
    obtain ⟨rfl, u', hw9, hO9, fr9⟩ := hp71
    exact g_return C hQ dX5_takeFromSize_74 (Nat.le_refl _) (Nat.le_refl _) ⟨rfl, h, u', ⟨hO9, by rw [fr9.2 r (Ne.symm hne)]; exact wset_s, hw9, by split <;> omega⟩, hV, ⟨fr9.1, fun x h3 h4 => by rw [fr9.2 x h3, wset_n h4]⟩⟩
  · have hfk := hf.1 j (by omega)
    have hgk := hg.1 j (by omega)
    have hm28 := mod28 (g j - f j - c)
    have hm28e : (g j - f j - c) % B28 = (g j - f j - c) % 268435456 := rfl
    have J62 : ∀ c2 : Int, (c2 = 0 ∧ 0 ≤ g j - f j - c ∨ c2 = 1 ∧ g j - f j - c < 0) → G E X 6 62 [some (.ref a), some (.ref b), some (iI (e : Int)), some (iI c), some (iI (j : Int)), some (iI (g j - f j - c))] [iI c2] (wset w r (true, eI 18 (iup h j ((g j - f j - c) % B28)))) 0 0 := by
      intro c2 hc2
      refine g_istore_n C dX5_takeFromSize_62 (by decide) rfl ?_
      refine g_iinc C dX5_takeFromSize_63 rfl (by decide) rfl ?_
      refine g_goto (tgt := 15) C dX5_takeFromSize_66 (by decide) ?_
      have hsb : (g j - f j - c) % B28 = g j - c - f j + c2 * B28 := by rcases hc2 with ⟨c3, c4⟩ | ⟨c3, c4⟩ <;> (rw [c3]; omega)
      refine g_drop 5 ?_
      exact ih (j + 1, c2, iup h j ((g j - f j - c) % B28)) ⟨by dsimp only; omega, by dsimp only; omega, hdh.up _ hm28, fun i h3 => by dsimp only at h3 ⊢; rw [iup_n (by omega)]; exact hhi i (by omega), sub_step (l' := c2) hv hsb⟩ (by dsimp only; omega)
    refine g_aload_n C dX5_takeFromSize_21 rfl ?_
    refine g_get (ci := 7) C rfl inTX5 0 (by decide) fl_RX5_9 rfl hO2k rfl dX5_takeFromSize_22 ?_
    refine g_iload C dX5_takeFromSize_25 rfl ?_
    refine g_ialoadN (j) C hR2k (by omega) (by omega) dX5_takeFromSize_27 ?_
    refine g_aload_n C dX5_takeFromSize_28 rfl ?_
    refine g_get (ci := 7) C rfl inTX5 0 (by decide) fl_RX5_9 rfl hOk rfl dX5_takeFromSize_29 ?_
    refine g_iload C dX5_takeFromSize_32 rfl ?_
    refine g_ialoadN (j) C wset_s (by omega) (by omega) dX5_takeFromSize_34 ?_
    rw [hhi j (Nat.le_refl _)]
    refine g_isub C dX5_takeFromSize_35 ?_
    refine g_iload_n C dX5_takeFromSize_36 rfl ?_
    refine g_isub C dX5_takeFromSize_37 ?_
    refine g_istore C dX5_takeFromSize_38 (by decide) rfl ?_
    refine g_aload_n C dX5_takeFromSize_40 rfl ?_
    refine g_get (ci := 7) C rfl inTX5 0 (by decide) fl_RX5_9 rfl hOk rfl dX5_takeFromSize_41 ?_
    refine g_iload C dX5_takeFromSize_44 rfl ?_
    refine g_iload C dX5_takeFromSize_46 rfl ?_
    refine g_ldc (z := 268435455) C ko_RX5_69 (by decide) dX5_takeFromSize_48 ?_
    refine g_iand (z := (g j - f j - c) % B28) C dX5_takeFromSize_50 (i_mask 28 (by omega) mask28) ?_
    refine g_iastoreN (j) C wset_s (by omega) (by omega) dX5_takeFromSize_51 ?_
    rw [wset_set]
    refine g_iload C dX5_takeFromSize_52 rfl ?_
    refine g_if_ge (tgt := 61) C dX5_takeFromSize_54 (by decide) (by omega) (fun h54 => ?_) (fun h54 => ?_)
    · refine g_iconst C dX5_takeFromSize_61 ?_
      exact J62 _ (by omega)
    · refine g_iconst C dX5_takeFromSize_57 ?_
      refine g_goto (tgt := 62) C dX5_takeFromSize_58 (by decide) ?_
      exact J62 _ (by omega)
theorem WN.z {f : Nat → Int} {u : Nat} {bl z : Int} (h : WN f u bl z) : bl = 1 ∧ z = -V18 f ∨ bl = 0 ∧ z = V18 f := by
  rcases h.2 with ⟨c1, -, c2⟩ | ⟨c1, c2⟩
  · exact Or.inl ⟨c1, c2⟩
  · exact Or.inr ⟨c1, c2⟩
theorem oW_inj {r s u v : Nat} {x y : Int} (h : some (true, oW r u x) = some (true, oW s v y)) : r = s := by
  simp [oW, eO] at h
  exact h.1
theorem WA.eq {w : Wd} {a r : Nat} {x y : Int} (h : WA w a r x) (e : x = y) : WA w a r y := e ▸ h
theorem if1 (x y : Int) : (if (1 : Int) = 1 then x else y) = x := if_pos rfl
theorem if0 (x y : Int) : (if (0 : Int) = 1 then x else y) = y := if_neg (by decide)
set_option maxHeartbeats 4000000 in
set_option maxRecDepth 100000 in
theorem c_X5_addOrTake (l : Launch) {E : GE} {w : Wd} {a r b s : Nat} {z1 z2 : Int} (h1 : WA w a r z1) (h2 : WA w b s z2) {y : Int} (hy : y = 0 ∨ y = 1) (hrs : r ≠ s) (hab : a ≠ b) (hbd : aB z1 + aB z2 < B28 ^ 18) : Sp E l yX5_addOrTake cX5_addOrTake 4 none 2 (0) (0) [.ref a, .ref b, iI y] w (fun r' w' => r' = none ∧ WA w' a r (if y = 1 then z1 - z2 else z1 + z2) ∧ FrW w w' a r) := by
  refine sp_intro [some (.ref a), some (.ref b), some (iI y), none] rfl (Nat.le_of_ble_eq_true rfl) pn_X5 ?_
  intro X C hRm hl hnm hQ
  obtain ⟨hRf, hRl, hRc, hRs⟩ := hRm
  refine g_wf (fun hwf => ?_)
  obtain ⟨f, u, bl, k1, n1⟩ := h1.ra
  obtain ⟨g, v, bm, k2, n2⟩ := h2.ra
  have hO := k1.1
  have hO2 := k2.1
  have a1 := n1.ab.1
  have a2 := n2.ab.1
  have s1 := n1.z
  have s2 := n2.z
  have hbl := k1.2.2.2
  have hbm := k2.2.2.2
  have hne := k1.ne
  have J13 : ∀ q : Int, (q = 0 ∧ bm = y ∨ q = 1 ∧ bm ≠ y) → G E X 4 13 [some (.ref a), some (.ref b), some (iI y), none] [iI q] w 0 0 := by
    intro q hq
    refine g_istore_n C dX5_addOrTake_13 (by decide) rfl ?_
    refine g_aload_n C dX5_addOrTake_14 rfl ?_
    refine g_get (ci := 7) C rfl inTX5 2 (by decide) fl_RX5_13 rfl hO rfl dX5_addOrTake_15 ?_
    refine g_iload_n C dX5_addOrTake_18 rfl ?_
    refine g_icmp_ne (tgt := 30) C dX5_addOrTake_19 (by decide) (by omega) (by omega) (fun h19 => ?_) (fun h19 => ?_)
    · refine g_aload_n C dX5_addOrTake_30 rfl ?_
      refine g_aload_n C dX5_addOrTake_31 rfl ?_
      refine g_callV C (c_X5_compareSize _ k1 k2) (ci := 7) rfl hO rfl ml_RX5_50 im_yX5_compareSize se_RX5_yX5_compareSize in_RX5 co_yX5_compareSize hd_X5_compareSize rfl ⟨by omega, by omega⟩ rfl (Nat.le_of_ble_eq_true rfl) ⟨by omega, by omega⟩ dX5_addOrTake_32 (fun v32 w32 hp32 => ?_)
      obtain ⟨⟨d32, rfl, hd32⟩, hw32⟩ := hp32
      subst w32
      refine g_if_lt (tgt := 46) C dX5_addOrTake_35 (by decide) (by omega) (fun h35 => ?_) (fun h35 => ?_)
      · refine g_aload_n C dX5_addOrTake_46 rfl ?_
        refine g_iload_n C dX5_addOrTake_47 rfl ?_
        refine g_put (ci := 7) C rfl inTX5 tyX5 tyX5_ok nmX5 2 (by decide) fl_RX5_13 rfl rfl hO (Nat.le_of_ble_eq_true rfl) (by rcases hq with ⟨c, -⟩ | ⟨c, -⟩ <;> (rw [c]; rfl)) (by rcases hq with ⟨c, -⟩ | ⟨c, -⟩ <;> (rw [c]; rfl)) dX5_addOrTake_48 ?_
        have k3 : RA (wset w a (true, eO 7 [.ref r, iI (u : Int), iI q])) a r f u q := ⟨wset_s, by rw [wset_n (Ne.symm hne)]; exact k1.2.1, k1.2.2.1, by omega⟩
        have k4 : RA (wset w a (true, eO 7 [.ref r, iI (u : Int), iI q])) b s g v bm := ⟨by rw [wset_n (Ne.symm hab)]; exact k2.1, by rw [wset_n (Ne.symm (k1.ne2 k2))]; exact k2.2.1, k2.2.2.1, k2.2.2.2⟩
        refine g_aload_n C dX5_addOrTake_51 rfl ?_
        refine g_aload_n C dX5_addOrTake_52 rfl ?_
        refine g_callV C (c_X5_takeFromSize _ (bl := q) k3 k4 hrs (by omega)) (ci := 7) rfl wset_s rfl ml_RX5_57 im_yX5_takeFromSize se_RX5_yX5_takeFromSize in_RX5 co_yX5_takeFromSize hd_X5_takeFromSize rfl ⟨by omega, by omega⟩ rfl (Nat.le_of_ble_eq_true rfl) ⟨by omega, by omega⟩ dX5_addOrTake_53 (fun v53 w53 hp53 => ?_)
        obtain ⟨rfl, f53, u53, r53, v53, fr53⟩ := hp53
        exact g_return C hQ dX5_addOrTake_56 (Nat.le_refl _) (Nat.le_refl _) ⟨rfl, by
          first
          | (have hw := r24.wa hbl
             rw [v24] at hw
             refine hw.eq ?_
             split <;> split <;> omega)
          | (have hw := r40.wa hbl
             rw [v40] at hw
             refine hw.eq ?_
             split <;> split <;> omega)
          | (have hw := r53.wa (by omega)
             rw [v53] at hw
             refine hw.eq ?_
             split <;> split <;> omega), by first | exact fr24 | exact fr40 | exact ((FrW.rf w a r).set (Or.inl rfl) _).tr fr53⟩
      · refine g_aload_n C dX5_addOrTake_38 rfl ?_
        refine g_aload_n C dX5_addOrTake_39 rfl ?_
        refine g_callV C (c_X5_takeSize _ k1 k2 hrs (by omega)) (ci := 7) rfl hO rfl ml_RX5_54 im_yX5_takeSize se_RX5_yX5_takeSize in_RX5 co_yX5_takeSize hd_X5_takeSize rfl ⟨by omega, by omega⟩ rfl (Nat.le_of_ble_eq_true rfl) ⟨by omega, by omega⟩ dX5_addOrTake_40 (fun v40 w40 hp40 => ?_)
        obtain ⟨rfl, f40, u40, r40, v40, fr40⟩ := hp40
        refine g_goto (tgt := 56) C dX5_addOrTake_43 (by decide) ?_
        exact g_return C hQ dX5_addOrTake_56 (Nat.le_refl _) (Nat.le_refl _) ⟨rfl, by
          first
          | (have hw := r24.wa hbl
             rw [v24] at hw
             refine hw.eq ?_
             split <;> split <;> omega)
          | (have hw := r40.wa hbl
             rw [v40] at hw
             refine hw.eq ?_
             split <;> split <;> omega)
          | (have hw := r53.wa (by omega)
             rw [v53] at hw
             refine hw.eq ?_
             split <;> split <;> omega), by first | exact fr24 | exact fr40 | exact ((FrW.rf w a r).set (Or.inl rfl) _).tr fr53⟩
    · refine g_aload_n C dX5_addOrTake_22 rfl ?_
      refine g_aload_n C dX5_addOrTake_23 rfl ?_
      refine g_callV C (c_X5_addSize _ k1 k2 hrs (by omega)) (ci := 7) rfl hO rfl ml_RX5_46 im_yX5_addSize se_RX5_yX5_addSize in_RX5 co_yX5_addSize hd_X5_addSize rfl ⟨by omega, by omega⟩ rfl (Nat.le_of_ble_eq_true rfl) ⟨by omega, by omega⟩ dX5_addOrTake_24 (fun v24 w24 hp24 => ?_)
      obtain ⟨rfl, f24, u24, r24, v24, fr24⟩ := hp24
      refine g_goto (tgt := 56) C dX5_addOrTake_27 (by decide) ?_
      exact g_return C hQ dX5_addOrTake_56 (Nat.le_refl _) (Nat.le_refl _) ⟨rfl, by
        first
        | (have hw := r24.wa hbl
           rw [v24] at hw
           refine hw.eq ?_
           split <;> split <;> omega)
        | (have hw := r40.wa hbl
           rw [v40] at hw
           refine hw.eq ?_
           split <;> split <;> omega)
        | (have hw := r53.wa (by omega)
           rw [v53] at hw
           refine hw.eq ?_
           split <;> split <;> omega), by first | exact fr24 | exact fr40 | exact ((FrW.rf w a r).set (Or.inl rfl) _).tr fr53⟩
  refine g_aload_n C dX5_addOrTake_0 rfl ?_
  refine g_get (ci := 7) C rfl inTX5 2 (by decide) fl_RX5_13 rfl hO2 rfl dX5_addOrTake_1 ?_
  refine g_iload_n C dX5_addOrTake_4 rfl ?_
  refine g_icmp_eq (tgt := 12) C dX5_addOrTake_5 (by decide) (by omega) (by omega) (fun h5 => ?_) (fun h5 => ?_)
  · refine g_iconst C dX5_addOrTake_12 ?_
    exact J13 _ (by omega)
  · refine g_iconst C dX5_addOrTake_8 ?_
    refine g_goto (tgt := 13) C dX5_addOrTake_9 (by decide) ?_
    exact J13 _ (by omega)
set_option maxHeartbeats 4000000 in
set_option maxRecDepth 100000 in
theorem c_X5_compareValue (l : Launch) {E : GE} {w : Wd} {a r b s : Nat} {z1 z2 : Int} (h1 : WA w a r z1) (h2 : WA w b s z2) : Sp E l yX5_compareValue cX5_compareValue 2 (some .int) 2 (0) (0) [.ref a, .ref b] w (fun r' w' => (∃ d : Int, r' = some (iI d) ∧ (z1 < z2 ∧ d = -1 ∨ z1 = z2 ∧ d = 0 ∨ z2 < z1 ∧ d = 1)) ∧ w' = w) := by
  refine sp_intro [some (.ref a), some (.ref b)] rfl (Nat.le_of_ble_eq_true rfl) pn_X5 ?_
  intro X C hRm hl hnm hQ
  obtain ⟨hRf, hRl, hRc, hRs⟩ := hRm
  refine g_wf (fun hwf => ?_)
  obtain ⟨f, u, bl, k1, n1⟩ := h1.ra
  obtain ⟨g, v, bm, k2, n2⟩ := h2.ra
  have hO := k1.1
  have hO2 := k2.1
  have a1 := n1.ab.2.1
  have a2 := n2.ab.2.1
  have s1 := n1.z
  have s2 := n2.z
  refine g_aload_n C dX5_compareValue_0 rfl ?_
  refine g_get (ci := 7) C rfl inTX5 2 (by decide) fl_RX5_13 rfl hO rfl dX5_compareValue_1 ?_
  refine g_aload_n C dX5_compareValue_4 rfl ?_
  refine g_get (ci := 7) C rfl inTX5 2 (by decide) fl_RX5_13 rfl hO2 rfl dX5_compareValue_5 ?_
  refine g_icmp_eq (tgt := 24) C dX5_compareValue_8 (by decide) (by omega) (by omega) (fun h8 => ?_) (fun h8 => ?_)
  · refine g_aload_n C dX5_compareValue_24 rfl ?_
    refine g_get (ci := 7) C rfl inTX5 2 (by decide) fl_RX5_13 rfl hO rfl dX5_compareValue_25 ?_
    refine g_if_eq (tgt := 40) C dX5_compareValue_28 (by decide) (by omega) (fun h28 => ?_) (fun h28 => ?_)
    · refine g_aload_n C dX5_compareValue_40 rfl ?_
      refine g_aload_n C dX5_compareValue_41 rfl ?_
      refine g_callV C (c_X5_compareSize _ k1 k2) (ci := 7) rfl hO rfl ml_RX5_50 im_yX5_compareSize se_RX5_yX5_compareSize in_RX5 co_yX5_compareSize hd_X5_compareSize rfl ⟨by omega, by omega⟩ rfl (Nat.le_of_ble_eq_true rfl) ⟨by omega, by omega⟩ dX5_compareValue_42 (fun v42 w42 hp42 => ?_)
      obtain ⟨⟨d, rfl, hd⟩, hw42⟩ := hp42
      subst w42
      exact g_ireturn C hQ dX5_compareValue_45 (Nat.le_refl _) (Nat.le_refl _) ⟨⟨_, rfl, by omega⟩, rfl⟩
    · refine g_aload_n C dX5_compareValue_31 rfl ?_
      refine g_aload_n C dX5_compareValue_32 rfl ?_
      refine g_callV C (c_X5_compareSize _ k1 k2) (ci := 7) rfl hO rfl ml_RX5_50 im_yX5_compareSize se_RX5_yX5_compareSize in_RX5 co_yX5_compareSize hd_X5_compareSize rfl ⟨by omega, by omega⟩ rfl (Nat.le_of_ble_eq_true rfl) ⟨by omega, by omega⟩ dX5_compareValue_33 (fun v33 w33 hp33 => ?_)
      obtain ⟨⟨d, rfl, hd⟩, hw33⟩ := hp33
      subst w33
      refine g_ineg C dX5_compareValue_36 ?_
      refine g_goto (tgt := 45) C dX5_compareValue_37 (by decide) ?_
      exact g_ireturn C hQ dX5_compareValue_45 (Nat.le_refl _) (Nat.le_refl _) ⟨⟨_, rfl, by omega⟩, rfl⟩
  · refine g_aload_n C dX5_compareValue_11 rfl ?_
    refine g_get (ci := 7) C rfl inTX5 2 (by decide) fl_RX5_13 rfl hO rfl dX5_compareValue_12 ?_
    refine g_if_eq (tgt := 22) C dX5_compareValue_15 (by decide) (by omega) (fun h15 => ?_) (fun h15 => ?_)
    · refine g_iconst C dX5_compareValue_22 ?_
      exact g_ireturn C hQ dX5_compareValue_23 (Nat.le_refl _) (Nat.le_refl _) ⟨⟨_, rfl, by omega⟩, rfl⟩
    · refine g_iconst C dX5_compareValue_18 ?_
      refine g_goto (tgt := 23) C dX5_compareValue_19 (by decide) ?_
      exact g_ireturn C hQ dX5_compareValue_23 (Nat.le_refl _) (Nat.le_refl _) ⟨⟨_, rfl, by omega⟩, rfl⟩
set_option maxHeartbeats 4000000 in
set_option maxRecDepth 100000 in
theorem c_X5_setWhole (l : Launch) {E : GE} {w : Wd} {a r b s : Nat} {z1 z2 : Int} (h1 : WA w a r z1) (h2 : WA w b s z2) (hrs : r ≠ s) : Sp E l yX5_setWhole cX5_setWhole 2 none 1 (0) (0) [.ref a, .ref b] w (fun r' w' => r' = none ∧ WA w' a r z2 ∧ FrW w w' a r) := by
  refine sp_intro [some (.ref a), some (.ref b)] rfl (Nat.le_of_ble_eq_true rfl) pn_X5 ?_
  intro X C hRm hl hnm hQ
  obtain ⟨hRf, hRl, hRc, hRs⟩ := hRm
  refine g_wf (fun hwf => ?_)
  obtain ⟨f, u, bl, k1, n1⟩ := h1.ra
  obtain ⟨g, v, bm, k2, n2⟩ := h2.ra
  obtain ⟨hO, hR, -, -⟩ := id k1
  obtain ⟨hO2, hR2, hg, hbm⟩ := id k2
  have hne := k1.ne
  have hn12 := k1.ne2 k2
  have hn21 := k2.ne2 k1
  have hcp : ∀ i, i < 18 → cpyI g f (0 : Int).toNat (0 : Int).toNat (18 : Int).toNat i = g i := fun i hi => by
    show (if 0 ≤ i ∧ i < 0 + 18 then g (0 + (i - 0)) else f i) = g i
    rw [if_pos ⟨Nat.zero_le _, by omega⟩, Nat.zero_add, Nat.sub_zero]
  have hW9 : WN (cpyI g f (0 : Int).toNat (0 : Int).toNat (18 : Int).toNat) v bm z2 := by
    generalize cpyI g f (0 : Int).toNat (0 : Int).toNat (18 : Int).toNat = c at hcp
    have hV : V18 c = V18 g := nv_congr hcp
    obtain ⟨⟨q1, q2, q3, q4⟩, q5⟩ := n2
    refine ⟨⟨fun i hi => by rw [hcp i hi]; exact q1 i hi, q2, fun i h3 h4 => by rw [hcp i h4]; exact q3 i h3 h4, fun h3 => by rw [hcp _ (by omega)]; exact q4 h3⟩, ?_⟩
    rw [hV]; exact q5
  refine g_aload_n C dX5_setWhole_0 rfl ?_
  refine g_get (ci := 7) C rfl inTX5 0 (by decide) fl_RX5_9 rfl hO2 rfl dX5_setWhole_1 ?_
  refine g_iconst C dX5_setWhole_4 ?_
  refine g_aload_n C dX5_setWhole_5 rfl ?_
  refine g_get (ci := 7) C rfl inTX5 0 (by decide) fl_RX5_9 rfl hO rfl dX5_setWhole_6 ?_
  refine g_iconst C dX5_setWhole_9 ?_
  refine g_bipush C dX5_setWhole_10 (by decide) ?_
  refine g_acopyI C (f := g) (g := f) ⟨hR2, hR, by omega⟩ ml_RX5_34 (by omega) (by omega) (Nat.le_of_ble_eq_true rfl) dX5_setWhole_12 ?_
  refine g_aload_n C dX5_setWhole_15 rfl ?_
  refine g_aload_n C dX5_setWhole_16 rfl ?_
  refine g_get (ci := 7) C rfl inTX5 1 (by decide) fl_RX5_17 rfl (by rw [wset_n hn21]; exact hO2) rfl dX5_setWhole_17 ?_
  refine g_put (ci := 7) C rfl inTX5 tyX5 tyX5_ok nmX5 1 (by decide) fl_RX5_17 rfl rfl (by rw [wset_n hne]; exact hO) (Nat.le_of_ble_eq_true rfl) rfl rfl dX5_setWhole_20 ?_
  generalize hX : cpyI g f (0 : Int).toNat (0 : Int).toNat (18 : Int).toNat = c9 at *
  have hOa : (wset (wset w r (true, eI 18 c9)) a (true, eO 7 [.ref r, iI (v : Int), iI bl])).2 a = some (true, eO 7 [.ref r, iI (v : Int), iI bl]) := wset_s
  have hOb : ∃ vv : Nat, (wset (wset w r (true, eI 18 c9)) a (true, eO 7 [.ref r, iI (v : Int), iI bl])).2 b = some (true, oW s vv bm) := by
    by_cases c : b = a
    · rw [c, wset_s]
      rw [c] at hO2
      rw [hO] at hO2
      exact absurd (oW_inj hO2) hrs
    · exact ⟨v, by rw [wset_n c, wset_n hn21]; exact hO2⟩
  obtain ⟨vv, hOb⟩ := hOb
  refine g_aload_n C dX5_setWhole_23 rfl ?_
  refine g_aload_n C dX5_setWhole_24 rfl ?_
  refine g_get (ci := 7) C rfl inTX5 2 (by decide) fl_RX5_13 rfl hOb rfl dX5_setWhole_25 ?_
  refine g_put (ci := 7) C rfl inTX5 tyX5 tyX5_ok nmX5 2 (by decide) fl_RX5_13 rfl rfl hOa (Nat.le_of_ble_eq_true rfl) (by rcases hbm with c | c <;> (rw [c]; rfl)) (by rcases hbm with c | c <;> (rw [c]; rfl)) dX5_setWhole_28 ?_
  exact g_return C hQ dX5_setWhole_31 (Nat.le_refl _) (Nat.le_refl _) ⟨rfl, ⟨_, v, bm, wset_s, by rw [wset_n (Ne.symm hne), wset_n (Ne.symm hne)]; exact wset_s, hW9⟩, (((FrW.rf w a r).set (Or.inr rfl) _).set (Or.inl rfl) _).set (Or.inl rfl) _⟩
set_option maxHeartbeats 4000000 in
set_option maxRecDepth 100000 in
theorem c_X5_setNumber (l : Launch) {E : GE} {w : Wd} {a r : Nat} {z x : Int} (hW : WA w a r z) (hx : -9223372036854775808 < x ∧ x < 9223372036854775808) : Sp E l yX5_setNumber cX5_setNumber 6 none 2 (0) (0) [.ref a, jJ x] w (fun r' w' => r' = none ∧ WA w' a r x ∧ FrW w w' a r) := by
  refine sp_intro [some (.ref a), some (jJ x), none, none, none, none] rfl (Nat.le_of_ble_eq_true rfl) pn_X5 ?_
  intro X C hRm hl hnm hQ
  obtain ⟨hRf, hRl, hRc, hRs⟩ := hRm
  refine g_wf (fun hwf => ?_)
  obtain ⟨f, u, bl, k1, n1⟩ := hW.ra
  have hO := k1.1
  have hR := k1.2.1
  have hne := k1.ne
  refine g_aload_n C dX5_setNumber_0 rfl ?_
  refine g_callV C (c_X5_clear _ hO hR) (ci := 7) rfl hO rfl ml_RX5_25 im_yX5_clear se_RX5_yX5_clear in_RX5 co_yX5_clear hd_X5_clear rfl ⟨by omega, by omega⟩ rfl (Nat.le_of_ble_eq_true rfl) ⟨by omega, by omega⟩ dX5_setNumber_1 (fun v1 w1 hp1 => ?_)
  obtain ⟨rfl, g1, hO1, hR1, hg1, fr1⟩ := hp1
  have J16 : ∀ q : Int, (q = 1 ∧ x < 0 ∨ q = 0 ∧ 0 ≤ x) → G E X 6 16 [some (.ref a), some (jJ x), none, none, none, none] [iI q, .ref a] w1 0 0 := by
    intro q hq
    refine g_put (ci := 7) C rfl inTX5 tyX5 tyX5_ok nmX5 2 (by decide) fl_RX5_13 rfl rfl hO1 (Nat.le_of_ble_eq_true rfl) (by rcases hq with ⟨c, -⟩ | ⟨c, -⟩ <;> (rw [c]; rfl)) (by rcases hq with ⟨c, -⟩ | ⟨c, -⟩ <;> (rw [c]; rfl)) dX5_setNumber_16 ?_
    obtain ⟨w2, hw0⟩ : ∃ w2, w2 = wset w1 a (true, eO 7 [.ref r, iI 0, iI q]) := ⟨_, rfl⟩
    refine g_eqw (w' := w2) hw0.symm ?_
    have hO2 : w2.2 a = some (true, eO 7 [.ref r, iI 0, iI q]) := by rw [hw0]; exact wset_s
    have hR2 : w2.2 r = some (true, eI 18 g1) := by rw [hw0, wset_n (Ne.symm hne)]; exact hR1
    have fr2 : FrW w w2 a r := by rw [hw0]; exact fr1.set (Or.inl rfl) _
    have hq01 : q = 0 ∨ q = 1 := by omega
    have J32 : G E X 6 32 [some (.ref a), some (jJ x), none, none, none, none] [jJ (aB x)] w2 0 0 := by
      refine g_lstore_n C dX5_setNumber_32 (by decide) rfl ?_
      refine g_iconst C dX5_setNumber_33 ?_
      refine g_istore C dX5_setNumber_34 (by decide) rfl ?_
      have J73 : ∀ (k : Nat) (lf : Int) (h : Nat → Int), DC h → V18 h = aB x → G E X 6 73 [some (.ref a), some (jJ x), none, some (jJ lf), none, some (iI (k : Int))] [] (wset w2 r (true, eI 18 h)) 0 0 := by
        intro k lf h hdh hV
        have hOk : (wset w2 r (true, eI 18 h)).2 a = some (true, eO 7 [.ref r, iI 0, iI q]) := by rw [wset_n hne]; exact hO2
        refine g_aload_n C dX5_setNumber_73 rfl ?_
        refine g_bipush C dX5_setNumber_74 (by decide) ?_
        refine g_callV C (c_X5_trim _ (p := 18) hOk wset_s hdh (Nat.le_refl _) (fun i h3 h4 => by omega) hq01) (ci := 7) rfl hOk rfl ml_RX5_30 im_yX5_trim se_RX5_yX5_trim in_RX5 co_yX5_trim hd_X5_trim rfl ⟨by omega, by omega⟩ rfl (Nat.le_of_ble_eq_true rfl) ⟨by omega, by omega⟩ dX5_setNumber_76 (fun v76 w76 hp76 => ?_)
        obtain ⟨rfl, u', hw9, hO9, fr9⟩ := hp76
        exact g_return C hQ dX5_setNumber_79 (Nat.le_refl _) (Nat.le_refl _) ⟨rfl, by
          have k9 : RA w76 a r h u' (if 0 < u' then q else 0) := ⟨hO9, by rw [fr9.2 r (Ne.symm hne)]; exact wset_s, hw9, by split <;> omega⟩
          have := k9.wa hq01
          rw [hV] at this
          refine this.eq ?_
          unfold aB
          split <;> split <;> omega, ⟨fr9.1.trans fr2.1, fun y h3 h4 => by rw [fr9.2 y h3, wset_n h4]; exact fr2.2 y h3 h4⟩⟩
      suffices hh : G E X 6 36 [some (.ref a), some (jJ x), none, some (jJ (aB x)), none, some (iI ((0 : Nat) : Int))] [] (wset w2 r (true, eI 18 g1)) 0 0 by rw [wset_id hR2] at hh; exact hh
      refine g_loop (σ := Nat × Int × (Nat → Int)) (fun t => t.1 ≤ 18 ∧ 0 ≤ t.2.1 ∧ (t.1 = 0 → t.2.1 < 9223372036854775808) ∧ (t.1 = 1 → t.2.1 < 34359738368) ∧ (t.1 = 2 → t.2.1 < 128) ∧ (3 ≤ t.1 → t.2.1 = 0) ∧ DC t.2.2 ∧ (∀ i, t.1 ≤ i → i < 18 → t.2.2 i = 0) ∧ nv B28 t.2.2 t.1 + t.2.1 * B28 ^ t.1 = aB x) (fun t => G E X 6 36 [some (.ref a), some (jJ x), none, some (jJ t.2.1), none, some (iI (t.1 : Int))] [] (wset w2 r (true, eI 18 t.2.2)) 0 0) (fun t => 18 - t.1) ?_ (0, aB x, g1) ⟨by dsimp only; omega, by dsimp only; unfold aB; split <;> omega, fun _ => by dsimp only; unfold aB; split <;> omega, fun c => by dsimp only at c; omega, fun c => by dsimp only at c; omega, fun c => by dsimp only at c; omega, fun i hi => by dsimp only; rw [hg1 i hi]; decide, fun i _ hi => hg1 i hi, by show (0 : Int) + aB x * B28 ^ 0 = aB x; rw [Int.pow_zero]; omega⟩
      rintro ⟨j, lf, h⟩ hq9 ih
      obtain ⟨hj, hl0, hl1, hl2, hl3, hl4, hdh, hhi, hv⟩ := hq9
      dsimp only at hj hl0 hl1 hl2 hl3 hl4 hdh hhi hv ⊢
      have hOk : (wset w2 r (true, eI 18 h)).2 a = some (true, eO 7 [.ref r, iI 0, iI q]) := by rw [wset_n hne]; exact hO2
      have hVk : lf = 0 → V18 h = aB x := fun c => by
        rw [c, Int.zero_mul, Int.add_zero] at hv
        rw [← hv]
        exact nv_zeros hj hhi
      have hm28 := mod28 lf
      have hd28e : lf / B28 = lf / 268435456 := rfl
      refine g_iload C dX5_setNumber_36 rfl ?_
      refine g_bipush C dX5_setNumber_38 (by decide) ?_
      refine g_icmp_ge (tgt := 73) C dX5_setNumber_40 (by decide) (by omega) (by omega) (fun h40 => ?_) (fun h40 => ?_)
      · exact J73 j lf h hdh (hVk (by omega))
      · refine g_lload_n C dX5_setNumber_43 rfl ?_
        refine g_lconst (z := 0) C dX5_setNumber_44 (by decide) ?_
        refine g_lcmp C dX5_setNumber_45 (by omega) (by omega) (fun c45 hc45 => ?_)
        refine g_if_eq (tgt := 73) C dX5_setNumber_46 (by decide) (by omega) (fun h46 => ?_) (fun h46 => ?_)
        · exact J73 j lf h hdh (hVk (by omega))
        · refine g_aload_n C dX5_setNumber_49 rfl ?_
          refine g_get (ci := 7) C rfl inTX5 0 (by decide) fl_RX5_9 rfl hOk rfl dX5_setNumber_50 ?_
          refine g_iload C dX5_setNumber_53 rfl ?_
          refine g_lload_n C dX5_setNumber_55 rfl ?_
          refine g_ldc2 (z := 268435455) C kj_RX5_28 (by decide) dX5_setNumber_56 ?_
          refine g_land (z := lf % B28) C dX5_setNumber_59 (j_mask 28 (by omega) mask28) ?_
          refine g_l2i C dX5_setNumber_60 ?_
          refine g_iastoreN (j) C wset_s (by omega) (by omega) dX5_setNumber_61 ?_
          rw [wset_set]
          refine g_lload_n C dX5_setNumber_62 rfl ?_
          refine g_bipush C dX5_setNumber_63 (by decide) ?_
          refine g_lushr (z := lf / B28) C dX5_setNumber_65 (j_ushr 28 (by omega) (by omega) (by decide)) ?_
          refine g_lstore_n C dX5_setNumber_66 (by decide) rfl ?_
          refine g_iinc C dX5_setNumber_67 rfl (by decide) rfl ?_
          refine g_goto (tgt := 36) C dX5_setNumber_70 (by decide) ?_
          refine ih (j + 1, lf / B28, iup h j (lf % B28)) ⟨by dsimp only; omega, by dsimp only; omega, fun c => by dsimp only at c; omega, fun c => by dsimp only at c ⊢; omega, fun c => by dsimp only at c ⊢; omega, fun c => by dsimp only at c ⊢; omega, hdh.up _ hm28, fun i h3 h4 => by dsimp only at h3 ⊢; rw [iup_n (by omega)]; exact hhi i (by omega) h4, dig_step (by decide) hv⟩ (by dsimp only; omega)
    refine g_aload_n C dX5_setNumber_19 rfl ?_
    refine g_get (ci := 7) C rfl inTX5 2 (by decide) fl_RX5_13 rfl hO2 rfl dX5_setNumber_20 ?_
    refine g_if_eq (tgt := 31) C dX5_setNumber_23 (by decide) (by omega) (fun h23 => ?_) (fun h23 => ?_)
    · refine g_lload_n C dX5_setNumber_31 rfl ?_
      first | exact g_eq rfl (by rw [show aB x = -x by unfold aB; rw [if_pos (by omega)]]) J32 | exact g_eq rfl (by rw [show aB x = x by unfold aB; rw [if_neg (by omega)]]) J32
    · refine g_lload_n C dX5_setNumber_26 rfl ?_
      refine g_lneg C dX5_setNumber_27 ?_
      refine g_goto (tgt := 32) C dX5_setNumber_28 (by decide) ?_
      first | exact g_eq rfl (by rw [show aB x = -x by unfold aB; rw [if_pos (by omega)]]) J32 | exact g_eq rfl (by rw [show aB x = x by unfold aB; rw [if_neg (by omega)]]) J32
  refine g_aload_n C dX5_setNumber_4 rfl ?_
  refine g_lload_n C dX5_setNumber_5 rfl ?_
  refine g_lconst (z := 0) C dX5_setNumber_6 (by decide) ?_
  refine g_lcmp C dX5_setNumber_7 (by omega) (by omega) (fun c7 hc7 => ?_)
  refine g_if_ge (tgt := 15) C dX5_setNumber_8 (by decide) (by omega) (fun h8 => ?_) (fun h8 => ?_)
  · refine g_iconst C dX5_setNumber_15 ?_
    exact J16 _ (by omega)
  · refine g_iconst C dX5_setNumber_11 ?_
    refine g_goto (tgt := 16) C dX5_setNumber_12 (by decide) ?_
    exact J16 _ (by omega)
