set_option maxHeartbeats 4000000 in
set_option maxRecDepth 100000 in
theorem c_J7_fill_53178 (l : Launch) {E : GE} {w : Wd} {a n : Nat} {f : Nat → Int} {x : Int} (ha : w.2 a = some (true, eI n f)) (hn : n ≤ 1000000) : Sp E l yJ7_fill_53178 cJ7_fill_53178 4 none 0 (0) (0) [.ref a, iI x] w (fun r w' => r = none ∧ ∃ g, w' = wset w a (true, eI n g) ∧ ∀ i, i < n → g i = x) := by
  refine sp_intro [some (.ref a), some (iI x), none, none] rfl (Nat.le_of_ble_eq_true rfl) pn_J7 ?_
  intro X C hRm hl hnm hQ
  obtain ⟨hRf, hRl, hRc, hRs⟩ := hRm
  refine g_wf (fun hwf => ?_)
  refine g_iconst C dJ7_fill_53178_0 ?_
  refine g_istore_n C dJ7_fill_53178_1 (by decide) rfl ?_
  refine g_aload_n C dJ7_fill_53178_2 rfl ?_
  refine g_alen C ha (Or.inl ⟨_, rfl⟩) dJ7_fill_53178_3 ?_
  refine g_istore_n C dJ7_fill_53178_4 (by decide) rfl ?_
  suffices hh : G E X 4 5 [some (.ref a), some (iI x), some (iI ((0 : Nat) : Int)), some (iI (n : Int))] [] (wset w a (true, eI n f)) 0 0 by rw [wset_id ha] at hh; exact hh
  refine g_loop (σ := Nat × (Nat → Int)) (fun s => s.1 ≤ n ∧ ∀ i, i < s.1 → s.2 i = x) (fun s => G E X 4 5 [some (.ref a), some (iI x), some (iI (s.1 : Int)), some (iI (n : Int))] [] (wset w a (true, eI n s.2)) 0 0) (fun s => n - s.1) ?_ (0, f) ⟨by dsimp only; omega, fun i hi => absurd hi (Nat.not_lt_zero i)⟩
  rintro ⟨j, g⟩ hq ih
  obtain ⟨hj, hg⟩ := hq
  dsimp only at hj hg ⊢
  refine g_iload_n C dJ7_fill_53178_5 rfl ?_
  refine g_iload_n C dJ7_fill_53178_6 rfl ?_
  refine g_icmp_ge (tgt := 20) C dJ7_fill_53178_7 (by decide) (by omega) (by omega) (fun h7 => ?_) (fun h7 => ?_)
  · exact g_return C hQ dJ7_fill_53178_20 (Nat.le_refl _) (Nat.le_refl _) ⟨rfl, g, rfl, fun i hi => hg i (by omega)⟩
  · refine g_aload_n C dJ7_fill_53178_10 rfl ?_
    refine g_iload_n C dJ7_fill_53178_11 rfl ?_
    refine g_iload_n C dJ7_fill_53178_12 rfl ?_
    refine g_iastoreN (j) C wset_s rfl (by omega) dJ7_fill_53178_13 ?_
    rw [wset_set]
    refine g_iinc C dJ7_fill_53178_14 rfl (by decide) rfl ?_
    refine g_goto (tgt := 5) C dJ7_fill_53178_17 (by decide) ?_
    exact ih (j + 1, iup g j x) ⟨by dsimp only; omega, fun i hi => by
      dsimp only at hi ⊢
      by_cases q : i = j
      · rw [q, iup_s]
      · rw [iup_n q]; exact hg i (by omega)⟩ (by dsimp only; omega)
set_option maxHeartbeats 4000000 in
set_option maxRecDepth 100000 in
theorem c_X5_isBelow (l : Launch) {E : GE} {w : Wd} {a r : Nat} {z : Int} (hW : WA w a r z) : Sp E l yX5_isBelow cX5_isBelow 1 (some .boolean) 0 (0) (0) [.ref a] w (fun r' w' => r' = some (iI (bI (z < 0))) ∧ w' = w) := by
  refine sp_intro [some (.ref a)] rfl (Nat.le_of_ble_eq_true rfl) pn_X5 ?_
  intro X C hRm hl hnm hQ
  obtain ⟨hRf, hRl, hRc, hRs⟩ := hRm
  refine g_wf (fun hwf => ?_)
  have hB28 : B28 = 268435456 := rfl
  obtain ⟨f, u, bl, hO, hR, hN⟩ := hW
  have hab := hN.ab
  have hu18 := hN.1.2.1
  have hbl := hab.2.1
  refine g_aload_n C dX5_isBelow_0 rfl ?_
  refine g_get (ci := 7) C rfl inTX5 2 (by decide) fl_RX5_13 rfl hO rfl dX5_isBelow_1 ?_
  exact g_zreturn C hQ dX5_isBelow_4 (nar01 (by omega)) (Nat.le_refl _) (Nat.le_refl _) ⟨by rcases hbl with ⟨q1, q2⟩ | ⟨q1, q2⟩; (rw [q1, bI_t q2]); (rw [q1, bI_f (by omega)]), rfl⟩
set_option maxHeartbeats 4000000 in
set_option maxRecDepth 100000 in
theorem c_X5_isZero (l : Launch) {E : GE} {w : Wd} {a r : Nat} {z : Int} (hW : WA w a r z) : Sp E l yX5_isZero cX5_isZero 1 (some .boolean) 0 (0) (0) [.ref a] w (fun r' w' => r' = some (iI (bI (z = 0))) ∧ w' = w) := by
  refine sp_intro [some (.ref a)] rfl (Nat.le_of_ble_eq_true rfl) pn_X5 ?_
  intro X C hRm hl hnm hQ
  obtain ⟨hRf, hRl, hRc, hRs⟩ := hRm
  refine g_wf (fun hwf => ?_)
  have hB28 : B28 = 268435456 := rfl
  obtain ⟨f, u, bl, hO, hR, hN⟩ := hW
  have hab := hN.ab
  have hu18 := hN.1.2.1
  have hbl := hab.2.1
  refine g_aload_n C dX5_isZero_0 rfl ?_
  refine g_get (ci := 7) C rfl inTX5 1 (by decide) fl_RX5_17 rfl hO rfl dX5_isZero_1 ?_
  refine g_if_ne (tgt := 11) C dX5_isZero_4 (by decide) (by omega) (fun h4 => ?_) (fun h4 => ?_)
  · refine g_iconst C dX5_isZero_11 ?_
    exact g_zreturn C hQ dX5_isZero_12 (nar01 (by omega)) (Nat.le_refl _) (Nat.le_refl _) ⟨by first | rw [bI_t (hab.2.2.mp (by omega))] | rw [bI_f (fun q => by have := hab.2.2.mpr q; omega)], rfl⟩
  · refine g_iconst C dX5_isZero_7 ?_
    refine g_goto (tgt := 12) C dX5_isZero_8 (by decide) ?_
    exact g_zreturn C hQ dX5_isZero_12 (nar01 (by omega)) (Nat.le_refl _) (Nat.le_refl _) ⟨by first | rw [bI_t (hab.2.2.mp (by omega))] | rw [bI_f (fun q => by have := hab.2.2.mpr q; omega)], rfl⟩
set_option maxHeartbeats 4000000 in
set_option maxRecDepth 100000 in
theorem c_X5_isNumber (l : Launch) {E : GE} {w : Wd} {a r : Nat} {z : Int} (hW : WA w a r z) {v : Int} (hv : -268435456 < v ∧ v < 268435456) : Sp E l yX5_isNumber cX5_isNumber 2 (some .boolean) 0 (0) (0) [.ref a, iI v] w (fun r' w' => r' = some (iI (bI (z = v))) ∧ w' = w) := by
  refine sp_intro [some (.ref a), some (iI v)] rfl (Nat.le_of_ble_eq_true rfl) pn_X5 ?_
  intro X C hRm hl hnm hQ
  obtain ⟨hRf, hRl, hRc, hRs⟩ := hRm
  refine g_wf (fun hwf => ?_)
  have hB28 : B28 = 268435456 := rfl
  obtain ⟨f, u, bl, hO, hR, hN⟩ := hW
  have hab := hN.ab
  have hu18 := hN.1.2.1
  have hbl := hab.2.1
  have h00 := hN.1.1 0 (by omega)
  have hval := hN.1.val
  have hsm : u ≤ 1 → V18 f = f 0 := by
    intro q
    have hq : u = 0 ∨ u = 1 := by omega
    rcases hq with q1 | q1
    · rw [hval, q1, hN.1.2.2.1 0 (by omega) (by omega)]; rfl
    · rw [hval, q1]
      show (0 : Int) + f 0 * B28 ^ 0 = f 0
      rw [Int.pow_zero]; omega
  have hbig : 1 < u → 268435456 ≤ V18 f := by
    intro q
    obtain ⟨k, rfl⟩ : ∃ k, u = k + 2 := ⟨u - 2, by omega⟩
    have ht := hN.1.2.2.2 (by omega)
    have := nv_top (B := B28) (f := f) (n := k + 1) (by decide) (hN.1.1.dg hu18) ht
    rw [← hval, Int.pow_succ] at this
    have p := pw_pos (B := B28) (by decide) k
    have : (1 : Int) * B28 ≤ B28 ^ k * B28 := Int.mul_le_mul_of_nonneg_right (by omega) (by decide)
    omega
  have hz2 : z = V18 f ∨ z = - V18 f := by have := hab.1; unfold aB at this; split at this <;> omega
  refine g_aload_n C dX5_isNumber_0 rfl ?_
  refine g_get (ci := 7) C rfl inTX5 1 (by decide) fl_RX5_17 rfl hO rfl dX5_isNumber_1 ?_
  refine g_iconst C dX5_isNumber_4 ?_
  refine g_icmp_gt (tgt := 39) C dX5_isNumber_5 (by decide) (by omega) (by omega) (fun h5 => ?_) (fun h5 => ?_)
  · refine g_iconst C dX5_isNumber_39 ?_
    exact g_zreturn C hQ dX5_isNumber_40 (nar01 (by omega)) (Nat.le_refl _) (Nat.le_refl _) ⟨by
      first
      | (have e9 := hbig (by omega); rw [bI_f (fun q => by omega)])
      | (have e9 := hsm (by omega); rw [bI_t (by omega)])
      | (have e9 := hsm (by omega); rw [bI_f (fun q => by omega)]), rfl⟩
  · refine g_aload_n C dX5_isNumber_8 rfl ?_
    refine g_get (ci := 7) C rfl inTX5 2 (by decide) fl_RX5_13 rfl hO rfl dX5_isNumber_9 ?_
    refine g_if_eq (tgt := 25) C dX5_isNumber_12 (by decide) (by omega) (fun h12 => ?_) (fun h12 => ?_)
    · refine g_aload_n C dX5_isNumber_25 rfl ?_
      refine g_get (ci := 7) C rfl inTX5 0 (by decide) fl_RX5_9 rfl hO rfl dX5_isNumber_26 ?_
      refine g_iconst C dX5_isNumber_29 ?_
      refine g_ialoadN (0) C hR (by omega) (by omega) dX5_isNumber_30 ?_
      refine g_iload_n C dX5_isNumber_31 rfl ?_
      refine g_icmp_ne (tgt := 39) C dX5_isNumber_32 (by decide) (by omega) (by omega) (fun h32 => ?_) (fun h32 => ?_)
      · refine g_iconst C dX5_isNumber_39 ?_
        exact g_zreturn C hQ dX5_isNumber_40 (nar01 (by omega)) (Nat.le_refl _) (Nat.le_refl _) ⟨by
          first
          | (have e9 := hbig (by omega); rw [bI_f (fun q => by omega)])
          | (have e9 := hsm (by omega); rw [bI_t (by omega)])
          | (have e9 := hsm (by omega); rw [bI_f (fun q => by omega)]), rfl⟩
      · refine g_iconst C dX5_isNumber_35 ?_
        refine g_goto (tgt := 40) C dX5_isNumber_36 (by decide) ?_
        exact g_zreturn C hQ dX5_isNumber_40 (nar01 (by omega)) (Nat.le_refl _) (Nat.le_refl _) ⟨by
          first
          | (have e9 := hbig (by omega); rw [bI_f (fun q => by omega)])
          | (have e9 := hsm (by omega); rw [bI_t (by omega)])
          | (have e9 := hsm (by omega); rw [bI_f (fun q => by omega)]), rfl⟩
    · refine g_aload_n C dX5_isNumber_15 rfl ?_
      refine g_get (ci := 7) C rfl inTX5 0 (by decide) fl_RX5_9 rfl hO rfl dX5_isNumber_16 ?_
      refine g_iconst C dX5_isNumber_19 ?_
      refine g_ialoadN (0) C hR (by omega) (by omega) dX5_isNumber_20 ?_
      refine g_ineg C dX5_isNumber_21 ?_
      refine g_goto (tgt := 31) C dX5_isNumber_22 (by decide) ?_
      refine g_iload_n C dX5_isNumber_31 rfl ?_
      refine g_icmp_ne (tgt := 39) C dX5_isNumber_32 (by decide) (by omega) (by omega) (fun h32 => ?_) (fun h32 => ?_)
      · refine g_iconst C dX5_isNumber_39 ?_
        exact g_zreturn C hQ dX5_isNumber_40 (nar01 (by omega)) (Nat.le_refl _) (Nat.le_refl _) ⟨by
          first
          | (have e9 := hbig (by omega); rw [bI_f (fun q => by omega)])
          | (have e9 := hsm (by omega); rw [bI_t (by omega)])
          | (have e9 := hsm (by omega); rw [bI_f (fun q => by omega)]), rfl⟩
      · refine g_iconst C dX5_isNumber_35 ?_
        refine g_goto (tgt := 40) C dX5_isNumber_36 (by decide) ?_
        exact g_zreturn C hQ dX5_isNumber_40 (nar01 (by omega)) (Nat.le_refl _) (Nat.le_refl _) ⟨by
          first
          | (have e9 := hbig (by omega); rw [bI_f (fun q => by omega)])
          | (have e9 := hsm (by omega); rw [bI_t (by omega)])
          | (have e9 := hsm (by omega); rw [bI_f (fun q => by omega)]), rfl⟩
set_option maxHeartbeats 4000000 in
set_option maxRecDepth 100000 in
theorem c_X5_isOne (l : Launch) {E : GE} {w : Wd} {a r : Nat} {z : Int} (hW : WA w a r z) : Sp E l yX5_isOne cX5_isOne 1 (some .boolean) 1 (0) (0) [.ref a] w (fun r' w' => r' = some (iI (bI (z = 1))) ∧ w' = w) := by
  refine sp_intro [some (.ref a)] rfl (Nat.le_of_ble_eq_true rfl) pn_X5 ?_
  intro X C hRm hl hnm hQ
  obtain ⟨hRf, hRl, hRc, hRs⟩ := hRm
  refine g_wf (fun hwf => ?_)
  have hW0 := hW
  have hB28 : B28 = 268435456 := rfl
  obtain ⟨f, u, bl, hO, hR, hN⟩ := hW
  have hab := hN.ab
  have hu18 := hN.1.2.1
  have hbl := hab.2.1
  refine g_aload_n C dX5_isOne_0 rfl ?_
  refine g_iconst C dX5_isOne_1 ?_
  refine g_callV C (c_X5_isNumber _ hW0 (v := 1) (by omega)) (ci := 7) rfl hO rfl ml_RX5_21 im_yX5_isNumber se_RX5_yX5_isNumber in_RX5 co_yX5_isNumber hd_X5_isNumber rfl ⟨by omega, by omega⟩ rfl (Nat.le_of_ble_eq_true rfl) ⟨by omega, by omega⟩ dX5_isOne_2 (fun v2 w2 hp2 => ?_)
  obtain ⟨rfl, hw2⟩ := hp2
  subst w2
  exact g_zreturn C hQ dX5_isOne_5 (narB) (Nat.le_refl _) (Nat.le_refl _) ⟨rfl, rfl⟩
set_option maxHeartbeats 4000000 in
set_option maxRecDepth 100000 in
theorem c_X5_negate (l : Launch) {E : GE} {w : Wd} {a r : Nat} {z : Int} (hW : WA w a r z) : Sp E l yX5_negate cX5_negate 1 none 0 (0) (0) [.ref a] w (fun r' w' => r' = none ∧ WA w' a r (-z) ∧ FrW w w' a r) := by
  refine sp_intro [some (.ref a)] rfl (Nat.le_of_ble_eq_true rfl) pn_X5 ?_
  intro X C hRm hl hnm hQ
  obtain ⟨hRf, hRl, hRc, hRs⟩ := hRm
  refine g_wf (fun hwf => ?_)
  have hne := hW.ne hW
  have hB28 : B28 = 268435456 := rfl
  obtain ⟨f, u, bl, hO, hR, hN⟩ := hW
  have hab := hN.ab
  have hu18 := hN.1.2.1
  have hbl := hab.2.1
  have J20 : ∀ b : Int, (b = 1 ∧ 0 < z ∨ b = 0 ∧ z ≤ 0) → G E X 1 20 [some (.ref a)] [iI b, .ref a] w 0 0 := by
    intro b hb
    refine g_put (ci := 7) C rfl inTX5 tyX5 tyX5_ok nmX5 2 (by decide) fl_RX5_13 rfl rfl hO (Nat.le_of_ble_eq_true rfl) (by rcases hb with ⟨q, -⟩ | ⟨q, -⟩ <;> (rw [q]; rfl)) (by rcases hb with ⟨q, -⟩ | ⟨q, -⟩ <;> (rw [q]; rfl)) dX5_negate_20 ?_
    exact g_return C hQ dX5_negate_23 (Nat.le_refl _) (Nat.le_refl _) ⟨rfl, ⟨f, u, b, wset_s, by rw [wset_n (Ne.symm hne.2)]; exact hR, hN.1, by
      have h0 := V18_0 hN.1.1
      have h1 := hab.1
      have h2 := hab.2.2
      unfold aB at h1
      rcases hb with ⟨q1, q2⟩ | ⟨q1, q2⟩
      · exact Or.inl ⟨q1, by omega, by split at h1 <;> omega⟩
      · exact Or.inr ⟨q1, by split at h1 <;> omega⟩⟩, (FrW.rf _ _ _).set (Or.inl rfl) _⟩
  refine g_aload_n C dX5_negate_0 rfl ?_
  refine g_aload_n C dX5_negate_1 rfl ?_
  refine g_get (ci := 7) C rfl inTX5 1 (by decide) fl_RX5_17 rfl hO rfl dX5_negate_2 ?_
  refine g_if_le (tgt := 19) C dX5_negate_5 (by decide) (by omega) (fun h5 => ?_) (fun h5 => ?_)
  · refine g_iconst C dX5_negate_19 ?_
    exact J20 _ (by have := hab.2.2; omega)
  · refine g_aload_n C dX5_negate_8 rfl ?_
    refine g_get (ci := 7) C rfl inTX5 2 (by decide) fl_RX5_13 rfl hO rfl dX5_negate_9 ?_
    refine g_if_ne (tgt := 19) C dX5_negate_12 (by decide) (by omega) (fun h12 => ?_) (fun h12 => ?_)
    · refine g_iconst C dX5_negate_19 ?_
      exact J20 _ (by have := hab.2.2; omega)
    · refine g_iconst C dX5_negate_15 ?_
      refine g_goto (tgt := 20) C dX5_negate_16 (by decide) ?_
      exact J20 _ (by have := hab.2.2; omega)
set_option maxHeartbeats 4000000 in
set_option maxRecDepth 100000 in
theorem c_X5_makeSize (l : Launch) {E : GE} {w : Wd} {a r : Nat} {z : Int} (hW : WA w a r z) : Sp E l yX5_makeSize cX5_makeSize 1 none 0 (0) (0) [.ref a] w (fun r' w' => r' = none ∧ WA w' a r (aB z) ∧ FrW w w' a r) := by
  refine sp_intro [some (.ref a)] rfl (Nat.le_of_ble_eq_true rfl) pn_X5 ?_
  intro X C hRm hl hnm hQ
  obtain ⟨hRf, hRl, hRc, hRs⟩ := hRm
  refine g_wf (fun hwf => ?_)
  have hne := hW.ne hW
  have hB28 : B28 = 268435456 := rfl
  obtain ⟨f, u, bl, hO, hR, hN⟩ := hW
  have hab := hN.ab
  have hu18 := hN.1.2.1
  have hbl := hab.2.1
  refine g_aload_n C dX5_makeSize_0 rfl ?_
  refine g_iconst C dX5_makeSize_1 ?_
  refine g_put (ci := 7) C rfl inTX5 tyX5 tyX5_ok nmX5 2 (by decide) fl_RX5_13 rfl rfl hO (Nat.le_of_ble_eq_true rfl) rfl rfl dX5_makeSize_2 ?_
  exact g_return C hQ dX5_makeSize_5 (Nat.le_refl _) (Nat.le_refl _) ⟨rfl, ⟨f, u, 0, wset_s, by rw [wset_n (Ne.symm hne.2)]; exact hR, hN.1, Or.inr ⟨rfl, hab.1⟩⟩, (FrW.rf _ _ _).set (Or.inl rfl) _⟩
set_option maxHeartbeats 4000000 in
set_option maxRecDepth 100000 in
theorem c_X5_clear (l : Launch) {E : GE} {w : Wd} {a r : Nat} {f : Nat → Int} {u bl : Int} (hO : w.2 a = some (true, eO 7 [.ref r, iI u, iI bl])) (hR : w.2 r = some (true, eI 18 f)) : Sp E l yX5_clear cX5_clear 1 none 1 (0) (0) [.ref a] w (fun r' w' => r' = none ∧ ∃ g, w'.2 a = some (true, oW r 0 0) ∧ w'.2 r = some (true, eI 18 g) ∧ (∀ i, i < 18 → g i = 0) ∧ FrW w w' a r) := by
  refine sp_intro [some (.ref a)] rfl (Nat.le_of_ble_eq_true rfl) pn_X5 ?_
  intro X C hRm hl hnm hQ
  obtain ⟨hRf, hRl, hRc, hRs⟩ := hRm
  refine g_wf (fun hwf => ?_)
  have hne : a ≠ r := fun e => by rw [e, hR] at hO; simp at hO
  refine g_aload_n C dX5_clear_0 rfl ?_
  refine g_get (ci := 7) C rfl inTX5 0 (by decide) fl_RX5_9 rfl hO rfl dX5_clear_1 ?_
  refine g_iconst C dX5_clear_4 ?_
  refine g_callS C (c_J7_fill_53178 _ (x := 0) hR (by omega)) ml_RX5_40 sm_yJ7_fill_53178 in_RJ7 co_yJ7_fill_53178 hd_J7_fill_53178 rfl ⟨by omega, by omega⟩ rfl (Nat.le_of_ble_eq_true rfl) ⟨by omega, by omega⟩ dX5_clear_5 (fun v5 w5 hp5 => ?_)
  obtain ⟨rfl, g5, rfl, hg5⟩ := hp5
  refine g_aload_n C dX5_clear_8 rfl ?_
  refine g_iconst C dX5_clear_9 ?_
  refine g_put (ci := 7) C rfl inTX5 tyX5 tyX5_ok nmX5 1 (by decide) fl_RX5_17 rfl rfl (by rw [wset_n hne]; exact hO) (Nat.le_of_ble_eq_true rfl) rfl rfl dX5_clear_10 ?_
  refine g_aload_n C dX5_clear_13 rfl ?_
  refine g_iconst C dX5_clear_14 ?_
  refine g_put (ci := 7) C rfl inTX5 tyX5 tyX5_ok nmX5 2 (by decide) fl_RX5_13 rfl rfl wset_s (Nat.le_of_ble_eq_true rfl) rfl rfl dX5_clear_15 ?_
  exact g_return C hQ dX5_clear_18 (Nat.le_refl _) (Nat.le_refl _) ⟨rfl, g5, wset_s, by rw [wset_n (Ne.symm hne), wset_n (Ne.symm hne)]; exact wset_s, hg5, (((FrW.rf _ _ _).set (Or.inr rfl) _).set (Or.inl rfl) _).set (Or.inl rfl) _⟩
set_option maxHeartbeats 4000000 in
set_option maxRecDepth 100000 in
theorem c_X5_trim (l : Launch) {E : GE} {w : Wd} {a r p : Nat} {f : Nat → Int} {u bl : Int} (hO : w.2 a = some (true, eO 7 [.ref r, iI u, iI bl])) (hR : w.2 r = some (true, eI 18 f)) (hf : DC f) (hp : p ≤ 18) (hz : ∀ i, p ≤ i → i < 18 → f i = 0) (hbl : bl = 0 ∨ bl = 1) : Sp E l yX5_trim cX5_trim 3 none 0 (0) (0) [.ref a, iI (p : Int)] w (fun r' w' => r' = none ∧ ∃ u' : Nat, Wr f u' ∧ w'.2 a = some (true, oW r u' (if 0 < u' then bl else 0)) ∧ FrA w w' a) := by
  refine sp_intro [some (.ref a), some (iI (p : Int)), none] rfl (Nat.le_of_ble_eq_true rfl) pn_X5 ?_
  intro X C hRm hl hnm hQ
  obtain ⟨hRf, hRl, hRc, hRs⟩ := hRm
  refine g_wf (fun hwf => ?_)
  have hB28 : B28 = 268435456 := rfl
  have hne : a ≠ r := fun e => by rw [e, hR] at hO; simp at hO
  refine g_aload_n C dX5_trim_0 rfl ?_
  refine g_iconst C dX5_trim_1 ?_
  refine g_put (ci := 7) C rfl inTX5 tyX5 tyX5_ok nmX5 1 (by decide) fl_RX5_17 rfl rfl hO (Nat.le_of_ble_eq_true rfl) rfl rfl dX5_trim_2 ?_
  have J17 : G E X 3 17 [some (.ref a), some (iI (p : Int)), none] [iI (p : Int)] (wset w a (true, eO 7 [.ref r, iI 0, iI bl])) 0 0 := by
    refine g_iconst C dX5_trim_17 ?_
    refine g_isub C dX5_trim_18 ?_
    refine g_istore_n C dX5_trim_19 (by decide) rfl ?_
    refine g_loop (σ := Int × Nat) (fun s => -1 ≤ s.1 ∧ s.1 ≤ 17 ∧ s.2 ≤ 18 ∧ (s.2 = 0 ∧ (∀ i : Nat, s.1 < i → i < 18 → f i = 0) ∨ 0 < s.2 ∧ Wr f s.2)) (fun s => G E X 3 20 [some (.ref a), some (iI (p : Int)), some (iI s.1)] [] (wset w a (true, eO 7 [.ref r, iI (s.2 : Int), iI bl])) 0 0) (fun s => (s.1 + 1).toNat) ?_ ((p : Int) - 1, 0) ⟨by dsimp only; omega, by dsimp only; omega, by dsimp only; omega, Or.inl ⟨rfl, fun i h1 h2 => hz i (by dsimp only at h1; omega) h2⟩⟩
    rintro ⟨k, v⟩ hq ih
    obtain ⟨hk0, hk1, hv, hkv⟩ := hq
    dsimp only at hk0 hk1 hv hkv ⊢
    have hRk : (wset w a (true, eO 7 [.ref r, iI (v : Int), iI bl])).2 r = some (true, eI 18 f) := by rw [wset_n (Ne.symm hne)]; exact hR
    have J53 : Wr f v → G E X 3 53 [some (.ref a), some (iI (p : Int)), some (iI k)] [] (wset w a (true, eO 7 [.ref r, iI (v : Int), iI bl])) 0 0 := by
      intro hv2
      refine g_aload_n C dX5_trim_53 rfl ?_
      refine g_aload_n C dX5_trim_54 rfl ?_
      refine g_get (ci := 7) C rfl inTX5 2 (by decide) fl_RX5_13 rfl wset_s rfl dX5_trim_55 ?_
      refine g_if_eq (tgt := 72) C dX5_trim_58 (by decide) (by omega) (fun h58 => ?_) (fun h58 => ?_)
      · refine g_iconst C dX5_trim_72 ?_
        refine g_put (ci := 7) C rfl inTX5 tyX5 tyX5_ok nmX5 2 (by decide) fl_RX5_13 rfl rfl wset_s (Nat.le_of_ble_eq_true rfl) rfl rfl dX5_trim_73 ?_
        exact g_return C hQ dX5_trim_76 (Nat.le_refl _) (Nat.le_refl _) ⟨rfl, v, hv2, by
          rw [wset_s]
          first
          | rw [if_pos (by omega), show bl = 1 by omega]; rfl
          | (by_cases c : 0 < v
             · rw [if_pos c, show bl = 0 by omega]; rfl
             · rw [if_neg c]; rfl), ((FrA.rf _ _).set _).set _⟩
      · refine g_aload_n C dX5_trim_61 rfl ?_
        refine g_get (ci := 7) C rfl inTX5 1 (by decide) fl_RX5_17 rfl wset_s rfl dX5_trim_62 ?_
        refine g_if_le (tgt := 72) C dX5_trim_65 (by decide) (by omega) (fun h65 => ?_) (fun h65 => ?_)
        · refine g_iconst C dX5_trim_72 ?_
          refine g_put (ci := 7) C rfl inTX5 tyX5 tyX5_ok nmX5 2 (by decide) fl_RX5_13 rfl rfl wset_s (Nat.le_of_ble_eq_true rfl) rfl rfl dX5_trim_73 ?_
          exact g_return C hQ dX5_trim_76 (Nat.le_refl _) (Nat.le_refl _) ⟨rfl, v, hv2, by
            rw [wset_s]
            first
            | rw [if_pos (by omega), show bl = 1 by omega]; rfl
            | (by_cases c : 0 < v
               · rw [if_pos c, show bl = 0 by omega]; rfl
               · rw [if_neg c]; rfl), ((FrA.rf _ _).set _).set _⟩
        · refine g_iconst C dX5_trim_68 ?_
          refine g_goto (tgt := 73) C dX5_trim_69 (by decide) ?_
          refine g_put (ci := 7) C rfl inTX5 tyX5 tyX5_ok nmX5 2 (by decide) fl_RX5_13 rfl rfl wset_s (Nat.le_of_ble_eq_true rfl) rfl rfl dX5_trim_73 ?_
          exact g_return C hQ dX5_trim_76 (Nat.le_refl _) (Nat.le_refl _) ⟨rfl, v, hv2, by
            rw [wset_s]
            first
            | rw [if_pos (by omega), show bl = 1 by omega]; rfl
            | (by_cases c : 0 < v
               · rw [if_pos c, show bl = 0 by omega]; rfl
               · rw [if_neg c]; rfl), ((FrA.rf _ _).set _).set _⟩
    refine g_iload_n C dX5_trim_20 rfl ?_
    refine g_if_lt (tgt := 53) C dX5_trim_21 (by decide) (by omega) (fun h21 => ?_) (fun h21 => ?_)
    · first
      | exact J53 (by rcases hkv with ⟨q1, q2⟩ | ⟨q1, q2⟩; exact ⟨hf, by omega, fun i h1 h2 => q2 i (by omega) h2, fun q => by omega⟩; exact q2)
    · refine g_aload_n C dX5_trim_24 rfl ?_
      refine g_get (ci := 7) C rfl inTX5 1 (by decide) fl_RX5_17 rfl wset_s rfl dX5_trim_25 ?_
      refine g_if_ne (tgt := 53) C dX5_trim_28 (by decide) (by omega) (fun h28 => ?_) (fun h28 => ?_)
      · first
        | exact J53 (by rcases hkv with ⟨q1, q2⟩ | ⟨q1, q2⟩; exact ⟨hf, by omega, fun i h1 h2 => q2 i (by omega) h2, fun q => by omega⟩; exact q2)
      · refine g_aload_n C dX5_trim_31 rfl ?_
        refine g_get (ci := 7) C rfl inTX5 0 (by decide) fl_RX5_9 rfl wset_s rfl dX5_trim_32 ?_
        refine g_iload_n C dX5_trim_35 rfl ?_
        refine g_iaload C hRk (by omega) dX5_trim_36 ?_
        refine g_if_eq (tgt := 47) C dX5_trim_37 (by decide) (by have := hf k.toNat (by omega); omega) (fun h37 => ?_) (fun h37 => ?_)
        · refine g_iinc C dX5_trim_47 rfl (by decide) rfl ?_
          refine g_goto (tgt := 20) C dX5_trim_50 (by decide) ?_
          first
          | (refine ih (k + -1, v) ⟨by dsimp only; omega, by dsimp only; omega, hv, Or.inl ⟨by dsimp only; omega, fun i h1 h2 => ?_⟩⟩ (by dsimp only; omega)
             dsimp only at h1
             by_cases q : (i : Int) = k
             · rw [← q] at h37; simpa using h37
             · exact (by rcases hkv with ⟨q1, q2⟩ | ⟨q1, q2⟩; exact q2 i (by omega) h2; omega))
          | (rw [show k + 1 = ((k.toNat + 1 : Nat) : Int) by omega]
             refine ih (k + -1, k.toNat + 1) ⟨by dsimp only; omega, by dsimp only; omega, by dsimp only; omega, Or.inr ⟨Nat.succ_pos _, hf, by dsimp only; omega, fun i h1 h2 => ?_, fun _ => ?_⟩⟩ (by dsimp only; omega)
             · dsimp only at h1
               rcases hkv with ⟨q1, q2⟩ | ⟨q1, q2⟩
               · exact q2 i (by omega) h2
               · omega
             · show f (k.toNat + 1 - 1) ≠ 0
               rw [Nat.add_sub_cancel]; exact h37)
        · refine g_aload_n C dX5_trim_40 rfl ?_
          refine g_iload_n C dX5_trim_41 rfl ?_
          refine g_iconst C dX5_trim_42 ?_
          refine g_iadd C dX5_trim_43 ?_
          refine g_put (ci := 7) C rfl inTX5 tyX5 tyX5_ok nmX5 1 (by decide) fl_RX5_17 rfl rfl wset_s (Nat.le_of_ble_eq_true rfl) rfl rfl dX5_trim_44 ?_
          rw [wset_set]
          refine g_iinc C dX5_trim_47 rfl (by decide) rfl ?_
          refine g_goto (tgt := 20) C dX5_trim_50 (by decide) ?_
          first
          | (refine ih (k + -1, v) ⟨by dsimp only; omega, by dsimp only; omega, hv, Or.inl ⟨by dsimp only; omega, fun i h1 h2 => ?_⟩⟩ (by dsimp only; omega)
             dsimp only at h1
             by_cases q : (i : Int) = k
             · rw [← q] at h37; simpa using h37
             · exact (by rcases hkv with ⟨q1, q2⟩ | ⟨q1, q2⟩; exact q2 i (by omega) h2; omega))
          | (rw [show k + 1 = ((k.toNat + 1 : Nat) : Int) by omega]
             refine ih (k + -1, k.toNat + 1) ⟨by dsimp only; omega, by dsimp only; omega, by dsimp only; omega, Or.inr ⟨Nat.succ_pos _, hf, by dsimp only; omega, fun i h1 h2 => ?_, fun _ => ?_⟩⟩ (by dsimp only; omega)
             · dsimp only at h1
               rcases hkv with ⟨q1, q2⟩ | ⟨q1, q2⟩
               · exact q2 i (by omega) h2
               · omega
             · show f (k.toNat + 1 - 1) ≠ 0
               rw [Nat.add_sub_cancel]; exact h37)
  refine g_iload_n C dX5_trim_5 rfl ?_
  refine g_bipush C dX5_trim_6 (by decide) ?_
  refine g_icmp_ge (tgt := 15) C dX5_trim_8 (by decide) (by omega) (by omega) (fun h8 => ?_) (fun h8 => ?_)
  · refine g_bipush C dX5_trim_15 (by decide) ?_
    first | exact J17 | exact g_eq rfl (by rw [show (18 : Int) = (p : Int) by omega]) J17
  · refine g_iload_n C dX5_trim_11 rfl ?_
    refine g_goto (tgt := 17) C dX5_trim_12 (by decide) ?_
    first | exact J17 | exact g_eq rfl (by rw [show (18 : Int) = (p : Int) by omega]) J17
