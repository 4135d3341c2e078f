set_option maxHeartbeats 4000000 in
set_option maxRecDepth 100000 in
theorem s_X3_goOnToSettled (l : Launch) {E : GE} {w : Wd} {a p k : Nat} (hV : SV p k) (hO : w.2 a = some (true, oS p k)) : Sp E l yX3_goOnToSettled cX3_goOnToSettled 3 (some .int) 1 (0) (0) [.ref a] w (fun r' w' => ∃ t, k ≤ t ∧ SV p t ∧ (∀ i, k ≤ i → i < t → (spS p i).2.1 ≠ 0 ∧ (p : Int) ≤ (spS p i).1 * (spS p i).1) ∧ ((spS p t).2.1 = 0 ∨ (spS p t).1 * (spS p t).1 < (p : Int)) ∧ r' = some (iI ((t - k : Nat) : Int)) ∧ w' = wset w a (true, oS p t)) := by
  refine sp_intro [some (.ref a), none, none] rfl (Nat.le_of_ble_eq_true rfl) pn_X3 ?_
  intro X C hRm hl hnm hQ
  obtain ⟨hRf, hRl, hRc, hRs⟩ := hRm
  refine g_wf (fun hwf => ?_)
  refine g_iconst C dX3_goOnToSettled_0 ?_
  refine g_istore_n C dX3_goOnToSettled_1 (by decide) rfl ?_
  refine g_iconst C dX3_goOnToSettled_2 ?_
  refine g_istore_n C dX3_goOnToSettled_3 (by decide) rfl ?_
  suffices hh : G E X 3 4 [some (.ref a), some (iI ((k - k : Nat) : Int)), some (iI ((k - k : Nat) : Int))] [] (wset w a (true, oS p k)) 0 0 by rw [wset_id hO, Nat.sub_self] at hh; exact hh
  refine g_loop (σ := Nat) (fun t => k ≤ t ∧ SV p t ∧ ∀ i, k ≤ i → i < t → (spS p i).2.1 ≠ 0 ∧ (p : Int) ≤ (spS p i).1 * (spS p i).1) (fun t => G E X 3 4 [some (.ref a), some (iI ((t - k : Nat) : Int)), some (iI ((t - k : Nat) : Int))] [] (wset w a (true, oS p t)) 0 0) (fun t => 20 - t) ?_ k ⟨Nat.le_refl _, hV, fun i h1 h2 => by omega⟩
  rintro t ⟨ht, hVt, hi⟩ ih
  obtain ⟨v1, v2, v3, v4, v5, v6, v7, v8, v9⟩ := hVt.good
  have hp := hVt.p
  have hOt2 : (wset w a (true, oS p t)).2 a = some (true, eO 5 [iI (p : Int), iI ((wit p : Nat) : Int), iI ((ima p : Nat) : Int), iI (spS p t).1, iI (spS p t).2.1, iI (spS p t).2.2.1, iI (spS p t).2.2.2, iI (t : Int)]) := wset_s
  refine g_iload_n C dX3_goOnToSettled_4 rfl ?_
  refine g_sipush C dX3_goOnToSettled_5 (by decide) ?_
  refine g_icmp_ge (tgt := 38) C dX3_goOnToSettled_8 (by decide) (by omega) (by omega) (fun h8 => ?_) (fun h8 => ?_)
  · omega
  · refine g_aload_n C dX3_goOnToSettled_11 rfl ?_
    refine g_get (ci := 5) C rfl inTX3 4 (by decide) fl_RX3_36 rfl hOt2 rfl dX3_goOnToSettled_12 ?_
    refine g_if_eq (tgt := 38) C dX3_goOnToSettled_15 (by decide) (by omega) (fun h15 => ?_) (fun h15 => ?_)
    · refine g_iload_n C dX3_goOnToSettled_38 rfl ?_
      exact g_ireturn C hQ dX3_goOnToSettled_39 (Nat.le_refl _) (Nat.le_refl _) (by
        first
        | exact ⟨t, ht, hVt, hi, Or.inr (bI_1 h22), rfl, rfl⟩
        | exact ⟨t, ht, hVt, hi, Or.inl (by omega), rfl, rfl⟩)
    · refine g_aload_n C dX3_goOnToSettled_18 rfl ?_
      refine g_callV C (s_X3_isSettled _ hVt wset_s) (ci := 5) rfl hOt2 rfl ml_RX3_48 im_yX3_isSettled se_RX3_yX3_isSettled in_RX3 co_yX3_isSettled hd_X3_isSettled rfl ⟨by omega, by omega⟩ rfl (Nat.le_of_ble_eq_true rfl) ⟨by omega, by omega⟩ dX3_goOnToSettled_19 (fun v19 w19 hp19 => ?_)
      obtain ⟨rfl, hw19⟩ := hp19
      subst w19
      refine g_if_ne (tgt := 38) C dX3_goOnToSettled_22 (by decide) (bI_r _) (fun h22 => ?_) (fun h22 => ?_)
      · refine g_iload_n C dX3_goOnToSettled_38 rfl ?_
        exact g_ireturn C hQ dX3_goOnToSettled_39 (Nat.le_refl _) (Nat.le_refl _) (by
          first
          | exact ⟨t, ht, hVt, hi, Or.inr (bI_1 h22), rfl, rfl⟩
          | exact ⟨t, ht, hVt, hi, Or.inl (by omega), rfl, rfl⟩)
      · refine g_aload_n C dX3_goOnToSettled_25 rfl ?_
        refine g_callV C (s_X3_goOn _ hVt (by omega) wset_s) (ci := 5) rfl hOt2 rfl ml_RX3_52 im_yX3_goOn se_RX3_yX3_goOn in_RX3 co_yX3_goOn hd_X3_goOn rfl ⟨by omega, by omega⟩ rfl (Nat.le_of_ble_eq_true rfl) ⟨by omega, by omega⟩ dX3_goOnToSettled_26 (fun v26 w26 hp26 => ?_)
        obtain ⟨rfl, hw26⟩ := hp26
        subst w26
        rw [wset_set]
        have hns := bI_0 (Classical.not_not.mp h22)
        refine g_iinc C dX3_goOnToSettled_29 rfl (by decide) rfl ?_
        refine g_iinc C dX3_goOnToSettled_32 rfl (by decide) rfl ?_
        refine g_goto (tgt := 4) C dX3_goOnToSettled_35 (by decide) ?_
        rw [show ((t - k : Nat) : Int) + 1 = ((t + 1 - k : Nat) : Int) by omega]
        exact ih (t + 1) ⟨by omega, hVt.next (by omega), fun i h1 h2 => by
          by_cases q : i = t
          · rw [q]; exact ⟨by omega, by omega⟩
          · exact hi i h1 (by omega)⟩ (by omega)
