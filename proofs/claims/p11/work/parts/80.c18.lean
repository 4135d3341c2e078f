/-! splits: their objects -/
def oS (p k : Nat) : Ent := eO 5 [iI (p : Int), iI ((wit p : Nat) : Int), iI ((ima p : Nat) : Int), iI (spS p k).1, iI (spS p k).2.1, iI (spS p k).2.2.1, iI (spS p k).2.2.2, iI (k : Int)]
theorem oS_eq (p k : Nat) : oS p k = eO 5 [iI (p : Int), iI ((wit p : Nat) : Int), iI ((ima p : Nat) : Int), iI (spS p k).1, iI (spS p k).2.1, iI (spS p k).2.2.1, iI (spS p k).2.2.2, iI (k : Int)] := rfl
set_option maxHeartbeats 4000000 in
set_option maxRecDepth 100000 in
theorem s_X3_isSettled (l : Launch) {E : GE} {w : Wd} {a p k : Nat} (hV : SV p k) (hO : w.2 a = some (true, oS p k)) : Sp E l yX3_isSettled cX3_isSettled 1 (some .boolean) 0 (0) (0) [.ref a] w (fun r' w' => r' = some (iI (bI ((spS p k).1 * (spS p k).1 < (p : Int)))) ∧ w' = w) := by
  refine sp_intro [some (.ref a)] rfl (Nat.le_of_ble_eq_true rfl) pn_X3 ?_
  intro X C hRm hl hnm hQ
  obtain ⟨hRf, hRl, hRc, hRs⟩ := hRm
  refine g_wf (fun hwf => ?_)
  have hp := hV.p
  obtain ⟨v1, v2, v3, v4, v5, v6, v7, v8, v9⟩ := hV.good
  have hO2 := hO
  rw [oS_eq] at hO2
  generalize (spS p k).1 = sA at *
  have hA : 0 ≤ sA * sA ∧ sA * sA ≤ 997 * 997 := ⟨Int.mul_nonneg (by omega) (by omega), Int.mul_le_mul (by omega) (by omega) (by omega) (by omega)⟩
  refine g_aload_n C dX3_isSettled_0 rfl ?_
  refine g_get (ci := 5) C rfl inTX3 3 (by decide) fl_RX3_33 rfl hO2 rfl dX3_isSettled_1 ?_
  refine g_aload_n C dX3_isSettled_4 rfl ?_
  refine g_get (ci := 5) C rfl inTX3 3 (by decide) fl_RX3_33 rfl hO2 rfl dX3_isSettled_5 ?_
  refine g_imul C dX3_isSettled_8 ?_
  refine g_aload_n C dX3_isSettled_9 rfl ?_
  refine g_get (ci := 5) C rfl inTX3 0 (by decide) fl_RX3_15 rfl hO2 rfl dX3_isSettled_10 ?_
  refine g_icmp_ge (tgt := 20) C dX3_isSettled_13 (by decide) (by omega) (by omega) (fun h13 => ?_) (fun h13 => ?_)
  · refine g_iconst C dX3_isSettled_20 ?_
    exact g_zreturn C hQ dX3_isSettled_21 (nar01 (by omega)) (Nat.le_refl _) (Nat.le_refl _) ⟨by first | rw [bI_t (by omega)] | rw [bI_f (by omega)], rfl⟩
  · refine g_iconst C dX3_isSettled_16 ?_
    refine g_goto (tgt := 21) C dX3_isSettled_17 (by decide) ?_
    exact g_zreturn C hQ dX3_isSettled_21 (nar01 (by omega)) (Nat.le_refl _) (Nat.le_refl _) ⟨by first | rw [bI_t (by omega)] | rw [bI_f (by omega)], rfl⟩
set_option maxHeartbeats 4000000 in
set_option maxRecDepth 100000 in
theorem s_X3_goOn (l : Launch) {E : GE} {w : Wd} {a p k : Nat} (hV : SV p k) (hb : (spS p k).2.1 ≠ 0) (hO : w.2 a = some (true, oS p k)) : Sp E l yX3_goOn cX3_goOn 4 none 0 (0) (0) [.ref a] w (fun r' w' => r' = none ∧ w' = wset w a (true, oS p (k + 1))) := by
  refine sp_intro [some (.ref a), none, none, none] rfl (Nat.le_of_ble_eq_true rfl) pn_X3 ?_
  intro X C hRm hl hnm hQ
  obtain ⟨hRf, hRl, hRc, hRs⟩ := hRm
  refine g_wf (fun hwf => ?_)
  have hp := hV.p
  obtain ⟨v1, v2, v3, v4, v5, v6, v7, v8, v9⟩ := hV.good
  have hO2 := hO
  rw [oS_eq] at hO2
  have hn : spS p (k + 1) = spN (spS p k) := rfl
  generalize hq : spS p k = q at *
  obtain ⟨sA, sB, sU, sW⟩ := q
  dsimp only at v1 v2 v3 v4 v5 v6 v7 v8 hb hO2
  have aU := (show -sU ≤ aB sU ∧ sU ≤ aB sU ∧ 0 ≤ aB sU by unfold aB; split <;> omega)
  have aV := (show -sW ≤ aB sW ∧ sW ≤ aB sW ∧ 0 ≤ aB sW by unfold aB; split <;> omega)
  refine g_aload_n C dX3_goOn_0 rfl ?_
  refine g_get (ci := 5) C rfl inTX3 4 (by decide) fl_RX3_36 rfl hO2 rfl dX3_goOn_1 ?_
  refine g_if_ne (tgt := 8) C dX3_goOn_4 (by decide) (by omega) (fun h4 => ?_) (fun h4 => ?_)
  · refine g_aload_n C dX3_goOn_8 rfl ?_
    refine g_get (ci := 5) C rfl inTX3 3 (by decide) fl_RX3_33 rfl hO2 rfl dX3_goOn_9 ?_
    refine g_aload_n C dX3_goOn_12 rfl ?_
    refine g_get (ci := 5) C rfl inTX3 4 (by decide) fl_RX3_36 rfl hO2 rfl dX3_goOn_13 ?_
    refine g_idivN C dX3_goOn_16 (by omega) (by omega) ?_
    refine g_istore_n C dX3_goOn_17 (by decide) rfl ?_
    refine g_aload_n C dX3_goOn_18 rfl ?_
    refine g_get (ci := 5) C rfl inTX3 3 (by decide) fl_RX3_33 rfl hO2 rfl dX3_goOn_19 ?_
    refine g_iload_n C dX3_goOn_22 rfl ?_
    refine g_aload_n C dX3_goOn_23 rfl ?_
    refine g_get (ci := 5) C rfl inTX3 4 (by decide) fl_RX3_36 rfl hO2 rfl dX3_goOn_24 ?_
    refine g_imul C dX3_goOn_27 ?_
    refine g_isub C dX3_goOn_28 ?_
    refine g_istore_n C dX3_goOn_29 (by decide) rfl ?_
    refine g_aload_n C dX3_goOn_30 rfl ?_
    refine g_get (ci := 5) C rfl inTX3 5 (by decide) fl_RX3_39 rfl hO2 rfl dX3_goOn_31 ?_
    refine g_iload_n C dX3_goOn_34 rfl ?_
    refine g_aload_n C dX3_goOn_35 rfl ?_
    refine g_get (ci := 5) C rfl inTX3 6 (by decide) fl_RX3_42 rfl hO2 rfl dX3_goOn_36 ?_
    refine g_imul C dX3_goOn_39 ?_
    refine g_isub C dX3_goOn_40 ?_
    refine g_istore_n C dX3_goOn_41 (by decide) rfl ?_
    refine g_aload_n C dX3_goOn_42 rfl ?_
    refine g_aload_n C dX3_goOn_43 rfl ?_
    refine g_get (ci := 5) C rfl inTX3 4 (by decide) fl_RX3_36 rfl hO2 rfl dX3_goOn_44 ?_
    refine g_put (ci := 5) C rfl inTX3 tyX3 tyX3_ok nmX3 3 (by decide) fl_RX3_33 rfl rfl hO2 (Nat.le_of_ble_eq_true rfl) rfl rfl dX3_goOn_47 ?_
    refine g_aload_n C dX3_goOn_50 rfl ?_
    refine g_iload_n C dX3_goOn_51 rfl ?_
    refine g_put (ci := 5) C rfl inTX3 tyX3 tyX3_ok nmX3 4 (by decide) fl_RX3_36 rfl rfl wset_s (Nat.le_of_ble_eq_true rfl) rfl rfl dX3_goOn_52 ?_
    rw [wset_set]
    refine g_aload_n C dX3_goOn_55 rfl ?_
    refine g_aload_n C dX3_goOn_56 rfl ?_
    refine g_get (ci := 5) C rfl inTX3 6 (by decide) fl_RX3_42 rfl wset_s rfl dX3_goOn_57 ?_
    refine g_put (ci := 5) C rfl inTX3 tyX3 tyX3_ok nmX3 5 (by decide) fl_RX3_39 rfl rfl wset_s (Nat.le_of_ble_eq_true rfl) rfl rfl dX3_goOn_60 ?_
    rw [wset_set]
    refine g_aload_n C dX3_goOn_63 rfl ?_
    refine g_iload_n C dX3_goOn_64 rfl ?_
    refine g_put (ci := 5) C rfl inTX3 tyX3 tyX3_ok nmX3 6 (by decide) fl_RX3_42 rfl rfl wset_s (Nat.le_of_ble_eq_true rfl) rfl rfl dX3_goOn_65 ?_
    rw [wset_set]
    refine g_aload_n C dX3_goOn_68 rfl ?_
    refine g_dup C dX3_goOn_69 rfl ?_
    refine g_get (ci := 5) C rfl inTX3 7 (by decide) fl_RX3_45 rfl wset_s rfl dX3_goOn_70 ?_
    refine g_iconst C dX3_goOn_73 ?_
    refine g_iadd C dX3_goOn_74 ?_
    rw [show (k : Int) + 1 = ((k + 1 : Nat) : Int) by omega]
    refine g_put (ci := 5) C rfl inTX3 tyX3 tyX3_ok nmX3 7 (by decide) fl_RX3_45 rfl rfl wset_s (Nat.le_of_ble_eq_true rfl) rfl rfl dX3_goOn_75 ?_
    rw [wset_set]
    exact g_return C hQ dX3_goOn_78 (Nat.le_refl _) (Nat.le_refl _) ⟨rfl, by rw [oS_eq, hn]; rfl⟩
  · exact absurd h4 (by omega)
