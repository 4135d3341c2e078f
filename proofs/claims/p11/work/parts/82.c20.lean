set_option maxHeartbeats 4000000 in
set_option maxRecDepth 100000 in
theorem s_X3_begin (l : Launch) {K : KC} {E : GE} {w : Wd} {a p : Nat} {x0 x1 x2 x3 x4 x5 x6 x7 : Int} (hS : SPb p = true) (hO : w.2 a = some (true, eO 5 [iI x0, iI x1, iI x2, iI x3, iI x4, iI x5, iI x6, iI x7])) : St K E l yX3_begin cX3_begin 2 none 4 (0) (0) [.ref a, iI (p : Int)] w (fun r' w' => r' = none ∧ w' = wset w a (true, oS p 0)) := by
  refine st_intro [some (.ref a), some (iI (p : Int))] rfl (Nat.le_of_ble_eq_true rfl) pn_X3 ?_
  intro X C hT hRm hl hnm hQ
  obtain ⟨hRf, hRl, hRc, hRs⟩ := hRm
  refine g_wf (fun hwf => ?_)
  have hp := SPb_r hS
  obtain ⟨hw1, hw2, hw3⟩ := (SPb_v hS).wit
  refine g_aload_n C dX3_begin_0 rfl ?_
  refine g_iload_n C dX3_begin_1 rfl ?_
  refine g_put (ci := 5) C rfl inTX3 tyX3 tyX3_ok nmX3 0 (by decide) fl_RX3_15 rfl rfl hO (Nat.le_of_ble_eq_true rfl) rfl rfl dX3_begin_2 ?_
  refine g_aload_n C dX3_begin_5 rfl ?_
  refine g_iload_n C dX3_begin_6 rfl ?_
  refine t_callS C hT (s_X3_findWitness _ hS) ml_RX3_19 sm_yX3_findWitness in_RX3 co_yX3_findWitness hd_X3_findWitness rfl ⟨by omega, by omega⟩ rfl (Nat.le_of_ble_eq_true rfl) ⟨by omega, by omega⟩ dX3_begin_7 (fun v7 w7 hp7 => ?_)
  obtain ⟨rfl, hw7⟩ := hp7
  subst w7
  refine g_put (ci := 5) C rfl inTX3 tyX3 tyX3_ok nmX3 1 (by decide) fl_RX3_23 rfl rfl wset_s (Nat.le_of_ble_eq_true rfl) rfl rfl dX3_begin_10 ?_
  rw [wset_set]
  refine g_aload_n C dX3_begin_13 rfl ?_
  refine g_aload_n C dX3_begin_14 rfl ?_
  refine g_get (ci := 5) C rfl inTX3 1 (by decide) fl_RX3_23 rfl wset_s rfl dX3_begin_15 ?_
  refine g_iload_n C dX3_begin_18 rfl ?_
  refine g_iconst C dX3_begin_19 ?_
  refine g_isub C dX3_begin_20 ?_
  refine g_iconst C dX3_begin_21 ?_
  refine g_idivN C dX3_begin_22 (by omega) (by omega) ?_
  rw [show ((p : Int) - 1) / 4 = (((p - 1) / 4 : Nat) : Int) by omega]
  refine g_iload_n C dX3_begin_23 rfl ?_
  refine t_nS C hT ((s_X6_restOfPower (l := xl X) (x := ((wit p : Nat) : Int)) (a := wit p) (p := p) (K := (p - 1) / 4) (by omega) (by omega) (by simp) (by omega)).st) 4 rfl sm_yX6_restOfPower in_RX6 co_yX6_restOfPower hd_X6_restOfPower rfl ⟨by omega, by omega⟩ rfl (Nat.le_of_ble_eq_true rfl) ⟨by omega, by omega⟩ dX3_begin_24 (fun v24 w24 hp24 => ?_)
  obtain ⟨rfl, hw24⟩ := hp24
  subst w24
  refine g_put (ci := 5) C rfl inTX3 tyX3 tyX3_ok nmX3 2 (by decide) fl_RX3_30 rfl rfl wset_s (Nat.le_of_ble_eq_true rfl) rfl rfl dX3_begin_27 ?_
  rw [wset_set]
  refine g_aload_n C dX3_begin_30 rfl ?_
  refine g_iload_n C dX3_begin_31 rfl ?_
  refine g_put (ci := 5) C rfl inTX3 tyX3 tyX3_ok nmX3 3 (by decide) fl_RX3_33 rfl rfl wset_s (Nat.le_of_ble_eq_true rfl) rfl rfl dX3_begin_32 ?_
  rw [wset_set]
  refine g_aload_n C dX3_begin_35 rfl ?_
  refine g_aload_n C dX3_begin_36 rfl ?_
  refine g_get (ci := 5) C rfl inTX3 2 (by decide) fl_RX3_30 rfl wset_s rfl dX3_begin_37 ?_
  refine g_put (ci := 5) C rfl inTX3 tyX3 tyX3_ok nmX3 4 (by decide) fl_RX3_36 rfl rfl wset_s (Nat.le_of_ble_eq_true rfl) rfl rfl dX3_begin_40 ?_
  rw [wset_set]
  refine g_aload_n C dX3_begin_43 rfl ?_
  refine g_iconst C dX3_begin_44 ?_
  refine g_put (ci := 5) C rfl inTX3 tyX3 tyX3_ok nmX3 5 (by decide) fl_RX3_39 rfl rfl wset_s (Nat.le_of_ble_eq_true rfl) rfl rfl dX3_begin_45 ?_
  rw [wset_set]
  refine g_aload_n C dX3_begin_48 rfl ?_
  refine g_iconst C dX3_begin_49 ?_
  refine g_put (ci := 5) C rfl inTX3 tyX3 tyX3_ok nmX3 6 (by decide) fl_RX3_42 rfl rfl wset_s (Nat.le_of_ble_eq_true rfl) rfl rfl dX3_begin_50 ?_
  rw [wset_set]
  refine g_aload_n C dX3_begin_53 rfl ?_
  refine g_iconst C dX3_begin_54 ?_
  refine g_put (ci := 5) C rfl inTX3 tyX3 tyX3_ok nmX3 7 (by decide) fl_RX3_45 rfl rfl wset_s (Nat.le_of_ble_eq_true rfl) rfl rfl dX3_begin_55 ?_
  rw [wset_set]
  exact g_return C hQ dX3_begin_58 (by omega) (by omega) ⟨rfl, by rw [oS_eq]; rfl⟩
