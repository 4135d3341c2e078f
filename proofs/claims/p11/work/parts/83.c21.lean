set_option maxHeartbeats 4000000 in
set_option maxRecDepth 100000 in
theorem s_X6_runWay (l : Launch) {K : KC} {E : GE} {w : Wd} {a b p0 k0 p k : Nat} (h1 : w.2 a = some (true, oS p0 k0)) (hV : SV p k) (h2 : w.2 b = some (true, oS p k)) : St K E l yX6_runWay cX6_runWay 2 none 5 (0) (0) [.ref a, .ref b] w (fun r' w' => r' = none ∧ ∃ t, SV p t ∧ w' = wset w a (true, oS p t)) := by
  refine st_intro [some (.ref a), some (.ref b)] rfl (Nat.le_of_ble_eq_true rfl) pn_X6 ?_
  intro X C hT hRm hl hnm hQ
  obtain ⟨hRf, hRl, hRc, hRs⟩ := hRm
  refine g_wf (fun hwf => ?_)
  have hp := hV.p
  rw [oS_eq] at h1 h2
  refine g_aload_n C dX6_runWay_0 rfl ?_
  refine g_aload_n C dX6_runWay_1 rfl ?_
  refine g_get (ci := 5) C rfl inTX3 0 (by decide) fl_RX6_288 rfl h2 rfl dX6_runWay_2 ?_
  refine t_callV C hT (s_X3_begin _ hV.1 h1) (RcV.ob (ci := 5) C rfl h1) rfl ml_RX6_255 im_yX3_begin se_RX3_yX3_begin in_RX3 co_yX3_begin hd_X3_begin rfl ⟨by omega, by omega⟩ rfl (Nat.le_of_ble_eq_true rfl) ⟨by omega, by omega⟩ dX6_runWay_5 (fun v5 w5 hp5 => ?_)
  obtain ⟨rfl, hw5⟩ := hp5
  subst w5
  refine g_aload_n C dX6_runWay_8 rfl ?_
  refine g_callV C (s_X3_goOnToSettled _ (SPb_v hV.1) wset_s) (ci := 5) rfl (show (wset w a (true, oS p 0)).2 a = some (true, eO 5 _) from wset_s) rfl ml_RX6_270 im_yX3_goOnToSettled se_RX3_yX3_goOnToSettled in_RX3 co_yX3_goOnToSettled hd_X3_goOnToSettled rfl ⟨by omega, by omega⟩ rfl (Nat.le_of_ble_eq_true rfl) ⟨by omega, by omega⟩ dX6_runWay_9 (fun v9 w9 hp9 => ?_)
  obtain ⟨t9, ht9, hV9, -, -, rfl, hw9⟩ := hp9
  subst w9
  refine g_pop C dX6_runWay_12 rfl ?_
  exact g_return C hQ dX6_runWay_13 (by omega) (by omega) ⟨rfl, t9, hV9, by rw [wset_set]⟩
