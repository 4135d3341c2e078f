theorem KF.ob {τ ad : Nat → Nat} {w w' : Wd} (k : KF τ w w') (h : NS τ ad w') {t : Nat} (ht : 100 ≤ t ∧ t < 200) (hn : ¬ (104 ≤ t ∧ t ≤ 109)) {x : WdE} (e : w.2 (ad t) = some x) : w'.2 (ad t) = some x := k.2 _ _ (by rw [h.t t (by omega)]; exact hn) (by rw [h.t t (by omega)]; omega) e
theorem KF.nw {τ ad : Nat → Nat} {w w' : Wd} (k : KF τ w w') (h : NS τ ad w') {j : Nat} (hj : j < 16) {z : Int} (e : NW ad w j z) : NW ad w' j z := e.k (fun x q => k.2 _ _ (by rw [h.to (by omega)]; omega) (by rw [h.to (by omega)]; omega) q) (fun x q => k.2 _ _ (by rw [h.tr (by omega)]; omega) (by rw [h.tr (by omega)]; omega) q)
theorem FV.a {b r : Int} {m d a : Nat → Int} (h : FV b r m d a) : ∀ k, k < 26 → (0 ≤ m k ∧ m k ≤ 9) ∧ (1 ≤ d k ∧ d k ≤ 18) ∧ 0 ≤ a k ∧ a k ≤ 1000 := by
  intro k hk
  obtain ⟨hb, hr, hv⟩ := h
  have c := cf_good hb hr (k := k) (by omega)
  have hr9 := RT_le hb hr
  have := hv k hk
  omega
set_option maxHeartbeats 4000000 in
set_option maxRecDepth 100000 in
theorem s_X1_expand (l : Launch) {K : KC} {E : GE} {w : Wd} {τ ad : Nat → Nat} (hN0 : NS τ ad w) {fb fr : Int} {m d a : Nat → Int} (hF : FS ad w fb fr m d a) (hv : fb = 0 ∨ FV fb fr m d a ∧ FN ad w fb fr) (hfb : -1000 ≤ fb ∧ fb ≤ 1000) {b : Int} (hb : GB b) : St K E l yX1_expand cX1_expand 2 none 4 (0) (0) [.ref (ad 104), iI b] w (fun r' w' => r' = none ∧ ∃ r m' d' a', FS ad w' b r m' d' a' ∧ FV b r m' d' a' ∧ FN ad w' b r ∧ NS τ ad w' ∧ KF τ w w') := by
  refine st_intro [some (.ref (ad 104)), some (iI b)] rfl (Nat.le_of_ble_eq_true rfl) pn_X1 ?_
  intro X C hT hRm hl hnm hQ
  obtain ⟨hRf, hRl, hRc, hRs⟩ := hRm
  refine g_wf (fun hwf => ?_)
  refine g_iload_n C dX1_expand_0 rfl ?_
  refine g_aload_n C dX1_expand_1 rfl ?_
  refine g_get (ci := 3) C rfl inTX1 0 (by decide) fl_RX1_31 rfl hF.1 rfl dX1_expand_2 ?_
  refine g_icmp_ne (tgt := 9) C dX1_expand_5 (by decide) (by have := hb.2.1; have := hb.1; omega) (by omega) (fun h5 => ?_) (fun h5 => ?_)
  · refine g_aload_n C dX1_expand_9 rfl ?_
    refine g_iload_n C dX1_expand_10 rfl ?_
    refine g_put (ci := 3) C rfl inTX1 tyX1 tyX1_ok nmX1 0 (by decide) fl_RX1_31 rfl rfl hF.1 (Nat.le_of_ble_eq_true rfl) rfl rfl dX1_expand_11 ?_
    obtain ⟨u1, hu1⟩ : ∃ u1, u1 = wset w (ad 104) (true, eO 3 [iI b, iI fr, .ref (ad 105), .ref (ad 106), .ref (ad 107), .ref (ad 108), .ref (ad 109)]) := ⟨_, rfl⟩
    refine g_eqw (w' := u1) hu1.symm ?_
    have Fu1 := hF.so hN0 b fr
    have Nu1 := hN0.wst (t := 104) (by omega) (true, eO 3 [iI b, iI fr, .ref (ad 105), .ref (ad 106), .ref (ad 107), .ref (ad 108), .ref (ad 109)])
    have Ku1 := (KF.rf τ w).tr (KF.set hN0 (t := 104) (by omega) (true, eO 3 [iI b, iI fr, .ref (ad 105), .ref (ad 106), .ref (ad 107), .ref (ad 108), .ref (ad 109)]))
    rw [← hu1] at Fu1 Nu1 Ku1
    refine g_aload_n C dX1_expand_14 rfl ?_
    refine g_iload_n C dX1_expand_15 rfl ?_
    refine t_nS C hT ((s_X6_rootOf (l := xl X) (b := b) (by have := hb.2.1; have := hb.1; omega)).st) 6 rfl sm_yX6_rootOf in_RX6 co_yX6_rootOf hd_X6_rootOf rfl ⟨by omega, by omega⟩ rfl (Nat.le_of_ble_eq_true rfl) ⟨by omega, by omega⟩ dX1_expand_16 (fun v16 w16 hp16 => ?_)
    obtain ⟨⟨r16, rfl, hr16⟩, hw16⟩ := hp16
    subst w16
    refine g_put (ci := 3) C rfl inTX1 tyX1 tyX1_ok nmX1 1 (by decide) fl_RX1_39 rfl rfl Fu1.1 (Nat.le_of_ble_eq_true rfl) rfl rfl dX1_expand_19 ?_
    obtain ⟨u2, hu2⟩ : ∃ u2, u2 = wset u1 (ad 104) (true, eO 3 [iI b, iI r16, .ref (ad 105), .ref (ad 106), .ref (ad 107), .ref (ad 108), .ref (ad 109)]) := ⟨_, rfl⟩
    refine g_eqw (w' := u2) hu2.symm ?_
    have Fu2 := Fu1.so Nu1 b r16
    have Nu2 := Nu1.wst (t := 104) (by omega) (true, eO 3 [iI b, iI r16, .ref (ad 105), .ref (ad 106), .ref (ad 107), .ref (ad 108), .ref (ad 109)])
    have Ku2 := Ku1.tr (KF.set Nu1 (t := 104) (by omega) (true, eO 3 [iI b, iI r16, .ref (ad 105), .ref (ad 106), .ref (ad 107), .ref (ad 108), .ref (ad 109)]))
    rw [← hu2] at Fu2 Nu2 Ku2
    refine g_aload_n C dX1_expand_22 rfl ?_
    refine g_callV C (s_X1_fillParts _ Nu2 Fu2 hb hr16) (ci := 3) rfl Fu2.1 rfl ml_RX1_42 im_yX1_fillParts se_RX1_yX1_fillParts in_RX1 co_yX1_fillParts hd_X1_fillParts rfl ⟨by omega, by omega⟩ rfl (Nat.le_of_ble_eq_true rfl) ⟨by omega, by omega⟩ dX1_expand_23 (fun v23 w23 hp23 => ?_)
    obtain ⟨rfl, m1, d1, a1, F23, V23, N23, K23⟩ := hp23
    have hr9 := RT_le hb hr16
    have hva := V23.a
    obtain ⟨g1, g2, g3, g4, ⟨R, g5, g6⟩, ⟨R2, g7, g8⟩⟩ := id F23
    refine g_aload_n C dX1_expand_26 rfl ?_
    refine g_aload_n C dX1_expand_27 rfl ?_
    refine g_get (ci := 3) C rfl inTX1 5 (by decide) fl_RX1_23 rfl F23.1 rfl dX1_expand_28 ?_
    refine g_iconst C dX1_expand_31 ?_
    refine g_aload_n C dX1_expand_32 rfl ?_
    refine g_get (ci := 3) C rfl inTX1 1 (by decide) fl_RX1_39 rfl F23.1 rfl dX1_expand_33 ?_
    refine g_callV C (s_X1_fillRow _ N23 F23 V23 (t := 108) (o := 16) (Or.inl rfl) (by omega) g5 g6 (x := 1) (y := r16) (by omega) (by omega)) (ci := 3) rfl F23.1 rfl ml_RX1_45 im_yX1_fillRow se_RX1_yX1_fillRow in_RX1 co_yX1_fillRow hd_X1_fillRow rfl ⟨by omega, by omega⟩ rfl (Nat.le_of_ble_eq_true rfl) ⟨by omega, by omega⟩ dX1_expand_36 (fun v36 w36 hp36 => ?_)
    obtain ⟨rfl, N36, K36, R36⟩ := hp36
    have F36 := F23.kb K36.kb N36
    obtain ⟨-, -, -, -, -, ⟨R3, g9, g10⟩⟩ := id F36
    refine g_aload_n C dX1_expand_39 rfl ?_
    refine g_aload_n C dX1_expand_40 rfl ?_
    refine g_get (ci := 3) C rfl inTX1 6 (by decide) fl_RX1_27 rfl F36.1 rfl dX1_expand_41 ?_
    refine g_iconst C dX1_expand_44 ?_
    refine g_iconst C dX1_expand_45 ?_
    refine g_callV C (s_X1_fillRow _ N36 F36 V23 (t := 109) (o := 43) (Or.inr rfl) (by omega) g9 g10 (x := 0) (y := 1) (by omega) (by omega)) (ci := 3) rfl F36.1 rfl ml_RX1_45 im_yX1_fillRow se_RX1_yX1_fillRow in_RX1 co_yX1_fillRow hd_X1_fillRow rfl ⟨by omega, by omega⟩ rfl (Nat.le_of_ble_eq_true rfl) ⟨by omega, by omega⟩ dX1_expand_46 (fun v46 w46 hp46 => ?_)
    obtain ⟨rfl, N46, K46, R46⟩ := hp46
    exact g_return C hQ dX1_expand_49 (by omega) (by omega) ⟨rfl, r16, m1, d1, a1, F36.kb K46.kb N46, V23, fun k hk => ⟨K46.nw N46 (by omega) (by omega) (R36 k hk), R46 k hk⟩, N46, ((Ku2.tr K23).tr (K36.kf (by omega))).tr (K46.kf (by omega))⟩
  · exact g_return C hQ dX1_expand_8 (by omega) (by omega) (by
      have e : b = fb := by omega
      subst e
      rcases hv with q | q
      · have := hb.1; omega
      · exact ⟨rfl, fr, m, d, a, hF, q.1, q.2, hN0, KF.rf _ _⟩)
