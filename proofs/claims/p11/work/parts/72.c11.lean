/-! the fraction: its object and its rows -/
def FS (ad : Nat → Nat) (w : Wd) (fb fr : Int) (m d a : Nat → Int) : Prop :=
  w.2 (ad 104) = some (true, eO 3 [iI fb, iI fr, .ref (ad 105), .ref (ad 106), .ref (ad 107), .ref (ad 108), .ref (ad 109)]) ∧
  w.2 (ad 105) = some (true, eI 26 m) ∧ w.2 (ad 106) = some (true, eI 26 d) ∧ w.2 (ad 107) = some (true, eI 26 a) ∧
  (∃ R, w.2 (ad 108) = some (true, eR 6 27 R) ∧ ∀ k, k < 27 → R k = some (wo ad (16 + k))) ∧ (∃ R, w.2 (ad 109) = some (true, eR 6 27 R) ∧ ∀ k, k < 27 → R k = some (wo ad (43 + k)))
def FV (b r : Int) (m d a : Nat → Int) : Prop := GB b ∧ RT b r ∧ ∀ k, k < 26 → m k = (cf b r k).1 ∧ d k = (cf b r k).2.1 ∧ a k = (cf b r k).2.2
theorem FS.kn {τ ad : Nat → Nat} {w w' : Wd} {fb fr : Int} {m d a : Nat → Int} (h : FS ad w fb fr m d a) (k : KN τ w w') (hN : NS τ ad w') : FS ad w' fb fr m d a := by
  obtain ⟨h1, h2, h3, h4, ⟨R, h5, h6⟩, ⟨R2, h7, h8⟩⟩ := h
  exact ⟨k.ob hN (t := 104) (by omega) h1, k.ob hN (t := 105) (by omega) h2, k.ob hN (t := 106) (by omega) h3, k.ob hN (t := 107) (by omega) h4, ⟨R, k.ob hN (t := 108) (by omega) h5, h6⟩, ⟨R2, k.ob hN (t := 109) (by omega) h7, h8⟩⟩
theorem FV.per {b r : Int} {m d a : Nat → Int} (h : FV b r m d a) {p : Nat} (h1 : 1 ≤ p ∧ p ≤ 25) (h2 : ∀ k, 1 ≤ k → k < p → d k ≠ 1) (h3 : p < 25 → d p = 1) : isPer b r p := by
  obtain ⟨hb, hr, hv⟩ := h
  obtain ⟨P0, hP1, hP2, hP3⟩ := per_some hb hr
  have e0 := (hv P0 (by omega)).2.1
  have hp : p ≤ P0 := by
    rcases Nat.lt_or_ge P0 p with q | q
    · have := h2 P0 hP1 q
      omega
    · exact q
  have e1 := (hv p (by omega)).2.1
  refine ⟨h1.1, by omega, by have := h3 (by omega); omega, fun k k1 k2 => ?_⟩
  have := h2 k k1 k2
  have := (hv k (by omega)).2.1
  omega
set_option maxHeartbeats 4000000 in
set_option maxRecDepth 100000 in
theorem s_X6_rootOf (l : Launch) {E : GE} {w : Wd} {b : Int} (hb : 0 ≤ b ∧ b ≤ 99) : Sp E l yX6_rootOf cX6_rootOf 3 (some .int) 0 (0) (0) [iI b] w (fun r' w' => (∃ m : Int, r' = some (iI m) ∧ RT b m) ∧ w' = w) := by
  refine sp_intro [some (iI b), none, none] rfl (Nat.le_of_ble_eq_true rfl) pn_X6 ?_
  intro X C hRm hl hnm hQ
  obtain ⟨hRf, hRl, hRc, hRs⟩ := hRm
  refine g_wf (fun hwf => ?_)
  refine g_iconst C dX6_rootOf_0 ?_
  refine g_istore_n C dX6_rootOf_1 (by decide) rfl ?_
  refine g_iconst C dX6_rootOf_2 ?_
  refine g_istore_n C dX6_rootOf_3 (by decide) rfl ?_
  refine g_loop (σ := Nat) (fun k => k ≤ 10 ∧ (k : Int) * k ≤ b) (fun k => G E X 3 4 [some (iI b), some (iI (k : Int)), some (iI ((k : Int) + 1))] [] w 0 0) (fun k => 10 - k) ?_ 0 ⟨by omega, by simp; omega⟩
  rintro k ⟨hk, hkb⟩ ih
  have hsq : ((k : Int) + 1) * ((k : Int) + 1) = k * k + 2 * k + 1 := by grind
  have hsq0 : 0 ≤ (k : Int) * k := Int.mul_nonneg (by omega) (by omega)
  refine g_iload_n C dX6_rootOf_4 rfl ?_
  refine g_bipush C dX6_rootOf_5 (by decide) ?_
  refine g_icmp_gt (tgt := 25) C dX6_rootOf_7 (by decide) (by omega) (by omega) (fun h7 => ?_) (fun h7 => ?_)
  · refine g_iload_n C dX6_rootOf_25 rfl ?_
    exact g_ireturn C hQ dX6_rootOf_26 (Nat.le_refl _) (Nat.le_refl _) ⟨⟨(k : Int), rfl, by omega, hkb, by
      first
      | omega
      | (exfalso
         have hk10 : k = 10 := by omega
         subst hk10
         omega)⟩, rfl⟩
  · refine g_iload_n C dX6_rootOf_10 rfl ?_
    refine g_iload_n C dX6_rootOf_11 rfl ?_
    refine g_imul C dX6_rootOf_12 ?_
    refine g_iload_n C dX6_rootOf_13 rfl ?_
    refine g_icmp_gt (tgt := 25) C dX6_rootOf_14 (by decide) (by omega) (by omega) (fun h14 => ?_) (fun h14 => ?_)
    · refine g_iload_n C dX6_rootOf_25 rfl ?_
      exact g_ireturn C hQ dX6_rootOf_26 (Nat.le_refl _) (Nat.le_refl _) ⟨⟨(k : Int), rfl, by omega, hkb, by
        first
        | omega
        | (exfalso
           have hk10 : k = 10 := by omega
           subst hk10
           omega)⟩, rfl⟩
    · refine g_iload_n C dX6_rootOf_17 rfl ?_
      refine g_istore_n C dX6_rootOf_18 (by decide) rfl ?_
      refine g_iinc C dX6_rootOf_19 rfl (by decide) rfl ?_
      refine g_goto (tgt := 4) C dX6_rootOf_22 (by decide) ?_
      have hk9 : k ≤ 9 := by
        rcases Nat.lt_or_ge 9 k with q | q
        · have hk10 : k = 10 := by omega
          subst hk10
          omega
        · exact q
      rw [show (k : Int) + 1 = ((k + 1 : Nat) : Int) by omega]
      exact ih (k + 1) ⟨by omega, by rw [show ((k + 1 : Nat) : Int) = (k : Int) + 1 by omega]; omega⟩ (by omega)
set_option maxHeartbeats 4000000 in
set_option maxRecDepth 100000 in
theorem s_X1_place (l : Launch) {E : GE} {w : Wd} {k : Int} (hk : -100000 ≤ k ∧ k ≤ 100000) : Sp E l yX1_place cX1_place 1 (some .int) 1 (0) (0) [iI k] w (fun r' w' => (∃ p : Nat, r' = some (iI (p : Int)) ∧ p ≤ 25 ∧ (0 ≤ k ∧ k ≤ 25 → (p : Int) = k)) ∧ w' = w) := by
  refine sp_intro [some (iI k)] rfl (Nat.le_of_ble_eq_true rfl) pn_X1 ?_
  intro X C hRm hl hnm hQ
  obtain ⟨hRf, hRl, hRc, hRs⟩ := hRm
  refine g_wf (fun hwf => ?_)
  obtain ⟨q, hq1, hq2, hq3⟩ : ∃ q : Int, (if k < 25 then k else 25) = q ∧ q ≤ 25 ∧ (k ≤ 25 → q = k) := ⟨_, rfl, by split <;> omega, fun _ => by split <;> omega⟩
  have hq4 : -100000 ≤ q := by rw [← hq1]; split <;> omega
  obtain ⟨p, hp1, hp2, hp3⟩ : ∃ p : Nat, (if (0 : Int) < q then q else 0) = (p : Int) ∧ p ≤ 25 ∧ (0 ≤ q → (p : Int) = q) := ⟨q.toNat, by split <;> omega, by omega, fun _ => by omega⟩
  refine g_iconst C dX1_place_0 ?_
  refine g_bipush C dX1_place_1 (by decide) ?_
  refine g_iload_n C dX1_place_3 rfl ?_
  refine g_min C ml_RX1_70 (by omega) (by omega) (by omega) (by omega) (Nat.le_of_ble_eq_true rfl) (by omega) dX1_place_4 ?_
  rw [hq1]
  refine g_max C ml_RX1_49 (by omega) (by omega) (by omega) (by omega) (Nat.le_of_ble_eq_true rfl) (by omega) dX1_place_7 ?_
  rw [hp1]
  exact g_ireturn C hQ dX1_place_10 (Nat.le_refl _) (Nat.le_refl _) ⟨⟨p, rfl, hp2, fun h => by rw [hp3 (by have := hq3 h.2; omega), hq3 h.2]⟩, rfl⟩
set_option maxHeartbeats 4000000 in
set_option maxRecDepth 100000 in
theorem s_X1_partM (l : Launch) {E : GE} {w : Wd} {ad : Nat → Nat} {fb fr : Int} {m d a : Nat → Int} (hF : FS ad w fb fr m d a) {k : Int} (hk : -100000 ≤ k ∧ k ≤ 100000) : Sp E l yX1_partM cX1_partM 2 (some .int) 2 (0) (0) [.ref (ad 104), iI k] w (fun r' w' => (∃ p : Nat, r' = some (iI (m p)) ∧ p ≤ 25 ∧ (0 ≤ k ∧ k ≤ 25 → (p : Int) = k)) ∧ w' = w) := by
  refine sp_intro [some (.ref (ad 104)), some (iI k)] rfl (Nat.le_of_ble_eq_true rfl) pn_X1 ?_
  intro X C hRm hl hnm hQ
  obtain ⟨hRf, hRl, hRc, hRs⟩ := hRm
  refine g_wf (fun hwf => ?_)
  obtain ⟨hF1, hF2, hF3, hF4, ⟨R, hF5, hF6⟩, ⟨R2, hF7, hF8⟩⟩ := id hF
  refine g_aload_n C dX1_partM_0 rfl ?_
  refine g_get (ci := 3) C rfl inTX1 2 (by decide) fl_RX1_11 rfl hF1 rfl dX1_partM_1 ?_
  refine g_iload_n C dX1_partM_4 rfl ?_
  refine g_callS C (s_X1_place _ (k := k) hk) ml_RX1_73 sm_yX1_place in_RX1 co_yX1_place hd_X1_place rfl ⟨by omega, by omega⟩ rfl (Nat.le_of_ble_eq_true rfl) ⟨by omega, by omega⟩ dX1_partM_5 (fun v5 w5 hp5 => ?_)
  obtain ⟨⟨p, rfl, hp1, hp2⟩, hw5⟩ := hp5
  subst w5
  refine g_ialoadN (p) C hF2 (by omega) (by omega) dX1_partM_8 ?_
  exact g_ireturn C hQ dX1_partM_9 (Nat.le_refl _) (Nat.le_refl _) ⟨⟨p, rfl, hp1, hp2⟩, rfl⟩
set_option maxHeartbeats 4000000 in
set_option maxRecDepth 100000 in
theorem s_X1_partD (l : Launch) {E : GE} {w : Wd} {ad : Nat → Nat} {fb fr : Int} {m d a : Nat → Int} (hF : FS ad w fb fr m d a) {k : Int} (hk : -100000 ≤ k ∧ k ≤ 100000) : Sp E l yX1_partD cX1_partD 2 (some .int) 2 (0) (0) [.ref (ad 104), iI k] w (fun r' w' => (∃ p : Nat, r' = some (iI (d p)) ∧ p ≤ 25 ∧ (0 ≤ k ∧ k ≤ 25 → (p : Int) = k)) ∧ w' = w) := by
  refine sp_intro [some (.ref (ad 104)), some (iI k)] rfl (Nat.le_of_ble_eq_true rfl) pn_X1 ?_
  intro X C hRm hl hnm hQ
  obtain ⟨hRf, hRl, hRc, hRs⟩ := hRm
  refine g_wf (fun hwf => ?_)
  obtain ⟨hF1, hF2, hF3, hF4, ⟨R, hF5, hF6⟩, ⟨R2, hF7, hF8⟩⟩ := id hF
  refine g_aload_n C dX1_partD_0 rfl ?_
  refine g_get (ci := 3) C rfl inTX1 3 (by decide) fl_RX1_15 rfl hF1 rfl dX1_partD_1 ?_
  refine g_iload_n C dX1_partD_4 rfl ?_
  refine g_callS C (s_X1_place _ (k := k) hk) ml_RX1_73 sm_yX1_place in_RX1 co_yX1_place hd_X1_place rfl ⟨by omega, by omega⟩ rfl (Nat.le_of_ble_eq_true rfl) ⟨by omega, by omega⟩ dX1_partD_5 (fun v5 w5 hp5 => ?_)
  obtain ⟨⟨p, rfl, hp1, hp2⟩, hw5⟩ := hp5
  subst w5
  refine g_ialoadN (p) C hF3 (by omega) (by omega) dX1_partD_8 ?_
  exact g_ireturn C hQ dX1_partD_9 (Nat.le_refl _) (Nat.le_refl _) ⟨⟨p, rfl, hp1, hp2⟩, rfl⟩
set_option maxHeartbeats 4000000 in
set_option maxRecDepth 100000 in
theorem s_X1_partA (l : Launch) {E : GE} {w : Wd} {ad : Nat → Nat} {fb fr : Int} {m d a : Nat → Int} (hF : FS ad w fb fr m d a) {k : Int} (hk : -100000 ≤ k ∧ k ≤ 100000) : Sp E l yX1_partA cX1_partA 2 (some .int) 2 (0) (0) [.ref (ad 104), iI k] w (fun r' w' => (∃ p : Nat, r' = some (iI (a p)) ∧ p ≤ 25 ∧ (0 ≤ k ∧ k ≤ 25 → (p : Int) = k)) ∧ w' = w) := by
  refine sp_intro [some (.ref (ad 104)), some (iI k)] rfl (Nat.le_of_ble_eq_true rfl) pn_X1 ?_
  intro X C hRm hl hnm hQ
  obtain ⟨hRf, hRl, hRc, hRs⟩ := hRm
  refine g_wf (fun hwf => ?_)
  obtain ⟨hF1, hF2, hF3, hF4, ⟨R, hF5, hF6⟩, ⟨R2, hF7, hF8⟩⟩ := id hF
  refine g_aload_n C dX1_partA_0 rfl ?_
  refine g_get (ci := 3) C rfl inTX1 4 (by decide) fl_RX1_18 rfl hF1 rfl dX1_partA_1 ?_
  refine g_iload_n C dX1_partA_4 rfl ?_
  refine g_callS C (s_X1_place _ (k := k) hk) ml_RX1_73 sm_yX1_place in_RX1 co_yX1_place hd_X1_place rfl ⟨by omega, by omega⟩ rfl (Nat.le_of_ble_eq_true rfl) ⟨by omega, by omega⟩ dX1_partA_5 (fun v5 w5 hp5 => ?_)
  obtain ⟨⟨p, rfl, hp1, hp2⟩, hw5⟩ := hp5
  subst w5
  refine g_ialoadN (p) C hF4 (by omega) (by omega) dX1_partA_8 ?_
  exact g_ireturn C hQ dX1_partA_9 (Nat.le_refl _) (Nat.le_refl _) ⟨⟨p, rfl, hp1, hp2⟩, rfl⟩
set_option maxHeartbeats 4000000 in
set_option maxRecDepth 100000 in
theorem s_X1_top (l : Launch) {E : GE} {w : Wd} {ad : Nat → Nat} {fb fr : Int} {m d a : Nat → Int} (hF : FS ad w fb fr m d a) {k : Int} (hk : -100000 ≤ k ∧ k ≤ 100000) : Sp E l yX1_top cX1_top 2 (some (.object "Rootwalk$Whole")) 2 (0) (0) [.ref (ad 104), iI k] w (fun r' w' => (∃ j, r' = some (.ref (wo ad j)) ∧ 16 ≤ j ∧ j < 43 ∧ (-1 ≤ k ∧ k ≤ 25 → (j : Int) = 17 + k)) ∧ w' = w) := by
  refine sp_intro [some (.ref (ad 104)), some (iI k)] rfl (Nat.le_of_ble_eq_true rfl) pn_X1 ?_
  intro X C hRm hl hnm hQ
  obtain ⟨hRf, hRl, hRc, hRs⟩ := hRm
  refine g_wf (fun hwf => ?_)
  obtain ⟨hF1, hF2, hF3, hF4, ⟨R, hF5, hF6⟩, ⟨R2, hF7, hF8⟩⟩ := id hF
  refine g_iload_n C dX1_top_0 rfl ?_
  refine g_if_ge (tgt := 13) C dX1_top_1 (by decide) (by omega) (fun h1 => ?_) (fun h1 => ?_)
  · refine g_aload_n C dX1_top_13 rfl ?_
    refine g_get (ci := 3) C rfl inTX1 5 (by decide) fl_RX1_23 rfl hF1 rfl dX1_top_14 ?_
    refine g_iload_n C dX1_top_17 rfl ?_
    refine g_callS C (s_X1_place _ (k := k) hk) ml_RX1_73 sm_yX1_place in_RX1 co_yX1_place hd_X1_place rfl ⟨by omega, by omega⟩ rfl (Nat.le_of_ble_eq_true rfl) ⟨by omega, by omega⟩ dX1_top_18 (fun v18 w18 hp18 => ?_)
    obtain ⟨⟨p, rfl, hp1, hp2⟩, hw18⟩ := hp18
    subst w18
    refine g_iconst C dX1_top_21 ?_
    refine g_iadd C dX1_top_22 ?_
    rw [show (p : Int) + 1 = ((p + 1 : Nat) : Int) by omega]
    refine g_aaloadN (p + 1) C rfl rfl hF5 (by omega) (by omega) (hF6 (p + 1) (by omega)) dX1_top_23 ?_
    exact g_areturn C (Or.inl ⟨_, rfl⟩) hQ (Or.inr ⟨_, rfl⟩) dX1_top_24 (by omega) (by omega) ⟨⟨_, rfl, by omega, by omega, fun hk9 => by omega⟩, rfl⟩
  · refine g_aload_n C dX1_top_4 rfl ?_
    refine g_get (ci := 3) C rfl inTX1 5 (by decide) fl_RX1_23 rfl hF1 rfl dX1_top_5 ?_
    refine g_iconst C dX1_top_8 ?_
    refine g_aaloadN (0) C rfl rfl hF5 (by omega) (by omega) (hF6 0 (by omega)) dX1_top_9 ?_
    refine g_goto (tgt := 24) C dX1_top_10 (by decide) ?_
    exact g_areturn C (Or.inl ⟨_, rfl⟩) hQ (Or.inr ⟨_, rfl⟩) dX1_top_24 (by omega) (by omega) ⟨⟨_, rfl, by omega, by omega, fun hk9 => by omega⟩, rfl⟩
set_option maxHeartbeats 4000000 in
set_option maxRecDepth 100000 in
theorem s_X1_bottom (l : Launch) {E : GE} {w : Wd} {ad : Nat → Nat} {fb fr : Int} {m d a : Nat → Int} (hF : FS ad w fb fr m d a) {k : Int} (hk : -100000 ≤ k ∧ k ≤ 100000) : Sp E l yX1_bottom cX1_bottom 2 (some (.object "Rootwalk$Whole")) 2 (0) (0) [.ref (ad 104), iI k] w (fun r' w' => (∃ j, r' = some (.ref (wo ad j)) ∧ 43 ≤ j ∧ j < 70 ∧ (-1 ≤ k ∧ k ≤ 25 → (j : Int) = 44 + k)) ∧ w' = w) := by
  refine sp_intro [some (.ref (ad 104)), some (iI k)] rfl (Nat.le_of_ble_eq_true rfl) pn_X1 ?_
  intro X C hRm hl hnm hQ
  obtain ⟨hRf, hRl, hRc, hRs⟩ := hRm
  refine g_wf (fun hwf => ?_)
  obtain ⟨hF1, hF2, hF3, hF4, ⟨R, hF5, hF6⟩, ⟨R2, hF7, hF8⟩⟩ := id hF
  refine g_iload_n C dX1_bottom_0 rfl ?_
  refine g_if_ge (tgt := 13) C dX1_bottom_1 (by decide) (by omega) (fun h1 => ?_) (fun h1 => ?_)
  · refine g_aload_n C dX1_bottom_13 rfl ?_
    refine g_get (ci := 3) C rfl inTX1 6 (by decide) fl_RX1_27 rfl hF1 rfl dX1_bottom_14 ?_
    refine g_iload_n C dX1_bottom_17 rfl ?_
    refine g_callS C (s_X1_place _ (k := k) hk) ml_RX1_73 sm_yX1_place in_RX1 co_yX1_place hd_X1_place rfl ⟨by omega, by omega⟩ rfl (Nat.le_of_ble_eq_true rfl) ⟨by omega, by omega⟩ dX1_bottom_18 (fun v18 w18 hp18 => ?_)
    obtain ⟨⟨p, rfl, hp1, hp2⟩, hw18⟩ := hp18
    subst w18
    refine g_iconst C dX1_bottom_21 ?_
    refine g_iadd C dX1_bottom_22 ?_
    rw [show (p : Int) + 1 = ((p + 1 : Nat) : Int) by omega]
    refine g_aaloadN (p + 1) C rfl rfl hF7 (by omega) (by omega) (hF8 (p + 1) (by omega)) dX1_bottom_23 ?_
    exact g_areturn C (Or.inl ⟨_, rfl⟩) hQ (Or.inr ⟨_, rfl⟩) dX1_bottom_24 (by omega) (by omega) ⟨⟨_, rfl, by omega, by omega, fun hk9 => by omega⟩, rfl⟩
  · refine g_aload_n C dX1_bottom_4 rfl ?_
    refine g_get (ci := 3) C rfl inTX1 6 (by decide) fl_RX1_27 rfl hF1 rfl dX1_bottom_5 ?_
    refine g_iconst C dX1_bottom_8 ?_
    refine g_aaloadN (0) C rfl rfl hF7 (by omega) (by omega) (hF8 0 (by omega)) dX1_bottom_9 ?_
    refine g_goto (tgt := 24) C dX1_bottom_10 (by decide) ?_
    exact g_areturn C (Or.inl ⟨_, rfl⟩) hQ (Or.inr ⟨_, rfl⟩) dX1_bottom_24 (by omega) (by omega) ⟨⟨_, rfl, by omega, by omega, fun hk9 => by omega⟩, rfl⟩
set_option maxHeartbeats 4000000 in
set_option maxRecDepth 100000 in
theorem s_X1_turn (l : Launch) {E : GE} {w : Wd} {ad : Nat → Nat} {fb fr : Int} {m d a : Nat → Int} (hF : FS ad w fb fr m d a) (hd : ∀ k, k < 26 → -2147483648 ≤ d k ∧ d k < 2147483648) : Sp E l yX1_turn cX1_turn 2 (some .int) 0 (0) (0) [.ref (ad 104)] w (fun r' w' => (∃ p : Nat, r' = some (iI (p : Int)) ∧ (1 ≤ p ∧ p ≤ 25) ∧ (∀ k, 1 ≤ k → k < p → d k ≠ 1) ∧ (p < 25 → d p = 1)) ∧ w' = w) := by
  refine sp_intro [some (.ref (ad 104)), none] rfl (Nat.le_of_ble_eq_true rfl) pn_X1 ?_
  intro X C hRm hl hnm hQ
  obtain ⟨hRf, hRl, hRc, hRs⟩ := hRm
  refine g_wf (fun hwf => ?_)
  obtain ⟨hF1, hF2, hF3, hF4, ⟨R, hF5, hF6⟩, ⟨R2, hF7, hF8⟩⟩ := id hF
  refine g_iconst C dX1_turn_0 ?_
  refine g_istore_n C dX1_turn_1 (by decide) rfl ?_
  refine g_loop (σ := Nat) (fun k => 1 ≤ k ∧ k ≤ 25 ∧ ∀ i, 1 ≤ i → i < k → d i ≠ 1) (fun k => G E X 2 2 [some (.ref (ad 104)), some (iI (k : Int))] [] w 0 0) (fun k => 25 - k) ?_ 1 ⟨by omega, by omega, fun i h1 h2 => by omega⟩
  rintro k ⟨hk1, hk2, hk3⟩ ih
  refine g_iload_n C dX1_turn_2 rfl ?_
  refine g_bipush C dX1_turn_3 (by decide) ?_
  refine g_icmp_ge (tgt := 26) C dX1_turn_5 (by decide) (by omega) (by omega) (fun h5 => ?_) (fun h5 => ?_)
  · refine g_bipush C dX1_turn_26 (by decide) ?_
    exact g_ireturn C hQ dX1_turn_28 (Nat.le_refl _) (Nat.le_refl _) ⟨⟨25, rfl, by omega, fun i h1 h2 => hk3 i h1 (by omega), fun h => by omega⟩, rfl⟩
  · refine g_aload_n C dX1_turn_8 rfl ?_
    refine g_get (ci := 3) C rfl inTX1 3 (by decide) fl_RX1_15 rfl hF1 rfl dX1_turn_9 ?_
    refine g_iload_n C dX1_turn_12 rfl ?_
    refine g_ialoadN (k) C hF3 (by omega) (by omega) dX1_turn_13 ?_
    refine g_iconst C dX1_turn_14 ?_
    refine g_icmp_ne (tgt := 20) C dX1_turn_15 (by decide) (by have := hd k (by omega); omega) (by omega) (fun h15 => ?_) (fun h15 => ?_)
    · refine g_iinc C dX1_turn_20 rfl (by decide) rfl ?_
      refine g_goto (tgt := 2) C dX1_turn_23 (by decide) ?_
      exact ih (k + 1) ⟨by omega, by omega, fun i h1 h2 => by
        by_cases q : i = k
        · rw [q]; omega
        · exact hk3 i h1 (by omega)⟩ (by omega)
    · refine g_iload_n C dX1_turn_18 rfl ?_
      exact g_ireturn C hQ dX1_turn_19 (Nat.le_refl _) (Nat.le_refl _) ⟨⟨k, rfl, by omega, hk3, fun _ => by omega⟩, rfl⟩
set_option maxHeartbeats 4000000 in
set_option maxRecDepth 100000 in
theorem s_X1_isTurnOdd (l : Launch) {E : GE} {w : Wd} {ad : Nat → Nat} {fb fr : Int} {m d a : Nat → Int} (hF : FS ad w fb fr m d a) (hd : ∀ k, k < 26 → -2147483648 ≤ d k ∧ d k < 2147483648) : Sp E l yX1_isTurnOdd cX1_isTurnOdd 1 (some .boolean) 1 (0) (0) [.ref (ad 104)] w (fun r' w' => (∃ p : Nat, r' = some (iI (bI (p % 2 = 1))) ∧ (1 ≤ p ∧ p ≤ 25) ∧ (∀ k, 1 ≤ k → k < p → d k ≠ 1) ∧ (p < 25 → d p = 1)) ∧ w' = w) := by
  refine sp_intro [some (.ref (ad 104))] rfl (Nat.le_of_ble_eq_true rfl) pn_X1 ?_
  intro X C hRm hl hnm hQ
  obtain ⟨hRf, hRl, hRc, hRs⟩ := hRm
  refine g_wf (fun hwf => ?_)
  obtain ⟨hF1, hF2, hF3, hF4, ⟨R, hF5, hF6⟩, ⟨R2, hF7, hF8⟩⟩ := id hF
  refine g_aload_n C dX1_isTurnOdd_0 rfl ?_
  refine g_callV C (s_X1_turn _ hF hd) (ci := 3) rfl hF1 rfl ml_RX1_76 im_yX1_turn se_RX1_yX1_turn in_RX1 co_yX1_turn hd_X1_turn rfl ⟨by omega, by omega⟩ rfl (Nat.le_of_ble_eq_true rfl) ⟨by omega, by omega⟩ dX1_isTurnOdd_1 (fun v1 w1 hp1 => ?_)
  obtain ⟨⟨p, rfl, h2, h3, h4⟩, hw1⟩ := hp1
  subst w1
  refine g_iconst C dX1_isTurnOdd_4 ?_
  refine g_iremN C dX1_isTurnOdd_5 (by omega) (by omega) ?_
  refine g_iconst C dX1_isTurnOdd_6 ?_
  refine g_icmp_ne (tgt := 14) C dX1_isTurnOdd_7 (by decide) (by omega) (by omega) (fun h7 => ?_) (fun h7 => ?_)
  · refine g_iconst C dX1_isTurnOdd_14 ?_
    exact g_zreturn C hQ dX1_isTurnOdd_15 (nar01 (by omega)) (Nat.le_refl _) (Nat.le_refl _) ⟨⟨p, by first | rw [bI_t (by omega)] | rw [bI_f (by omega)], h2, h3, h4⟩, rfl⟩
  · refine g_iconst C dX1_isTurnOdd_10 ?_
    refine g_goto (tgt := 15) C dX1_isTurnOdd_11 (by decide) ?_
    exact g_zreturn C hQ dX1_isTurnOdd_15 (nar01 (by omega)) (Nat.le_refl _) (Nat.le_refl _) ⟨⟨p, by first | rw [bI_t (by omega)] | rw [bI_f (by omega)], h2, h3, h4⟩, rfl⟩
theorem turn_u {d : Nat → Int} {p q : Nat} (hp : 1 ≤ p ∧ p ≤ 25) (hq : 1 ≤ q ∧ q ≤ 25) (p1 : ∀ k, 1 ≤ k → k < p → d k ≠ 1) (p2 : p < 25 → d p = 1) (q1 : ∀ k, 1 ≤ k → k < q → d k ≠ 1) (q2 : q < 25 → d q = 1) : p = q := by
  rcases Nat.lt_trichotomy p q with c | c | c
  · exact absurd (p2 (by omega)) (q1 p hp.1 c)
  · exact c
  · exact absurd (q2 (by omega)) (p1 q hq.1 c)
set_option maxHeartbeats 4000000 in
set_option maxRecDepth 100000 in
theorem s_X1_solutionStep (l : Launch) {E : GE} {w : Wd} {ad : Nat → Nat} {fb fr : Int} {m d a : Nat → Int} (hF : FS ad w fb fr m d a) (hd : ∀ k, k < 26 → -2147483648 ≤ d k ∧ d k < 2147483648) : Sp E l yX1_solutionStep cX1_solutionStep 1 (some .int) 2 (0) (0) [.ref (ad 104)] w (fun r' w' => (∃ p : Nat, r' = some (iI ((leaK p : Nat) : Int)) ∧ (1 ≤ p ∧ p ≤ 25) ∧ (∀ k, 1 ≤ k → k < p → d k ≠ 1) ∧ (p < 25 → d p = 1)) ∧ w' = w) := by
  refine sp_intro [some (.ref (ad 104))] rfl (Nat.le_of_ble_eq_true rfl) pn_X1 ?_
  intro X C hRm hl hnm hQ
  obtain ⟨hRf, hRl, hRc, hRs⟩ := hRm
  refine g_wf (fun hwf => ?_)
  obtain ⟨hF1, hF2, hF3, hF4, ⟨R, hF5, hF6⟩, ⟨R2, hF7, hF8⟩⟩ := id hF
  refine g_aload_n C dX1_solutionStep_0 rfl ?_
  refine g_callV C (s_X1_isTurnOdd _ hF hd) (ci := 3) rfl hF1 rfl ml_RX1_80 im_yX1_isTurnOdd se_RX1_yX1_isTurnOdd in_RX1 co_yX1_isTurnOdd hd_X1_isTurnOdd rfl ⟨by omega, by omega⟩ rfl (Nat.le_of_ble_eq_true rfl) ⟨by omega, by omega⟩ dX1_solutionStep_1 (fun v1 w1 hp1 => ?_)
  obtain ⟨⟨p, rfl, g2, g3, g4⟩, hw1⟩ := hp1
  subst w1
  refine g_if_eq (tgt := 16) C dX1_solutionStep_4 (by decide) (bI_r _) (fun h4 => ?_) (fun h4 => ?_)
  · refine g_aload_n C dX1_solutionStep_16 rfl ?_
    refine g_callV C (s_X1_turn _ hF hd) (ci := 3) rfl hF1 rfl ml_RX1_76 im_yX1_turn se_RX1_yX1_turn in_RX1 co_yX1_turn hd_X1_turn rfl ⟨by omega, by omega⟩ rfl (Nat.le_of_ble_eq_true rfl) ⟨by omega, by omega⟩ dX1_solutionStep_17 (fun v17 w17 hp17 => ?_)
    obtain ⟨⟨p9, rfl, g92, g93, g94⟩, hw17⟩ := hp17
    subst w17
    refine g_iconst C dX1_solutionStep_20 ?_
    refine g_isub C dX1_solutionStep_21 ?_
    exact g_ireturn C hQ dX1_solutionStep_22 (Nat.le_refl _) (Nat.le_refl _) (by
      have hpe := turn_u g2 g92 g3 g4 g93 g94
      subst hpe
      refine ⟨⟨p, ?_, g2, g3, g4⟩, rfl⟩
      unfold leaK
      first
      | (have ho := bI_1 h4; rw [if_neg (by omega)]; congr 2; omega)
      | (have ho := bI_0 h4; rw [if_pos (by omega)]; congr 2; omega))
  · refine g_iconst C dX1_solutionStep_7 ?_
    refine g_aload_n C dX1_solutionStep_8 rfl ?_
    refine g_callV C (s_X1_turn _ hF hd) (ci := 3) rfl hF1 rfl ml_RX1_76 im_yX1_turn se_RX1_yX1_turn in_RX1 co_yX1_turn hd_X1_turn rfl ⟨by omega, by omega⟩ rfl (Nat.le_of_ble_eq_true rfl) ⟨by omega, by omega⟩ dX1_solutionStep_9 (fun v9 w9 hp9 => ?_)
    obtain ⟨⟨p9, rfl, g92, g93, g94⟩, hw9⟩ := hp9
    subst w9
    refine g_imul C dX1_solutionStep_12 ?_
    refine g_goto (tgt := 20) C dX1_solutionStep_13 (by decide) ?_
    refine g_iconst C dX1_solutionStep_20 ?_
    refine g_isub C dX1_solutionStep_21 ?_
    exact g_ireturn C hQ dX1_solutionStep_22 (Nat.le_refl _) (Nat.le_refl _) (by
      have hpe := turn_u g2 g92 g3 g4 g93 g94
      subst hpe
      refine ⟨⟨p, ?_, g2, g3, g4⟩, rfl⟩
      unfold leaK
      first
      | (have ho := bI_1 h4; rw [if_neg (by omega)]; congr 2; omega)
      | (have ho := bI_0 h4; rw [if_pos (by omega)]; congr 2; omega))
