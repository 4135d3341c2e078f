/-! the fraction: its object and its rows -/
def FS (ad : Nat → Nat) (w : Wd) (fb fr : Int) (m d a : Nat → Int) : Prop :=
  w.2 (ad 104) = some (true, eO 3 [iI fb, iI fr, .ref (ad 105), .ref (ad 106), .ref (ad 107), .ref (ad 108), .ref (ad 109)]) ∧
  w.2 (ad 105) = some (true, eI 26 m) ∧ w.2 (ad 106) = some (true, eI 26 d) ∧ w.2 (ad 107) = some (true, eI 26 a) ∧
  (∃ R, w.2 (ad 108) = some (true, eR 6 27 R) ∧ ∀ k, k < 27 → R k = some (wo ad (16 + k))) ∧ (∃ R, w.2 (ad 109) = some (true, eR 6 27 R) ∧ ∀ k, k < 27 → R k = some (wo ad (43 + k)))
def FV (b r : Int) (m d a : Nat → Int) : Prop := GB b ∧ RT b r ∧ ∀ k, k < 26 → m k = (cf b r k).1 ∧ d k = (cf b r k).2.1 ∧ a k = (cf b r k).2.2
theorem FS.kn {τ ad : Nat → Nat} {w w' : Wd} {fb fr : Int} {m d a : Nat → Int} (h : FS ad w fb fr m d a) (k : KN τ w w') (hN : NS τ ad w') : FS ad w' fb fr m d a := by
  obtain ⟨h1, h2, h3, h4, ⟨R, h5, h6⟩, ⟨R2, h7, h8⟩⟩ := h
  exact ⟨k.ob hN (t := 104) (by omega) h1, k.ob hN (t := 105) (by omega) h2, k.ob hN (t := 106) (by omega) h3, k.ob hN (t := 107) (by omega) h4, ⟨R, k.ob hN (t := 108) (by omega) h5, h6⟩, ⟨R2, k.ob hN (t := 109) (by omega) h7, h8⟩⟩
theorem FV.per {b r : Int} {m d a : Nat → Int} (h : FV b r m d a) {p : Nat} (h1 : 1 ≤ p ∧ p ≤ 25) (h2 : ∀ k, 1 ≤ k → k < p → d k ≠ 1) (h3 : p < 25 → d p = 1) : isPer b r p := by
  obtain ⟨hb, hr, hv⟩ := h
  obtain ⟨P0, hP1, hP2, hP3⟩ := per_some hb hr
  have e0 := (hv P0 (by omega)).2.1
  have hp : p ≤ P0 := by
    rcases Nat.lt_or_ge P0 p with q | q
    · have := h2 P0 hP1 q
      omega
    · exact q
  have e1 := (hv p (by omega)).2.1
  refine ⟨h1.1, by omega, by have := h3 (by omega); omega, fun k k1 k2 => ?_⟩
  have := h2 k k1 k2
  have := (hv k (by omega)).2.1
  omega
set_option maxHeartbeats 4000000 in
set_option maxRecDepth 100000 in
theorem s_X6_rootOf (l : Launch) {E : GE} {w : Wd} {b : Int} (hb : 0 ≤ b ∧ b ≤ 99) : Sp E l yX6_rootOf cX6_rootOf 3 (some .int) 0 (0) (0) [iI b] w (fun r' w' => (∃ m : Int, r' = some (iI m) ∧ RT b m) ∧ w' = w) := by
  refine sp_intro [some (iI b), none, none] rfl (Nat.le_of_ble_eq_true rfl) pn_X6 ?_
  intro X C hRm hl hnm hQ
  obtain ⟨hRf, hRl, hRc, hRs⟩ := hRm
  refine g_wf (fun hwf => ?_)
  refine g_iconst C dX6_rootOf_0 ?_
  refine g_istore_n C dX6_rootOf_1 (by decide) rfl ?_
  refine g_iconst C dX6_rootOf_2 ?_
  refine g_istore_n C dX6_rootOf_3 (by decide) rfl ?_
  refine g_loop (σ := Nat) (fun k => k ≤ 10 ∧ (k : Int) * k ≤ b) (fun k => G E X 3 4 [some (iI b), some (iI (k : Int)), some (iI ((k : Int) + 1))] [] w 0 0) (fun k => 10 - k) ?_ 0 ⟨by omega, by simp; omega⟩
  rintro k ⟨hk, hkb⟩ ih
  have hsq : ((k : Int) + 1) * ((k : Int) + 1) = k * k + 2 * k + 1 := by grind
  have hsq0 : 0 ≤ (k : Int) * k := Int.mul_nonneg (by omega) (by omega)
  refine g_iload_n C dX6_rootOf_4 rfl ?_
  refine g_bipush C dX6_rootOf_5 (by decide) ?_
  refine g_icmp_gt (tgt := 25) C dX6_rootOf_7 (by decide) (by omega) (by omega) (fun h7 => ?_) (fun h7 => ?_)
  · refine g_iload_n C dX6_rootOf_25 rfl ?_
    exact g_ireturn C hQ dX6_rootOf_26 (Nat.le_refl _) (Nat.le_refl _) ⟨⟨(k : Int), rfl, by omega, hkb, by
      first
      | omega
      | (exfalso
         have hk10 : k = 10 := by omega
         subst hk10
         omega)⟩, rfl⟩
  · refine g_iload_n C dX6_rootOf_10 rfl ?_
    refine g_iload_n C dX6_rootOf_11 rfl ?_
    refine g_imul C dX6_rootOf_12 ?_
    refine g_iload_n C dX6_rootOf_13 rfl ?_
    refine g_icmp_gt (tgt := 25) C dX6_rootOf_14 (by decide) (by omega) (by omega) (fun h14 => ?_) (fun h14 => ?_)
    · refine g_iload_n C dX6_rootOf_25 rfl ?_
      exact g_ireturn C hQ dX6_rootOf_26 (Nat.le_refl _) (Nat.le_refl _) ⟨⟨(k : Int), rfl, by omega, hkb, by
        first
        | omega
        | (exfalso
           have hk10 : k = 10 := by omega
           subst hk10
           omega)⟩, rfl⟩
    · refine g_iload_n C dX6_rootOf_17 rfl ?_
      refine g_istore_n C dX6_rootOf_18 (by decide) rfl ?_
      refine g_iinc C dX6_rootOf_19 rfl (by decide) rfl ?_
      refine g_goto (tgt := 4) C dX6_rootOf_22 (by decide) ?_
      have hk9 : k ≤ 9 := by
        rcases Nat.lt_or_ge 9 k with q | q
        · have hk10 : k = 10 := by omega
          subst hk10
          omega
        · exact q
      rw [show (k : Int) + 1 = ((k + 1 : Nat) : Int) by omega]
      exact ih (k + 1) ⟨by omega, by rw [show ((k + 1 : Nat) : Int) = (k : Int) + 1 by omega]; omega⟩ (by omega)
set_option maxHeartbeats 4000000 in
set_option maxRecDepth 100000 in
theorem s_X1_place (l : Launch) {E : GE} {w : Wd} {k : Int} (hk : -100000 ≤ k ∧ k ≤ 100000) : Sp E l yX1_place cX1_place 1 (some .int) 1 (0) (0) [iI k] w (fun r' w' => (∃ p : Nat, r' = some (iI (p : Int)) ∧ p ≤ 25 ∧ (0 ≤ k ∧ k ≤ 25 → (p : Int) = k)) ∧ w' = w) := by
  refine sp_intro [some (iI k)] rfl (Nat.le_of_ble_eq_true rfl) pn_X1 ?_
  intro X C hRm hl hnm hQ
  obtain ⟨hRf, hRl, hRc, hRs⟩ := hRm
  refine g_wf (fun hwf => ?_)
  obtain ⟨q, hq1, hq2, hq3⟩ : ∃ q : Int, (if k < 25 then k else 25) = q ∧ q ≤ 25 ∧ (k ≤ 25 → q = k) := ⟨_, rfl, by split <;> omega, fun _ => by split <;> omega⟩
  have hq4 : -100000 ≤ q := by rw [← hq1]; split <;> omega
  obtain ⟨p, hp1, hp2, hp3⟩ : ∃ p : Nat, (if (0 : Int) < q then q else 0) = (p : Int) ∧ p ≤ 25 ∧ (0 ≤ q → (p : Int) = q) := ⟨q.toNat, by split <;> omega, by omega, fun _ => by omega⟩
  refine g_iconst C dX1_place_0 ?_
  refine g_bipush C dX1_place_1 (by decide) ?_
  refine g_iload_n C dX1_place_3 rfl ?_
  refine g_min C ml_RX1_70 (by omega) (by omega) (by omega) (by omega) (Nat.le_of_ble_eq_true rfl) (by omega) dX1_place_4 ?_
  rw [hq1]
  refine g_max C ml_RX1_49 (by omega) (by omega) (by omega) (by omega) (Nat.le_of_ble_eq_true rfl) (by omega) dX1_place_7 ?_
  rw [hp1]
  exact g_ireturn C hQ dX1_place_10 (Nat.le_refl _) (Nat.le_refl _) ⟨⟨p, rfl, hp2, fun h => by rw [hp3 (by have := hq3 h.2; omega), hq3 h.2]⟩, rfl⟩
set_option maxHeartbeats 4000000 in
set_option maxRecDepth 100000 in
theorem s_X1_partM (l : Launch) {E : GE} {w : Wd} {ad : Nat → Nat} {fb fr : Int} {m d a : Nat → Int} (hF : FS ad w fb fr m d a) {k : Int} (hk : -100000 ≤ k ∧ k ≤ 100000) : Sp E l yX1_partM cX1_partM 2 (some .int) 2 (0) (0) [.ref (ad 104), iI k] w (fun r' w' => (∃ p : Nat, r' = some (iI (m p)) ∧ p ≤ 25 ∧ (0 ≤ k ∧ k ≤ 25 → (p : Int) = k)) ∧ w' = w) := by
  refine sp_intro [some (.ref (ad 104)), some (iI k)] rfl (Nat.le_of_ble_eq_true rfl) pn_X1 ?_
  intro X C hRm hl hnm hQ
  obtain ⟨hRf, hRl, hRc, hRs⟩ := hRm
  refine g_wf (fun hwf => ?_)
  obtain ⟨hF1, hF2, hF3, hF4, ⟨R, hF5, hF6⟩, ⟨R2, hF7, hF8⟩⟩ := id hF
  refine g_aload_n C dX1_partM_0 rfl ?_
  refine g_get (ci := 3) C rfl inTX1 2 (by decide) fl_RX1_11 rfl hF1 rfl dX1_partM_1 ?_
  refine g_iload_n C dX1_partM_4 rfl ?_
  refine g_callS C (s_X1_place _ (k := k) hk) ml_RX1_73 sm_yX1_place in_RX1 co_yX1_place hd_X1_place rfl ⟨by omega, by omega⟩ rfl (Nat.le_of_ble_eq_true rfl) ⟨by omega, by omega⟩ dX1_partM_5 (fun v5 w5 hp5 => ?_)
  obtain ⟨⟨p, rfl, hp1, hp2⟩, hw5⟩ := hp5
  subst w5
  refine g_ialoadN (p) C hF2 (by omega) (by omega) dX1_partM_8 ?_
  exact g_ireturn C hQ dX1_partM_9 (Nat.le_refl _) (Nat.le_refl _) ⟨⟨p, rfl, hp1, hp2⟩, rfl⟩
set_option maxHeartbeats 4000000 in
set_option maxRecDepth 100000 in
theorem s_X1_partD (l : Launch) {E : GE} {w : Wd} {ad : Nat → Nat} {fb fr : Int} {m d a : Nat → Int} (hF : FS ad w fb fr m d a) {k : Int} (hk : -100000 ≤ k ∧ k ≤ 100000) : Sp E l yX1_partD cX1_partD 2 (some .int) 2 (0) (0) [.ref (ad 104), iI k] w (fun r' w' => (∃ p : Nat, r' = some (iI (d p)) ∧ p ≤ 25 ∧ (0 ≤ k ∧ k ≤ 25 → (p : Int) = k)) ∧ w' = w) := by
  refine sp_intro [some (.ref (ad 104)), some (iI k)] rfl (Nat.le_of_ble_eq_true rfl) pn_X1 ?_
  intro X C hRm hl hnm hQ
  obtain ⟨hRf, hRl, hRc, hRs⟩ := hRm
  refine g_wf (fun hwf => ?_)
  obtain ⟨hF1, hF2, hF3, hF4, ⟨R, hF5, hF6⟩, ⟨R2, hF7, hF8⟩⟩ := id hF
  refine g_aload_n C dX1_partD_0 rfl ?_
  refine g_get (ci := 3) C rfl inTX1 3 (by decide) fl_RX1_15 rfl hF1 rfl dX1_partD_1 ?_
  refine g_iload_n C dX1_partD_4 rfl ?_
  refine g_callS C (s_X1_place _ (k := k) hk) ml_RX1_73 sm_yX1_place in_RX1 co_yX1_place hd_X1_place rfl ⟨by omega, by omega⟩ rfl (Nat.le_of_ble_eq_true rfl) ⟨by omega, by omega⟩ dX1_partD_5 (fun v5 w5 hp5 => ?_)
  obtain ⟨⟨p, rfl, hp1, hp2⟩, hw5⟩ := hp5
  subst w5
  refine g_ialoadN (p) C hF3 (by omega) (by omega) dX1_partD_8 ?_
  exact g_ireturn C hQ dX1_partD_9 (Nat.le_refl _) (Nat.le_refl _) ⟨⟨p, rfl, hp1, hp2⟩, rfl⟩
set_option maxHeartbeats 4000000 in
set_option maxRecDepth 100000 in
theorem s_X1_partA (l : Launch) {E : GE} {w : Wd} {ad : Nat → Nat} {fb fr : Int} {m d a : Nat → Int} (hF : FS ad w fb fr m d a) {k : Int} (hk : -100000 ≤ k ∧ k ≤ 100000) : Sp E l yX1_partA cX1_partA 2 (some .int) 2 (0) (0) [.ref (ad 104), iI k] w (fun r' w' => (∃ p : Nat, r' = some (iI (a p)) ∧ p ≤ 25 ∧ (0 ≤ k ∧ k ≤ 25 → (p : Int) = k)) ∧ w' = w) := by
  refine sp_intro [some (.ref (ad 104)), some (iI k)] rfl (Nat.le_of_ble_eq_true rfl) pn_X1 ?_
  intro X C hRm hl hnm hQ
  obtain ⟨hRf, hRl, hRc, hRs⟩ := hRm
  refine g_wf (fun hwf => ?_)
  obtain ⟨hF1, hF2, hF3, hF4, ⟨R, hF5, hF6⟩, ⟨R2, hF7, hF8⟩⟩ := id hF
  refine g_aload_n C dX1_partA_0 rfl ?_
  refine g_get (ci := 3) C rfl inTX1 4 (by decide) fl_RX1_18 rfl hF1 rfl dX1_partA_1 ?_
  refine g_iload_n C dX1_partA_4 rfl ?_
  refine g_callS C (s_X1_place _ (k := k) hk) ml_RX1_73 sm_yX1_place in_RX1 co_yX1_place hd_X1_place rfl ⟨by omega, by omega⟩ rfl (Nat.le_of_ble_eq_true rfl) ⟨by omega, by omega⟩ dX1_partA_5 (fun v5 w5 hp5 => ?_)
  obtain ⟨⟨p, rfl, hp1, hp2⟩, hw5⟩ := hp5
  subst w5
  refine g_ialoadN (p) C hF4 (by omega) (by omega) dX1_partA_8 ?_
  exact g_ireturn C hQ dX1_partA_9 (Nat.le_refl _) (Nat.le_refl _) ⟨⟨p, rfl, hp1, hp2⟩, rfl⟩
set_option maxHeartbeats 4000000 in
set_option maxRecDepth 100000 in
theorem s_X1_top (l : Launch) {E : GE} {w : Wd} {ad : Nat → Nat} {fb fr : Int} {m d a : Nat → Int} (hF : FS ad w fb fr m d a) {k : Int} (hk : -100000 ≤ k ∧ k ≤ 100000) : Sp E l yX1_top cX1_top 2 (some (.object "Rootwalk$Whole")) 2 (0) (0) [.ref (ad 104), iI k] w (fun r' w' => (∃ j, r' = some (.ref (wo ad j)) ∧ 16 ≤ j ∧ j < 43 ∧ (-1 ≤ k ∧ k ≤ 25 → (j : Int) = 17 + k)) ∧ w' = w) := by
  refine sp_intro [some (.ref (ad 104)), some (iI k)] rfl (Nat.le_of_ble_eq_true rfl) pn_X1 ?_
  intro X C hRm hl hnm hQ
  obtain ⟨hRf, hRl, hRc, hRs⟩ := hRm
  refine g_wf (fun hwf => ?_)
  obtain ⟨hF1, hF2, hF3, hF4, ⟨R, hF5, hF6⟩, ⟨R2, hF7, hF8⟩⟩ := id hF
  refine g_iload_n C dX1_top_0 rfl ?_
  refine g_if_ge (tgt := 13) C dX1_top_1 (by decide) (by omega) (fun h1 => ?_) (fun h1 => ?_)
  · refine g_aload_n C dX1_top_13 rfl ?_
    refine g_get (ci := 3) C rfl inTX1 5 (by decide) fl_RX1_23 rfl hF1 rfl dX1_top_14 ?_
    refine g_iload_n C dX1_top_17 rfl ?_
    refine g_callS C (s_X1_place _ (k := k) hk) ml_RX1_73 sm_yX1_place in_RX1 co_yX1_place hd_X1_place rfl ⟨by omega, by omega⟩ rfl (Nat.le_of_ble_eq_true rfl) ⟨by omega, by omega⟩ dX1_top_18 (fun v18 w18 hp18 => ?_)
    obtain ⟨⟨p, rfl, hp1, hp2⟩, hw18⟩ := hp18
    subst w18
    refine g_iconst C dX1_top_21 ?_
    refine g_iadd C dX1_top_22 ?_
    rw [show (p : Int) + 1 = ((p + 1 : Nat) : Int) by omega]
    refine g_aaloadN (p + 1) C rfl rfl hF5 (by omega) (by omega) (hF6 (p + 1) (by omega)) dX1_top_23 ?_
    exact g_areturn C (Or.inl ⟨_, rfl⟩) hQ (Or.inr ⟨_, rfl⟩) dX1_top_24 (by omega) (by omega) ⟨⟨_, rfl, by omega, by omega, fun hk9 => by omega⟩, rfl⟩
  · refine g_aload_n C dX1_top_4 rfl ?_
    refine g_get (ci := 3) C rfl inTX1 5 (by decide) fl_RX1_23 rfl hF1 rfl dX1_top_5 ?_
    refine g_iconst C dX1_top_8 ?_
    refine g_aaloadN (0) C rfl rfl hF5 (by omega) (by omega) (hF6 0 (by omega)) dX1_top_9 ?_
    refine g_goto (tgt := 24) C dX1_top_10 (by decide) ?_
    exact g_areturn C (Or.inl ⟨_, rfl⟩) hQ (Or.inr ⟨_, rfl⟩) dX1_top_24 (by omega) (by omega) ⟨⟨_, rfl, by omega, by omega, fun hk9 => by omega⟩, rfl⟩
set_option maxHeartbeats 4000000 in
set_option maxRecDepth 100000 in
theorem s_X1_bottom (l : Launch) {E : GE} {w : Wd} {ad : Nat → Nat} {fb fr : Int} {m d a : Nat → Int} (hF : FS ad w fb fr m d a) {k : Int} (hk : -100000 ≤ k ∧ k ≤ 100000) : Sp E l yX1_bottom cX1_bottom 2 (some (.object "Rootwalk$Whole")) 2 (0) (0) [.ref (ad 104), iI k] w (fun r' w' => (∃ j, r' = some (.ref (wo ad j)) ∧ 43 ≤ j ∧ j < 70 ∧ (-1 ≤ k ∧ k ≤ 25 → (j : Int) = 44 + k)) ∧ w' = w) := by
  refine sp_intro [some (.ref (ad 104)), some (iI k)] rfl (Nat.le_of_ble_eq_true rfl) pn_X1 ?_
  intro X C hRm hl hnm hQ
  obtain ⟨hRf, hRl, hRc, hRs⟩ := hRm
  refine g_wf (fun hwf => ?_)
  obtain ⟨hF1, hF2, hF3, hF4, ⟨R, hF5, hF6⟩, ⟨R2, hF7, hF8⟩⟩ := id hF
  refine g_iload_n C dX1_bottom_0 rfl ?_
  refine g_if_ge (tgt := 13) C dX1_bottom_1 (by decide) (by omega) (fun h1 => ?_) (fun h1 => ?_)
  · refine g_aload_n C dX1_bottom_13 rfl ?_
    refine g_get (ci := 3) C rfl inTX1 6 (by decide) fl_RX1_27 rfl hF1 rfl dX1_bottom_14 ?_
    refine g_iload_n C dX1_bottom_17 rfl ?_
    refine g_callS C (s_X1_place _ (k := k) hk) ml_RX1_73 sm_yX1_place in_RX1 co_yX1_place hd_X1_place rfl ⟨by omega, by omega⟩ rfl (Nat.le_of_ble_eq_true rfl) ⟨by omega, by omega⟩ dX1_bottom_18 (fun v18 w18 hp18 => ?_)
    obtain ⟨⟨p, rfl, hp1, hp2⟩, hw18⟩ := hp18
    subst w18
    refine g_iconst C dX1_bottom_21 ?_
    refine g_iadd C dX1_bottom_22 ?_
    rw [show (p : Int) + 1 = ((p + 1 : Nat) : Int) by omega]
    refine g_aaloadN (p + 1) C rfl rfl hF7 (by omega) (by omega) (hF8 (p + 1) (by omega)) dX1_bottom_23 ?_
    exact g_areturn C (Or.inl ⟨_, rfl⟩) hQ (Or.inr ⟨_, rfl⟩) dX1_bottom_24 (by omega) (by omega) ⟨⟨_, rfl, by omega, by omega, fun hk9 => by omega⟩, rfl⟩
  · refine g_aload_n C dX1_bottom_4 rfl ?_
    refine g_get (ci := 3) C rfl inTX1 6 (by decide) fl_RX1_27 rfl hF1 rfl dX1_bottom_5 ?_
    refine g_iconst C dX1_bottom_8 ?_
    refine g_aaloadN (0) C rfl rfl hF7 (by omega) (by omega) (hF8 0 (by omega)) dX1_bottom_9 ?_
    refine g_goto (tgt := 24) C dX1_bottom_10 (by decide) ?_
    exact g_areturn C (Or.inl ⟨_, rfl⟩) hQ (Or.inr ⟨_, rfl⟩) dX1_bottom_24 (by omega) (by omega) ⟨⟨_, rfl, by omega, by omega, fun hk9 => by omega⟩, rfl⟩
set_option maxHeartbeats 4000000 in
set_option maxRecDepth 100000 in
theorem s_X1_turn (l : Launch) {E : GE} {w : Wd} {ad : Nat → Nat} {fb fr : Int} {m d a : Nat → Int} (hF : FS ad w fb fr m d a) (hd : ∀ k, k < 26 → -2147483648 ≤ d k ∧ d k < 2147483648) : Sp E l yX1_turn cX1_turn 2 (some .int) 0 (0) (0) [.ref (ad 104)] w (fun r' w' => (∃ p : Nat, r' = some (iI (p : Int)) ∧ (1 ≤ p ∧ p ≤ 25) ∧ (∀ k, 1 ≤ k → k < p → d k ≠ 1) ∧ (p < 25 → d p = 1)) ∧ w' = w) := by
  refine sp_intro [some (.ref (ad 104)), none] rfl (Nat.le_of_ble_eq_true rfl) pn_X1 ?_
  intro X C hRm hl hnm hQ
  obtain ⟨hRf, hRl, hRc, hRs⟩ := hRm
  refine g_wf (fun hwf => ?_)
  obtain ⟨hF1, hF2, hF3, hF4, ⟨R, hF5, hF6⟩, ⟨R2, hF7, hF8⟩⟩ := id hF
  refine g_iconst C dX1_turn_0 ?_
  refine g_istore_n C dX1_turn_1 (by decide) rfl ?_
  refine g_loop (σ := Nat) (fun k => 1 ≤ k ∧ k ≤ 25 ∧ ∀ i, 1 ≤ i → i < k → d i ≠ 1) (fun k => G E X 2 2 [some (.ref (ad 104)), some (iI (k : Int))] [] w 0 0) (fun k => 25 - k) ?_ 1 ⟨by omega, by omega, fun i h1 h2 => by omega⟩
  rintro k ⟨hk1, hk2, hk3⟩ ih
  refine g_iload_n C dX1_turn_2 rfl ?_
  refine g_bipush C dX1_turn_3 (by decide) ?_
  refine g_icmp_ge (tgt := 26) C dX1_turn_5 (by decide) (by omega) (by omega) (fun h5 => ?_) (fun h5 => ?_)
  · refine g_bipush C dX1_turn_26 (by decide) ?_
    exact g_ireturn C hQ dX1_turn_28 (Nat.le_refl _) (Nat.le_refl _) ⟨⟨25, rfl, by omega, fun i h1 h2 => hk3 i h1 (by omega), fun h => by omega⟩, rfl⟩
  · refine g_aload_n C dX1_turn_8 rfl ?_
    refine g_get (ci := 3) C rfl inTX1 3 (by decide) fl_RX1_15 rfl hF1 rfl dX1_turn_9 ?_
    refine g_iload_n C dX1_turn_12 rfl ?_
    refine g_ialoadN (k) C hF3 (by omega) (by omega) dX1_turn_13 ?_
    refine g_iconst C dX1_turn_14 ?_
    refine g_icmp_ne (tgt := 20) C dX1_turn_15 (by decide) (by have := hd k (by omega); omega) (by omega) (fun h15 => ?_) (fun h15 => ?_)
    · refine g_iinc C dX1_turn_20 rfl (by decide) rfl ?_
      refine g_goto (tgt := 2) C dX1_turn_23 (by decide) ?_
      exact ih (k + 1) ⟨by omega, by omega, fun i h1 h2 => by
        by_cases q : i = k
        · rw [q]; omega
        · exact hk3 i h1 (by omega)⟩ (by omega)
    · refine g_iload_n C dX1_turn_18 rfl ?_
      exact g_ireturn C hQ dX1_turn_19 (Nat.le_refl _) (Nat.le_refl _) ⟨⟨k, rfl, by omega, hk3, fun _ => by omega⟩, rfl⟩
set_option maxHeartbeats 4000000 in
set_option maxRecDepth 100000 in
theorem s_X1_isTurnOdd (l : Launch) {E : GE} {w : Wd} {ad : Nat → Nat} {fb fr : Int} {m d a : Nat → Int} (hF : FS ad w fb fr m d a) (hd : ∀ k, k < 26 → -2147483648 ≤ d k ∧ d k < 2147483648) : Sp E l yX1_isTurnOdd cX1_isTurnOdd 1 (some .boolean) 1 (0) (0) [.ref (ad 104)] w (fun r' w' => (∃ p : Nat, r' = some (iI (bI (p % 2 = 1))) ∧ (1 ≤ p ∧ p ≤ 25) ∧ (∀ k, 1 ≤ k → k < p → d k ≠ 1) ∧ (p < 25 → d p = 1)) ∧ w' = w) := by
  refine sp_intro [some (.ref (ad 104))] rfl (Nat.le_of_ble_eq_true rfl) pn_X1 ?_
  intro X C hRm hl hnm hQ
  obtain ⟨hRf, hRl, hRc, hRs⟩ := hRm
  refine g_wf (fun hwf => ?_)
  obtain ⟨hF1, hF2, hF3, hF4, ⟨R, hF5, hF6⟩, ⟨R2, hF7, hF8⟩⟩ := id hF
  refine g_aload_n C dX1_isTurnOdd_0 rfl ?_
  refine g_callV C (s_X1_turn _ hF hd) (ci := 3) rfl hF1 rfl ml_RX1_76 im_yX1_turn se_RX1_yX1_turn in_RX1 co_yX1_turn hd_X1_turn rfl ⟨by omega, by omega⟩ rfl (Nat.le_of_ble_eq_true rfl) ⟨by omega, by omega⟩ dX1_isTurnOdd_1 (fun v1 w1 hp1 => ?_)
  obtain ⟨⟨p, rfl, h2, h3, h4⟩, hw1⟩ := hp1
  subst w1
  refine g_iconst C dX1_isTurnOdd_4 ?_
  refine g_iremN C dX1_isTurnOdd_5 (by omega) (by omega) ?_
  refine g_iconst C dX1_isTurnOdd_6 ?_
  refine g_icmp_ne (tgt := 14) C dX1_isTurnOdd_7 (by decide) (by omega) (by omega) (fun h7 => ?_) (fun h7 => ?_)
  · refine g_iconst C dX1_isTurnOdd_14 ?_
    exact g_zreturn C hQ dX1_isTurnOdd_15 (nar01 (by omega)) (Nat.le_refl _) (Nat.le_refl _) ⟨⟨p, by first | rw [bI_t (by omega)] | rw [bI_f (by omega)], h2, h3, h4⟩, rfl⟩
  · refine g_iconst C dX1_isTurnOdd_10 ?_
    refine g_goto (tgt := 15) C dX1_isTurnOdd_11 (by decide) ?_
    exact g_zreturn C hQ dX1_isTurnOdd_15 (nar01 (by omega)) (Nat.le_refl _) (Nat.le_refl _) ⟨⟨p, by first | rw [bI_t (by omega)] | rw [bI_f (by omega)], h2, h3, h4⟩, rfl⟩
theorem turn_u {d : Nat → Int} {p q : Nat} (hp : 1 ≤ p ∧ p ≤ 25) (hq : 1 ≤ q ∧ q ≤ 25) (p1 : ∀ k, 1 ≤ k → k < p → d k ≠ 1) (p2 : p < 25 → d p = 1) (q1 : ∀ k, 1 ≤ k → k < q → d k ≠ 1) (q2 : q < 25 → d q = 1) : p = q := by
  rcases Nat.lt_trichotomy p q with c | c | c
  · exact absurd (p2 (by omega)) (q1 p hp.1 c)
  · exact c
  · exact absurd (q2 (by omega)) (p1 q hq.1 c)
set_option maxHeartbeats 4000000 in
set_option maxRecDepth 100000 in
theorem s_X1_solutionStep (l : Launch) {E : GE} {w : Wd} {ad : Nat → Nat} {fb fr : Int} {m d a : Nat → Int} (hF : FS ad w fb fr m d a) (hd : ∀ k, k < 26 → -2147483648 ≤ d k ∧ d k < 2147483648) : Sp E l yX1_solutionStep cX1_solutionStep 1 (some .int) 2 (0) (0) [.ref (ad 104)] w (fun r' w' => (∃ p : Nat, r' = some (iI ((leaK p : Nat) : Int)) ∧ (1 ≤ p ∧ p ≤ 25) ∧ (∀ k, 1 ≤ k → k < p → d k ≠ 1) ∧ (p < 25 → d p = 1)) ∧ w' = w) := by
  refine sp_intro [some (.ref (ad 104))] rfl (Nat.le_of_ble_eq_true rfl) pn_X1 ?_
  intro X C hRm hl hnm hQ
  obtain ⟨hRf, hRl, hRc, hRs⟩ := hRm
  refine g_wf (fun hwf => ?_)
  obtain ⟨hF1, hF2, hF3, hF4, ⟨R, hF5, hF6⟩, ⟨R2, hF7, hF8⟩⟩ := id hF
  refine g_aload_n C dX1_solutionStep_0 rfl ?_
  refine g_callV C (s_X1_isTurnOdd _ hF hd) (ci := 3) rfl hF1 rfl ml_RX1_80 im_yX1_isTurnOdd se_RX1_yX1_isTurnOdd in_RX1 co_yX1_isTurnOdd hd_X1_isTurnOdd rfl ⟨by omega, by omega⟩ rfl (Nat.le_of_ble_eq_true rfl) ⟨by omega, by omega⟩ dX1_solutionStep_1 (fun v1 w1 hp1 => ?_)
  obtain ⟨⟨p, rfl, g2, g3, g4⟩, hw1⟩ := hp1
  subst w1
  refine g_if_eq (tgt := 16) C dX1_solutionStep_4 (by decide) (bI_r _) (fun h4 => ?_) (fun h4 => ?_)
  · refine g_aload_n C dX1_solutionStep_16 rfl ?_
    refine g_callV C (s_X1_turn _ hF hd) (ci := 3) rfl hF1 rfl ml_RX1_76 im_yX1_turn se_RX1_yX1_turn in_RX1 co_yX1_turn hd_X1_turn rfl ⟨by omega, by omega⟩ rfl (Nat.le_of_ble_eq_true rfl) ⟨by omega, by omega⟩ dX1_solutionStep_17 (fun v17 w17 hp17 => ?_)
    obtain ⟨⟨p9, rfl, g92, g93, g94⟩, hw17⟩ := hp17
    subst w17
    refine g_iconst C dX1_solutionStep_20 ?_
    refine g_isub C dX1_solutionStep_21 ?_
    exact g_ireturn C hQ dX1_solutionStep_22 (Nat.le_refl _) (Nat.le_refl _) (by
      have hpe := turn_u g2 g92 g3 g4 g93 g94
      subst hpe
      refine ⟨⟨p, ?_, g2, g3, g4⟩, rfl⟩
      unfold leaK
      first
      | (have ho := bI_1 h4; rw [if_neg (by omega)]; congr 2; omega)
      | (have ho := bI_0 h4; rw [if_pos (by omega)]; congr 2; omega))
  · refine g_iconst C dX1_solutionStep_7 ?_
    refine g_aload_n C dX1_solutionStep_8 rfl ?_
    refine g_callV C (s_X1_turn _ hF hd) (ci := 3) rfl hF1 rfl ml_RX1_76 im_yX1_turn se_RX1_yX1_turn in_RX1 co_yX1_turn hd_X1_turn rfl ⟨by omega, by omega⟩ rfl (Nat.le_of_ble_eq_true rfl) ⟨by omega, by omega⟩ dX1_solutionStep_9 (fun v9 w9 hp9 => ?_)
    obtain ⟨⟨p9, rfl, g92, g93, g94⟩, hw9⟩ := hp9
    subst w9
    refine g_imul C dX1_solutionStep_12 ?_
    refine g_goto (tgt := 20) C dX1_solutionStep_13 (by decide) ?_
    refine g_iconst C dX1_solutionStep_20 ?_
    refine g_isub C dX1_solutionStep_21 ?_
    exact g_ireturn C hQ dX1_solutionStep_22 (Nat.le_refl _) (Nat.le_refl _) (by
      have hpe := turn_u g2 g92 g3 g4 g93 g94
      subst hpe
      refine ⟨⟨p, ?_, g2, g3, g4⟩, rfl⟩
      unfold leaK
      first
      | (have ho := bI_1 h4; rw [if_neg (by omega)]; congr 2; omega)
      | (have ho := bI_0 h4; rw [if_pos (by omega)]; congr 2; omega))
/-- all but the fraction's object, rows and numbers stays -/
def KF (τ : Nat → Nat) (w w' : Wd) : Prop := w.1 ≤ w'.1 ∧ ∀ a x, ¬ (104 ≤ τ a ∧ τ a ≤ 109) → ¬ (232 ≤ τ a ∧ τ a < 340) → w.2 a = some x → w'.2 a = some x
/-- all but the numbers of one row stays -/
def KR (τ : Nat → Nat) (o : Nat) (w w' : Wd) : Prop := w.1 ≤ w'.1 ∧ ∀ a x, ¬ (200 + 2 * o ≤ τ a ∧ τ a < 254 + 2 * o) → w.2 a = some x → w'.2 a = some x
theorem KF.rf (τ : Nat → Nat) (w : Wd) : KF τ w w := ⟨Nat.le_refl _, fun _ _ _ _ h => h⟩
theorem KF.tr {τ : Nat → Nat} {w u v : Wd} (h : KF τ w u) (g : KF τ u v) : KF τ w v := ⟨Nat.le_trans h.1 g.1, fun a x q n e => g.2 a x q n (h.2 a x q n e)⟩
theorem KR.rf (τ : Nat → Nat) (o : Nat) (w : Wd) : KR τ o w w := ⟨Nat.le_refl _, fun _ _ _ h => h⟩
theorem KR.tr {τ : Nat → Nat} {o : Nat} {w u v : Wd} (h : KR τ o w u) (g : KR τ o u v) : KR τ o w v := ⟨Nat.le_trans h.1 g.1, fun a x n e => g.2 a x n (h.2 a x n e)⟩
theorem KJ.kr {τ : Nat → Nat} {j o : Nat} {w w' : Wd} (h : KJ τ j w w') (hj : o ≤ j ∧ j < o + 27) : KR τ o w w' := ⟨h.1, fun a x q e => h.2 a x (by omega) (by omega) e⟩
theorem KR.kf {τ : Nat → Nat} {o : Nat} {w w' : Wd} (h : KR τ o w w') (ho : 16 ≤ o ∧ o + 27 ≤ 70) : KF τ w w' := ⟨h.1, fun a x _ q e => h.2 a x (by omega) e⟩
theorem KR.kb {τ : Nat → Nat} {o : Nat} {w w' : Wd} (h : KR τ o w w') : KB τ w w' := ⟨h.1, fun a x q e => h.2 a x (by omega) e⟩
theorem KR.nw {τ ad : Nat → Nat} {o : Nat} {w w' : Wd} (k : KR τ o w w') (h : NS τ ad w') {j : Nat} (hj : j < 70) (hn : j < o ∨ o + 27 ≤ j) {z : Int} (e : NW ad w j z) : NW ad w' j z := e.k (fun x q => k.2 _ _ (by rw [h.to hj]; omega) q) (fun x q => k.2 _ _ (by rw [h.tr hj]; omega) q)
theorem KF.set {τ ad : Nat → Nat} {w : Wd} (h : NS τ ad w) {t : Nat} (ht : 104 ≤ t ∧ t ≤ 109) (e : WdE) : KF τ w (wset w (ad t) e) := ⟨Nat.le_refl _, fun a x n _ q => by rw [wset_n (fun c => n (by rw [c, h.t t (by omega)]; exact ht))]; exact q⟩
theorem FS.kb {τ ad : Nat → Nat} {w w' : Wd} {fb fr : Int} {m d a : Nat → Int} (h : FS ad w fb fr m d a) (k : KB τ w w') (hN : NS τ ad w') : FS ad w' fb fr m d a := by
  obtain ⟨h1, h2, h3, h4, ⟨R, h5, h6⟩, ⟨R2, h7, h8⟩⟩ := h
  exact ⟨k.ob hN (t := 104) (by omega) h1, k.ob hN (t := 105) (by omega) h2, k.ob hN (t := 106) (by omega) h3, k.ob hN (t := 107) (by omega) h4, ⟨R, k.ob hN (t := 108) (by omega) h5, h6⟩, ⟨R2, k.ob hN (t := 109) (by omega) h7, h8⟩⟩
/-- the fraction's numbers -/
def FN (ad : Nat → Nat) (w : Wd) (b r : Int) : Prop := ∀ k, k < 27 → NW ad w (16 + k) (pq b r 1 r k).2 ∧ NW ad w (43 + k) (pq b r 0 1 k).2
theorem row_s {b r x y : Int} {k : Nat} (hk : 1 ≤ k) : (pq b r x y (k + 1)).2 = (pq b r x y k).2 * (cf b r k).2.2 + 0 + (pq b r x y (k - 1)).2 := by
  obtain ⟨n, rfl⟩ : ∃ n, k = n + 1 := ⟨k - 1, by omega⟩
  show (cf b r (n + 1)).2.2 * (pq b r x y n).1 + (pq b r x y n).2 = (pq b r x y n).1 * (cf b r (n + 1)).2.2 + 0 + (pq b r x y n).2
  rw [Int.mul_comm, Int.add_zero]
theorem row_b {b r x y : Int} (hb : GB b) (hr : RT b r) (h0 : 0 ≤ x ∧ x ≤ 1) (h1 : 0 ≤ y ∧ y ≤ 9) {k : Nat} (hk : k ≤ 26) : 0 ≤ (pq b r x y k).2 ∧ (pq b r x y k).2 ≤ 1768453418076865701195582595329481 := by
  rcases Nat.eq_zero_or_pos k with q | q
  · subst q
    show 0 ≤ x ∧ x ≤ _
    omega
  · obtain ⟨n, rfl⟩ : ∃ n, k = n + 1 := ⟨k - 1, by omega⟩
    exact pq_cap hb hr h0 h1 (k := n) (by omega)
theorem row_a {b r x y : Int} (hb : GB b) (hr : RT b r) (h0 : 0 ≤ x ∧ x ≤ 1) (h1 : 0 ≤ y ∧ y ≤ 9) {k : Nat} (hk : k ≤ 26) : aB (pq b r x y k).2 < M125 := by
  have := row_b hb hr h0 h1 hk
  rw [aB_p this.1]
  unfold M125
  omega
theorem mx1 {x : Int} (h : 1 ≤ x) : (if (1 : Int) < x then x else 1) = x := by split <;> omega
theorem FS.sm {τ ad : Nat → Nat} {w : Wd} {fb fr : Int} {m d a : Nat → Int} (h : FS ad w fb fr m d a) (hN : NS τ ad w) (f : Nat → Int) : FS ad (wset w (ad 105) (true, eI 26 f)) fb fr f d a := by
  obtain ⟨h1, h2, h3, h4, ⟨R, h5, h6⟩, ⟨R2, h7, h8⟩⟩ := h
  exact ⟨by rw [wset_n (hN.inj (s := 104) (t := 105) (by omega) (by omega) (by omega))]; exact h1, wset_s, by rw [wset_n (hN.inj (s := 106) (t := 105) (by omega) (by omega) (by omega))]; exact h3, by rw [wset_n (hN.inj (s := 107) (t := 105) (by omega) (by omega) (by omega))]; exact h4, ⟨R, by rw [wset_n (hN.inj (s := 108) (t := 105) (by omega) (by omega) (by omega))]; exact h5, h6⟩, ⟨R2, by rw [wset_n (hN.inj (s := 109) (t := 105) (by omega) (by omega) (by omega))]; exact h7, h8⟩⟩
theorem FS.sd {τ ad : Nat → Nat} {w : Wd} {fb fr : Int} {m d a : Nat → Int} (h : FS ad w fb fr m d a) (hN : NS τ ad w) (f : Nat → Int) : FS ad (wset w (ad 106) (true, eI 26 f)) fb fr m f a := by
  obtain ⟨h1, h2, h3, h4, ⟨R, h5, h6⟩, ⟨R2, h7, h8⟩⟩ := h
  exact ⟨by rw [wset_n (hN.inj (s := 104) (t := 106) (by omega) (by omega) (by omega))]; exact h1, by rw [wset_n (hN.inj (s := 105) (t := 106) (by omega) (by omega) (by omega))]; exact h2, wset_s, by rw [wset_n (hN.inj (s := 107) (t := 106) (by omega) (by omega) (by omega))]; exact h4, ⟨R, by rw [wset_n (hN.inj (s := 108) (t := 106) (by omega) (by omega) (by omega))]; exact h5, h6⟩, ⟨R2, by rw [wset_n (hN.inj (s := 109) (t := 106) (by omega) (by omega) (by omega))]; exact h7, h8⟩⟩
theorem FS.sa {τ ad : Nat → Nat} {w : Wd} {fb fr : Int} {m d a : Nat → Int} (h : FS ad w fb fr m d a) (hN : NS τ ad w) (f : Nat → Int) : FS ad (wset w (ad 107) (true, eI 26 f)) fb fr m d f := by
  obtain ⟨h1, h2, h3, h4, ⟨R, h5, h6⟩, ⟨R2, h7, h8⟩⟩ := h
  exact ⟨by rw [wset_n (hN.inj (s := 104) (t := 107) (by omega) (by omega) (by omega))]; exact h1, by rw [wset_n (hN.inj (s := 105) (t := 107) (by omega) (by omega) (by omega))]; exact h2, by rw [wset_n (hN.inj (s := 106) (t := 107) (by omega) (by omega) (by omega))]; exact h3, wset_s, ⟨R, by rw [wset_n (hN.inj (s := 108) (t := 107) (by omega) (by omega) (by omega))]; exact h5, h6⟩, ⟨R2, by rw [wset_n (hN.inj (s := 109) (t := 107) (by omega) (by omega) (by omega))]; exact h7, h8⟩⟩
theorem FS.so {τ ad : Nat → Nat} {w : Wd} {fb fr : Int} {m d a : Nat → Int} (h : FS ad w fb fr m d a) (hN : NS τ ad w) (b r : Int) : FS ad (wset w (ad 104) (true, eO 3 [iI b, iI r, .ref (ad 105), .ref (ad 106), .ref (ad 107), .ref (ad 108), .ref (ad 109)])) b r m d a := by
  obtain ⟨h1, h2, h3, h4, ⟨R, h5, h6⟩, ⟨R2, h7, h8⟩⟩ := h
  exact ⟨wset_s, by rw [wset_n (hN.inj (s := 105) (t := 104) (by omega) (by omega) (by omega))]; exact h2, by rw [wset_n (hN.inj (s := 106) (t := 104) (by omega) (by omega) (by omega))]; exact h3, by rw [wset_n (hN.inj (s := 107) (t := 104) (by omega) (by omega) (by omega))]; exact h4, ⟨R, by rw [wset_n (hN.inj (s := 108) (t := 104) (by omega) (by omega) (by omega))]; exact h5, h6⟩, ⟨R2, by rw [wset_n (hN.inj (s := 109) (t := 104) (by omega) (by omega) (by omega))]; exact h7, h8⟩⟩
set_option maxHeartbeats 4000000 in
set_option maxRecDepth 100000 in
theorem s_X1_fillParts (l : Launch) {E : GE} {w : Wd} {τ ad : Nat → Nat} (hN0 : NS τ ad w) {fb fr : Int} {m d a : Nat → Int} (hF : FS ad w fb fr m d a) (hb : GB fb) (hr : RT fb fr) : Sp E l yX1_fillParts cX1_fillParts 2 none 1 (0) (0) [.ref (ad 104)] w (fun r' w' => r' = none ∧ ∃ m' d' a', FS ad w' fb fr m' d' a' ∧ FV fb fr m' d' a' ∧ NS τ ad w' ∧ KF τ w w') := by
  refine sp_intro [some (.ref (ad 104)), none] rfl (Nat.le_of_ble_eq_true rfl) pn_X1 ?_
  intro X C hRm hl hnm hQ
  obtain ⟨hRf, hRl, hRc, hRs⟩ := hRm
  refine g_wf (fun hwf => ?_)
  refine g_aload_n C dX1_fillParts_0 rfl ?_
  refine g_get (ci := 3) C rfl inTX1 2 (by decide) fl_RX1_11 rfl hF.1 rfl dX1_fillParts_1 ?_
  refine g_iconst C dX1_fillParts_4 ?_
  refine g_iconst C dX1_fillParts_5 ?_
  refine g_iastoreN (0) C hF.2.1 (by omega) (by omega) dX1_fillParts_6 ?_
  obtain ⟨u1, hu1⟩ : ∃ u1, u1 = wset w (ad 105) (true, eI 26 (iup m 0 0)) := ⟨_, rfl⟩
  refine g_eqw (w' := u1) hu1.symm ?_
  have Fu1 := hF.sm hN0 (iup m 0 0)
  have Nu1 := hN0.wst (t := 105) (by omega) (true, eI 26 (iup m 0 0))
  have Ku1 := (KF.rf τ w).tr (KF.set hN0 (t := 105) (by omega) (true, eI 26 (iup m 0 0)))
  rw [← hu1] at Fu1 Nu1 Ku1
  refine g_aload_n C dX1_fillParts_7 rfl ?_
  refine g_get (ci := 3) C rfl inTX1 3 (by decide) fl_RX1_15 rfl Fu1.1 rfl dX1_fillParts_8 ?_
  refine g_iconst C dX1_fillParts_11 ?_
  refine g_iconst C dX1_fillParts_12 ?_
  refine g_iastoreN (0) C Fu1.2.2.1 (by omega) (by omega) dX1_fillParts_13 ?_
  obtain ⟨u2, hu2⟩ : ∃ u2, u2 = wset u1 (ad 106) (true, eI 26 (iup d 0 1)) := ⟨_, rfl⟩
  refine g_eqw (w' := u2) hu2.symm ?_
  have Fu2 := Fu1.sd Nu1 (iup d 0 1)
  have Nu2 := Nu1.wst (t := 106) (by omega) (true, eI 26 (iup d 0 1))
  have Ku2 := Ku1.tr (KF.set Nu1 (t := 106) (by omega) (true, eI 26 (iup d 0 1)))
  rw [← hu2] at Fu2 Nu2 Ku2
  refine g_aload_n C dX1_fillParts_14 rfl ?_
  refine g_get (ci := 3) C rfl inTX1 4 (by decide) fl_RX1_18 rfl Fu2.1 rfl dX1_fillParts_15 ?_
  refine g_iconst C dX1_fillParts_18 ?_
  refine g_aload_n C dX1_fillParts_19 rfl ?_
  refine g_get (ci := 3) C rfl inTX1 1 (by decide) fl_RX1_39 rfl Fu2.1 rfl dX1_fillParts_20 ?_
  refine g_iastoreN (0) C Fu2.2.2.2.1 (by omega) (by omega) dX1_fillParts_23 ?_
  obtain ⟨u3, hu3⟩ : ∃ u3, u3 = wset u2 (ad 107) (true, eI 26 (iup a 0 fr)) := ⟨_, rfl⟩
  refine g_eqw (w' := u3) hu3.symm ?_
  have Fu3 := Fu2.sa Nu2 (iup a 0 fr)
  have Nu3 := Nu2.wst (t := 107) (by omega) (true, eI 26 (iup a 0 fr))
  have Ku3 := Ku2.tr (KF.set Nu2 (t := 107) (by omega) (true, eI 26 (iup a 0 fr)))
  rw [← hu3] at Fu3 Nu3 Ku3
  refine g_iconst C dX1_fillParts_24 ?_
  refine g_istore_n C dX1_fillParts_25 (by decide) rfl ?_
  refine g_loop (σ := Nat × Wd × (Nat → Int) × (Nat → Int) × (Nat → Int)) (fun s => s.1 ≤ 25 ∧ FS ad s.2.1 fb fr s.2.2.1 s.2.2.2.1 s.2.2.2.2 ∧ NS τ ad s.2.1 ∧ KF τ w s.2.1 ∧ ∀ i, i ≤ s.1 → s.2.2.1 i = (cf fb fr i).1 ∧ s.2.2.2.1 i = (cf fb fr i).2.1 ∧ s.2.2.2.2 i = (cf fb fr i).2.2) (fun s => G E X 2 26 [some (.ref (ad 104)), some (iI (((s.1) + 1 : Nat) : Int))] [] s.2.1 0 0) (fun s => 25 - s.1) ?_ (0, u3, iup m 0 0, iup d 0 1, iup a 0 fr) ⟨by dsimp only; omega, Fu3, Nu3, Ku3, fun i hi => by
    dsimp only at hi
    have : i = 0 := by omega
    subst this
    exact ⟨rfl, rfl, rfl⟩⟩
  clear hF Fu1 Fu2 Fu3 Nu1 Nu2 Nu3 Ku1 Ku2 Ku3
  rintro ⟨j, u, m, d, a⟩ hq ih
  obtain ⟨hj, hF, hN, hK, hv⟩ := hq
  dsimp only at hj hF hN hK hv ⊢
  refine g_iload_n C dX1_fillParts_26 rfl ?_
  refine g_bipush C dX1_fillParts_27 (by decide) ?_
  refine g_icmp_gt (tgt := 135) C dX1_fillParts_29 (by decide) (by omega) (by omega) (fun h29 => ?_) (fun h29 => ?_)
  · exact g_return C hQ dX1_fillParts_135 (Nat.le_refl _) (Nat.le_refl _) ⟨rfl, m, d, a, hF, ⟨hb, hr, fun k hk => hv k (by omega)⟩, hN, hK⟩
  · have e0 := (hv j (Nat.le_refl _)).1
    have e1 := (hv j (Nat.le_refl _)).2.1
    have e2 := (hv j (Nat.le_refl _)).2.2
    have c0 := cf_good hb hr (k := j) (by omega)
    have c1 := cf_good hb hr (k := j + 1) (by omega)
    have s0 : (cf fb fr (j + 1)).1 = d j * a j - m j := by rw [e0, e1, e2]; rfl
    have s1' : (cf fb fr (j + 1)).2.1 = (fb - (cf fb fr (j + 1)).1 * (cf fb fr (j + 1)).1) / d j := by rw [e1]; rfl
    have s2' : (cf fb fr (j + 1)).2.2 = (fr + (cf fb fr (j + 1)).1) / (cf fb fr (j + 1)).2.1 := rfl
    generalize hp : cf fb fr (j + 1) = p at c1 s0 s1' s2'
    obtain ⟨pm, pd, pa⟩ := p
    dsimp only at c1 s0 s1' s2'
    have hb1 := hb.1
    have hb2 := hb.2.1
    have hr9 := RT_le hb hr
    have hsq : 0 ≤ pm * pm := Int.mul_nonneg c1.1 c1.1
    have hsq2 : pm * pm ≤ fr * fr := Int.mul_le_mul c1.2.1 c1.2.1 c1.1 hr.1
    have hsq3 := hr.2.1
    have hj1 : ((j + 1 : Nat) : Int) - 1 = (j : Int) := by omega
    refine g_aload_n C dX1_fillParts_32 rfl ?_
    refine g_get (ci := 3) C rfl inTX1 2 (by decide) fl_RX1_11 rfl hF.1 rfl dX1_fillParts_33 ?_
    refine g_iload_n C dX1_fillParts_36 rfl ?_
    refine g_aload_n C dX1_fillParts_37 rfl ?_
    refine g_get (ci := 3) C rfl inTX1 3 (by decide) fl_RX1_15 rfl hF.1 rfl dX1_fillParts_38 ?_
    refine g_iload_n C dX1_fillParts_41 rfl ?_
    refine g_iconst C dX1_fillParts_42 ?_
    refine g_isub C dX1_fillParts_43 ?_
    rw [hj1]
    refine g_ialoadN (j) C hF.2.2.1 (by omega) (by omega) dX1_fillParts_44 ?_
    refine g_aload_n C dX1_fillParts_45 rfl ?_
    refine g_get (ci := 3) C rfl inTX1 4 (by decide) fl_RX1_18 rfl hF.1 rfl dX1_fillParts_46 ?_
    refine g_iload_n C dX1_fillParts_49 rfl ?_
    refine g_iconst C dX1_fillParts_50 ?_
    refine g_isub C dX1_fillParts_51 ?_
    rw [hj1]
    refine g_ialoadN (j) C hF.2.2.2.1 (by omega) (by omega) dX1_fillParts_52 ?_
    refine g_imul C dX1_fillParts_53 ?_
    refine g_aload_n C dX1_fillParts_54 rfl ?_
    refine g_get (ci := 3) C rfl inTX1 2 (by decide) fl_RX1_11 rfl hF.1 rfl dX1_fillParts_55 ?_
    refine g_iload_n C dX1_fillParts_58 rfl ?_
    refine g_iconst C dX1_fillParts_59 ?_
    refine g_isub C dX1_fillParts_60 ?_
    rw [hj1]
    refine g_ialoadN (j) C hF.2.1 (by omega) (by omega) dX1_fillParts_61 ?_
    refine g_isub C dX1_fillParts_62 ?_
    rw [← s0]
    refine g_iastoreN (j + 1) C hF.2.1 (by omega) (by omega) dX1_fillParts_63 ?_
    obtain ⟨u4, hu4⟩ : ∃ u4, u4 = wset u (ad 105) (true, eI 26 (iup m (j + 1) pm)) := ⟨_, rfl⟩
    refine g_eqw (w' := u4) hu4.symm ?_
    have Fu4 := hF.sm hN (iup m (j + 1) pm)
    have Nu4 := hN.wst (t := 105) (by omega) (true, eI 26 (iup m (j + 1) pm))
    have Ku4 := hK.tr (KF.set hN (t := 105) (by omega) (true, eI 26 (iup m (j + 1) pm)))
    rw [← hu4] at Fu4 Nu4 Ku4
    refine g_aload_n C dX1_fillParts_64 rfl ?_
    refine g_get (ci := 3) C rfl inTX1 3 (by decide) fl_RX1_15 rfl Fu4.1 rfl dX1_fillParts_65 ?_
    refine g_iload_n C dX1_fillParts_68 rfl ?_
    refine g_aload_n C dX1_fillParts_69 rfl ?_
    refine g_get (ci := 3) C rfl inTX1 0 (by decide) fl_RX1_31 rfl Fu4.1 rfl dX1_fillParts_70 ?_
    refine g_aload_n C dX1_fillParts_73 rfl ?_
    refine g_get (ci := 3) C rfl inTX1 2 (by decide) fl_RX1_11 rfl Fu4.1 rfl dX1_fillParts_74 ?_
    refine g_iload_n C dX1_fillParts_77 rfl ?_
    refine g_ialoadN (j + 1) C Fu4.2.1 (by omega) (by omega) dX1_fillParts_78 ?_
    rw [iup_s]
    refine g_aload_n C dX1_fillParts_79 rfl ?_
    refine g_get (ci := 3) C rfl inTX1 2 (by decide) fl_RX1_11 rfl Fu4.1 rfl dX1_fillParts_80 ?_
    refine g_iload_n C dX1_fillParts_83 rfl ?_
    refine g_ialoadN (j + 1) C Fu4.2.1 (by omega) (by omega) dX1_fillParts_84 ?_
    rw [iup_s]
    refine g_imul C dX1_fillParts_85 ?_
    refine g_isub C dX1_fillParts_86 ?_
    refine g_iconst C dX1_fillParts_87 ?_
    refine g_aload_n C dX1_fillParts_88 rfl ?_
    refine g_get (ci := 3) C rfl inTX1 3 (by decide) fl_RX1_15 rfl Fu4.1 rfl dX1_fillParts_89 ?_
    refine g_iload_n C dX1_fillParts_92 rfl ?_
    refine g_iconst C dX1_fillParts_93 ?_
    refine g_isub C dX1_fillParts_94 ?_
    rw [hj1]
    refine g_ialoadN (j) C Fu4.2.2.1 (by omega) (by omega) dX1_fillParts_95 ?_
    refine g_max C ml_RX1_49 (by omega) (by omega) (by omega) (by omega) (Nat.le_of_ble_eq_true rfl) (by omega) dX1_fillParts_96 ?_
    rw [mx1 (by omega)]
    refine g_idivN C dX1_fillParts_99 (by omega) (by omega) ?_
    rw [← s1']
    refine g_iastoreN (j + 1) C Fu4.2.2.1 (by omega) (by omega) dX1_fillParts_100 ?_
    obtain ⟨u5, hu5⟩ : ∃ u5, u5 = wset u4 (ad 106) (true, eI 26 (iup d (j + 1) pd)) := ⟨_, rfl⟩
    refine g_eqw (w' := u5) hu5.symm ?_
    have Fu5 := Fu4.sd Nu4 (iup d (j + 1) pd)
    have Nu5 := Nu4.wst (t := 106) (by omega) (true, eI 26 (iup d (j + 1) pd))
    have Ku5 := Ku4.tr (KF.set Nu4 (t := 106) (by omega) (true, eI 26 (iup d (j + 1) pd)))
    rw [← hu5] at Fu5 Nu5 Ku5
    refine g_aload_n C dX1_fillParts_101 rfl ?_
    refine g_get (ci := 3) C rfl inTX1 4 (by decide) fl_RX1_18 rfl Fu5.1 rfl dX1_fillParts_102 ?_
    refine g_iload_n C dX1_fillParts_105 rfl ?_
    refine g_aload_n C dX1_fillParts_106 rfl ?_
    refine g_get (ci := 3) C rfl inTX1 1 (by decide) fl_RX1_39 rfl Fu5.1 rfl dX1_fillParts_107 ?_
    refine g_aload_n C dX1_fillParts_110 rfl ?_
    refine g_get (ci := 3) C rfl inTX1 2 (by decide) fl_RX1_11 rfl Fu5.1 rfl dX1_fillParts_111 ?_
    refine g_iload_n C dX1_fillParts_114 rfl ?_
    refine g_ialoadN (j + 1) C Fu5.2.1 (by omega) (by omega) dX1_fillParts_115 ?_
    rw [iup_s]
    refine g_iadd C dX1_fillParts_116 ?_
    refine g_iconst C dX1_fillParts_117 ?_
    refine g_aload_n C dX1_fillParts_118 rfl ?_
    refine g_get (ci := 3) C rfl inTX1 3 (by decide) fl_RX1_15 rfl Fu5.1 rfl dX1_fillParts_119 ?_
    refine g_iload_n C dX1_fillParts_122 rfl ?_
    refine g_ialoadN (j + 1) C Fu5.2.2.1 (by omega) (by omega) dX1_fillParts_123 ?_
    rw [iup_s]
    refine g_max C ml_RX1_49 (by omega) (by omega) (by omega) (by omega) (Nat.le_of_ble_eq_true rfl) (by omega) dX1_fillParts_124 ?_
    rw [mx1 (by omega)]
    refine g_idivN C dX1_fillParts_127 (by omega) (by omega) ?_
    rw [← s2']
    refine g_iastoreN (j + 1) C Fu5.2.2.2.1 (by omega) (by omega) dX1_fillParts_128 ?_
    obtain ⟨u6, hu6⟩ : ∃ u6, u6 = wset u5 (ad 107) (true, eI 26 (iup a (j + 1) pa)) := ⟨_, rfl⟩
    refine g_eqw (w' := u6) hu6.symm ?_
    have Fu6 := Fu5.sa Nu5 (iup a (j + 1) pa)
    have Nu6 := Nu5.wst (t := 107) (by omega) (true, eI 26 (iup a (j + 1) pa))
    have Ku6 := Ku5.tr (KF.set Nu5 (t := 107) (by omega) (true, eI 26 (iup a (j + 1) pa)))
    rw [← hu6] at Fu6 Nu6 Ku6
    refine g_iinc C dX1_fillParts_129 rfl (by decide) rfl ?_
    refine g_goto (tgt := 26) C dX1_fillParts_132 (by decide) ?_
    rw [show ((j + 1 : Nat) : Int) + 1 = ((j + 1 + 1 : Nat) : Int) by omega]
    exact ih (j + 1, u6, iup m (j + 1) pm, iup d (j + 1) pd, iup a (j + 1) pa) ⟨by dsimp only; omega, Fu6, Nu6, Ku6, fun i hi => by
      dsimp only at hi ⊢
      by_cases q : i = j + 1
      · rw [q, iup_s, iup_s, iup_s, hp]; exact ⟨rfl, rfl, rfl⟩
      · rw [iup_n q, iup_n q, iup_n q]; exact hv i (by omega)⟩ (by dsimp only; omega)
set_option maxHeartbeats 4000000 in
set_option maxRecDepth 100000 in
theorem s_X1_fillRow (l : Launch) {E : GE} {w : Wd} {τ ad : Nat → Nat} (hN0 : NS τ ad w) {fb fr : Int} {m d a : Nat → Int} (hF : FS ad w fb fr m d a) (hV : FV fb fr m d a) {t o : Nat} (ht : t = 108 ∨ t = 109) (ho : 16 ≤ o ∧ o + 27 ≤ 70) {R : Nat → Option Nat} (hR : w.2 (ad t) = some (true, eR 6 27 R)) (hRk : ∀ k, k < 27 → R k = some (wo ad (o + k))) {x y : Int} (hx : 0 ≤ x ∧ x ≤ 1) (hy : 0 ≤ y ∧ y ≤ 9) : Sp E l yX1_fillRow cX1_fillRow 5 none 3 (0) (0) [.ref (ad 104), .ref (ad t), iI x, iI y] w (fun r' w' => r' = none ∧ NS τ ad w' ∧ KR τ o w w' ∧ ∀ i, i < 27 → NW ad w' (o + i) (pq fb fr x y i).2) := by
  refine sp_intro [some (.ref (ad 104)), some (.ref (ad t)), some (iI x), some (iI y), none] rfl (Nat.le_of_ble_eq_true rfl) pn_X1 ?_
  intro X C hRm hl hnm hQ
  obtain ⟨hRf, hRl, hRc, hRs⟩ := hRm
  refine g_wf (fun hwf => ?_)
  have hN := hN0
  have hK : KB τ w w := KB.rf _ _
  have hR9 : KR τ o w w := KR.rf _ _ _
  refine g_aload_n C dX1_fillRow_0 rfl ?_
  refine g_iconst C dX1_fillRow_1 ?_
  refine g_aaloadN (0) C rfl rfl (hK.ob hN (t := t) (by omega) hR) (by omega) (by omega) (hRk (0) (by omega)) dX1_fillRow_2 ?_
  refine g_iload_n C dX1_fillRow_3 rfl ?_
  refine g_i2l C dX1_fillRow_4 (by omega) ?_
  refine g_callV C (v_X5_setNumber _ (hN.W (j := (o + 0)) (by omega)) (x := x) (by omega)) (ci := 7) rfl (hN.W (j := (o + 0)) (by omega)).o rfl ml_RX1_55 im_yX5_setNumber se_RX5_yX5_setNumber in_RX5 co_yX5_setNumber hd_X5_setNumber rfl ⟨by omega, by omega⟩ rfl (Nat.le_of_ble_eq_true rfl) ⟨by omega, by omega⟩ dX1_fillRow_5 (fun v5 w5 hp5 => ?_)
  obtain ⟨rfl, hws5, hfr5⟩ := hp5
  obtain ⟨hN5, v5w, hkj5⟩ := hN.stepV (j := (o + 0)) (by omega) hws5 hfr5
  have hm5 := fun (i : Nat) (z : Int) (h1 : i < 70) (h2 : i ≠ (o + 0)) (h3 : NW ad _ i z) => hkj5.nw hN h1 h2 h3
  replace hK := hK.tr hkj5.kb
  replace hR9 := hR9.tr (hkj5.kr (o := o) (by omega))
  replace hN := hN5
  have g0 := v5w
  refine g_aload_n C dX1_fillRow_8 rfl ?_
  refine g_iconst C dX1_fillRow_9 ?_
  refine g_aaloadN (1) C rfl rfl (hK.ob hN (t := t) (by omega) hR) (by omega) (by omega) (hRk (1) (by omega)) dX1_fillRow_10 ?_
  refine g_iload_n C dX1_fillRow_11 rfl ?_
  refine g_i2l C dX1_fillRow_12 (by omega) ?_
  refine g_callV C (v_X5_setNumber _ (hN.W (j := (o + 1)) (by omega)) (x := y) (by omega)) (ci := 7) rfl (hN.W (j := (o + 1)) (by omega)).o rfl ml_RX1_55 im_yX5_setNumber se_RX5_yX5_setNumber in_RX5 co_yX5_setNumber hd_X5_setNumber rfl ⟨by omega, by omega⟩ rfl (Nat.le_of_ble_eq_true rfl) ⟨by omega, by omega⟩ dX1_fillRow_13 (fun v13 w13 hp13 => ?_)
  obtain ⟨rfl, hws13, hfr13⟩ := hp13
  obtain ⟨hN13, v13w, hkj13⟩ := hN.stepV (j := (o + 1)) (by omega) hws13 hfr13
  have hm13 := fun (i : Nat) (z : Int) (h1 : i < 70) (h2 : i ≠ (o + 1)) (h3 : NW ad _ i z) => hkj13.nw hN h1 h2 h3
  replace hK := hK.tr hkj13.kb
  replace hR9 := hR9.tr (hkj13.kr (o := o) (by omega))
  replace hN := hN13
  have g1 := v13w
  refine g_iconst C dX1_fillRow_16 ?_
  refine g_istore C dX1_fillRow_17 (by decide) rfl ?_
  clear hN0
  refine g_loop (σ := Nat × Wd) (fun s => 1 ≤ s.1 ∧ s.1 ≤ 26 ∧ NS τ ad s.2 ∧ KB τ w s.2 ∧ KR τ o w s.2 ∧ ∀ i, i ≤ s.1 → NW ad s.2 (o + i) (pq fb fr x y i).2) (fun s => G E X 5 19 [some (.ref (ad 104)), some (.ref (ad t)), some (iI x), some (iI y), some (iI (s.1 : Int))] [] s.2 0 0) (fun s => 26 - s.1) ?_ (1, w13) ⟨by dsimp only; omega, by dsimp only; omega, hN, hK, hR9, fun i hi => by
    dsimp only at hi
    rcases (show i = 0 ∨ i = 1 by omega) with q | q
    · subst q; exact hm13 _ _ (by omega) (by omega) g0
    · subst q; exact g1⟩
  clear hN hK hR9 hm5 hm13 g0 g1
  rintro ⟨k, u⟩ hq ih
  obtain ⟨hk1, hk2, hN, hK, hR9, hall⟩ := hq
  dsimp only at hk1 hk2 hN hK hR9 hall ⊢
  have hkk : (k : Int) + 1 = ((k + 1 : Nat) : Int) := by omega
  refine g_iload C dX1_fillRow_19 rfl ?_
  refine g_bipush C dX1_fillRow_21 (by decide) ?_
  refine g_icmp_gt (tgt := 86) C dX1_fillRow_23 (by decide) (by omega) (by omega) (fun h23 => ?_) (fun h23 => ?_)
  · exact g_return C hQ dX1_fillRow_86 (Nat.le_refl _) (Nat.le_refl _) ⟨rfl, hN, hR9, fun i hi => hall i (by omega)⟩
  · refine g_iload C dX1_fillRow_26 rfl ?_
    refine g_iconst C dX1_fillRow_28 ?_
    refine g_iadd C dX1_fillRow_29 ?_
    rw [hkk]
    refine g_aload_n C dX1_fillRow_30 rfl ?_
    refine g_alen C (hK.ob hN (t := t) (by omega) hR) (Or.inr (Or.inr ⟨_, _, _, rfl, rfl⟩)) dX1_fillRow_31 ?_
    refine g_icmp_ge (tgt := 86) C dX1_fillRow_32 (by decide) (by omega) (by omega) (fun h32 => ?_) (fun h32 => ?_)
    · exact g_return C hQ dX1_fillRow_86 (Nat.le_refl _) (Nat.le_refl _) ⟨rfl, hN, hR9, fun i hi => hall i (by omega)⟩
    · have hak := hV.2.2 k (by omega)
      have hcg := cf_good hV.1 hV.2.1 (k := k) (by omega)
      have hr9 := RT_le hV.1 hV.2.1
      have hb0 := row_b hV.1 hV.2.1 hx hy (k := k) (by omega)
      have hb1 := row_b hV.1 hV.2.1 hx hy (k := k - 1) (by omega)
      have hmb : 0 ≤ (pq fb fr x y k).2 * (cf fb fr k).2.2 ∧ (pq fb fr x y k).2 * (cf fb fr k).2.2 ≤ 1768453418076865701195582595329481 * 18 := ⟨Int.mul_nonneg hb0.1 (by omega), Int.mul_le_mul hb0.2 (by omega) (by omega) (by decide)⟩
      have h18 := B18
      refine g_aload_n C dX1_fillRow_35 rfl ?_
      refine g_iload C dX1_fillRow_36 rfl ?_
      refine g_iconst C dX1_fillRow_38 ?_
      refine g_iadd C dX1_fillRow_39 ?_
      rw [hkk]
      refine g_aaloadN (k + 1) C rfl rfl (hK.ob hN (t := t) (by omega) hR) (by omega) (by omega) (hRk (k + 1) (by omega)) dX1_fillRow_40 ?_
      refine g_aload_n C dX1_fillRow_41 rfl ?_
      refine g_iload C dX1_fillRow_42 rfl ?_
      refine g_aaloadN (k) C rfl rfl (hK.ob hN (t := t) (by omega) hR) (by omega) (by omega) (hRk (k) (by omega)) dX1_fillRow_44 ?_
      refine g_callV C (v_X5_setWhole _ (hN.W (j := (o + (k + 1))) (by omega)) (hall k (Nat.le_refl _)) (hN.ne (j := (o + (k + 1))) (k := (o + k)) (by omega) (by omega) (by omega))) (ci := 7) rfl (hN.W (j := (o + (k + 1))) (by omega)).o rfl ml_RX1_59 im_yX5_setWhole se_RX5_yX5_setWhole in_RX5 co_yX5_setWhole hd_X5_setWhole rfl ⟨by omega, by omega⟩ rfl (Nat.le_of_ble_eq_true rfl) ⟨by omega, by omega⟩ dX1_fillRow_45 (fun v45 w45 hp45 => ?_)
      obtain ⟨rfl, hws45, hfr45⟩ := hp45
      obtain ⟨hN45, v45w, hkj45⟩ := hN.stepV (j := (o + (k + 1))) (by omega) hws45 hfr45
      have hm45 := fun (i : Nat) (z : Int) (h1 : i < 70) (h2 : i ≠ (o + (k + 1))) (h3 : NW ad _ i z) => hkj45.nw hN h1 h2 h3
      replace hK := hK.tr hkj45.kb
      replace hR9 := hR9.tr (hkj45.kr (o := o) (by omega))
      replace hN := hN45
      have g45 := v45w
      refine g_aload_n C dX1_fillRow_48 rfl ?_
      refine g_iload C dX1_fillRow_49 rfl ?_
      refine g_iconst C dX1_fillRow_51 ?_
      refine g_iadd C dX1_fillRow_52 ?_
      rw [hkk]
      refine g_aaloadN (k + 1) C rfl rfl (hK.ob hN (t := t) (by omega) hR) (by omega) (by omega) (hRk (k + 1) (by omega)) dX1_fillRow_53 ?_
      refine g_aload_n C dX1_fillRow_54 rfl ?_
      refine g_get (ci := 3) C rfl inTX1 4 (by decide) fl_RX1_18 rfl (hK.ob hN (t := 104) (by omega) hF.1) rfl dX1_fillRow_55 ?_
      refine g_iload C dX1_fillRow_58 rfl ?_
      refine g_ialoadN (k) C (hK.ob hN (t := 107) (by omega) hF.2.2.2.1) (by omega) (by omega) dX1_fillRow_60 ?_
      rw [hak.2.2]
      refine g_iconst C dX1_fillRow_61 ?_
      refine g_callV C (u_X5_multiplySmall _ g45 (by_ := (cf fb fr k).2.2) (mo := 0) (by omega) (by omega) (Or.inr rfl) (by rw [aB_p hb0.1]; omega)) (ci := 7) rfl (hN.W (j := (o + (k + 1))) (by omega)).o rfl ml_RX1_63 im_yX5_multiplySmall se_RX5_yX5_multiplySmall in_RX5 co_yX5_multiplySmall hd_X5_multiplySmall rfl ⟨by omega, by omega⟩ rfl (Nat.le_of_ble_eq_true rfl) ⟨by omega, by omega⟩ dX1_fillRow_62 (fun v62 w62 hp62 => ?_)
      obtain ⟨rfl, hws62, hfr62⟩ := hp62
      obtain ⟨hN62, v62w, hkj62⟩ := hN.stepV (j := (o + (k + 1))) (by omega) hws62 hfr62
      have hm62 := fun (i : Nat) (z : Int) (h1 : i < 70) (h2 : i ≠ (o + (k + 1))) (h3 : NW ad _ i z) => hkj62.nw hN h1 h2 h3
      replace hK := hK.tr hkj62.kb
      replace hR9 := hR9.tr (hkj62.kr (o := o) (by omega))
      replace hN := hN62
      have g62 := v62w
      refine g_aload_n C dX1_fillRow_65 rfl ?_
      refine g_iload C dX1_fillRow_66 rfl ?_
      refine g_iconst C dX1_fillRow_68 ?_
      refine g_iadd C dX1_fillRow_69 ?_
      rw [hkk]
      refine g_aaloadN (k + 1) C rfl rfl (hK.ob hN (t := t) (by omega) hR) (by omega) (by omega) (hRk (k + 1) (by omega)) dX1_fillRow_70 ?_
      refine g_aload_n C dX1_fillRow_71 rfl ?_
      refine g_iload C dX1_fillRow_72 rfl ?_
      refine g_iconst C dX1_fillRow_74 ?_
      refine g_isub C dX1_fillRow_75 ?_
      rw [show (k : Int) - 1 = ((k - 1 : Nat) : Int) by omega]
      refine g_aaloadN (k - 1) C rfl rfl (hK.ob hN (t := t) (by omega) hR) (by omega) (by omega) (hRk (k - 1) (by omega)) dX1_fillRow_76 ?_
      refine g_callV C (u_X5_addSize _ g62 (hm62 _ _ (by omega) (by omega) (hm45 _ _ (by omega) (by omega) (hall (k - 1) (by omega)))) (hN.ne (j := (o + (k + 1))) (k := (o + (k - 1))) (by omega) (by omega) (by omega)) (by omega) hb1.1 (by omega)) (ci := 7) rfl (hN.W (j := (o + (k + 1))) (by omega)).o rfl ml_RX1_67 im_yX5_addSize se_RX5_yX5_addSize in_RX5 co_yX5_addSize hd_X5_addSize rfl ⟨by omega, by omega⟩ rfl (Nat.le_of_ble_eq_true rfl) ⟨by omega, by omega⟩ dX1_fillRow_77 (fun v77 w77 hp77 => ?_)
      obtain ⟨rfl, hws77, hfr77⟩ := hp77
      obtain ⟨hN77, v77w, hkj77⟩ := hN.stepV (j := (o + (k + 1))) (by omega) hws77 hfr77
      have hm77 := fun (i : Nat) (z : Int) (h1 : i < 70) (h2 : i ≠ (o + (k + 1))) (h3 : NW ad _ i z) => hkj77.nw hN h1 h2 h3
      replace hK := hK.tr hkj77.kb
      replace hR9 := hR9.tr (hkj77.kr (o := o) (by omega))
      replace hN := hN77
      have g77 := v77w
      refine g_iinc C dX1_fillRow_80 rfl (by decide) rfl ?_
      refine g_goto (tgt := 19) C dX1_fillRow_83 (by decide) ?_
      rw [hkk]
      exact ih (k + 1, w77) ⟨by dsimp only; omega, by dsimp only; omega, hN, hK, hR9, fun i hi => by
        dsimp only at hi
        by_cases q : i = k + 1
        · subst q
          exact g77.eq (row_s hk1).symm
        · exact hm77 _ _ (by omega) (by omega) (hm62 _ _ (by omega) (by omega) (hm45 _ _ (by omega) (by omega) (hall i (by omega))))⟩ (by dsimp only; omega)
theorem KF.ob {τ ad : Nat → Nat} {w w' : Wd} (k : KF τ w w') (h : NS τ ad w') {t : Nat} (ht : 100 ≤ t ∧ t < 200) (hn : ¬ (104 ≤ t ∧ t ≤ 109)) {x : WdE} (e : w.2 (ad t) = some x) : w'.2 (ad t) = some x := k.2 _ _ (by rw [h.t t (by omega)]; exact hn) (by rw [h.t t (by omega)]; omega) e
theorem KF.nw {τ ad : Nat → Nat} {w w' : Wd} (k : KF τ w w') (h : NS τ ad w') {j : Nat} (hj : j < 16) {z : Int} (e : NW ad w j z) : NW ad w' j z := e.k (fun x q => k.2 _ _ (by rw [h.to (by omega)]; omega) (by rw [h.to (by omega)]; omega) q) (fun x q => k.2 _ _ (by rw [h.tr (by omega)]; omega) (by rw [h.tr (by omega)]; omega) q)
theorem FV.a {b r : Int} {m d a : Nat → Int} (h : FV b r m d a) : ∀ k, k < 26 → (0 ≤ m k ∧ m k ≤ 9) ∧ (1 ≤ d k ∧ d k ≤ 18) ∧ 0 ≤ a k ∧ a k ≤ 1000 := by
  intro k hk
  obtain ⟨hb, hr, hv⟩ := h
  have c := cf_good hb hr (k := k) (by omega)
  have hr9 := RT_le hb hr
  have := hv k hk
  omega
set_option maxHeartbeats 4000000 in
set_option maxRecDepth 100000 in
theorem s_X1_expand (l : Launch) {K : KC} {E : GE} {w : Wd} {τ ad : Nat → Nat} (hN0 : NS τ ad w) {fb fr : Int} {m d a : Nat → Int} (hF : FS ad w fb fr m d a) (hv : fb = 0 ∨ FV fb fr m d a ∧ FN ad w fb fr) (hfb : -1000 ≤ fb ∧ fb ≤ 1000) {b : Int} (hb : GB b) : St K E l yX1_expand cX1_expand 2 none 4 (0) (0) [.ref (ad 104), iI b] w (fun r' w' => r' = none ∧ ∃ r m' d' a', FS ad w' b r m' d' a' ∧ FV b r m' d' a' ∧ FN ad w' b r ∧ NS τ ad w' ∧ KF τ w w') := by
  refine st_intro [some (.ref (ad 104)), some (iI b)] rfl (Nat.le_of_ble_eq_true rfl) pn_X1 ?_
  intro X C hT hRm hl hnm hQ
  obtain ⟨hRf, hRl, hRc, hRs⟩ := hRm
  refine g_wf (fun hwf => ?_)
  refine g_iload_n C dX1_expand_0 rfl ?_
  refine g_aload_n C dX1_expand_1 rfl ?_
  refine g_get (ci := 3) C rfl inTX1 0 (by decide) fl_RX1_31 rfl hF.1 rfl dX1_expand_2 ?_
  refine g_icmp_ne (tgt := 9) C dX1_expand_5 (by decide) (by have := hb.2.1; have := hb.1; omega) (by omega) (fun h5 => ?_) (fun h5 => ?_)
  · refine g_aload_n C dX1_expand_9 rfl ?_
    refine g_iload_n C dX1_expand_10 rfl ?_
    refine g_put (ci := 3) C rfl inTX1 tyX1 tyX1_ok nmX1 0 (by decide) fl_RX1_31 rfl rfl hF.1 (Nat.le_of_ble_eq_true rfl) rfl rfl dX1_expand_11 ?_
    obtain ⟨u1, hu1⟩ : ∃ u1, u1 = wset w (ad 104) (true, eO 3 [iI b, iI fr, .ref (ad 105), .ref (ad 106), .ref (ad 107), .ref (ad 108), .ref (ad 109)]) := ⟨_, rfl⟩
    refine g_eqw (w' := u1) hu1.symm ?_
    have Fu1 := hF.so hN0 b fr
    have Nu1 := hN0.wst (t := 104) (by omega) (true, eO 3 [iI b, iI fr, .ref (ad 105), .ref (ad 106), .ref (ad 107), .ref (ad 108), .ref (ad 109)])
    have Ku1 := (KF.rf τ w).tr (KF.set hN0 (t := 104) (by omega) (true, eO 3 [iI b, iI fr, .ref (ad 105), .ref (ad 106), .ref (ad 107), .ref (ad 108), .ref (ad 109)]))
    rw [← hu1] at Fu1 Nu1 Ku1
    refine g_aload_n C dX1_expand_14 rfl ?_
    refine g_iload_n C dX1_expand_15 rfl ?_
    refine t_nS C hT ((s_X6_rootOf (l := xl X) (b := b) (by have := hb.2.1; have := hb.1; omega)).st) 6 rfl sm_yX6_rootOf in_RX6 co_yX6_rootOf hd_X6_rootOf rfl ⟨by omega, by omega⟩ rfl (Nat.le_of_ble_eq_true rfl) ⟨by omega, by omega⟩ dX1_expand_16 (fun v16 w16 hp16 => ?_)
    obtain ⟨⟨r16, rfl, hr16⟩, hw16⟩ := hp16
    subst w16
    refine g_put (ci := 3) C rfl inTX1 tyX1 tyX1_ok nmX1 1 (by decide) fl_RX1_39 rfl rfl Fu1.1 (Nat.le_of_ble_eq_true rfl) rfl rfl dX1_expand_19 ?_
    obtain ⟨u2, hu2⟩ : ∃ u2, u2 = wset u1 (ad 104) (true, eO 3 [iI b, iI r16, .ref (ad 105), .ref (ad 106), .ref (ad 107), .ref (ad 108), .ref (ad 109)]) := ⟨_, rfl⟩
    refine g_eqw (w' := u2) hu2.symm ?_
    have Fu2 := Fu1.so Nu1 b r16
    have Nu2 := Nu1.wst (t := 104) (by omega) (true, eO 3 [iI b, iI r16, .ref (ad 105), .ref (ad 106), .ref (ad 107), .ref (ad 108), .ref (ad 109)])
    have Ku2 := Ku1.tr (KF.set Nu1 (t := 104) (by omega) (true, eO 3 [iI b, iI r16, .ref (ad 105), .ref (ad 106), .ref (ad 107), .ref (ad 108), .ref (ad 109)]))
    rw [← hu2] at Fu2 Nu2 Ku2
    refine g_aload_n C dX1_expand_22 rfl ?_
    refine g_callV C (s_X1_fillParts _ Nu2 Fu2 hb hr16) (ci := 3) rfl Fu2.1 rfl ml_RX1_42 im_yX1_fillParts se_RX1_yX1_fillParts in_RX1 co_yX1_fillParts hd_X1_fillParts rfl ⟨by omega, by omega⟩ rfl (Nat.le_of_ble_eq_true rfl) ⟨by omega, by omega⟩ dX1_expand_23 (fun v23 w23 hp23 => ?_)
    obtain ⟨rfl, m1, d1, a1, F23, V23, N23, K23⟩ := hp23
    have hr9 := RT_le hb hr16
    have hva := V23.a
    obtain ⟨g1, g2, g3, g4, ⟨R, g5, g6⟩, ⟨R2, g7, g8⟩⟩ := id F23
    refine g_aload_n C dX1_expand_26 rfl ?_
    refine g_aload_n C dX1_expand_27 rfl ?_
    refine g_get (ci := 3) C rfl inTX1 5 (by decide) fl_RX1_23 rfl F23.1 rfl dX1_expand_28 ?_
    refine g_iconst C dX1_expand_31 ?_
    refine g_aload_n C dX1_expand_32 rfl ?_
    refine g_get (ci := 3) C rfl inTX1 1 (by decide) fl_RX1_39 rfl F23.1 rfl dX1_expand_33 ?_
    refine g_callV C (s_X1_fillRow _ N23 F23 V23 (t := 108) (o := 16) (Or.inl rfl) (by omega) g5 g6 (x := 1) (y := r16) (by omega) (by omega)) (ci := 3) rfl F23.1 rfl ml_RX1_45 im_yX1_fillRow se_RX1_yX1_fillRow in_RX1 co_yX1_fillRow hd_X1_fillRow rfl ⟨by omega, by omega⟩ rfl (Nat.le_of_ble_eq_true rfl) ⟨by omega, by omega⟩ dX1_expand_36 (fun v36 w36 hp36 => ?_)
    obtain ⟨rfl, N36, K36, R36⟩ := hp36
    have F36 := F23.kb K36.kb N36
    obtain ⟨-, -, -, -, -, ⟨R3, g9, g10⟩⟩ := id F36
    refine g_aload_n C dX1_expand_39 rfl ?_
    refine g_aload_n C dX1_expand_40 rfl ?_
    refine g_get (ci := 3) C rfl inTX1 6 (by decide) fl_RX1_27 rfl F36.1 rfl dX1_expand_41 ?_
    refine g_iconst C dX1_expand_44 ?_
    refine g_iconst C dX1_expand_45 ?_
    refine g_callV C (s_X1_fillRow _ N36 F36 V23 (t := 109) (o := 43) (Or.inr rfl) (by omega) g9 g10 (x := 0) (y := 1) (by omega) (by omega)) (ci := 3) rfl F36.1 rfl ml_RX1_45 im_yX1_fillRow se_RX1_yX1_fillRow in_RX1 co_yX1_fillRow hd_X1_fillRow rfl ⟨by omega, by omega⟩ rfl (Nat.le_of_ble_eq_true rfl) ⟨by omega, by omega⟩ dX1_expand_46 (fun v46 w46 hp46 => ?_)
    obtain ⟨rfl, N46, K46, R46⟩ := hp46
    exact g_return C hQ dX1_expand_49 (by omega) (by omega) ⟨rfl, r16, m1, d1, a1, F36.kb K46.kb N46, V23, fun k hk => ⟨K46.nw N46 (by omega) (by omega) (R36 k hk), R46 k hk⟩, N46, ((Ku2.tr K23).tr (K36.kf (by omega))).tr (K46.kf (by omega))⟩
  · exact g_return C hQ dX1_expand_8 (by omega) (by omega) (by
      have e : b = fb := by omega
      subst e
      rcases hv with q | q
      · have := hb.1; omega
      · exact ⟨rfl, fr, m, d, a, hF, q.1, q.2, hN0, KF.rf _ _⟩)
/-! methods of java.lang.Math that have no row of their own in the machine -/
theorem Met.ofWF {l : Launch} {y : MethodName} {ws ws' : List Cond} {rm : Room} {Pc : Array Value → State → Prop} {Qc : Array Value → State → Outcome → State → Prop} {mc ms : Nat} {free : Addr → Prop} {cc : ByteArray} {maxL : Nat} {ret : Option FieldType}
    (hy : plainFor y = true) (hw : ws = Cond.code y cc maxL ret :: ws')
    (body : ∀ p e s m args below meth c s₁, BodyLoose p l y (headSpec ws rm) cc maxL ret e s m args below meth c s₁ → c.maxLocals = maxL → Pc args s →
      W p l e (headSpec ws rm).room s m args below meth c s.heap [] 0 0 (MQ below Qc args s mc ms free) (entryFrame m args maxL)) : Met l y ws rm Pc Qc mc ms free := by
  refine MetFree.of_bodySF (code := cc) (maxLocals := maxL) (ret := ret) hy ?_ ?_
  · intro args s m h hn
    obtain ⟨meth, c, h1, h2, h3, h4, h5, h6, -, -⟩ := Cond.code_spec hn (atoms_spec (ws := ws) h _ (by rw [hw]; exact List.mem_cons_self))
    exact ⟨meth, c, h1, h2, h3, h4, h5, h6⟩
  · intro p e s m args below meth c s₁ B hml hP _
    have hh0 : s₁.heap = s.heap := by rw [B.state]; rfl
    obtain ⟨t, a1, o, b1, b2, b3⟩ := body p e s m args below meth c s₁ B hml hP s₁ hh0 (Stand.of_body B)
    exact ⟨t, o, a1, b1, b2, ⟨b3.1, b3.2⟩⟩
theorem spF_intro {E : GE} {l : Launch} {y : MethodName} {cc : ByteArray} {maxL : Nat} {ret : Option FieldType} {dep mc ms : Nat} {av : List Value} {w : Wd} {Post : Option Value → Wd → Prop} (L : List (Option Value)) (hL : lA av maxL = L) (hle : (lg_sl av).length ≤ maxL) (hy : plainFor y = true)
    (body : ∀ X : XT, CX E X y.cls cc maxL ret → ((xR X).frames = dep ∧ (xR X).locals = 64 * dep ∧ (xR X).cells = mc ∧ (xR X).slots = ms) → xl X = l → (xmeth X).name = y.name → RQ E X mc ms Post → G E X maxL 0 L [] w 0 0) : Sp E l y cc maxL ret dep mc ms av w Post := by
  refine Met.ofWF (cc := cc) (maxL := maxL) (ret := ret) hy rfl ?_
  intro p e s m args below meth c s₁ B hml hv
  obtain ⟨rfl, hw, hK, hb⟩ := hv
  have hts := atoms_spec (ws := Cond.code y cc maxL ret :: GT) B.pre
  have b := body (p, l, e, rmD dep mc ms, s, m, av.toArray, below, meth, c, MQ below (Qs E Post) av.toArray s mc ms (gA E))
    ⟨B.exec, B.bytes, hml, B.returns, B.notSynchronized, findClass_of_methodNamed B.named, fun w h => hts w (List.mem_cons_of_mem _ h), hK, hb⟩ ⟨rfl, rfl, rfl, rfl⟩ rfl (name_of_methodNamed B.named B.method).1 rfl
  rw [lg_entry_eq]
  refine b s.heap [] _ hw va_S.rf ⟨(lv_entry av hle).1, (lv_entry av hle).2.1, fun i v h => ?_⟩
  subst hL
  unfold lA at h
  rw [List.getElem?_map] at h
  cases hx : (lg_sl av ++ List.replicate (maxL - (lg_sl av).length) Slot.unset)[i]? with
  | none => rw [hx] at h; cases h
  | some sl =>
    rw [hx] at h
    cases sl with
    | val u =>
      simp [slV] at h
      subst h
      rw [List.getElem?_toArray]
      exact hx
    | _ => simp [slV] at h
theorem xor_neg {x y : Int} (hx : -9223372036854775808 ≤ x ∧ x < 9223372036854775808) (hy : 0 < y ∧ y < 9223372036854775808) : ∃ z : Int, Int64.ofInt x ^^^ Int64.ofInt y = Int64.ofInt z ∧ (-9223372036854775808 ≤ z ∧ z < 9223372036854775808) ∧ (z < 0 ↔ x < 0) := by
  obtain ⟨z, h1, h2, h3⟩ := gen64 (Int64.ofInt x ^^^ Int64.ofInt y)
  refine ⟨z, h1, ⟨h2, h3⟩, ?_⟩
  have e : (Int64.ofInt x ^^^ Int64.ofInt y).toInt = z := by rw [h1]; exact Int64.toInt_ofInt_of_le (by omega) (by omega)
  have ex : (Int64.ofInt x).toInt = x := Int64.toInt_ofInt_of_le (by omega) (by omega)
  have ey : (Int64.ofInt y).toInt = y := Int64.toInt_ofInt_of_le (by omega) (by omega)
  have m0 := BitVec.msb_eq_toInt (x := (Int64.ofInt x ^^^ Int64.ofInt y).toBitVec)
  have m1 := BitVec.msb_eq_toInt (x := (Int64.ofInt x).toBitVec)
  have m2 := BitVec.msb_eq_toInt (x := (Int64.ofInt y).toBitVec)
  rw [Int64.toBitVec_xor, BitVec.msb_xor, m1, m2] at m0
  have c0 : (((Int64.ofInt x).toBitVec ^^^ (Int64.ofInt y).toBitVec).toInt < 0) ↔ z < 0 := by rw [← e]; rfl
  have c1 : ((Int64.ofInt x).toBitVec.toInt < 0) ↔ x < 0 := by rw [show (Int64.ofInt x).toBitVec.toInt = x from ex]
  have c2 : ¬ ((Int64.ofInt y).toBitVec.toInt < 0) := by rw [show (Int64.ofInt y).toBitVec.toInt = y from ey]; omega
  rw [decide_eq_false c2, Bool.xor_false] at m0
  have m3 := decide_eq_decide.mp m0
  exact (c0.symm.trans m3.symm).trans c1
theorem tm_neg {x y : Int} (hx : x < 0) (hy : 0 < y) : -y < x.tmod y ∧ x.tmod y ≤ 0 ∧ (x.tmod y = 0 → x % y = 0) ∧ (x.tmod y ≠ 0 → x.tmod y + y = x % y) := by
  have h1 := Int.mul_tdiv_add_tmod x y
  have e2 : x.tmod y = -((-x).tmod y) := by rw [Int.neg_tmod, Int.neg_neg]
  have h3 : (-x).tmod y = (-x) % y := Int.tmod_eq_emod_of_nonneg (by omega)
  have h4 := Int.emod_nonneg (-x) (show y ≠ 0 by omega)
  have h5 := Int.emod_lt_of_pos (-x) hy
  have h6 : x % y = (x.tmod y) % y := by
    have : (y * x.tdiv y + x.tmod y) % y = (x.tmod y) % y := by rw [Int.add_comm, Int.add_mul_emod_self_left]
    rw [← this, h1]
  refine ⟨by omega, by omega, fun h => by rw [h6, h]; exact Int.zero_emod _, fun h => ?_⟩
  rw [h6]
  have h7 : (x.tmod y + y) % y = x.tmod y + y := Int.emod_eq_of_lt (by omega) (by omega)
  rw [← h7, Int.add_emod_right]
set_option maxHeartbeats 4000000 in
set_option maxRecDepth 100000 in
theorem s_J9_floorMod_f86c9 (l : Launch) {E : GE} {w : Wd} {x y : Int} (hx : -9223372036854775808 < x ∧ x < 9223372036854775808) (hy : 0 < y ∧ y < 2147483648) : Sp E l yJ9_floorMod_f86c9 cJ9_floorMod_f86c9 6 (some .long) 0 (0) (0) [jJ x, jJ y] w (fun r' w' => r' = some (jJ (x % y)) ∧ w' = w) := by
  refine spF_intro [some (jJ x), none, some (jJ y), none, none, none] rfl (Nat.le_of_ble_eq_true rfl) (by decide +kernel) ?_
  intro X C hRm hl hnm hQ
  obtain ⟨hRf, hRl, hRc, hRs⟩ := hRm
  refine g_wf (fun hwf => ?_)
  obtain ⟨z7, hz7, hz7b, hz7n⟩ := xor_neg (x := x) (y := y) (by omega) (by omega)
  have htn := fun h : x < 0 => tm_neg h hy.1
  have htp : 0 ≤ x → x.tmod y = x % y := fun h => Int.tmod_eq_emod_of_nonneg h
  have he0 := Int.emod_nonneg x (show y ≠ 0 by omega)
  have he1 := Int.emod_lt_of_pos x hy.1
  have htb : -2147483648 < x.tmod y ∧ x.tmod y < 2147483648 := by
    rcases Int.lt_or_le x 0 with q | q
    · have := htn q; omega
    · rw [htp q]; omega
  refine g_lload_n C dJ9_floorMod_f86c9_0 rfl ?_
  refine g_lload_n C dJ9_floorMod_f86c9_1 rfl ?_
  refine g_lrem C dJ9_floorMod_f86c9_2 (by omega) (by omega) (by omega) ?_
  refine g_lstore C dJ9_floorMod_f86c9_3 (by decide) rfl ?_
  refine g_lload_n C dJ9_floorMod_f86c9_5 rfl ?_
  refine g_lload_n C dJ9_floorMod_f86c9_6 rfl ?_
  refine g_lxor (z := z7) C dJ9_floorMod_f86c9_7 hz7 ?_
  refine g_lconst (z := 0) C dJ9_floorMod_f86c9_8 (by decide) ?_
  refine g_lcmp C dJ9_floorMod_f86c9_9 (by omega) (by omega) (fun c9 hc9 => ?_)
  refine g_if_ge (tgt := 25) C dJ9_floorMod_f86c9_10 (by decide) (by omega) (fun h10 => ?_) (fun h10 => ?_)
  · refine g_lload C dJ9_floorMod_f86c9_25 rfl ?_
    exact g_lreturn C hQ dJ9_floorMod_f86c9_27 (Nat.le_refl _) (Nat.le_refl _) ⟨by
      rcases Int.lt_or_le x 0 with q | q
      · have h9 := htn q
        rw [h9.2.2.1 (by omega), show x.tmod y = 0 by omega]
      · rw [htp q], rfl⟩
  · refine g_lload C dJ9_floorMod_f86c9_13 rfl ?_
    refine g_lconst (z := 0) C dJ9_floorMod_f86c9_15 (by decide) ?_
    refine g_lcmp C dJ9_floorMod_f86c9_16 (by omega) (by omega) (fun c16 hc16 => ?_)
    refine g_if_eq (tgt := 25) C dJ9_floorMod_f86c9_17 (by decide) (by omega) (fun h17 => ?_) (fun h17 => ?_)
    · refine g_lload C dJ9_floorMod_f86c9_25 rfl ?_
      exact g_lreturn C hQ dJ9_floorMod_f86c9_27 (Nat.le_refl _) (Nat.le_refl _) ⟨by
        rcases Int.lt_or_le x 0 with q | q
        · have h9 := htn q
          rw [h9.2.2.1 (by omega), show x.tmod y = 0 by omega]
        · rw [htp q], rfl⟩
    · refine g_lload C dJ9_floorMod_f86c9_20 rfl ?_
      refine g_lload_n C dJ9_floorMod_f86c9_22 rfl ?_
      refine g_ladd C dJ9_floorMod_f86c9_23 ?_
      exact g_lreturn C hQ dJ9_floorMod_f86c9_24 (Nat.le_refl _) (Nat.le_refl _) ⟨by rw [(htn (by omega)).2.2.2 (by omega)], rfl⟩
set_option maxHeartbeats 4000000 in
set_option maxRecDepth 100000 in
theorem s_X6_rest (l : Launch) {E : GE} {w : Wd} {x y : Int} (hx : -9223372036854775808 < x ∧ x < 9223372036854775808) (hy : 0 < y ∧ y < 2147483648) : Sp E l yX6_rest cX6_rest 3 (some .int) 1 (0) (0) [jJ x, iI y] w (fun r' w' => r' = some (iI (x % y)) ∧ w' = w) := by
  refine sp_intro [some (jJ x), none, some (iI y)] rfl (Nat.le_of_ble_eq_true rfl) pn_X6 ?_
  intro X C hRm hl hnm hQ
  obtain ⟨hRf, hRl, hRc, hRs⟩ := hRm
  refine g_wf (fun hwf => ?_)
  have he0 := Int.emod_nonneg x (show y ≠ 0 by omega)
  have he1 := Int.emod_lt_of_pos x hy.1
  refine g_iload_n C dX6_rest_0 rfl ?_
  refine g_iconst C dX6_rest_1 ?_
  refine g_icmp_ge (tgt := 9) C dX6_rest_2 (by decide) (by omega) (by omega) (fun h2 => ?_) (fun h2 => ?_)
  · refine g_lload_n C dX6_rest_9 rfl ?_
    refine g_iload_n C dX6_rest_10 rfl ?_
    refine g_i2l C dX6_rest_11 (by omega) ?_
    refine g_callS C (s_J9_floorMod_f86c9 _ (x := x) (y := y) hx hy) ml_RX6_390 sm_yJ9_floorMod_f86c9 in_RJ9 co_yJ9_floorMod_f86c9 hd_J9_floorMod_f86c9 rfl ⟨by omega, by omega⟩ rfl (Nat.le_of_ble_eq_true rfl) ⟨by omega, by omega⟩ dX6_rest_12 (fun v12 w12 hp12 => ?_)
    obtain ⟨rfl, hw12⟩ := hp12
    subst w12
    refine g_l2i C dX6_rest_15 ?_
    exact g_ireturn C hQ dX6_rest_16 (Nat.le_refl _) (Nat.le_refl _) ⟨rfl, rfl⟩
  · omega
theorem pm_add {a p : Nat} (hp : 2 ≤ p) (j : Nat) : ∀ k, pmN a p (j + k) = pmN a p j * pmN a p k % p
  | 0 => by
    show pmN a p j = pmN a p j * 1 % p
    rw [Nat.mul_one, Nat.mod_eq_of_lt (pmN_lt hp j)]
  | k + 1 => by
    show pmN a p (j + k) * (a % p) % p = pmN a p j * (pmN a p k * (a % p) % p) % p
    rw [pm_add hp j k, Nat.mod_mul_mod, Nat.mul_assoc]
    exact (Nat.mul_mod_mod _ _ _).symm
theorem pm_addI {a p : Nat} (hp : 2 ≤ p) (j k : Nat) : ((pmN a p j : Nat) : Int) * ((pmN a p k : Nat) : Int) % (p : Int) = ((pmN a p (j + k) : Nat) : Int) := by
  rw [pm_add hp j k, Int.natCast_emod, Int.natCast_mul]
theorem bit_of (K i : Nat) : ((K : Int) / 2 ^ i % 2) = ((K / 2 ^ i % 2 : Nat) : Int) := by simp
set_option maxHeartbeats 4000000 in
set_option maxRecDepth 100000 in
theorem s_X6_restOfPower (l : Launch) {E : GE} {w : Wd} {x : Int} {a p K : Nat} (hp : 5 ≤ p ∧ p ≤ 997) (hx : -1000 ≤ x ∧ x ≤ 1000) (ha : x % (p : Int) = ((a % p : Nat) : Int)) (hK : K < 1024) : Sp E l yX6_restOfPower cX6_restOfPower 8 (some .int) 2 (0) (0) [iI x, iI (K : Int), iI (p : Int)] w (fun r' w' => r' = some (iI ((pmN a p K : Nat) : Int)) ∧ w' = w) := by
  refine sp_intro [some (iI x), some (iI (K : Int)), some (iI (p : Int)), none, none, none, none, none] rfl (Nat.le_of_ble_eq_true rfl) pn_X6 ?_
  intro X C hRm hl hnm hQ
  obtain ⟨hRf, hRl, hRc, hRs⟩ := hRm
  refine g_wf (fun hwf => ?_)
  have e1 : ((a % p : Nat) : Int) = ((pmN a p 1 : Nat) : Int) := by
    show _ = ((1 * (a % p) % p : Nat) : Int)
    rw [Nat.one_mul, Nat.mod_mod]
  refine g_lconst (z := 1) C dX6_restOfPower_0 (by decide) ?_
  refine g_lstore_n C dX6_restOfPower_1 (by decide) rfl ?_
  refine g_iload_n C dX6_restOfPower_2 rfl ?_
  refine g_i2l C dX6_restOfPower_3 (by omega) ?_
  refine g_iload_n C dX6_restOfPower_4 rfl ?_
  refine g_callS C (s_X6_rest _ (x := x) (y := (p : Int)) (by omega) (by omega)) ml_RX6_291 sm_yX6_rest in_RX6 co_yX6_rest hd_X6_rest rfl ⟨by omega, by omega⟩ rfl (Nat.le_of_ble_eq_true rfl) ⟨by omega, by omega⟩ dX6_restOfPower_5 (fun v5 w5 hp5 => ?_)
  obtain ⟨rfl, hw5⟩ := hp5
  subst w5
  refine g_i2l C dX6_restOfPower_8 (by have := Int.emod_lt_of_pos x (show (0 : Int) < (p : Int) by omega); have := Int.emod_nonneg x (show (p : Int) ≠ 0 by omega); omega) ?_
  rw [ha, e1]
  refine g_lstore C dX6_restOfPower_9 (by decide) rfl ?_
  refine g_iconst C dX6_restOfPower_11 ?_
  refine g_istore C dX6_restOfPower_12 (by decide) rfl ?_
  refine g_eq (L' := [some (iI x), some (iI (K : Int)), some (iI (p : Int)), some (jJ ((pmN a p (K % 2 ^ 0) : Nat) : Int)), none, some (jJ ((pmN a p (2 ^ 0) : Nat) : Int)), none, some (iI ((0 : Nat) : Int))]) (by rw [Nat.pow_zero, Nat.mod_one]; rfl) rfl ?_
  refine g_loop (σ := Nat) (fun i => i ≤ 10) (fun i => G E X 8 14 [some (iI x), some (iI (K : Int)), some (iI (p : Int)), some (jJ ((pmN a p (K % 2 ^ i) : Nat) : Int)), none, some (jJ ((pmN a p (2 ^ i) : Nat) : Int)), none, some (iI (i : Int))] [] w 0 0) (fun i => 10 - i) ?_ 0 (by omega)
  rintro i hi ih
  have hm1 := pmN_lt (a := a) (p := p) (by omega) (K % 2 ^ i)
  have hm2 := pmN_lt (a := a) (p := p) (by omega) (2 ^ i)
  have hq1 := pm_addI (a := a) (p := p) (by omega) (K % 2 ^ i) (2 ^ i)
  have hq2 := pm_addI (a := a) (p := p) (by omega) (2 ^ i) (2 ^ i)
  have hpow : 2 ^ i + 2 ^ i = 2 ^ (i + 1) := by rw [Nat.pow_succ]; omega
  have hmod : K % 2 ^ (i + 1) = K % 2 ^ i + 2 ^ i * (K / 2 ^ i % 2) := Nat.mod_pow_succ
  have hbit := bit_of K i
  have hb2 : K / 2 ^ i % 2 < 2 := Nat.mod_lt _ (by omega)
  generalize hZ1 : ((pmN a p (K % 2 ^ i) : Nat) : Int) = Z1 at *
  generalize hZ2 : ((pmN a p (2 ^ i) : Nat) : Int) = Z2 at *
  have hZ1b : 0 ≤ Z1 ∧ Z1 ≤ 997 := by omega
  have hZ2b : 0 ≤ Z2 ∧ Z2 ≤ 997 := by omega
  have hA := mulb hZ1b hZ2b
  have hB := mulb hZ2b hZ2b
  refine g_iload C dX6_restOfPower_14 rfl ?_
  refine g_bipush C dX6_restOfPower_16 (by decide) ?_
  refine g_icmp_ge (tgt := 59) C dX6_restOfPower_18 (by decide) (by omega) (by omega) (fun h18 => ?_) (fun h18 => ?_)
  · refine g_lload_n C dX6_restOfPower_59 rfl ?_
    refine g_l2i C dX6_restOfPower_60 ?_
    exact g_ireturn C hQ dX6_restOfPower_61 (Nat.le_refl _) (Nat.le_refl _) ⟨by
      have hi10 : i = 10 := by omega
      subst hi10
      rw [← hZ1, Nat.mod_eq_of_lt (show K < 2 ^ 10 by omega)], rfl⟩
  · have J41 : ∀ z : Int, z = ((pmN a p (K % 2 ^ (i + 1)) : Nat) : Int) → G E X 8 41 [some (iI x), some (iI (K : Int)), some (iI (p : Int)), some (jJ z), none, some (jJ Z2), none, some (iI (i : Int))] [] w 0 0 := by
      intro z hz
      refine g_lload C dX6_restOfPower_41 rfl ?_
      refine g_lload C dX6_restOfPower_43 rfl ?_
      refine g_lmul C dX6_restOfPower_45 ?_
      refine g_iload_n C dX6_restOfPower_46 rfl ?_
      refine g_callS C (s_X6_rest _ (x := Z2 * Z2) (y := (p : Int)) (by omega) (by omega)) ml_RX6_291 sm_yX6_rest in_RX6 co_yX6_rest hd_X6_rest rfl ⟨by omega, by omega⟩ rfl (Nat.le_of_ble_eq_true rfl) ⟨by omega, by omega⟩ dX6_restOfPower_47 (fun v47 w47 hp47 => ?_)
      obtain ⟨rfl, hw47⟩ := hp47
      subst w47
      have hr47 := pmN_lt (a := a) (p := p) (by omega) (2 ^ i + 2 ^ i)
      rw [hq2]
      refine g_i2l C dX6_restOfPower_50 (by omega) ?_
      refine g_lstore C dX6_restOfPower_51 (by decide) rfl ?_
      refine g_iinc C dX6_restOfPower_53 rfl (by decide) rfl ?_
      refine g_goto (tgt := 14) C dX6_restOfPower_56 (by decide) ?_
      rw [hz, hpow]
      exact ih (i + 1) (by omega) (by omega)
    refine g_iload_n C dX6_restOfPower_21 rfl ?_
    refine g_iload C dX6_restOfPower_22 rfl ?_
    refine g_ishr (z := (K : Int) / 2 ^ i) C dX6_restOfPower_24 (by have := i_shr (x := (K : Int)) (y := (i : Int)) (by omega) (by omega); rwa [Int.toNat_natCast] at this) ?_
    refine g_iconst C dX6_restOfPower_25 ?_
    refine g_iand (z := (K : Int) / 2 ^ i % 2) C dX6_restOfPower_26 (i_mask 1 (by omega) (by decide)) ?_
    rw [hbit]
    refine g_iconst C dX6_restOfPower_27 ?_
    refine g_icmp_ne (tgt := 41) C dX6_restOfPower_28 (by decide) (by omega) (by omega) (fun h28 => ?_) (fun h28 => ?_)
    · first
      | exact J41 _ (by rw [hmod, show K / 2 ^ i % 2 = 1 by omega, Nat.mul_one])
      | exact J41 _ (by rw [hmod, show K / 2 ^ i % 2 = 0 by omega, Nat.mul_zero, Nat.add_zero]; exact hZ1.symm)
    · refine g_lload_n C dX6_restOfPower_31 rfl ?_
      refine g_lload C dX6_restOfPower_32 rfl ?_
      refine g_lmul C dX6_restOfPower_34 ?_
      refine g_iload_n C dX6_restOfPower_35 rfl ?_
      refine g_callS C (s_X6_rest _ (x := Z1 * Z2) (y := (p : Int)) (by omega) (by omega)) ml_RX6_291 sm_yX6_rest in_RX6 co_yX6_rest hd_X6_rest rfl ⟨by omega, by omega⟩ rfl (Nat.le_of_ble_eq_true rfl) ⟨by omega, by omega⟩ dX6_restOfPower_36 (fun v36 w36 hp36 => ?_)
      obtain ⟨rfl, hw36⟩ := hp36
      subst w36
      have hr36 := pmN_lt (a := a) (p := p) (by omega) (K % 2 ^ i + 2 ^ i)
      rw [hq1]
      refine g_i2l C dX6_restOfPower_39 (by omega) ?_
      refine g_lstore_n C dX6_restOfPower_40 (by decide) rfl ?_
      first
      | exact J41 _ (by rw [hmod, show K / 2 ^ i % 2 = 1 by omega, Nat.mul_one])
      | exact J41 _ (by rw [hmod, show K / 2 ^ i % 2 = 0 by omega, Nat.mul_zero, Nat.add_zero]; exact hZ1.symm)
set_option maxHeartbeats 4000000 in
set_option maxRecDepth 100000 in
theorem s_X6_hasTwoDivisors (l : Launch) {E : GE} {w : Wd} {n : Nat} (hn : n ≤ 1000) : Sp E l yX6_hasTwoDivisors cX6_hasTwoDivisors 2 (some .boolean) 0 (0) (0) [iI (n : Int)] w (fun r' w' => r' = some (iI (bI (2 ≤ n ∧ prB n = true))) ∧ w' = w) := by
  refine sp_intro [some (iI (n : Int)), none] rfl (Nat.le_of_ble_eq_true rfl) pn_X6 ?_
  intro X C hRm hl hnm hQ
  obtain ⟨hRf, hRl, hRc, hRs⟩ := hRm
  refine g_wf (fun hwf => ?_)
  refine g_iconst C dX6_hasTwoDivisors_0 ?_
  refine g_istore_n C dX6_hasTwoDivisors_1 (by decide) rfl ?_
  refine g_loop (σ := Nat) (fun j => 2 ≤ j ∧ j ≤ 40 ∧ ∀ k, 2 ≤ k → k < j → n % k ≠ 0) (fun j => G E X 2 2 [some (iI (n : Int)), some (iI (j : Int))] [] w 0 0) (fun j => 40 - j) ?_ 2 ⟨by omega, by omega, fun k h1 h2 => by omega⟩
  rintro j ⟨hj1, hj2, hj3⟩ ih
  have hsq : 0 ≤ (j : Int) * j ∧ (j : Int) * j ≤ 40 * 40 := ⟨Int.mul_nonneg (by omega) (by omega), Int.mul_le_mul (by omega) (by omega) (by omega) (by omega)⟩
  have hsqn : (j : Int) * j = ((j * j : Nat) : Int) := by simp
  have hmodn : (n : Int) % (j : Int) = ((n % j : Nat) : Int) := by simp
  have hmb : n % j ≤ 1000 := Nat.le_trans (Nat.mod_le _ _) hn
  have hout : (n < j ∨ n < j * j) → prB n = true := fun q => (prB_iff hn).mpr (fun k k1 k2 => hj3 k k1 (by
    rcases Nat.lt_or_ge k j with c | c
    · exact c
    · exfalso
      have h5 : j * j ≤ k * k := Nat.mul_le_mul c c
      have h6 : k * 1 ≤ k * k := Nat.mul_le_mul_left k (by omega)
      omega))
  have hin : j * j ≤ n → n % j = 0 → ¬ prB n = true := fun q1 q2 q3 => (prB_iff hn).mp q3 j hj1 q1 q2
  refine g_iload_n C dX6_hasTwoDivisors_2 rfl ?_
  refine g_iload_n C dX6_hasTwoDivisors_3 rfl ?_
  refine g_icmp_gt (tgt := 28) C dX6_hasTwoDivisors_4 (by decide) (by omega) (by omega) (fun h4 => ?_) (fun h4 => ?_)
  · refine g_iload_n C dX6_hasTwoDivisors_28 rfl ?_
    refine g_iconst C dX6_hasTwoDivisors_29 ?_
    refine g_icmp_lt (tgt := 37) C dX6_hasTwoDivisors_30 (by decide) (by omega) (by omega) (fun h30 => ?_) (fun h30 => ?_)
    · refine g_iconst C dX6_hasTwoDivisors_37 ?_
      exact g_zreturn C hQ dX6_hasTwoDivisors_38 (nar01 (by omega)) (Nat.le_refl _) (Nat.le_refl _) ⟨by first | (exfalso; omega) | rw [bI_t ⟨by omega, hout (by omega)⟩] | rw [bI_f (fun q => by omega)], rfl⟩
    · refine g_iconst C dX6_hasTwoDivisors_33 ?_
      refine g_goto (tgt := 38) C dX6_hasTwoDivisors_34 (by decide) ?_
      exact g_zreturn C hQ dX6_hasTwoDivisors_38 (nar01 (by omega)) (Nat.le_refl _) (Nat.le_refl _) ⟨by first | (exfalso; omega) | rw [bI_t ⟨by omega, hout (by omega)⟩] | rw [bI_f (fun q => by omega)], rfl⟩
  · refine g_iload_n C dX6_hasTwoDivisors_7 rfl ?_
    refine g_iload_n C dX6_hasTwoDivisors_8 rfl ?_
    refine g_imul C dX6_hasTwoDivisors_9 ?_
    refine g_iload_n C dX6_hasTwoDivisors_10 rfl ?_
    refine g_icmp_gt (tgt := 28) C dX6_hasTwoDivisors_11 (by decide) (by omega) (by omega) (fun h11 => ?_) (fun h11 => ?_)
    · refine g_iload_n C dX6_hasTwoDivisors_28 rfl ?_
      refine g_iconst C dX6_hasTwoDivisors_29 ?_
      refine g_icmp_lt (tgt := 37) C dX6_hasTwoDivisors_30 (by decide) (by omega) (by omega) (fun h30 => ?_) (fun h30 => ?_)
      · refine g_iconst C dX6_hasTwoDivisors_37 ?_
        exact g_zreturn C hQ dX6_hasTwoDivisors_38 (nar01 (by omega)) (Nat.le_refl _) (Nat.le_refl _) ⟨by first | (exfalso; omega) | rw [bI_t ⟨by omega, hout (by omega)⟩] | rw [bI_f (fun q => by omega)], rfl⟩
      · refine g_iconst C dX6_hasTwoDivisors_33 ?_
        refine g_goto (tgt := 38) C dX6_hasTwoDivisors_34 (by decide) ?_
        exact g_zreturn C hQ dX6_hasTwoDivisors_38 (nar01 (by omega)) (Nat.le_refl _) (Nat.le_refl _) ⟨by first | (exfalso; omega) | rw [bI_t ⟨by omega, hout (by omega)⟩] | rw [bI_f (fun q => by omega)], rfl⟩
    · refine g_iload_n C dX6_hasTwoDivisors_14 rfl ?_
      refine g_iload_n C dX6_hasTwoDivisors_15 rfl ?_
      refine g_iremN C dX6_hasTwoDivisors_16 (by omega) (by omega) ?_
      refine g_if_ne (tgt := 22) C dX6_hasTwoDivisors_17 (by decide) (by omega) (fun h17 => ?_) (fun h17 => ?_)
      · refine g_iinc C dX6_hasTwoDivisors_22 rfl (by decide) rfl ?_
        refine g_goto (tgt := 2) C dX6_hasTwoDivisors_25 (by decide) ?_
        have hj9 : j < 40 := by
          rcases Nat.lt_or_ge j 40 with c | c
          · exact c
          · exfalso
            have : j = 40 := by omega
            subst this
            omega
        exact ih (j + 1) ⟨by omega, by omega, fun k h1 h2 => by
          by_cases q : k = j
          · rw [q]; omega
          · exact hj3 k h1 (by omega)⟩ (by omega)
      · refine g_iconst C dX6_hasTwoDivisors_20 ?_
        exact g_zreturn C hQ dX6_hasTwoDivisors_21 (nar01 (by omega)) (Nat.le_refl _) (Nat.le_refl _) ⟨by rw [bI_f (fun q => hin (by omega) (by omega) q.2)], rfl⟩
set_option maxHeartbeats 4000000 in
set_option maxRecDepth 100000 in
theorem s_X6_isSplittable (l : Launch) {E : GE} {w : Wd} {n : Nat} (hn : n ≤ 1000) : Sp E l yX6_isSplittable cX6_isSplittable 1 (some .boolean) 1 (0) (0) [iI (n : Int)] w (fun r' w' => r' = some (iI (bI (SPb n = true))) ∧ w' = w) := by
  refine sp_intro [some (iI (n : Int))] rfl (Nat.le_of_ble_eq_true rfl) pn_X6 ?_
  intro X C hRm hl hnm hQ
  obtain ⟨hRf, hRl, hRc, hRs⟩ := hRm
  refine g_wf (fun hwf => ?_)
  have hS : SPb n = true ↔ 5 ≤ n ∧ n ≤ 997 ∧ n % 4 = 1 ∧ prB n = true := by
    simp only [SPb, Bool.and_eq_true, decide_eq_true_eq, and_assoc]
  refine g_iload_n C dX6_isSplittable_0 rfl ?_
  refine g_iconst C dX6_isSplittable_1 ?_
  refine g_icmp_lt (tgt := 30) C dX6_isSplittable_2 (by decide) (by omega) (by omega) (fun h2 => ?_) (fun h2 => ?_)
  · refine g_iconst C dX6_isSplittable_30 ?_
    exact g_zreturn C hQ dX6_isSplittable_31 (nar01 (by omega)) (Nat.le_refl _) (Nat.le_refl _) ⟨by first | rw [bI_t (hS.mpr ⟨by omega, by omega, by omega, (bI_1 h23).2⟩)] | rw [bI_f (fun q => bI_0 (Classical.not_not.mp h23) ⟨by omega, (hS.mp q).2.2.2⟩)] | rw [bI_f (fun q => bI_0 h23 ⟨by omega, (hS.mp q).2.2.2⟩)] | rw [bI_f (fun q => by have := hS.mp q; omega)], rfl⟩
  · refine g_iload_n C dX6_isSplittable_5 rfl ?_
    refine g_sipush C dX6_isSplittable_6 (by decide) ?_
    refine g_icmp_gt (tgt := 30) C dX6_isSplittable_9 (by decide) (by omega) (by omega) (fun h9 => ?_) (fun h9 => ?_)
    · refine g_iconst C dX6_isSplittable_30 ?_
      exact g_zreturn C hQ dX6_isSplittable_31 (nar01 (by omega)) (Nat.le_refl _) (Nat.le_refl _) ⟨by first | rw [bI_t (hS.mpr ⟨by omega, by omega, by omega, (bI_1 h23).2⟩)] | rw [bI_f (fun q => bI_0 (Classical.not_not.mp h23) ⟨by omega, (hS.mp q).2.2.2⟩)] | rw [bI_f (fun q => bI_0 h23 ⟨by omega, (hS.mp q).2.2.2⟩)] | rw [bI_f (fun q => by have := hS.mp q; omega)], rfl⟩
    · refine g_iload_n C dX6_isSplittable_12 rfl ?_
      refine g_iconst C dX6_isSplittable_13 ?_
      refine g_iremN C dX6_isSplittable_14 (by omega) (by omega) ?_
      refine g_iconst C dX6_isSplittable_15 ?_
      refine g_icmp_ne (tgt := 30) C dX6_isSplittable_16 (by decide) (by omega) (by omega) (fun h16 => ?_) (fun h16 => ?_)
      · refine g_iconst C dX6_isSplittable_30 ?_
        exact g_zreturn C hQ dX6_isSplittable_31 (nar01 (by omega)) (Nat.le_refl _) (Nat.le_refl _) ⟨by first | rw [bI_t (hS.mpr ⟨by omega, by omega, by omega, (bI_1 h23).2⟩)] | rw [bI_f (fun q => bI_0 (Classical.not_not.mp h23) ⟨by omega, (hS.mp q).2.2.2⟩)] | rw [bI_f (fun q => bI_0 h23 ⟨by omega, (hS.mp q).2.2.2⟩)] | rw [bI_f (fun q => by have := hS.mp q; omega)], rfl⟩
      · refine g_iload_n C dX6_isSplittable_19 rfl ?_
        refine g_callS C (s_X6_hasTwoDivisors _ (n := n) hn) ml_RX6_299 sm_yX6_hasTwoDivisors in_RX6 co_yX6_hasTwoDivisors hd_X6_hasTwoDivisors rfl ⟨by omega, by omega⟩ rfl (Nat.le_of_ble_eq_true rfl) ⟨by omega, by omega⟩ dX6_isSplittable_20 (fun v20 w20 hp20 => ?_)
        obtain ⟨rfl, hw20⟩ := hp20
        subst w20
        refine g_if_eq (tgt := 30) C dX6_isSplittable_23 (by decide) (bI_r _) (fun h23 => ?_) (fun h23 => ?_)
        · refine g_iconst C dX6_isSplittable_30 ?_
          exact g_zreturn C hQ dX6_isSplittable_31 (nar01 (by omega)) (Nat.le_refl _) (Nat.le_refl _) ⟨by first | rw [bI_t (hS.mpr ⟨by omega, by omega, by omega, (bI_1 h23).2⟩)] | rw [bI_f (fun q => bI_0 (Classical.not_not.mp h23) ⟨by omega, (hS.mp q).2.2.2⟩)] | rw [bI_f (fun q => bI_0 h23 ⟨by omega, (hS.mp q).2.2.2⟩)] | rw [bI_f (fun q => by have := hS.mp q; omega)], rfl⟩
        · refine g_iconst C dX6_isSplittable_26 ?_
          refine g_goto (tgt := 31) C dX6_isSplittable_27 (by decide) ?_
          exact g_zreturn C hQ dX6_isSplittable_31 (nar01 (by omega)) (Nat.le_refl _) (Nat.le_refl _) ⟨by first | rw [bI_t (hS.mpr ⟨by omega, by omega, by omega, (bI_1 h23).2⟩)] | rw [bI_f (fun q => bI_0 (Classical.not_not.mp h23) ⟨by omega, (hS.mp q).2.2.2⟩)] | rw [bI_f (fun q => bI_0 h23 ⟨by omega, (hS.mp q).2.2.2⟩)] | rw [bI_f (fun q => by have := hS.mp q; omega)], rfl⟩
theorem wit_chk : ((List.range 998).all fun p => !SPb p || decide (wit p < p)) = true := by decide +kernel
theorem wit_lt {p : Nat} (h : SPb p = true) : wit p < p := by
  have h1 := SPb_r h
  have h2 := List.all_eq_true.mp wit_chk p (List.mem_range.mpr (by omega))
  rw [h] at h2
  simpa using h2
set_option maxHeartbeats 4000000 in
set_option maxRecDepth 100000 in
theorem s_X3_findWitness (l : Launch) {K : KC} {E : GE} {w : Wd} {p : Nat} (hS : SPb p = true) : St K E l yX3_findWitness cX3_findWitness 2 (some .int) 3 (0) (0) [iI (p : Int)] w (fun r' w' => r' = some (iI ((wit p : Nat) : Int)) ∧ w' = w) := by
  refine st_intro [some (iI (p : Int)), none] rfl (Nat.le_of_ble_eq_true rfl) pn_X3 ?_
  intro X C hT hRm hl hnm hQ
  obtain ⟨hRf, hRl, hRc, hRs⟩ := hRm
  refine g_wf (fun hwf => ?_)
  have hp := SPb_r hS
  have hwl := wit_lt hS
  obtain ⟨hw1, hw2, hw3⟩ := (SPb_v hS).wit
  have hsp := witF_spec (p := p) (n := 40) (w := 2)
  have hw0 : 2 ≤ wit p := hsp.1
  have hwn : ∀ c, 2 ≤ c → c < wit p → pmN c p ((p - 1) / 2) ≠ p - 1 := hsp.2.2
  refine g_iconst C dX3_findWitness_0 ?_
  refine g_istore_n C dX3_findWitness_1 (by decide) rfl ?_
  refine g_loop (σ := Nat) (fun c => 2 ≤ c ∧ c ≤ wit p) (fun c => G E X 2 2 [some (iI (p : Int)), some (iI (c : Int))] [] w 0 0) (fun c => wit p - c) ?_ 2 ⟨by omega, hw0⟩
  rintro c ⟨hc1, hc2⟩ ih
  have hpm := pmN_lt (a := c) (p := p) (by omega) ((p - 1) / 2)
  refine g_iload_n C dX3_findWitness_2 rfl ?_
  refine g_iload_n C dX3_findWitness_3 rfl ?_
  refine g_icmp_ge (tgt := 31) C dX3_findWitness_4 (by decide) (by omega) (by omega) (fun h4 => ?_) (fun h4 => ?_)
  · omega
  · refine g_iload_n C dX3_findWitness_7 rfl ?_
    refine g_iload_n C dX3_findWitness_8 rfl ?_
    refine g_iconst C dX3_findWitness_9 ?_
    refine g_isub C dX3_findWitness_10 ?_
    refine g_iconst C dX3_findWitness_11 ?_
    refine g_idivN C dX3_findWitness_12 (by omega) (by omega) ?_
    rw [show ((p : Int) - 1) / 2 = (((p - 1) / 2 : Nat) : Int) by omega]
    refine g_iload_n C dX3_findWitness_13 rfl ?_
    refine t_nS C hT ((s_X6_restOfPower (l := xl X) (x := (c : Int)) (a := c) (p := p) (K := (p - 1) / 2) (by omega) (by omega) (by simp) (by omega)).st) 4 rfl sm_yX6_restOfPower in_RX6 co_yX6_restOfPower hd_X6_restOfPower rfl ⟨by omega, by omega⟩ rfl (Nat.le_of_ble_eq_true rfl) ⟨by omega, by omega⟩ dX3_findWitness_14 (fun v14 w14 hp14 => ?_)
    obtain ⟨rfl, hw14⟩ := hp14
    subst w14
    refine g_iload_n C dX3_findWitness_17 rfl ?_
    refine g_iconst C dX3_findWitness_18 ?_
    refine g_isub C dX3_findWitness_19 ?_
    refine g_icmp_ne (tgt := 25) C dX3_findWitness_20 (by decide) (by omega) (by omega) (fun h20 => ?_) (fun h20 => ?_)
    · refine g_iinc C dX3_findWitness_25 rfl (by decide) rfl ?_
      refine g_goto (tgt := 2) C dX3_findWitness_28 (by decide) ?_
      exact ih (c + 1) ⟨by omega, by
        rcases Nat.lt_or_ge c (wit p) with q | q
        · omega
        · have : c = wit p := by omega
          rw [this] at h20
          omega⟩ (by
        rcases Nat.lt_or_ge c (wit p) with q | q
        · omega
        · have : c = wit p := by omega
          rw [this] at h20
          omega)
    · refine g_iload_n C dX3_findWitness_23 rfl ?_
      exact g_ireturn C hQ dX3_findWitness_24 (by omega) (by omega) ⟨by
        have : c = wit p := by
          rcases Nat.lt_or_ge c (wit p) with q | q
          · exact absurd (by omega) (hwn c hc1 q)
          · omega
        rw [this], rfl⟩
/-! splits: their objects -/
def oS (p k : Nat) : Ent := eO 5 [iI (p : Int), iI ((wit p : Nat) : Int), iI ((ima p : Nat) : Int), iI (spS p k).1, iI (spS p k).2.1, iI (spS p k).2.2.1, iI (spS p k).2.2.2, iI (k : Int)]
theorem oS_eq (p k : Nat) : oS p k = eO 5 [iI (p : Int), iI ((wit p : Nat) : Int), iI ((ima p : Nat) : Int), iI (spS p k).1, iI (spS p k).2.1, iI (spS p k).2.2.1, iI (spS p k).2.2.2, iI (k : Int)] := rfl
set_option maxHeartbeats 4000000 in
set_option maxRecDepth 100000 in
theorem s_X3_isSettled (l : Launch) {E : GE} {w : Wd} {a p k : Nat} (hV : SV p k) (hO : w.2 a = some (true, oS p k)) : Sp E l yX3_isSettled cX3_isSettled 1 (some .boolean) 0 (0) (0) [.ref a] w (fun r' w' => r' = some (iI (bI ((spS p k).1 * (spS p k).1 < (p : Int)))) ∧ w' = w) := by
  refine sp_intro [some (.ref a)] rfl (Nat.le_of_ble_eq_true rfl) pn_X3 ?_
  intro X C hRm hl hnm hQ
  obtain ⟨hRf, hRl, hRc, hRs⟩ := hRm
  refine g_wf (fun hwf => ?_)
  have hp := hV.p
  obtain ⟨v1, v2, v3, v4, v5, v6, v7, v8, v9⟩ := hV.good
  have hO2 := hO
  rw [oS_eq] at hO2
  generalize (spS p k).1 = sA at *
  have hA : 0 ≤ sA * sA ∧ sA * sA ≤ 997 * 997 := ⟨Int.mul_nonneg (by omega) (by omega), Int.mul_le_mul (by omega) (by omega) (by omega) (by omega)⟩
  refine g_aload_n C dX3_isSettled_0 rfl ?_
  refine g_get (ci := 5) C rfl inTX3 3 (by decide) fl_RX3_33 rfl hO2 rfl dX3_isSettled_1 ?_
  refine g_aload_n C dX3_isSettled_4 rfl ?_
  refine g_get (ci := 5) C rfl inTX3 3 (by decide) fl_RX3_33 rfl hO2 rfl dX3_isSettled_5 ?_
  refine g_imul C dX3_isSettled_8 ?_
  refine g_aload_n C dX3_isSettled_9 rfl ?_
  refine g_get (ci := 5) C rfl inTX3 0 (by decide) fl_RX3_15 rfl hO2 rfl dX3_isSettled_10 ?_
  refine g_icmp_ge (tgt := 20) C dX3_isSettled_13 (by decide) (by omega) (by omega) (fun h13 => ?_) (fun h13 => ?_)
  · refine g_iconst C dX3_isSettled_20 ?_
    exact g_zreturn C hQ dX3_isSettled_21 (nar01 (by omega)) (Nat.le_refl _) (Nat.le_refl _) ⟨by first | rw [bI_t (by omega)] | rw [bI_f (by omega)], rfl⟩
  · refine g_iconst C dX3_isSettled_16 ?_
    refine g_goto (tgt := 21) C dX3_isSettled_17 (by decide) ?_
    exact g_zreturn C hQ dX3_isSettled_21 (nar01 (by omega)) (Nat.le_refl _) (Nat.le_refl _) ⟨by first | rw [bI_t (by omega)] | rw [bI_f (by omega)], rfl⟩
set_option maxHeartbeats 4000000 in
set_option maxRecDepth 100000 in
theorem s_X3_goOn (l : Launch) {E : GE} {w : Wd} {a p k : Nat} (hV : SV p k) (hb : (spS p k).2.1 ≠ 0) (hO : w.2 a = some (true, oS p k)) : Sp E l yX3_goOn cX3_goOn 4 none 0 (0) (0) [.ref a] w (fun r' w' => r' = none ∧ w' = wset w a (true, oS p (k + 1))) := by
  refine sp_intro [some (.ref a), none, none, none] rfl (Nat.le_of_ble_eq_true rfl) pn_X3 ?_
  intro X C hRm hl hnm hQ
  obtain ⟨hRf, hRl, hRc, hRs⟩ := hRm
  refine g_wf (fun hwf => ?_)
  have hp := hV.p
  obtain ⟨v1, v2, v3, v4, v5, v6, v7, v8, v9⟩ := hV.good
  have hO2 := hO
  rw [oS_eq] at hO2
  have hn : spS p (k + 1) = spN (spS p k) := rfl
  generalize hq : spS p k = q at *
  obtain ⟨sA, sB, sU, sW⟩ := q
  dsimp only at v1 v2 v3 v4 v5 v6 v7 v8 hb hO2
  have aU := (show -sU ≤ aB sU ∧ sU ≤ aB sU ∧ 0 ≤ aB sU by unfold aB; split <;> omega)
  have aV := (show -sW ≤ aB sW ∧ sW ≤ aB sW ∧ 0 ≤ aB sW by unfold aB; split <;> omega)
  refine g_aload_n C dX3_goOn_0 rfl ?_
  refine g_get (ci := 5) C rfl inTX3 4 (by decide) fl_RX3_36 rfl hO2 rfl dX3_goOn_1 ?_
  refine g_if_ne (tgt := 8) C dX3_goOn_4 (by decide) (by omega) (fun h4 => ?_) (fun h4 => ?_)
  · refine g_aload_n C dX3_goOn_8 rfl ?_
    refine g_get (ci := 5) C rfl inTX3 3 (by decide) fl_RX3_33 rfl hO2 rfl dX3_goOn_9 ?_
    refine g_aload_n C dX3_goOn_12 rfl ?_
    refine g_get (ci := 5) C rfl inTX3 4 (by decide) fl_RX3_36 rfl hO2 rfl dX3_goOn_13 ?_
    refine g_idivN C dX3_goOn_16 (by omega) (by omega) ?_
    refine g_istore_n C dX3_goOn_17 (by decide) rfl ?_
    refine g_aload_n C dX3_goOn_18 rfl ?_
    refine g_get (ci := 5) C rfl inTX3 3 (by decide) fl_RX3_33 rfl hO2 rfl dX3_goOn_19 ?_
    refine g_iload_n C dX3_goOn_22 rfl ?_
    refine g_aload_n C dX3_goOn_23 rfl ?_
    refine g_get (ci := 5) C rfl inTX3 4 (by decide) fl_RX3_36 rfl hO2 rfl dX3_goOn_24 ?_
    refine g_imul C dX3_goOn_27 ?_
    refine g_isub C dX3_goOn_28 ?_
    refine g_istore_n C dX3_goOn_29 (by decide) rfl ?_
    refine g_aload_n C dX3_goOn_30 rfl ?_
    refine g_get (ci := 5) C rfl inTX3 5 (by decide) fl_RX3_39 rfl hO2 rfl dX3_goOn_31 ?_
    refine g_iload_n C dX3_goOn_34 rfl ?_
    refine g_aload_n C dX3_goOn_35 rfl ?_
    refine g_get (ci := 5) C rfl inTX3 6 (by decide) fl_RX3_42 rfl hO2 rfl dX3_goOn_36 ?_
    refine g_imul C dX3_goOn_39 ?_
    refine g_isub C dX3_goOn_40 ?_
    refine g_istore_n C dX3_goOn_41 (by decide) rfl ?_
    refine g_aload_n C dX3_goOn_42 rfl ?_
    refine g_aload_n C dX3_goOn_43 rfl ?_
    refine g_get (ci := 5) C rfl inTX3 4 (by decide) fl_RX3_36 rfl hO2 rfl dX3_goOn_44 ?_
    refine g_put (ci := 5) C rfl inTX3 tyX3 tyX3_ok nmX3 3 (by decide) fl_RX3_33 rfl rfl hO2 (Nat.le_of_ble_eq_true rfl) rfl rfl dX3_goOn_47 ?_
    refine g_aload_n C dX3_goOn_50 rfl ?_
    refine g_iload_n C dX3_goOn_51 rfl ?_
    refine g_put (ci := 5) C rfl inTX3 tyX3 tyX3_ok nmX3 4 (by decide) fl_RX3_36 rfl rfl wset_s (Nat.le_of_ble_eq_true rfl) rfl rfl dX3_goOn_52 ?_
    rw [wset_set]
    refine g_aload_n C dX3_goOn_55 rfl ?_
    refine g_aload_n C dX3_goOn_56 rfl ?_
    refine g_get (ci := 5) C rfl inTX3 6 (by decide) fl_RX3_42 rfl wset_s rfl dX3_goOn_57 ?_
    refine g_put (ci := 5) C rfl inTX3 tyX3 tyX3_ok nmX3 5 (by decide) fl_RX3_39 rfl rfl wset_s (Nat.le_of_ble_eq_true rfl) rfl rfl dX3_goOn_60 ?_
    rw [wset_set]
    refine g_aload_n C dX3_goOn_63 rfl ?_
    refine g_iload_n C dX3_goOn_64 rfl ?_
    refine g_put (ci := 5) C rfl inTX3 tyX3 tyX3_ok nmX3 6 (by decide) fl_RX3_42 rfl rfl wset_s (Nat.le_of_ble_eq_true rfl) rfl rfl dX3_goOn_65 ?_
    rw [wset_set]
    refine g_aload_n C dX3_goOn_68 rfl ?_
    refine g_dup C dX3_goOn_69 rfl ?_
    refine g_get (ci := 5) C rfl inTX3 7 (by decide) fl_RX3_45 rfl wset_s rfl dX3_goOn_70 ?_
    refine g_iconst C dX3_goOn_73 ?_
    refine g_iadd C dX3_goOn_74 ?_
    rw [show (k : Int) + 1 = ((k + 1 : Nat) : Int) by omega]
    refine g_put (ci := 5) C rfl inTX3 tyX3 tyX3_ok nmX3 7 (by decide) fl_RX3_45 rfl rfl wset_s (Nat.le_of_ble_eq_true rfl) rfl rfl dX3_goOn_75 ?_
    rw [wset_set]
    exact g_return C hQ dX3_goOn_78 (Nat.le_refl _) (Nat.le_refl _) ⟨rfl, by rw [oS_eq, hn]; rfl⟩
  · exact absurd h4 (by omega)
set_option maxHeartbeats 4000000 in
set_option maxRecDepth 100000 in
theorem s_X3_goOnToSettled (l : Launch) {E : GE} {w : Wd} {a p k : Nat} (hV : SV p k) (hO : w.2 a = some (true, oS p k)) : Sp E l yX3_goOnToSettled cX3_goOnToSettled 3 (some .int) 1 (0) (0) [.ref a] w (fun r' w' => ∃ t, k ≤ t ∧ SV p t ∧ (∀ i, k ≤ i → i < t → (spS p i).2.1 ≠ 0 ∧ (p : Int) ≤ (spS p i).1 * (spS p i).1) ∧ ((spS p t).2.1 = 0 ∨ (spS p t).1 * (spS p t).1 < (p : Int)) ∧ r' = some (iI ((t - k : Nat) : Int)) ∧ w' = wset w a (true, oS p t)) := by
  refine sp_intro [some (.ref a), none, none] rfl (Nat.le_of_ble_eq_true rfl) pn_X3 ?_
  intro X C hRm hl hnm hQ
  obtain ⟨hRf, hRl, hRc, hRs⟩ := hRm
  refine g_wf (fun hwf => ?_)
  refine g_iconst C dX3_goOnToSettled_0 ?_
  refine g_istore_n C dX3_goOnToSettled_1 (by decide) rfl ?_
  refine g_iconst C dX3_goOnToSettled_2 ?_
  refine g_istore_n C dX3_goOnToSettled_3 (by decide) rfl ?_
  suffices hh : G E X 3 4 [some (.ref a), some (iI ((k - k : Nat) : Int)), some (iI ((k - k : Nat) : Int))] [] (wset w a (true, oS p k)) 0 0 by rw [wset_id hO, Nat.sub_self] at hh; exact hh
  refine g_loop (σ := Nat) (fun t => k ≤ t ∧ SV p t ∧ ∀ i, k ≤ i → i < t → (spS p i).2.1 ≠ 0 ∧ (p : Int) ≤ (spS p i).1 * (spS p i).1) (fun t => G E X 3 4 [some (.ref a), some (iI ((t - k : Nat) : Int)), some (iI ((t - k : Nat) : Int))] [] (wset w a (true, oS p t)) 0 0) (fun t => 20 - t) ?_ k ⟨Nat.le_refl _, hV, fun i h1 h2 => by omega⟩
  rintro t ⟨ht, hVt, hi⟩ ih
  obtain ⟨v1, v2, v3, v4, v5, v6, v7, v8, v9⟩ := hVt.good
  have hp := hVt.p
  have hOt2 : (wset w a (true, oS p t)).2 a = some (true, eO 5 [iI (p : Int), iI ((wit p : Nat) : Int), iI ((ima p : Nat) : Int), iI (spS p t).1, iI (spS p t).2.1, iI (spS p t).2.2.1, iI (spS p t).2.2.2, iI (t : Int)]) := wset_s
  refine g_iload_n C dX3_goOnToSettled_4 rfl ?_
  refine g_sipush C dX3_goOnToSettled_5 (by decide) ?_
  refine g_icmp_ge (tgt := 38) C dX3_goOnToSettled_8 (by decide) (by omega) (by omega) (fun h8 => ?_) (fun h8 => ?_)
  · omega
  · refine g_aload_n C dX3_goOnToSettled_11 rfl ?_
    refine g_get (ci := 5) C rfl inTX3 4 (by decide) fl_RX3_36 rfl hOt2 rfl dX3_goOnToSettled_12 ?_
    refine g_if_eq (tgt := 38) C dX3_goOnToSettled_15 (by decide) (by omega) (fun h15 => ?_) (fun h15 => ?_)
    · refine g_iload_n C dX3_goOnToSettled_38 rfl ?_
      exact g_ireturn C hQ dX3_goOnToSettled_39 (Nat.le_refl _) (Nat.le_refl _) (by
        first
        | exact ⟨t, ht, hVt, hi, Or.inr (bI_1 h22), rfl, rfl⟩
        | exact ⟨t, ht, hVt, hi, Or.inl (by omega), rfl, rfl⟩)
    · refine g_aload_n C dX3_goOnToSettled_18 rfl ?_
      refine g_callV C (s_X3_isSettled _ hVt wset_s) (ci := 5) rfl hOt2 rfl ml_RX3_48 im_yX3_isSettled se_RX3_yX3_isSettled in_RX3 co_yX3_isSettled hd_X3_isSettled rfl ⟨by omega, by omega⟩ rfl (Nat.le_of_ble_eq_true rfl) ⟨by omega, by omega⟩ dX3_goOnToSettled_19 (fun v19 w19 hp19 => ?_)
      obtain ⟨rfl, hw19⟩ := hp19
      subst w19
      refine g_if_ne (tgt := 38) C dX3_goOnToSettled_22 (by decide) (bI_r _) (fun h22 => ?_) (fun h22 => ?_)
      · refine g_iload_n C dX3_goOnToSettled_38 rfl ?_
        exact g_ireturn C hQ dX3_goOnToSettled_39 (Nat.le_refl _) (Nat.le_refl _) (by
          first
          | exact ⟨t, ht, hVt, hi, Or.inr (bI_1 h22), rfl, rfl⟩
          | exact ⟨t, ht, hVt, hi, Or.inl (by omega), rfl, rfl⟩)
      · refine g_aload_n C dX3_goOnToSettled_25 rfl ?_
        refine g_callV C (s_X3_goOn _ hVt (by omega) wset_s) (ci := 5) rfl hOt2 rfl ml_RX3_52 im_yX3_goOn se_RX3_yX3_goOn in_RX3 co_yX3_goOn hd_X3_goOn rfl ⟨by omega, by omega⟩ rfl (Nat.le_of_ble_eq_true rfl) ⟨by omega, by omega⟩ dX3_goOnToSettled_26 (fun v26 w26 hp26 => ?_)
        obtain ⟨rfl, hw26⟩ := hp26
        subst w26
        rw [wset_set]
        have hns := bI_0 (Classical.not_not.mp h22)
        refine g_iinc C dX3_goOnToSettled_29 rfl (by decide) rfl ?_
        refine g_iinc C dX3_goOnToSettled_32 rfl (by decide) rfl ?_
        refine g_goto (tgt := 4) C dX3_goOnToSettled_35 (by decide) ?_
        rw [show ((t - k : Nat) : Int) + 1 = ((t + 1 - k : Nat) : Int) by omega]
        exact ih (t + 1) ⟨by omega, hVt.next (by omega), fun i h1 h2 => by
          by_cases q : i = t
          · rw [q]; exact ⟨by omega, by omega⟩
          · exact hi i h1 (by omega)⟩ (by omega)
set_option maxHeartbeats 4000000 in
set_option maxRecDepth 100000 in
theorem s_X3_begin (l : Launch) {K : KC} {E : GE} {w : Wd} {a p : Nat} {x0 x1 x2 x3 x4 x5 x6 x7 : Int} (hS : SPb p = true) (hO : w.2 a = some (true, eO 5 [iI x0, iI x1, iI x2, iI x3, iI x4, iI x5, iI x6, iI x7])) : St K E l yX3_begin cX3_begin 2 none 4 (0) (0) [.ref a, iI (p : Int)] w (fun r' w' => r' = none ∧ w' = wset w a (true, oS p 0)) := by
  refine st_intro [some (.ref a), some (iI (p : Int))] rfl (Nat.le_of_ble_eq_true rfl) pn_X3 ?_
  intro X C hT hRm hl hnm hQ
  obtain ⟨hRf, hRl, hRc, hRs⟩ := hRm
  refine g_wf (fun hwf => ?_)
  have hp := SPb_r hS
  obtain ⟨hw1, hw2, hw3⟩ := (SPb_v hS).wit
  refine g_aload_n C dX3_begin_0 rfl ?_
  refine g_iload_n C dX3_begin_1 rfl ?_
  refine g_put (ci := 5) C rfl inTX3 tyX3 tyX3_ok nmX3 0 (by decide) fl_RX3_15 rfl rfl hO (Nat.le_of_ble_eq_true rfl) rfl rfl dX3_begin_2 ?_
  refine g_aload_n C dX3_begin_5 rfl ?_
  refine g_iload_n C dX3_begin_6 rfl ?_
  refine t_callS C hT (s_X3_findWitness _ hS) ml_RX3_19 sm_yX3_findWitness in_RX3 co_yX3_findWitness hd_X3_findWitness rfl ⟨by omega, by omega⟩ rfl (Nat.le_of_ble_eq_true rfl) ⟨by omega, by omega⟩ dX3_begin_7 (fun v7 w7 hp7 => ?_)
  obtain ⟨rfl, hw7⟩ := hp7
  subst w7
  refine g_put (ci := 5) C rfl inTX3 tyX3 tyX3_ok nmX3 1 (by decide) fl_RX3_23 rfl rfl wset_s (Nat.le_of_ble_eq_true rfl) rfl rfl dX3_begin_10 ?_
  rw [wset_set]
  refine g_aload_n C dX3_begin_13 rfl ?_
  refine g_aload_n C dX3_begin_14 rfl ?_
  refine g_get (ci := 5) C rfl inTX3 1 (by decide) fl_RX3_23 rfl wset_s rfl dX3_begin_15 ?_
  refine g_iload_n C dX3_begin_18 rfl ?_
  refine g_iconst C dX3_begin_19 ?_
  refine g_isub C dX3_begin_20 ?_
  refine g_iconst C dX3_begin_21 ?_
  refine g_idivN C dX3_begin_22 (by omega) (by omega) ?_
  rw [show ((p : Int) - 1) / 4 = (((p - 1) / 4 : Nat) : Int) by omega]
  refine g_iload_n C dX3_begin_23 rfl ?_
  refine t_nS C hT ((s_X6_restOfPower (l := xl X) (x := ((wit p : Nat) : Int)) (a := wit p) (p := p) (K := (p - 1) / 4) (by omega) (by omega) (by simp) (by omega)).st) 4 rfl sm_yX6_restOfPower in_RX6 co_yX6_restOfPower hd_X6_restOfPower rfl ⟨by omega, by omega⟩ rfl (Nat.le_of_ble_eq_true rfl) ⟨by omega, by omega⟩ dX3_begin_24 (fun v24 w24 hp24 => ?_)
  obtain ⟨rfl, hw24⟩ := hp24
  subst w24
  refine g_put (ci := 5) C rfl inTX3 tyX3 tyX3_ok nmX3 2 (by decide) fl_RX3_30 rfl rfl wset_s (Nat.le_of_ble_eq_true rfl) rfl rfl dX3_begin_27 ?_
  rw [wset_set]
  refine g_aload_n C dX3_begin_30 rfl ?_
  refine g_iload_n C dX3_begin_31 rfl ?_
  refine g_put (ci := 5) C rfl inTX3 tyX3 tyX3_ok nmX3 3 (by decide) fl_RX3_33 rfl rfl wset_s (Nat.le_of_ble_eq_true rfl) rfl rfl dX3_begin_32 ?_
  rw [wset_set]
  refine g_aload_n C dX3_begin_35 rfl ?_
  refine g_aload_n C dX3_begin_36 rfl ?_
  refine g_get (ci := 5) C rfl inTX3 2 (by decide) fl_RX3_30 rfl wset_s rfl dX3_begin_37 ?_
  refine g_put (ci := 5) C rfl inTX3 tyX3 tyX3_ok nmX3 4 (by decide) fl_RX3_36 rfl rfl wset_s (Nat.le_of_ble_eq_true rfl) rfl rfl dX3_begin_40 ?_
  rw [wset_set]
  refine g_aload_n C dX3_begin_43 rfl ?_
  refine g_iconst C dX3_begin_44 ?_
  refine g_put (ci := 5) C rfl inTX3 tyX3 tyX3_ok nmX3 5 (by decide) fl_RX3_39 rfl rfl wset_s (Nat.le_of_ble_eq_true rfl) rfl rfl dX3_begin_45 ?_
  rw [wset_set]
  refine g_aload_n C dX3_begin_48 rfl ?_
  refine g_iconst C dX3_begin_49 ?_
  refine g_put (ci := 5) C rfl inTX3 tyX3 tyX3_ok nmX3 6 (by decide) fl_RX3_42 rfl rfl wset_s (Nat.le_of_ble_eq_true rfl) rfl rfl dX3_begin_50 ?_
  rw [wset_set]
  refine g_aload_n C dX3_begin_53 rfl ?_
  refine g_iconst C dX3_begin_54 ?_
  refine g_put (ci := 5) C rfl inTX3 tyX3 tyX3_ok nmX3 7 (by decide) fl_RX3_45 rfl rfl wset_s (Nat.le_of_ble_eq_true rfl) rfl rfl dX3_begin_55 ?_
  rw [wset_set]
  exact g_return C hQ dX3_begin_58 (by omega) (by omega) ⟨rfl, by rw [oS_eq]; rfl⟩
set_option maxHeartbeats 4000000 in
set_option maxRecDepth 100000 in
theorem s_X6_runWay (l : Launch) {K : KC} {E : GE} {w : Wd} {a b p0 k0 p k : Nat} (h1 : w.2 a = some (true, oS p0 k0)) (hV : SV p k) (h2 : w.2 b = some (true, oS p k)) : St K E l yX6_runWay cX6_runWay 2 none 5 (0) (0) [.ref a, .ref b] w (fun r' w' => r' = none ∧ ∃ t, SV p t ∧ w' = wset w a (true, oS p t)) := by
  refine st_intro [some (.ref a), some (.ref b)] rfl (Nat.le_of_ble_eq_true rfl) pn_X6 ?_
  intro X C hT hRm hl hnm hQ
  obtain ⟨hRf, hRl, hRc, hRs⟩ := hRm
  refine g_wf (fun hwf => ?_)
  have hp := hV.p
  rw [oS_eq] at h1 h2
  refine g_aload_n C dX6_runWay_0 rfl ?_
  refine g_aload_n C dX6_runWay_1 rfl ?_
  refine g_get (ci := 5) C rfl inTX3 0 (by decide) fl_RX6_288 rfl h2 rfl dX6_runWay_2 ?_
  refine t_callV C hT (s_X3_begin _ hV.1 h1) (RcV.ob (ci := 5) C rfl h1) rfl ml_RX6_255 im_yX3_begin se_RX3_yX3_begin in_RX3 co_yX3_begin hd_X3_begin rfl ⟨by omega, by omega⟩ rfl (Nat.le_of_ble_eq_true rfl) ⟨by omega, by omega⟩ dX6_runWay_5 (fun v5 w5 hp5 => ?_)
  obtain ⟨rfl, hw5⟩ := hp5
  subst w5
  refine g_aload_n C dX6_runWay_8 rfl ?_
  refine g_callV C (s_X3_goOnToSettled _ (SPb_v hV.1) wset_s) (ci := 5) rfl (show (wset w a (true, oS p 0)).2 a = some (true, eO 5 _) from wset_s) rfl ml_RX6_270 im_yX3_goOnToSettled se_RX3_yX3_goOnToSettled in_RX3 co_yX3_goOnToSettled hd_X3_goOnToSettled rfl ⟨by omega, by omega⟩ rfl (Nat.le_of_ble_eq_true rfl) ⟨by omega, by omega⟩ dX6_runWay_9 (fun v9 w9 hp9 => ?_)
  obtain ⟨t9, ht9, hV9, -, -, rfl, hw9⟩ := hp9
  subst w9
  refine g_pop C dX6_runWay_12 rfl ?_
  exact g_return C hQ dX6_runWay_13 (by omega) (by omega) ⟨rfl, t9, hV9, by rw [wset_set]⟩
/-! tableswitch -/
theorem g_tin {E X own cc nL ret pc L st w k n} (C : CX E X own cc nL ret) {z dflt lo hi off : Int} {offs : Array Int} {len tgt : Nat} (d : decode cc pc = .ok (.tableswitch dflt lo hi offs, len)) (hz : -2147483648 ≤ z ∧ z < 2147483648) (h : lo ≤ z ∧ z ≤ hi) (ho : offs[(z - lo).toNat]? = some off) (ht : (pc : Int) + off = (tgt : Int))
    (kk : G E X nL tgt L st w k n) : G E X nL pc L (iI z :: st) w k n :=
  fun H locs ls h1 h2 h3 => lv_tableIn C.ex C.co d (by rw [i_tI hz.1 hz.2]; omega) (by rw [i_tI hz.1 hz.2]; omega) (by rw [i_tI hz.1 hz.2]; exact ho) ht (kk H locs ls h1 h2 h3)
theorem g_tout {E X own cc nL ret pc L st w k n} (C : CX E X own cc nL ret) {z dflt lo hi : Int} {offs : Array Int} {len tgt : Nat} (d : decode cc pc = .ok (.tableswitch dflt lo hi offs, len)) (hz : -2147483648 ≤ z ∧ z < 2147483648) (h : z < lo ∨ hi < z) (ht : (pc : Int) + dflt = (tgt : Int))
    (kk : G E X nL tgt L st w k n) : G E X nL pc L (iI z :: st) w k n :=
  fun H locs ls h1 h2 h3 => lv_tableOut C.ex C.co d (by rw [i_tI hz.1 hz.2]; exact h) ht (kk H locs ls h1 h2 h3)
set_option maxHeartbeats 4000000 in
set_option maxRecDepth 100000 in
theorem s_X3_number (l : Launch) {E : GE} {w : Wd} {a p k : Nat} {f : Nat → Int} {z : Int} (hR : SpR f p k) (hO0 : w.2 a = some (true, oS p k)) (hz : 0 ≤ z ∧ z ≤ 7) : Sp E l yX3_number cX3_number 2 (some .int) 0 (0) (0) [.ref a, iI z] w (fun r' w' => r' = some (iI (szV f z)) ∧ w' = w) := by
  refine sp_intro [some (.ref a), some (iI z)] rfl (Nat.le_of_ble_eq_true rfl) pn_X3 ?_
  intro X C hRm hl hnm hQ
  obtain ⟨hRf, hRl, hRc, hRs⟩ := hRm
  refine g_wf (fun hwf => ?_)
  obtain ⟨hV, f0, f1, f2, f3, f4, f5⟩ := hR
  have hO := hO0
  rw [oS_eq] at hO
  refine g_iload_n C dX3_number_0 rfl ?_
  rcases (show z = 0 ∨ z = 1 ∨ z = 2 ∨ z = 3 ∨ z = 4 ∨ z = 5 ∨ z = 6 ∨ z = 7 by omega) with q | q | q | q | q | q | q | q <;> subst q
  · refine g_tin (tgt := 44) C dX3_number_1 (by omega) (by omega) rfl rfl ?_
    refine g_aload_n C dX3_number_44 rfl ?_
    refine g_get (ci := 5) C rfl inTX3 0 (by decide) fl_RX3_15 rfl hO rfl dX3_number_45 ?_
    exact g_ireturn C hQ dX3_number_48 (Nat.le_refl _) (Nat.le_refl _) ⟨by unfold szV; simp [f0, f1, f2, f3, f4, f5], rfl⟩
  · refine g_tin (tgt := 49) C dX3_number_1 (by omega) (by omega) rfl rfl ?_
    refine g_aload_n C dX3_number_49 rfl ?_
    refine g_get (ci := 5) C rfl inTX3 1 (by decide) fl_RX3_23 rfl hO rfl dX3_number_50 ?_
    exact g_ireturn C hQ dX3_number_53 (Nat.le_refl _) (Nat.le_refl _) ⟨by unfold szV; simp [f0, f1, f2, f3, f4, f5], rfl⟩
  · refine g_tin (tgt := 54) C dX3_number_1 (by omega) (by omega) rfl rfl ?_
    refine g_aload_n C dX3_number_54 rfl ?_
    refine g_get (ci := 5) C rfl inTX3 2 (by decide) fl_RX3_30 rfl hO rfl dX3_number_55 ?_
    exact g_ireturn C hQ dX3_number_58 (Nat.le_refl _) (Nat.le_refl _) ⟨by unfold szV; simp [f0, f1, f2, f3, f4, f5], rfl⟩
  · refine g_tin (tgt := 59) C dX3_number_1 (by omega) (by omega) rfl rfl ?_
    refine g_aload_n C dX3_number_59 rfl ?_
    refine g_get (ci := 5) C rfl inTX3 3 (by decide) fl_RX3_33 rfl hO rfl dX3_number_60 ?_
    exact g_ireturn C hQ dX3_number_63 (Nat.le_refl _) (Nat.le_refl _) ⟨by unfold szV; simp [f0, f1, f2, f3, f4, f5], rfl⟩
  · refine g_tin (tgt := 64) C dX3_number_1 (by omega) (by omega) rfl rfl ?_
    refine g_aload_n C dX3_number_64 rfl ?_
    refine g_get (ci := 5) C rfl inTX3 4 (by decide) fl_RX3_36 rfl hO rfl dX3_number_65 ?_
    exact g_ireturn C hQ dX3_number_68 (Nat.le_refl _) (Nat.le_refl _) ⟨by unfold szV; simp [f0, f1, f2, f3, f4, f5], rfl⟩
  · refine g_tin (tgt := 69) C dX3_number_1 (by omega) (by omega) rfl rfl ?_
    refine g_aload_n C dX3_number_69 rfl ?_
    refine g_get (ci := 5) C rfl inTX3 5 (by decide) fl_RX3_39 rfl hO rfl dX3_number_70 ?_
    exact g_ireturn C hQ dX3_number_73 (Nat.le_refl _) (Nat.le_refl _) ⟨by unfold szV; simp [f0, f1, f2, f3, f4, f5], rfl⟩
  · refine g_tin (tgt := 74) C dX3_number_1 (by omega) (by omega) rfl rfl ?_
    refine g_aload_n C dX3_number_74 rfl ?_
    refine g_get (ci := 5) C rfl inTX3 6 (by decide) fl_RX3_42 rfl hO rfl dX3_number_75 ?_
    exact g_ireturn C hQ dX3_number_78 (Nat.le_refl _) (Nat.le_refl _) ⟨by unfold szV; simp [f0, f1, f2, f3, f4, f5], rfl⟩
  · refine g_tout (tgt := 79) C dX3_number_1 (by omega) (by omega) rfl ?_
    refine g_aload_n C dX3_number_79 rfl ?_
    refine g_get (ci := 5) C rfl inTX3 7 (by decide) fl_RX3_45 rfl hO rfl dX3_number_80 ?_
    exact g_ireturn C hQ dX3_number_83 (Nat.le_refl _) (Nat.le_refl _) ⟨by unfold szV; simp [f0, f1, f2, f3, f4, f5], rfl⟩
theorem aB_abs (x : Int) : (if 0 ≤ x then x else 0 - x) = aB x := by unfold aB; split <;> split <;> omega
theorem aB_sqb {x p : Int} (h : aB x ≤ p) (hp : 0 ≤ p) : 0 ≤ x * x ∧ x * x ≤ p * p := by
  have h2 : 0 ≤ aB x := by unfold aB; split <;> omega
  have e : x * x = aB x * aB x := by unfold aB; split <;> first | rfl | exact (Int.neg_mul_neg _ _).symm
  rw [e]
  exact ⟨Int.mul_nonneg h2 h2, Int.mul_le_mul h h h2 hp⟩
set_option maxHeartbeats 4000000 in
set_option maxRecDepth 100000 in
theorem s_X3_isSoundSplit (l : Launch) {K : KC} {E : GE} {w : Wd} {a p k : Nat} (hV : SV p k) (hO : w.2 a = some (true, oS p k)) : St K E l yX3_isSoundSplit cX3_isSoundSplit 1 (some .boolean) 4 (0) (0) [.ref a] w (fun r' w' => r' = some (iI 1) ∧ w' = w) := by
  refine st_intro [some (.ref a)] rfl (Nat.le_of_ble_eq_true rfl) pn_X3 ?_
  intro X C hT hRm hl hnm hQ
  obtain ⟨hRf, hRl, hRc, hRs⟩ := hRm
  refine g_wf (fun hwf => ?_)
  have hp := hV.p
  obtain ⟨v1, v2, v3, v4, v5, v6, v7, v8, v9⟩ := hV.good
  obtain ⟨u1, u2, u3⟩ := hV.wit
  have hi : ima p < p := pmN_lt (by omega) _
  have hO2 := hO
  rw [oS_eq] at hO2
  generalize hq : spS p k = q at *
  obtain ⟨sA, sB, sU, sW⟩ := q
  dsimp only at v1 v2 v3 v4 v5 v6 v7 v8 hO2
  have a1 := aB_sqb (p := 997) (show aB sA ≤ 997 by unfold aB; split <;> omega) (by omega)
  have a2 := aB_sqb (p := 997) (show aB sU ≤ 997 by omega) (by omega)
  have a3 := aB_sqb (p := 997) (show aB ((ima p : Nat) : Int) ≤ 997 by unfold aB; split <;> omega) (by omega)
  have u4 : (((ima p : Nat) : Int) * ((ima p : Nat) : Int) + 1) % (p : Int) = 0 := by
    have := congrArg (fun x : Nat => (x : Int)) u3
    simpa using this
  have aU := (show -sU ≤ aB sU ∧ sU ≤ aB sU ∧ 0 ≤ aB sU by unfold aB; split <;> omega)
  have aV := (show -sW ≤ aB sW ∧ sW ≤ aB sW ∧ 0 ≤ aB sW by unfold aB; split <;> omega)
  have b1 : 0 ≤ sA * aB sW := Int.mul_nonneg (by omega) aV.2.2
  have b2 : 0 ≤ sB * aB sU := Int.mul_nonneg v1 aU.2.2
  refine g_aload_n C dX3_isSoundSplit_0 rfl ?_
  refine g_get (ci := 5) C rfl inTX3 3 (by decide) fl_RX3_33 rfl hO2 rfl dX3_isSoundSplit_1 ?_
  refine g_i2l C dX3_isSoundSplit_4 (by omega) ?_
  refine g_aload_n C dX3_isSoundSplit_5 rfl ?_
  refine g_get (ci := 5) C rfl inTX3 3 (by decide) fl_RX3_33 rfl hO2 rfl dX3_isSoundSplit_6 ?_
  refine g_i2l C dX3_isSoundSplit_9 (by omega) ?_
  refine g_lmul C dX3_isSoundSplit_10 ?_
  refine g_aload_n C dX3_isSoundSplit_11 rfl ?_
  refine g_get (ci := 5) C rfl inTX3 5 (by decide) fl_RX3_39 rfl hO2 rfl dX3_isSoundSplit_12 ?_
  refine g_i2l C dX3_isSoundSplit_15 (by omega) ?_
  refine g_aload_n C dX3_isSoundSplit_16 rfl ?_
  refine g_get (ci := 5) C rfl inTX3 5 (by decide) fl_RX3_39 rfl hO2 rfl dX3_isSoundSplit_17 ?_
  refine g_i2l C dX3_isSoundSplit_20 (by omega) ?_
  refine g_lmul C dX3_isSoundSplit_21 ?_
  refine g_ladd C dX3_isSoundSplit_22 ?_
  refine g_aload_n C dX3_isSoundSplit_23 rfl ?_
  refine g_get (ci := 5) C rfl inTX3 0 (by decide) fl_RX3_15 rfl hO2 rfl dX3_isSoundSplit_24 ?_
  refine t_nS C hT ((s_X6_rest (l := xl X) (x := sA * sA + sU * sU) (y := (p : Int)) (by omega) (by omega)).st) 7 rfl sm_yX6_rest in_RX6 co_yX6_rest hd_X6_rest rfl ⟨by omega, by omega⟩ rfl (Nat.le_of_ble_eq_true rfl) ⟨by omega, by omega⟩ dX3_isSoundSplit_27 (fun v27 w27 hp27 => ?_)
  obtain ⟨rfl, hw27⟩ := hp27
  subst w27
  rw [v7]
  refine g_if_ne (tgt := 92) C dX3_isSoundSplit_30 (by decide) (by omega) (fun h30 => ?_) (fun h30 => ?_)
  · omega
  · refine g_aload_n C dX3_isSoundSplit_33 rfl ?_
    refine g_get (ci := 5) C rfl inTX3 2 (by decide) fl_RX3_30 rfl hO2 rfl dX3_isSoundSplit_34 ?_
    refine g_i2l C dX3_isSoundSplit_37 (by omega) ?_
    refine g_aload_n C dX3_isSoundSplit_38 rfl ?_
    refine g_get (ci := 5) C rfl inTX3 2 (by decide) fl_RX3_30 rfl hO2 rfl dX3_isSoundSplit_39 ?_
    refine g_i2l C dX3_isSoundSplit_42 (by omega) ?_
    refine g_lmul C dX3_isSoundSplit_43 ?_
    refine g_lconst (z := 1) C dX3_isSoundSplit_44 (by decide) ?_
    refine g_ladd C dX3_isSoundSplit_45 ?_
    refine g_aload_n C dX3_isSoundSplit_46 rfl ?_
    refine g_get (ci := 5) C rfl inTX3 0 (by decide) fl_RX3_15 rfl hO2 rfl dX3_isSoundSplit_47 ?_
    refine t_nS C hT ((s_X6_rest (l := xl X) (x := ((ima p : Nat) : Int) * ((ima p : Nat) : Int) + 1) (y := (p : Int)) (by omega) (by omega)).st) 7 rfl sm_yX6_rest in_RX6 co_yX6_rest hd_X6_rest rfl ⟨by omega, by omega⟩ rfl (Nat.le_of_ble_eq_true rfl) ⟨by omega, by omega⟩ dX3_isSoundSplit_50 (fun v50 w50 hp50 => ?_)
    obtain ⟨rfl, hw50⟩ := hp50
    subst w50
    rw [u4]
    refine g_if_ne (tgt := 92) C dX3_isSoundSplit_53 (by decide) (by omega) (fun h53 => ?_) (fun h53 => ?_)
    · omega
    · refine g_aload_n C dX3_isSoundSplit_56 rfl ?_
      refine g_get (ci := 5) C rfl inTX3 3 (by decide) fl_RX3_33 rfl hO2 rfl dX3_isSoundSplit_57 ?_
      refine g_aload_n C dX3_isSoundSplit_60 rfl ?_
      refine g_get (ci := 5) C rfl inTX3 6 (by decide) fl_RX3_42 rfl hO2 rfl dX3_isSoundSplit_61 ?_
      refine g_abs C ml_RX3_59 (by omega) (by omega) (by omega) (Nat.le_of_ble_eq_true rfl) (by omega) dX3_isSoundSplit_64 ?_
      rw [aB_abs]
      refine g_imul C dX3_isSoundSplit_67 ?_
      refine g_aload_n C dX3_isSoundSplit_68 rfl ?_
      refine g_get (ci := 5) C rfl inTX3 4 (by decide) fl_RX3_36 rfl hO2 rfl dX3_isSoundSplit_69 ?_
      refine g_aload_n C dX3_isSoundSplit_72 rfl ?_
      refine g_get (ci := 5) C rfl inTX3 5 (by decide) fl_RX3_39 rfl hO2 rfl dX3_isSoundSplit_73 ?_
      refine g_abs C ml_RX3_59 (by omega) (by omega) (by omega) (Nat.le_of_ble_eq_true rfl) (by omega) dX3_isSoundSplit_76 ?_
      rw [aB_abs]
      refine g_imul C dX3_isSoundSplit_79 ?_
      refine g_iadd C dX3_isSoundSplit_80 ?_
      refine g_aload_n C dX3_isSoundSplit_81 rfl ?_
      refine g_get (ci := 5) C rfl inTX3 0 (by decide) fl_RX3_15 rfl hO2 rfl dX3_isSoundSplit_82 ?_
      refine g_icmp_ne (tgt := 92) C dX3_isSoundSplit_85 (by decide) (by omega) (by omega) (fun h85 => ?_) (fun h85 => ?_)
      · omega
      · refine g_iconst C dX3_isSoundSplit_88 ?_
        refine g_goto (tgt := 93) C dX3_isSoundSplit_89 (by decide) ?_
        exact g_zreturn C hQ dX3_isSoundSplit_93 rfl (Nat.le_refl _) (Nat.le_refl _) ⟨rfl, rfl⟩
/-! arrays of objects of a class of one's own -/
theorem g_anewO {E X own cc nL ret pc L st w k n} (C : CX E X own cc nL ret) (i : Nat) {Cn : String} (hti : (tysOf E.2.1)[i]? = some (E.2.1 i, .object Cn)) (ho : va_AO Cn (xs X)) {index : Nat} (kl : Cond.classLink own index Cn ∈ GT) {z : Int} {N : Nat} (hz : z = N) (hN : N ≤ 1000000) (hk : k + 1 ≤ (xR X).cells ∧ n + N ≤ (xR X).slots) (d : decode cc pc = .ok (.anewarray index, 3))
    (kk : G E X nL (pc + 3) L (.ref w.1 :: st) (wpush w (true, eR i N (fun _ => none))) (k + 1) (n + N)) : G E X nL pc L (iI z :: st) w k n := by
  intro H locs ls h1 h2 h3
  subst hz
  have en : (Int32.ofInt (N : Int)).toNatClampNeg = N := by rw [i_nat (by omega) (by omega)]; rfl
  refine W.anew C.ex C.co C.ow (C.ts _ kl) (va_AO.use ho) rfl d rfl (by rw [i_0, i_lt (by omega) (by omega)]; omega) (by rw [en]; omega) hk.1 (by rw [en]; exact hk.2) fun cA kA comp f1 f2 f3 f4 => ?_
  rw [en]
  generalize hH1 : H.push ({ cls := cA, slots := Array.replicate N .null, vm := .none } : Cell) = H1
  have z1 : H1.size = H.size + 1 := by rw [← hH1, Array.size_push]
  have e1 : H1[H.size]? = some (arrV cA N (fun _ => .null)) := by rw [← hH1, Array.getElem?_push_size, ← arrV_new]
  have o1 : ∀ q : Nat, q < H.size → H1[q]? = H[q]? := fun q hq => by rw [← hH1, Array.getElem?_push, if_neg (Nat.ne_of_lt hq)]
  have hb : E.2.2 ≤ w.1 := by rw [← h1.1]; exact Nat.le_trans C.bs h2.1
  obtain ⟨kA', comp', k1, k2, k3, k4⟩ := (kt_i C.kt i hti).2
  have hc : cA = E.2.1 i := Option.some.inj (f1.symm.trans k4)
  subst hc
  rw [h1.1] at e1 ⊢
  exact kk H1 locs ls (h1.push e1 hb z1 o1) (h2.p1 z1 o1) h3
theorem g_aastoreO {E X own cc nL ret pc L st w k n} (C : CX E X own cc nL ret) (t0 ci : Nat) {r : vw_C} (hti : (tysOf E.2.1)[t0]? = some (E.2.1 t0, .object r.1)) (hc : clz[ci]? = some r) (i : Nat) {a N v : Nat} {b : Bool} {f : Nat → Option Nat} {vs : List Value} {z : Int} (h : w.2 a = some (true, eR t0 N f)) (hv : w.2 v = some (b, eO ci vs)) (hz : z = i) (hi : i < N ∧ i < 2147483648) (d : decode cc pc = .ok (.aastore, 1))
    (kk : G E X nL (pc + 1) L st (wset w a (true, eR t0 N (rup f i (some v)))) k n) : G E X nL pc L (.ref v :: iI z :: .ref a :: st) w k n := by
  intro H locs ls h1 h2 h3
  subst hz
  have en : (Int32.ofInt (i : Int)).toNatClampNeg = i := by rw [i_nat (by omega) (by omega)]; rfl
  obtain ⟨g1, gb⟩ := h1.2 a true _ h
  obtain ⟨r', hr', cellV, q1, q2, q3, -⟩ := (h1.2 v b _ hv).1
  have hcls := (C.kt.1.1 ci r hc).2
  obtain ⟨kA, comp, k1, k2, k3, -⟩ := (kt_i C.kt t0 hti).2
  have hcomp : comp = E.1.1 ci := Option.some.inj (k3.symm.trans hcls.1)
  subst hcomp
  obtain ⟨kC, hkC, -⟩ := hcls.2
  refine W.aast C.ex C.co g1 (fun q h => by cases h) (fun h => by cases h) k1 k2 rfl hkC (j := Int32.ofInt (i : Int)) ⟨by rw [i_0, i_lt (by omega) (by omega)]; omega, by show _ < (arrV _ _ _).slots.size; rw [arrV_size, en]; exact hi.1⟩ q1 (fun q h => by rw [q3] at h; cases h) (by rw [q2]; exact hkC) (by rw [q2]; exact va_assign hcls) rfl rfl d fun H1 e z1 oq => ?_
  refine kk H1 _ ls (h1.set ?_ (gb rfl) z1 oq) (h2.put z1 oq (gb rfl)) h3
  show H1[a]? = some (vp_cell _ _)
  rw [e, en]
  rw [vp_cell_q, vp_cell_q, arrV_store]
  congr 2
  funext q
  by_cases hq : q = i
  · subst hq
    simp [updV, rup, va_rf]
  · simp [updV, rup, hq]
/-! constructors -/
def addW (u : Wd) : Wd := wset (wpush (wpush u (true, eO 7 [.null, iI 0, iI 0])) (true, eI 18 (fun _ => 0))) u.1 (true, eO 7 [.ref (u.1 + 1), iI 0, iI 0])
theorem addW_ex {u : Wd} (h : wF u) : Ex u (addW u) := ⟨by show u.1 ≤ u.1 + 1 + 1; omega, fun a x e => by
  have := h a x e
  unfold addW
  rw [wset_n (by omega), wpush_n (by show a ≠ u.1 + 1; omega), wpush_n (by omega)]
  exact e⟩
theorem addW_WS (u : Wd) : WS (addW u) u.1 (u.1 + 1) := ⟨fun _ => 0, 0, 0, wset_s, by
  unfold addW
  rw [wset_n (by omega)]
  exact wpush_s, fun i _ => ⟨Int.le_refl (0 : Int), show (0 : Int) < B28 by decide⟩, by omega, Or.inl rfl⟩
theorem addW_WA (u : Wd) : WA (addW u) u.1 (u.1 + 1) 0 := ⟨fun _ => 0, 0, 0, wset_s, by
  unfold addW
  rw [wset_n (by omega)]
  exact wpush_s, ⟨fun i _ => ⟨Int.le_refl (0 : Int), show (0 : Int) < B28 by decide⟩, by omega, fun _ _ _ => rfl, fun h => absurd h (Nat.lt_irrefl 0)⟩, Or.inr ⟨rfl, (nv_zeros (B := B28) (f := fun _ => 0) (m := 0) (n := 18) (by omega) (fun _ _ _ => rfl)).symm⟩⟩
theorem WA.exx {w u : Wd} {a r m : Nat} {z : Int} (h : WA w a r z) (x : ExX w u m) (ha : a ≠ m) (hr : r ≠ m) : WA u a r z := by
  obtain ⟨f, k, bl, h1, h2, h3⟩ := h
  exact ⟨f, k, bl, x.2 _ _ ha h1, x.2 _ _ hr h2, h3⟩
theorem WA.kp {w u : Wd} {a r : Nat} {z : Int} (h : WA w a r z) (k : ∀ q x, q = a ∨ q = r → w.2 q = some x → u.2 q = some x) : WA u a r z := by
  obtain ⟨f, n, bl, h1, h2, h3⟩ := h
  exact ⟨f, n, bl, k _ _ (Or.inl rfl) h1, k _ _ (Or.inr rfl) h2, h3⟩
theorem WS.exx {w u : Wd} {a r m : Nat} (h : WS w a r) (x : ExX w u m) (ha : a ≠ m) (hr : r ≠ m) : WS u a r := by
  obtain ⟨f, k, bl, h1, h2, h3⟩ := h
  exact ⟨f, k, bl, x.2 _ _ ha h1, x.2 _ _ hr h2, h3⟩
theorem WS.kp {w u : Wd} {a r : Nat} (h : WS w a r) (k : ∀ q x, q = a ∨ q = r → w.2 q = some x → u.2 q = some x) : WS u a r := by
  obtain ⟨f, n, bl, h1, h2, h3⟩ := h
  exact ⟨f, n, bl, k _ _ (Or.inl rfl) h1, k _ _ (Or.inr rfl) h2, h3⟩
theorem FrW.exx {w u : Wd} {a r m : Nat} (h : FrW w u a r) (ha : w.2 a = none ∨ a = m) (hr : w.2 r = none ∨ r = m) : ExX w u m := ⟨Nat.le_of_eq h.1.symm, fun b x n e => by
  rw [h.2 b (fun q => by subst q; rcases ha with g | g; · rw [g] at e; cases e
                         · exact n g) (fun q => by subst q; rcases hr with g | g; · rw [g] at e; cases e
                                                   · exact n g)]; exact e⟩
set_option maxHeartbeats 4000000 in
set_option maxRecDepth 100000 in
theorem s_X5_new (l : Launch) {E : GE} {w : Wd} {a : Nat} (oB : w.2 a = some (true, eO 7 [.null, iI 0, iI 0])) : Sp E l yX5_init cX5_init 1 none 1 (1) (18) [.ref a] w (fun r' w' => r' = none ∧ w' = wset (wpush w (true, eI 18 (fun _ => 0))) a (true, eO 7 [.ref w.1, iI 0, iI 0])) := by
  refine sp_intro [some (.ref a)] rfl (Nat.le_of_ble_eq_true rfl) pn_X5 ?_
  intro X C hRm hl hnm hQ
  obtain ⟨hRf, hRl, hRc, hRs⟩ := hRm
  refine g_wf (fun hwf => ?_)
  have hmw : a < w.1 := hwf a _ oB
  refine g_aload_n C dX5_init_0 rfl ?_
  refine g_objInit C ml_RX5_3 (by omega) (by omega) (Nat.le_of_ble_eq_true rfl) dX5_init_1 ?_
  refine g_aload_n C dX5_init_4 rfl ?_
  refine g_bipush C dX5_init_5 (by decide) ?_
  refine g_newI C gw_arrayClass_int (N := 18) rfl (by omega) (by omega) dX5_init_7 ?_
  refine g_putF (ci := 7) C rfl inTX5 tyX5 tyX5_ok nmX5 0 (by decide) fl_RX5_9 rfl rfl hnm rfl (by rw [wpush_n (by omega)]; exact oB) (Nat.le_of_ble_eq_true rfl) rfl rfl dX5_init_9 ?_
  exact g_return C hQ dX5_init_12 (by omega) (by omega) ⟨rfl, rfl⟩
set_option maxHeartbeats 4000000 in
set_option maxRecDepth 100000 in
theorem s_X4_init (l : Launch) {E : GE} {w : Wd} {a : Nat} (oB : w.2 a = some (true, eO 6 [iI 0, iI 0])) : Sp E l yX4_init cX4_init 1 none 1 (0) (0) [.ref a] w (fun r' w' => r' = none ∧ w' = wset w a (true, eO 6 [iI 2, iI 0])) := by
  refine sp_intro [some (.ref a)] rfl (Nat.le_of_ble_eq_true rfl) pn_X4 ?_
  intro X C hRm hl hnm hQ
  obtain ⟨hRf, hRl, hRc, hRs⟩ := hRm
  refine g_wf (fun hwf => ?_)
  refine g_aload_n C dX4_init_0 rfl ?_
  refine g_objInit C ml_RX4_3 (by omega) (by omega) (Nat.le_of_ble_eq_true rfl) dX4_init_1 ?_
  refine g_aload_n C dX4_init_4 rfl ?_
  refine g_iconst C dX4_init_5 ?_
  refine g_put (ci := 6) C rfl inTX4 tyX4 tyX4_ok nmX4 0 (by decide) fl_RX4_9 rfl rfl oB (Nat.le_of_ble_eq_true rfl) rfl rfl dX4_init_6 ?_
  exact g_return C hQ dX4_init_9 (Nat.le_refl _) (Nat.le_refl _) ⟨rfl, rfl⟩
set_option maxHeartbeats 4000000 in
set_option maxRecDepth 100000 in
theorem s_X3_init (l : Launch) {K : KC} {E : GE} {w : Wd} {a : Nat} (oB : w.2 a = some (true, eO 5 [iI 0, iI 0, iI 0, iI 0, iI 0, iI 0, iI 0, iI 0])) : St K E l yX3_init cX3_init 1 none 5 (0) (0) [.ref a] w (fun r' w' => r' = none ∧ w' = wset w a (true, oS 5 0)) := by
  refine st_intro [some (.ref a)] rfl (Nat.le_of_ble_eq_true rfl) pn_X3 ?_
  intro X C hT hRm hl hnm hQ
  obtain ⟨hRf, hRl, hRc, hRs⟩ := hRm
  refine g_wf (fun hwf => ?_)
  refine g_aload_n C dX3_init_0 rfl ?_
  refine g_objInit C ml_RX3_3 (by omega) (by omega) (Nat.le_of_ble_eq_true rfl) dX3_init_1 ?_
  refine g_aload_n C dX3_init_4 rfl ?_
  refine g_iconst C dX3_init_5 ?_
  refine t_callV C hT (s_X3_begin _ (p := 5) (by decide +kernel) oB) (RcV.ob (ci := 5) C rfl oB) rfl ml_RX3_9 im_yX3_begin se_RX3_yX3_begin in_RX3 co_yX3_begin hd_X3_begin rfl ⟨by omega, by omega⟩ rfl (Nat.le_of_ble_eq_true rfl) ⟨by omega, by omega⟩ dX3_init_6 (fun v6 w6 hp6 => ?_)
  obtain ⟨rfl, hw6⟩ := hp6
  subst w6
  exact g_return C hQ dX3_init_9 (Nat.le_refl _) (Nat.le_refl _) ⟨rfl, rfl⟩
set_option maxHeartbeats 4000000 in
set_option maxRecDepth 100000 in
theorem s_X2_init (l : Launch) {K : KC} {E : GE} {w : Wd} {a : Nat} (oB : w.2 a = some (true, eO 4 [iI 0, .null, .null])) : St K E l yX2_init cX2_init 1 none 3 (4) (42) [.ref a] w (fun r' w' => r' = none ∧ w'.1 = w.1 + 4 ∧ w'.2 a = some (true, eO 4 [iI 2, .ref w.1, .ref (w.1 + 2)]) ∧ WA w' w.1 (w.1 + 1) 1 ∧ WA w' (w.1 + 2) (w.1 + 3) 0 ∧ ExX w w' a) := by
  refine st_intro [some (.ref a)] rfl (Nat.le_of_ble_eq_true rfl) pn_X2 ?_
  intro X C hT hRm hl hnm hQ
  obtain ⟨hRf, hRl, hRc, hRs⟩ := hRm
  refine g_wf (fun hwf => ?_)
  have hmw : a < w.1 := hwf a _ oB
  refine g_aload_n C dX2_init_0 rfl ?_
  refine g_objInit C ml_RX2_3 (by omega) (by omega) (Nat.le_of_ble_eq_true rfl) dX2_init_1 ?_
  refine g_aload_n C dX2_init_4 rfl ?_
  refine g_iconst C dX2_init_5 ?_
  refine g_put (ci := 4) C rfl inTX2 tyX2 tyX2_ok nmX2 0 (by decide) fl_RX2_9 rfl rfl oB (Nat.le_of_ble_eq_true rfl) rfl rfl dX2_init_6 ?_
  obtain ⟨u1, hu1⟩ : ∃ u1, u1 = wset w a (true, eO 4 [iI 2, .null, .null]) := ⟨_, rfl⟩
  refine g_eqw (w' := u1) hu1.symm ?_
  have nu1 : u1.1 = w.1 + 0 := by rw [hu1]; exact rfl
  have yu1 : ExX w u1 a := by rw [hu1]; exact ExX.set _ _ _
  have ou1 : u1.2 a = some (true, eO 4 [iI 2, .null, .null]) := by rw [hu1]; exact wset_s
  refine g_wf (fun fu1 => ?_)
  refine g_aload_n C dX2_init_9 rfl ?_
  refine g_new (ci := 7) C rfl inTX5 tyX5 tyX5_ok kl_RX2_15 ib_RX5 in_RX5 (fs := [.null, iI 0, iI 0]) (by intro j hj; repeat (first | rfl | (cases j; rfl) | (rename_i j; cases j; rfl) | omega)) (by omega) dX2_init_10 ?_
  refine g_dup C dX2_init_13 rfl ?_
  refine t_nI C hT ((s_X5_new (l := xl X) (w := wpush u1 _) (a := u1.1) wpush_s).st) 3 rfl im_yX5_init in_RX5 co_yX5_init rfl hd_X5_init rfl ⟨by omega, by omega⟩ rfl (Nat.le_of_ble_eq_true rfl) ⟨by omega, by omega⟩ dX2_init_14 (fun v14 w14 hp14 => ?_)
  obtain ⟨rfl, hw14⟩ := hp14
  subst w14
  obtain ⟨u2, hu2⟩ : ∃ u2, u2 = addW u1 := ⟨_, rfl⟩
  refine g_eqw (w' := u2) (by rw [hu2]; first | done | rfl) ?_
  have nu2 : u2.1 = w.1 + 2 := by
    have e0 : u1.1 = w.1 + 0 := nu1
    rw [hu2]; show u1.1 + 2 = _; omega
  have zu2 : Ex u1 u2 := by rw [hu2]; exact addW_ex fu1
  have yu2 : ExX u1 u2 a := zu2.exx _
  have ou2 := zu2.2 _ _ ou1
  have q0 : WA u2 w.1 (w.1 + 1) 0 := by
    have e0 := addW_WA u1
    rw [← hu2, nu1] at e0
    exact e0
  refine g_wf (fun fu2 => ?_)
  rw [nu1]
  refine g_putF (ci := 4) C rfl inTX2 tyX2 tyX2_ok nmX2 1 (by decide) fl_RX2_18 rfl rfl hnm rfl ou2 (Nat.le_of_ble_eq_true rfl) rfl rfl dX2_init_17 ?_
  obtain ⟨u3, hu3⟩ : ∃ u3, u3 = wset u2 a (true, eO 4 [iI 2, .ref w.1, .null]) := ⟨_, rfl⟩
  refine g_eqw (w' := u3) hu3.symm ?_
  have nu3 : u3.1 = w.1 + 2 := by rw [hu3]; exact nu2
  have yu3 : ExX u2 u3 a := by rw [hu3]; exact ExX.set _ _ _
  have ou3 : u3.2 a = some (true, eO 4 [iI 2, .ref w.1, .null]) := by rw [hu3]; exact wset_s
  refine g_wf (fun fu3 => ?_)
  refine g_aload_n C dX2_init_20 rfl ?_
  refine g_new (ci := 7) C rfl inTX5 tyX5 tyX5_ok kl_RX2_15 ib_RX5 in_RX5 (fs := [.null, iI 0, iI 0]) (by intro j hj; repeat (first | rfl | (cases j; rfl) | (rename_i j; cases j; rfl) | omega)) (by omega) dX2_init_21 ?_
  refine g_dup C dX2_init_24 rfl ?_
  refine t_nI C hT ((s_X5_new (l := xl X) (w := wpush u3 _) (a := u3.1) wpush_s).st) 3 rfl im_yX5_init in_RX5 co_yX5_init rfl hd_X5_init rfl ⟨by omega, by omega⟩ rfl (Nat.le_of_ble_eq_true rfl) ⟨by omega, by omega⟩ dX2_init_25 (fun v25 w25 hp25 => ?_)
  obtain ⟨rfl, hw25⟩ := hp25
  subst w25
  obtain ⟨u4, hu4⟩ : ∃ u4, u4 = addW u3 := ⟨_, rfl⟩
  refine g_eqw (w' := u4) (by rw [hu4]; first | done | rfl) ?_
  have nu4 : u4.1 = w.1 + 4 := by
    have e0 : u3.1 = w.1 + 2 := nu3
    rw [hu4]; show u3.1 + 2 = _; omega
  have zu4 : Ex u3 u4 := by rw [hu4]; exact addW_ex fu3
  have yu4 : ExX u3 u4 a := zu4.exx _
  have ou4 := zu4.2 _ _ ou3
  have q2 : WA u4 (w.1 + 2) (w.1 + 3) 0 := by
    have e0 := addW_WA u3
    rw [← hu4, nu3] at e0
    exact e0
  refine g_wf (fun fu4 => ?_)
  rw [nu3]
  refine g_putF (ci := 4) C rfl inTX2 tyX2 tyX2_ok nmX2 2 (by decide) fl_RX2_22 rfl rfl hnm rfl ou4 (Nat.le_of_ble_eq_true rfl) rfl rfl dX2_init_28 ?_
  obtain ⟨u5, hu5⟩ : ∃ u5, u5 = wset u4 a (true, eO 4 [iI 2, .ref w.1, .ref (w.1 + 2)]) := ⟨_, rfl⟩
  refine g_eqw (w' := u5) hu5.symm ?_
  have nu5 : u5.1 = w.1 + 4 := by rw [hu5]; exact nu4
  have yu5 : ExX u4 u5 a := by rw [hu5]; exact ExX.set _ _ _
  have ou5 : u5.2 a = some (true, eO 4 [iI 2, .ref w.1, .ref (w.1 + 2)]) := by rw [hu5]; exact wset_s
  refine g_wf (fun fu5 => ?_)
  have q0' : WA u5 w.1 (w.1 + 1) 0 := (((q0.exx yu3 (by first | exact Nat.ne_of_gt (Nat.lt_of_lt_of_le hmw (Nat.le_add_right _ _)) | exact Nat.ne_of_gt hmw | omega) (by first | exact Nat.ne_of_gt (Nat.lt_of_lt_of_le hmw (Nat.le_add_right _ _)) | exact Nat.ne_of_gt hmw | omega)).exx yu4 (by first | exact Nat.ne_of_gt (Nat.lt_of_lt_of_le hmw (Nat.le_add_right _ _)) | exact Nat.ne_of_gt hmw | omega) (by first | exact Nat.ne_of_gt (Nat.lt_of_lt_of_le hmw (Nat.le_add_right _ _)) | exact Nat.ne_of_gt hmw | omega)).exx yu5 (by first | exact Nat.ne_of_gt (Nat.lt_of_lt_of_le hmw (Nat.le_add_right _ _)) | exact Nat.ne_of_gt hmw | omega) (by first | exact Nat.ne_of_gt (Nat.lt_of_lt_of_le hmw (Nat.le_add_right _ _)) | exact Nat.ne_of_gt hmw | omega))
  have q2' : WA u5 (w.1 + 2) (w.1 + 3) 0 := (q2.exx yu5 (by first | exact Nat.ne_of_gt (Nat.lt_of_lt_of_le hmw (Nat.le_add_right _ _)) | exact Nat.ne_of_gt hmw | omega) (by first | exact Nat.ne_of_gt (Nat.lt_of_lt_of_le hmw (Nat.le_add_right _ _)) | exact Nat.ne_of_gt hmw | omega))
  refine g_aload_n C dX2_init_31 rfl ?_
  refine g_get (ci := 4) C rfl inTX2 1 (by decide) fl_RX2_18 rfl ou5 rfl dX2_init_32 ?_
  refine g_lconst (z := 1) C dX2_init_35 (by decide) ?_
  refine g_callV C (v_X5_setNumber _ q0'.ws (x := 1) (by omega)) (ci := 7) rfl q0'.ws.o rfl ml_RX2_25 im_yX5_setNumber se_RX5_yX5_setNumber in_RX5 co_yX5_setNumber hd_X5_setNumber rfl ⟨by omega, by omega⟩ rfl (Nat.le_of_ble_eq_true rfl) ⟨by omega, by omega⟩ dX2_init_36 (fun v36 w36 hp36 => ?_)
  obtain ⟨rfl, hws36, hfr36⟩ := hp36
  exact g_return C hQ dX2_init_39 (by omega) (by omega) ⟨rfl, hfr36.1.trans nu5, by rw [hfr36.2 a (by omega) (by omega)]; exact ou5, hws36, q2'.fr hfr36 (by omega) (by omega) (by omega) (by omega), ⟨by have := hfr36.1; omega, fun b x hb e => by
    have hbl := hwf b x e
    rw [hfr36.2 b (by omega) (by omega)]
    exact ((((yu1.tr yu2).tr yu3).tr yu4).tr yu5).2 _ _ hb e⟩⟩
set_option maxHeartbeats 4000000 in
set_option maxRecDepth 100000 in
theorem s_X0_init (l : Launch) {K : KC} {E : GE} {w : Wd} {a : Nat} (oB : w.2 a = some (true, eO 2 [.null, .null, .null, .null, .null])) : St K E l yX0_init cX0_init 1 none 2 (9) (147) [.ref a] w (fun r' w' => r' = none ∧ w'.1 = w.1 + 9 ∧ w'.2 a = some (true, eO 2 [.ref w.1, .ref (w.1 + 2), .ref (w.1 + 4), .ref (w.1 + 6), .ref (w.1 + 8)]) ∧ WS w' w.1 (w.1 + 1) ∧ WS w' (w.1 + 2) (w.1 + 3) ∧ WS w' (w.1 + 4) (w.1 + 5) ∧ WS w' (w.1 + 6) (w.1 + 7) ∧ w'.2 (w.1 + 8) = some (true, eB 63 (fun _ => 0)) ∧ ExX w w' a) := by
  refine st_intro [some (.ref a)] rfl (Nat.le_of_ble_eq_true rfl) pn_X0 ?_
  intro X C hT hRm hl hnm hQ
  obtain ⟨hRf, hRl, hRc, hRs⟩ := hRm
  refine g_wf (fun hwf => ?_)
  have hmw : a < w.1 := hwf a _ oB
  refine g_aload_n C dX0_init_0 rfl ?_
  refine g_objInit C ml_RX0_5 (by omega) (by omega) (Nat.le_of_ble_eq_true rfl) dX0_init_1 ?_
  refine g_aload_n C dX0_init_4 rfl ?_
  refine g_new (ci := 7) C rfl inTX5 tyX5 tyX5_ok kl_RX0_1 ib_RX5 in_RX5 (fs := [.null, iI 0, iI 0]) (by intro j hj; repeat (first | rfl | (cases j; rfl) | (rename_i j; cases j; rfl) | omega)) (by omega) dX0_init_5 ?_
  refine g_dup C dX0_init_8 rfl ?_
  refine t_nI C hT ((s_X5_new (l := xl X) (w := wpush w _) (a := w.1) wpush_s).st) 2 rfl im_yX5_init in_RX5 co_yX5_init rfl hd_X5_init rfl ⟨by omega, by omega⟩ rfl (Nat.le_of_ble_eq_true rfl) ⟨by omega, by omega⟩ dX0_init_9 (fun v9 w9 hp9 => ?_)
  obtain ⟨rfl, hw9⟩ := hp9
  subst w9
  obtain ⟨u1, hu1⟩ : ∃ u1, u1 = addW w := ⟨_, rfl⟩
  refine g_eqw (w' := u1) (by rw [hu1]; first | done | rfl) ?_
  have nu1 : u1.1 = w.1 + 2 := by
    have e0 : w.1 = w.1 + 0 := rfl
    rw [hu1]; show w.1 + 2 = _; omega
  have zu1 : Ex w u1 := by rw [hu1]; exact addW_ex hwf
  have yu1 : ExX w u1 a := zu1.exx _
  have ou1 := zu1.2 _ _ oB
  have q0 : WA u1 w.1 (w.1 + 1) 0 := by
    have e0 := addW_WA w
    rw [← hu1] at e0
    exact e0
  refine g_wf (fun fu1 => ?_)
  refine g_putF (ci := 2) C rfl inTX0 tyX0 tyX0_ok nmX0 0 (by decide) fl_RX0_12 rfl rfl hnm rfl ou1 (Nat.le_of_ble_eq_true rfl) rfl rfl dX0_init_12 ?_
  obtain ⟨u2, hu2⟩ : ∃ u2, u2 = wset u1 a (true, eO 2 [.ref w.1, .null, .null, .null, .null]) := ⟨_, rfl⟩
  refine g_eqw (w' := u2) hu2.symm ?_
  have nu2 : u2.1 = w.1 + 2 := by rw [hu2]; exact nu1
  have yu2 : ExX u1 u2 a := by rw [hu2]; exact ExX.set _ _ _
  have ou2 : u2.2 a = some (true, eO 2 [.ref w.1, .null, .null, .null, .null]) := by rw [hu2]; exact wset_s
  refine g_wf (fun fu2 => ?_)
  refine g_aload_n C dX0_init_15 rfl ?_
  refine g_new (ci := 7) C rfl inTX5 tyX5 tyX5_ok kl_RX0_1 ib_RX5 in_RX5 (fs := [.null, iI 0, iI 0]) (by intro j hj; repeat (first | rfl | (cases j; rfl) | (rename_i j; cases j; rfl) | omega)) (by omega) dX0_init_16 ?_
  refine g_dup C dX0_init_19 rfl ?_
  refine t_nI C hT ((s_X5_new (l := xl X) (w := wpush u2 _) (a := u2.1) wpush_s).st) 2 rfl im_yX5_init in_RX5 co_yX5_init rfl hd_X5_init rfl ⟨by omega, by omega⟩ rfl (Nat.le_of_ble_eq_true rfl) ⟨by omega, by omega⟩ dX0_init_20 (fun v20 w20 hp20 => ?_)
  obtain ⟨rfl, hw20⟩ := hp20
  subst w20
  obtain ⟨u3, hu3⟩ : ∃ u3, u3 = addW u2 := ⟨_, rfl⟩
  refine g_eqw (w' := u3) (by rw [hu3]; first | done | rfl) ?_
  have nu3 : u3.1 = w.1 + 4 := by
    have e0 : u2.1 = w.1 + 2 := nu2
    rw [hu3]; show u2.1 + 2 = _; omega
  have zu3 : Ex u2 u3 := by rw [hu3]; exact addW_ex fu2
  have yu3 : ExX u2 u3 a := zu3.exx _
  have ou3 := zu3.2 _ _ ou2
  have q2 : WA u3 (w.1 + 2) (w.1 + 3) 0 := by
    have e0 := addW_WA u2
    rw [← hu3, nu2] at e0
    exact e0
  refine g_wf (fun fu3 => ?_)
  rw [nu2]
  refine g_putF (ci := 2) C rfl inTX0 tyX0 tyX0_ok nmX0 1 (by decide) fl_RX0_18 rfl rfl hnm rfl ou3 (Nat.le_of_ble_eq_true rfl) rfl rfl dX0_init_23 ?_
  obtain ⟨u4, hu4⟩ : ∃ u4, u4 = wset u3 a (true, eO 2 [.ref w.1, .ref (w.1 + 2), .null, .null, .null]) := ⟨_, rfl⟩
  refine g_eqw (w' := u4) hu4.symm ?_
  have nu4 : u4.1 = w.1 + 4 := by rw [hu4]; exact nu3
  have yu4 : ExX u3 u4 a := by rw [hu4]; exact ExX.set _ _ _
  have ou4 : u4.2 a = some (true, eO 2 [.ref w.1, .ref (w.1 + 2), .null, .null, .null]) := by rw [hu4]; exact wset_s
  refine g_wf (fun fu4 => ?_)
  refine g_aload_n C dX0_init_26 rfl ?_
  refine g_new (ci := 7) C rfl inTX5 tyX5 tyX5_ok kl_RX0_1 ib_RX5 in_RX5 (fs := [.null, iI 0, iI 0]) (by intro j hj; repeat (first | rfl | (cases j; rfl) | (rename_i j; cases j; rfl) | omega)) (by omega) dX0_init_27 ?_
  refine g_dup C dX0_init_30 rfl ?_
  refine t_nI C hT ((s_X5_new (l := xl X) (w := wpush u4 _) (a := u4.1) wpush_s).st) 2 rfl im_yX5_init in_RX5 co_yX5_init rfl hd_X5_init rfl ⟨by omega, by omega⟩ rfl (Nat.le_of_ble_eq_true rfl) ⟨by omega, by omega⟩ dX0_init_31 (fun v31 w31 hp31 => ?_)
  obtain ⟨rfl, hw31⟩ := hp31
  subst w31
  obtain ⟨u5, hu5⟩ : ∃ u5, u5 = addW u4 := ⟨_, rfl⟩
  refine g_eqw (w' := u5) (by rw [hu5]; first | done | rfl) ?_
  have nu5 : u5.1 = w.1 + 6 := by
    have e0 : u4.1 = w.1 + 4 := nu4
    rw [hu5]; show u4.1 + 2 = _; omega
  have zu5 : Ex u4 u5 := by rw [hu5]; exact addW_ex fu4
  have yu5 : ExX u4 u5 a := zu5.exx _
  have ou5 := zu5.2 _ _ ou4
  have q4 : WA u5 (w.1 + 4) (w.1 + 5) 0 := by
    have e0 := addW_WA u4
    rw [← hu5, nu4] at e0
    exact e0
  refine g_wf (fun fu5 => ?_)
  rw [nu4]
  refine g_putF (ci := 2) C rfl inTX0 tyX0 tyX0_ok nmX0 2 (by decide) fl_RX0_21 rfl rfl hnm rfl ou5 (Nat.le_of_ble_eq_true rfl) rfl rfl dX0_init_34 ?_
  obtain ⟨u6, hu6⟩ : ∃ u6, u6 = wset u5 a (true, eO 2 [.ref w.1, .ref (w.1 + 2), .ref (w.1 + 4), .null, .null]) := ⟨_, rfl⟩
  refine g_eqw (w' := u6) hu6.symm ?_
  have nu6 : u6.1 = w.1 + 6 := by rw [hu6]; exact nu5
  have yu6 : ExX u5 u6 a := by rw [hu6]; exact ExX.set _ _ _
  have ou6 : u6.2 a = some (true, eO 2 [.ref w.1, .ref (w.1 + 2), .ref (w.1 + 4), .null, .null]) := by rw [hu6]; exact wset_s
  refine g_wf (fun fu6 => ?_)
  refine g_aload_n C dX0_init_37 rfl ?_
  refine g_new (ci := 7) C rfl inTX5 tyX5 tyX5_ok kl_RX0_1 ib_RX5 in_RX5 (fs := [.null, iI 0, iI 0]) (by intro j hj; repeat (first | rfl | (cases j; rfl) | (rename_i j; cases j; rfl) | omega)) (by omega) dX0_init_38 ?_
  refine g_dup C dX0_init_41 rfl ?_
  refine t_nI C hT ((s_X5_new (l := xl X) (w := wpush u6 _) (a := u6.1) wpush_s).st) 2 rfl im_yX5_init in_RX5 co_yX5_init rfl hd_X5_init rfl ⟨by omega, by omega⟩ rfl (Nat.le_of_ble_eq_true rfl) ⟨by omega, by omega⟩ dX0_init_42 (fun v42 w42 hp42 => ?_)
  obtain ⟨rfl, hw42⟩ := hp42
  subst w42
  obtain ⟨u7, hu7⟩ : ∃ u7, u7 = addW u6 := ⟨_, rfl⟩
  refine g_eqw (w' := u7) (by rw [hu7]; first | done | rfl) ?_
  have nu7 : u7.1 = w.1 + 8 := by
    have e0 : u6.1 = w.1 + 6 := nu6
    rw [hu7]; show u6.1 + 2 = _; omega
  have zu7 : Ex u6 u7 := by rw [hu7]; exact addW_ex fu6
  have yu7 : ExX u6 u7 a := zu7.exx _
  have ou7 := zu7.2 _ _ ou6
  have q6 : WA u7 (w.1 + 6) (w.1 + 7) 0 := by
    have e0 := addW_WA u6
    rw [← hu7, nu6] at e0
    exact e0
  refine g_wf (fun fu7 => ?_)
  rw [nu6]
  refine g_putF (ci := 2) C rfl inTX0 tyX0 tyX0_ok nmX0 3 (by decide) fl_RX0_24 rfl rfl hnm rfl ou7 (Nat.le_of_ble_eq_true rfl) rfl rfl dX0_init_45 ?_
  obtain ⟨u8, hu8⟩ : ∃ u8, u8 = wset u7 a (true, eO 2 [.ref w.1, .ref (w.1 + 2), .ref (w.1 + 4), .ref (w.1 + 6), .null]) := ⟨_, rfl⟩
  refine g_eqw (w' := u8) hu8.symm ?_
  have nu8 : u8.1 = w.1 + 8 := by rw [hu8]; exact nu7
  have yu8 : ExX u7 u8 a := by rw [hu8]; exact ExX.set _ _ _
  have ou8 : u8.2 a = some (true, eO 2 [.ref w.1, .ref (w.1 + 2), .ref (w.1 + 4), .ref (w.1 + 6), .null]) := by rw [hu8]; exact wset_s
  refine g_wf (fun fu8 => ?_)
  refine g_aload_n C dX0_init_48 rfl ?_
  refine g_bipush C dX0_init_49 (by decide) ?_
  refine g_newB C gw_arrayClass_byte (N := 63) rfl (by omega) (by omega) dX0_init_51 ?_
  obtain ⟨u9, hu9⟩ : ∃ u9, u9 = wpush u8 (true, eB 63 (fun _ => 0)) := ⟨_, rfl⟩
  refine g_eqw (w' := u9) (by rw [hu9]; first | done | rfl) ?_
  have nu9 : u9.1 = w.1 + 9 := by
    have e0 : u8.1 = w.1 + 8 := nu8
    rw [hu9]; show u8.1 + 1 = _; omega
  have zu9 : Ex u8 u9 := by rw [hu9]; exact Ex.push fu8 _
  have yu9 : ExX u8 u9 a := zu9.exx _
  have ou9 := zu9.2 _ _ ou8
  have c8 : u9.2 (w.1 + 8) = some (true, eB 63 (fun _ => 0)) := by
    have e0 : (wpush u8 (true, eB 63 (fun _ => 0))).2 u8.1 = some (true, eB 63 (fun _ => 0)) := wpush_s
    rw [← hu9, nu8] at e0
    exact e0
  refine g_wf (fun fu9 => ?_)
  rw [nu8]
  refine g_putF (ci := 2) C rfl inTX0 tyX0 tyX0_ok nmX0 4 (by decide) fl_RX0_27 rfl rfl hnm rfl ou9 (Nat.le_of_ble_eq_true rfl) rfl rfl dX0_init_53 ?_
  obtain ⟨u10, hu10⟩ : ∃ u10, u10 = wset u9 a (true, eO 2 [.ref w.1, .ref (w.1 + 2), .ref (w.1 + 4), .ref (w.1 + 6), .ref (w.1 + 8)]) := ⟨_, rfl⟩
  refine g_eqw (w' := u10) hu10.symm ?_
  have nu10 : u10.1 = w.1 + 9 := by rw [hu10]; exact nu9
  have yu10 : ExX u9 u10 a := by rw [hu10]; exact ExX.set _ _ _
  have ou10 : u10.2 a = some (true, eO 2 [.ref w.1, .ref (w.1 + 2), .ref (w.1 + 4), .ref (w.1 + 6), .ref (w.1 + 8)]) := by rw [hu10]; exact wset_s
  refine g_wf (fun fu10 => ?_)
  have q0' : WA u10 w.1 (w.1 + 1) 0 := (((((((((q0.exx yu2 (by first | exact Nat.ne_of_gt (Nat.lt_of_lt_of_le hmw (Nat.le_add_right _ _)) | exact Nat.ne_of_gt hmw | omega) (by first | exact Nat.ne_of_gt (Nat.lt_of_lt_of_le hmw (Nat.le_add_right _ _)) | exact Nat.ne_of_gt hmw | omega)).exx yu3 (by first | exact Nat.ne_of_gt (Nat.lt_of_lt_of_le hmw (Nat.le_add_right _ _)) | exact Nat.ne_of_gt hmw | omega) (by first | exact Nat.ne_of_gt (Nat.lt_of_lt_of_le hmw (Nat.le_add_right _ _)) | exact Nat.ne_of_gt hmw | omega)).exx yu4 (by first | exact Nat.ne_of_gt (Nat.lt_of_lt_of_le hmw (Nat.le_add_right _ _)) | exact Nat.ne_of_gt hmw | omega) (by first | exact Nat.ne_of_gt (Nat.lt_of_lt_of_le hmw (Nat.le_add_right _ _)) | exact Nat.ne_of_gt hmw | omega)).exx yu5 (by first | exact Nat.ne_of_gt (Nat.lt_of_lt_of_le hmw (Nat.le_add_right _ _)) | exact Nat.ne_of_gt hmw | omega) (by first | exact Nat.ne_of_gt (Nat.lt_of_lt_of_le hmw (Nat.le_add_right _ _)) | exact Nat.ne_of_gt hmw | omega)).exx yu6 (by first | exact Nat.ne_of_gt (Nat.lt_of_lt_of_le hmw (Nat.le_add_right _ _)) | exact Nat.ne_of_gt hmw | omega) (by first | exact Nat.ne_of_gt (Nat.lt_of_lt_of_le hmw (Nat.le_add_right _ _)) | exact Nat.ne_of_gt hmw | omega)).exx yu7 (by first | exact Nat.ne_of_gt (Nat.lt_of_lt_of_le hmw (Nat.le_add_right _ _)) | exact Nat.ne_of_gt hmw | omega) (by first | exact Nat.ne_of_gt (Nat.lt_of_lt_of_le hmw (Nat.le_add_right _ _)) | exact Nat.ne_of_gt hmw | omega)).exx yu8 (by first | exact Nat.ne_of_gt (Nat.lt_of_lt_of_le hmw (Nat.le_add_right _ _)) | exact Nat.ne_of_gt hmw | omega) (by first | exact Nat.ne_of_gt (Nat.lt_of_lt_of_le hmw (Nat.le_add_right _ _)) | exact Nat.ne_of_gt hmw | omega)).exx yu9 (by first | exact Nat.ne_of_gt (Nat.lt_of_lt_of_le hmw (Nat.le_add_right _ _)) | exact Nat.ne_of_gt hmw | omega) (by first | exact Nat.ne_of_gt (Nat.lt_of_lt_of_le hmw (Nat.le_add_right _ _)) | exact Nat.ne_of_gt hmw | omega)).exx yu10 (by first | exact Nat.ne_of_gt (Nat.lt_of_lt_of_le hmw (Nat.le_add_right _ _)) | exact Nat.ne_of_gt hmw | omega) (by first | exact Nat.ne_of_gt (Nat.lt_of_lt_of_le hmw (Nat.le_add_right _ _)) | exact Nat.ne_of_gt hmw | omega))
  have q2' : WA u10 (w.1 + 2) (w.1 + 3) 0 := (((((((q2.exx yu4 (by first | exact Nat.ne_of_gt (Nat.lt_of_lt_of_le hmw (Nat.le_add_right _ _)) | exact Nat.ne_of_gt hmw | omega) (by first | exact Nat.ne_of_gt (Nat.lt_of_lt_of_le hmw (Nat.le_add_right _ _)) | exact Nat.ne_of_gt hmw | omega)).exx yu5 (by first | exact Nat.ne_of_gt (Nat.lt_of_lt_of_le hmw (Nat.le_add_right _ _)) | exact Nat.ne_of_gt hmw | omega) (by first | exact Nat.ne_of_gt (Nat.lt_of_lt_of_le hmw (Nat.le_add_right _ _)) | exact Nat.ne_of_gt hmw | omega)).exx yu6 (by first | exact Nat.ne_of_gt (Nat.lt_of_lt_of_le hmw (Nat.le_add_right _ _)) | exact Nat.ne_of_gt hmw | omega) (by first | exact Nat.ne_of_gt (Nat.lt_of_lt_of_le hmw (Nat.le_add_right _ _)) | exact Nat.ne_of_gt hmw | omega)).exx yu7 (by first | exact Nat.ne_of_gt (Nat.lt_of_lt_of_le hmw (Nat.le_add_right _ _)) | exact Nat.ne_of_gt hmw | omega) (by first | exact Nat.ne_of_gt (Nat.lt_of_lt_of_le hmw (Nat.le_add_right _ _)) | exact Nat.ne_of_gt hmw | omega)).exx yu8 (by first | exact Nat.ne_of_gt (Nat.lt_of_lt_of_le hmw (Nat.le_add_right _ _)) | exact Nat.ne_of_gt hmw | omega) (by first | exact Nat.ne_of_gt (Nat.lt_of_lt_of_le hmw (Nat.le_add_right _ _)) | exact Nat.ne_of_gt hmw | omega)).exx yu9 (by first | exact Nat.ne_of_gt (Nat.lt_of_lt_of_le hmw (Nat.le_add_right _ _)) | exact Nat.ne_of_gt hmw | omega) (by first | exact Nat.ne_of_gt (Nat.lt_of_lt_of_le hmw (Nat.le_add_right _ _)) | exact Nat.ne_of_gt hmw | omega)).exx yu10 (by first | exact Nat.ne_of_gt (Nat.lt_of_lt_of_le hmw (Nat.le_add_right _ _)) | exact Nat.ne_of_gt hmw | omega) (by first | exact Nat.ne_of_gt (Nat.lt_of_lt_of_le hmw (Nat.le_add_right _ _)) | exact Nat.ne_of_gt hmw | omega))
  have q4' : WA u10 (w.1 + 4) (w.1 + 5) 0 := (((((q4.exx yu6 (by first | exact Nat.ne_of_gt (Nat.lt_of_lt_of_le hmw (Nat.le_add_right _ _)) | exact Nat.ne_of_gt hmw | omega) (by first | exact Nat.ne_of_gt (Nat.lt_of_lt_of_le hmw (Nat.le_add_right _ _)) | exact Nat.ne_of_gt hmw | omega)).exx yu7 (by first | exact Nat.ne_of_gt (Nat.lt_of_lt_of_le hmw (Nat.le_add_right _ _)) | exact Nat.ne_of_gt hmw | omega) (by first | exact Nat.ne_of_gt (Nat.lt_of_lt_of_le hmw (Nat.le_add_right _ _)) | exact Nat.ne_of_gt hmw | omega)).exx yu8 (by first | exact Nat.ne_of_gt (Nat.lt_of_lt_of_le hmw (Nat.le_add_right _ _)) | exact Nat.ne_of_gt hmw | omega) (by first | exact Nat.ne_of_gt (Nat.lt_of_lt_of_le hmw (Nat.le_add_right _ _)) | exact Nat.ne_of_gt hmw | omega)).exx yu9 (by first | exact Nat.ne_of_gt (Nat.lt_of_lt_of_le hmw (Nat.le_add_right _ _)) | exact Nat.ne_of_gt hmw | omega) (by first | exact Nat.ne_of_gt (Nat.lt_of_lt_of_le hmw (Nat.le_add_right _ _)) | exact Nat.ne_of_gt hmw | omega)).exx yu10 (by first | exact Nat.ne_of_gt (Nat.lt_of_lt_of_le hmw (Nat.le_add_right _ _)) | exact Nat.ne_of_gt hmw | omega) (by first | exact Nat.ne_of_gt (Nat.lt_of_lt_of_le hmw (Nat.le_add_right _ _)) | exact Nat.ne_of_gt hmw | omega))
  have q6' : WA u10 (w.1 + 6) (w.1 + 7) 0 := (((q6.exx yu8 (by first | exact Nat.ne_of_gt (Nat.lt_of_lt_of_le hmw (Nat.le_add_right _ _)) | exact Nat.ne_of_gt hmw | omega) (by first | exact Nat.ne_of_gt (Nat.lt_of_lt_of_le hmw (Nat.le_add_right _ _)) | exact Nat.ne_of_gt hmw | omega)).exx yu9 (by first | exact Nat.ne_of_gt (Nat.lt_of_lt_of_le hmw (Nat.le_add_right _ _)) | exact Nat.ne_of_gt hmw | omega) (by first | exact Nat.ne_of_gt (Nat.lt_of_lt_of_le hmw (Nat.le_add_right _ _)) | exact Nat.ne_of_gt hmw | omega)).exx yu10 (by first | exact Nat.ne_of_gt (Nat.lt_of_lt_of_le hmw (Nat.le_add_right _ _)) | exact Nat.ne_of_gt hmw | omega) (by first | exact Nat.ne_of_gt (Nat.lt_of_lt_of_le hmw (Nat.le_add_right _ _)) | exact Nat.ne_of_gt hmw | omega))
  have c8' : u10.2 (w.1 + 8) = some (true, eB 63 (fun _ => 0)) := (yu10.2 _ _ (by first | exact Nat.ne_of_gt (Nat.lt_of_lt_of_le hmw (Nat.le_add_right _ _)) | exact Nat.ne_of_gt hmw | omega) c8)
  exact g_return C hQ dX0_init_56 (by omega) (by omega) ⟨rfl, nu10, ou10, q0'.ws, q2'.ws, q4'.ws, q6'.ws, c8', (((((((((yu1.tr yu2).tr yu3).tr yu4).tr yu5).tr yu6).tr yu7).tr yu8).tr yu9).tr yu10)⟩
set_option maxHeartbeats 4000000 in
set_option maxRecDepth 100000 in
theorem s_X1_init (l : Launch) {K : KC} {E : GE} {w : Wd} {a : Nat} (oB : w.2 a = some (true, eO 3 [iI 0, iI 0, .null, .null, .null, .null, .null])) : St K E l yX1_init cX1_init 2 none 2 (113) (1266) [.ref a] w (fun r' w' => r' = none ∧ w'.1 = w.1 + 113 ∧ w'.2 a = some (true, eO 3 [iI 0, iI 0, .ref w.1, .ref (w.1 + 1), .ref (w.1 + 2), .ref (w.1 + 3), .ref (w.1 + 4)]) ∧ w'.2 w.1 = some (true, eI 26 (fun _ => 0)) ∧ w'.2 (w.1 + 1) = some (true, eI 26 (fun _ => 0)) ∧ w'.2 (w.1 + 2) = some (true, eI 26 (fun _ => 0)) ∧ (∃ R, w'.2 (w.1 + 3) = some (true, eR 6 27 R) ∧ ∀ j, j < 27 → R j = some (w.1 + 5 + 4 * j)) ∧ (∃ R, w'.2 (w.1 + 4) = some (true, eR 6 27 R) ∧ ∀ j, j < 27 → R j = some (w.1 + 7 + 4 * j)) ∧ (∀ j, j < 27 → WS w' (w.1 + 5 + 4 * j) (w.1 + 6 + 4 * j) ∧ WS w' (w.1 + 7 + 4 * j) (w.1 + 8 + 4 * j)) ∧ ExX w w' a) := by
  refine st_intro [some (.ref a), none] rfl (Nat.le_of_ble_eq_true rfl) pn_X1 ?_
  intro X C hT hRm hl hnm hQ
  obtain ⟨hRf, hRl, hRc, hRs⟩ := hRm
  refine g_wf (fun hwf => ?_)
  have hmw : a < w.1 := hwf a _ oB
  refine g_aload_n C dX1_init_0 rfl ?_
  refine g_objInit C ml_RX1_3 (by omega) (by omega) (Nat.le_of_ble_eq_true rfl) dX1_init_1 ?_
  refine g_aload_n C dX1_init_4 rfl ?_
  refine g_bipush C dX1_init_5 (by decide) ?_
  refine g_newI C gw_arrayClass_int (N := 26) rfl (by omega) (by omega) dX1_init_7 ?_
  obtain ⟨u1, hu1⟩ : ∃ u1, u1 = wpush w (true, eI 26 (fun _ => 0)) := ⟨_, rfl⟩
  refine g_eqw (w' := u1) (by rw [hu1]; first | done | rfl) ?_
  have nu1 : u1.1 = w.1 + 1 := by
    have e0 : w.1 = w.1 + 0 := rfl
    rw [hu1]; show w.1 + 1 = _; omega
  have zu1 : Ex w u1 := by rw [hu1]; exact Ex.push hwf _
  have yu1 : ExX w u1 a := zu1.exx _
  have ou1 := zu1.2 _ _ oB
  have c0 : u1.2 w.1 = some (true, eI 26 (fun _ => 0)) := by
    have e0 : (wpush w (true, eI 26 (fun _ => 0))).2 w.1 = some (true, eI 26 (fun _ => 0)) := wpush_s
    rw [← hu1] at e0
    exact e0
  refine g_wf (fun fu1 => ?_)
  refine g_putF (ci := 3) C rfl inTX1 tyX1 tyX1_ok nmX1 2 (by decide) fl_RX1_11 rfl rfl hnm rfl ou1 (Nat.le_of_ble_eq_true rfl) rfl rfl dX1_init_9 ?_
  obtain ⟨u2, hu2⟩ : ∃ u2, u2 = wset u1 a (true, eO 3 [iI 0, iI 0, .ref w.1, .null, .null, .null, .null]) := ⟨_, rfl⟩
  refine g_eqw (w' := u2) hu2.symm ?_
  have nu2 : u2.1 = w.1 + 1 := by rw [hu2]; exact nu1
  have yu2 : ExX u1 u2 a := by rw [hu2]; exact ExX.set _ _ _
  have ou2 : u2.2 a = some (true, eO 3 [iI 0, iI 0, .ref w.1, .null, .null, .null, .null]) := by rw [hu2]; exact wset_s
  refine g_wf (fun fu2 => ?_)
  refine g_aload_n C dX1_init_12 rfl ?_
  refine g_bipush C dX1_init_13 (by decide) ?_
  refine g_newI C gw_arrayClass_int (N := 26) rfl (by omega) (by omega) dX1_init_15 ?_
  obtain ⟨u3, hu3⟩ : ∃ u3, u3 = wpush u2 (true, eI 26 (fun _ => 0)) := ⟨_, rfl⟩
  refine g_eqw (w' := u3) (by rw [hu3]; first | done | rfl) ?_
  have nu3 : u3.1 = w.1 + 2 := by
    have e0 : u2.1 = w.1 + 1 := nu2
    rw [hu3]; show u2.1 + 1 = _; omega
  have zu3 : Ex u2 u3 := by rw [hu3]; exact Ex.push fu2 _
  have yu3 : ExX u2 u3 a := zu3.exx _
  have ou3 := zu3.2 _ _ ou2
  have c1 : u3.2 (w.1 + 1) = some (true, eI 26 (fun _ => 0)) := by
    have e0 : (wpush u2 (true, eI 26 (fun _ => 0))).2 u2.1 = some (true, eI 26 (fun _ => 0)) := wpush_s
    rw [← hu3, nu2] at e0
    exact e0
  refine g_wf (fun fu3 => ?_)
  rw [nu2]
  refine g_putF (ci := 3) C rfl inTX1 tyX1 tyX1_ok nmX1 3 (by decide) fl_RX1_15 rfl rfl hnm rfl ou3 (Nat.le_of_ble_eq_true rfl) rfl rfl dX1_init_17 ?_
  obtain ⟨u4, hu4⟩ : ∃ u4, u4 = wset u3 a (true, eO 3 [iI 0, iI 0, .ref w.1, .ref (w.1 + 1), .null, .null, .null]) := ⟨_, rfl⟩
  refine g_eqw (w' := u4) hu4.symm ?_
  have nu4 : u4.1 = w.1 + 2 := by rw [hu4]; exact nu3
  have yu4 : ExX u3 u4 a := by rw [hu4]; exact ExX.set _ _ _
  have ou4 : u4.2 a = some (true, eO 3 [iI 0, iI 0, .ref w.1, .ref (w.1 + 1), .null, .null, .null]) := by rw [hu4]; exact wset_s
  refine g_wf (fun fu4 => ?_)
  refine g_aload_n C dX1_init_20 rfl ?_
  refine g_bipush C dX1_init_21 (by decide) ?_
  refine g_newI C gw_arrayClass_int (N := 26) rfl (by omega) (by omega) dX1_init_23 ?_
  obtain ⟨u5, hu5⟩ : ∃ u5, u5 = wpush u4 (true, eI 26 (fun _ => 0)) := ⟨_, rfl⟩
  refine g_eqw (w' := u5) (by rw [hu5]; first | done | rfl) ?_
  have nu5 : u5.1 = w.1 + 3 := by
    have e0 : u4.1 = w.1 + 2 := nu4
    rw [hu5]; show u4.1 + 1 = _; omega
  have zu5 : Ex u4 u5 := by rw [hu5]; exact Ex.push fu4 _
  have yu5 : ExX u4 u5 a := zu5.exx _
  have ou5 := zu5.2 _ _ ou4
  have c2 : u5.2 (w.1 + 2) = some (true, eI 26 (fun _ => 0)) := by
    have e0 : (wpush u4 (true, eI 26 (fun _ => 0))).2 u4.1 = some (true, eI 26 (fun _ => 0)) := wpush_s
    rw [← hu5, nu4] at e0
    exact e0
  refine g_wf (fun fu5 => ?_)
  rw [nu4]
  refine g_putF (ci := 3) C rfl inTX1 tyX1 tyX1_ok nmX1 4 (by decide) fl_RX1_18 rfl rfl hnm rfl ou5 (Nat.le_of_ble_eq_true rfl) rfl rfl dX1_init_25 ?_
  obtain ⟨u6, hu6⟩ : ∃ u6, u6 = wset u5 a (true, eO 3 [iI 0, iI 0, .ref w.1, .ref (w.1 + 1), .ref (w.1 + 2), .null, .null]) := ⟨_, rfl⟩
  refine g_eqw (w' := u6) hu6.symm ?_
  have nu6 : u6.1 = w.1 + 3 := by rw [hu6]; exact nu5
  have yu6 : ExX u5 u6 a := by rw [hu6]; exact ExX.set _ _ _
  have ou6 : u6.2 a = some (true, eO 3 [iI 0, iI 0, .ref w.1, .ref (w.1 + 1), .ref (w.1 + 2), .null, .null]) := by rw [hu6]; exact wset_s
  refine g_wf (fun fu6 => ?_)
  refine g_aload_n C dX1_init_28 rfl ?_
  refine g_bipush C dX1_init_29 (by decide) ?_
  refine g_anewO C 6 rfl C.kt.2.2.2.2.2.2.1 kl_RX1_21 (N := 27) rfl (by omega) (by omega) dX1_init_31 ?_
  obtain ⟨u7, hu7⟩ : ∃ u7, u7 = wpush u6 (true, eR 6 27 (fun _ => none)) := ⟨_, rfl⟩
  refine g_eqw (w' := u7) (by rw [hu7]; first | done | rfl) ?_
  have nu7 : u7.1 = w.1 + 4 := by
    have e0 : u6.1 = w.1 + 3 := nu6
    rw [hu7]; show u6.1 + 1 = _; omega
  have zu7 : Ex u6 u7 := by rw [hu7]; exact Ex.push fu6 _
  have yu7 : ExX u6 u7 a := zu7.exx _
  have ou7 := zu7.2 _ _ ou6
  have c3 : u7.2 (w.1 + 3) = some (true, eR 6 27 (fun _ => none)) := by
    have e0 : (wpush u6 (true, eR 6 27 (fun _ => none))).2 u6.1 = some (true, eR 6 27 (fun _ => none)) := wpush_s
    rw [← hu7, nu6] at e0
    exact e0
  refine g_wf (fun fu7 => ?_)
  rw [nu6]
  refine g_putF (ci := 3) C rfl inTX1 tyX1 tyX1_ok nmX1 5 (by decide) fl_RX1_23 rfl rfl hnm rfl ou7 (Nat.le_of_ble_eq_true rfl) rfl rfl dX1_init_34 ?_
  obtain ⟨u8, hu8⟩ : ∃ u8, u8 = wset u7 a (true, eO 3 [iI 0, iI 0, .ref w.1, .ref (w.1 + 1), .ref (w.1 + 2), .ref (w.1 + 3), .null]) := ⟨_, rfl⟩
  refine g_eqw (w' := u8) hu8.symm ?_
  have nu8 : u8.1 = w.1 + 4 := by rw [hu8]; exact nu7
  have yu8 : ExX u7 u8 a := by rw [hu8]; exact ExX.set _ _ _
  have ou8 : u8.2 a = some (true, eO 3 [iI 0, iI 0, .ref w.1, .ref (w.1 + 1), .ref (w.1 + 2), .ref (w.1 + 3), .null]) := by rw [hu8]; exact wset_s
  refine g_wf (fun fu8 => ?_)
  refine g_aload_n C dX1_init_37 rfl ?_
  refine g_bipush C dX1_init_38 (by decide) ?_
  refine g_anewO C 6 rfl C.kt.2.2.2.2.2.2.1 kl_RX1_21 (N := 27) rfl (by omega) (by omega) dX1_init_40 ?_
  obtain ⟨u9, hu9⟩ : ∃ u9, u9 = wpush u8 (true, eR 6 27 (fun _ => none)) := ⟨_, rfl⟩
  refine g_eqw (w' := u9) (by rw [hu9]; first | done | rfl) ?_
  have nu9 : u9.1 = w.1 + 5 := by
    have e0 : u8.1 = w.1 + 4 := nu8
    rw [hu9]; show u8.1 + 1 = _; omega
  have zu9 : Ex u8 u9 := by rw [hu9]; exact Ex.push fu8 _
  have yu9 : ExX u8 u9 a := zu9.exx _
  have ou9 := zu9.2 _ _ ou8
  have c4 : u9.2 (w.1 + 4) = some (true, eR 6 27 (fun _ => none)) := by
    have e0 : (wpush u8 (true, eR 6 27 (fun _ => none))).2 u8.1 = some (true, eR 6 27 (fun _ => none)) := wpush_s
    rw [← hu9, nu8] at e0
    exact e0
  refine g_wf (fun fu9 => ?_)
  rw [nu8]
  refine g_putF (ci := 3) C rfl inTX1 tyX1 tyX1_ok nmX1 6 (by decide) fl_RX1_27 rfl rfl hnm rfl ou9 (Nat.le_of_ble_eq_true rfl) rfl rfl dX1_init_43 ?_
  obtain ⟨u10, hu10⟩ : ∃ u10, u10 = wset u9 a (true, eO 3 [iI 0, iI 0, .ref w.1, .ref (w.1 + 1), .ref (w.1 + 2), .ref (w.1 + 3), .ref (w.1 + 4)]) := ⟨_, rfl⟩
  refine g_eqw (w' := u10) hu10.symm ?_
  have nu10 : u10.1 = w.1 + 5 := by rw [hu10]; exact nu9
  have yu10 : ExX u9 u10 a := by rw [hu10]; exact ExX.set _ _ _
  have ou10 : u10.2 a = some (true, eO 3 [iI 0, iI 0, .ref w.1, .ref (w.1 + 1), .ref (w.1 + 2), .ref (w.1 + 3), .ref (w.1 + 4)]) := by rw [hu10]; exact wset_s
  refine g_wf (fun fu10 => ?_)
  have c0' : u10.2 w.1 = some (true, eI 26 (fun _ => 0)) := (yu10.2 _ _ (by first | exact Nat.ne_of_gt (Nat.lt_of_lt_of_le hmw (Nat.le_add_right _ _)) | exact Nat.ne_of_gt hmw | omega) (yu9.2 _ _ (by first | exact Nat.ne_of_gt (Nat.lt_of_lt_of_le hmw (Nat.le_add_right _ _)) | exact Nat.ne_of_gt hmw | omega) (yu8.2 _ _ (by first | exact Nat.ne_of_gt (Nat.lt_of_lt_of_le hmw (Nat.le_add_right _ _)) | exact Nat.ne_of_gt hmw | omega) (yu7.2 _ _ (by first | exact Nat.ne_of_gt (Nat.lt_of_lt_of_le hmw (Nat.le_add_right _ _)) | exact Nat.ne_of_gt hmw | omega) (yu6.2 _ _ (by first | exact Nat.ne_of_gt (Nat.lt_of_lt_of_le hmw (Nat.le_add_right _ _)) | exact Nat.ne_of_gt hmw | omega) (yu5.2 _ _ (by first | exact Nat.ne_of_gt (Nat.lt_of_lt_of_le hmw (Nat.le_add_right _ _)) | exact Nat.ne_of_gt hmw | omega) (yu4.2 _ _ (by first | exact Nat.ne_of_gt (Nat.lt_of_lt_of_le hmw (Nat.le_add_right _ _)) | exact Nat.ne_of_gt hmw | omega) (yu3.2 _ _ (by first | exact Nat.ne_of_gt (Nat.lt_of_lt_of_le hmw (Nat.le_add_right _ _)) | exact Nat.ne_of_gt hmw | omega) (yu2.2 _ _ (by first | exact Nat.ne_of_gt (Nat.lt_of_lt_of_le hmw (Nat.le_add_right _ _)) | exact Nat.ne_of_gt hmw | omega) c0)))))))))
  have c1' : u10.2 (w.1 + 1) = some (true, eI 26 (fun _ => 0)) := (yu10.2 _ _ (by first | exact Nat.ne_of_gt (Nat.lt_of_lt_of_le hmw (Nat.le_add_right _ _)) | exact Nat.ne_of_gt hmw | omega) (yu9.2 _ _ (by first | exact Nat.ne_of_gt (Nat.lt_of_lt_of_le hmw (Nat.le_add_right _ _)) | exact Nat.ne_of_gt hmw | omega) (yu8.2 _ _ (by first | exact Nat.ne_of_gt (Nat.lt_of_lt_of_le hmw (Nat.le_add_right _ _)) | exact Nat.ne_of_gt hmw | omega) (yu7.2 _ _ (by first | exact Nat.ne_of_gt (Nat.lt_of_lt_of_le hmw (Nat.le_add_right _ _)) | exact Nat.ne_of_gt hmw | omega) (yu6.2 _ _ (by first | exact Nat.ne_of_gt (Nat.lt_of_lt_of_le hmw (Nat.le_add_right _ _)) | exact Nat.ne_of_gt hmw | omega) (yu5.2 _ _ (by first | exact Nat.ne_of_gt (Nat.lt_of_lt_of_le hmw (Nat.le_add_right _ _)) | exact Nat.ne_of_gt hmw | omega) (yu4.2 _ _ (by first | exact Nat.ne_of_gt (Nat.lt_of_lt_of_le hmw (Nat.le_add_right _ _)) | exact Nat.ne_of_gt hmw | omega) c1)))))))
  have c2' : u10.2 (w.1 + 2) = some (true, eI 26 (fun _ => 0)) := (yu10.2 _ _ (by first | exact Nat.ne_of_gt (Nat.lt_of_lt_of_le hmw (Nat.le_add_right _ _)) | exact Nat.ne_of_gt hmw | omega) (yu9.2 _ _ (by first | exact Nat.ne_of_gt (Nat.lt_of_lt_of_le hmw (Nat.le_add_right _ _)) | exact Nat.ne_of_gt hmw | omega) (yu8.2 _ _ (by first | exact Nat.ne_of_gt (Nat.lt_of_lt_of_le hmw (Nat.le_add_right _ _)) | exact Nat.ne_of_gt hmw | omega) (yu7.2 _ _ (by first | exact Nat.ne_of_gt (Nat.lt_of_lt_of_le hmw (Nat.le_add_right _ _)) | exact Nat.ne_of_gt hmw | omega) (yu6.2 _ _ (by first | exact Nat.ne_of_gt (Nat.lt_of_lt_of_le hmw (Nat.le_add_right _ _)) | exact Nat.ne_of_gt hmw | omega) c2)))))
  have c3' : u10.2 (w.1 + 3) = some (true, eR 6 27 (fun _ => none)) := (yu10.2 _ _ (by first | exact Nat.ne_of_gt (Nat.lt_of_lt_of_le hmw (Nat.le_add_right _ _)) | exact Nat.ne_of_gt hmw | omega) (yu9.2 _ _ (by first | exact Nat.ne_of_gt (Nat.lt_of_lt_of_le hmw (Nat.le_add_right _ _)) | exact Nat.ne_of_gt hmw | omega) (yu8.2 _ _ (by first | exact Nat.ne_of_gt (Nat.lt_of_lt_of_le hmw (Nat.le_add_right _ _)) | exact Nat.ne_of_gt hmw | omega) c3)))
  have c4' : u10.2 (w.1 + 4) = some (true, eR 6 27 (fun _ => none)) := (yu10.2 _ _ (by first | exact Nat.ne_of_gt (Nat.lt_of_lt_of_le hmw (Nat.le_add_right _ _)) | exact Nat.ne_of_gt hmw | omega) c4)
  have hkeep : ∀ b x, b ≠ a → w.2 b = some x → u10.2 b = some x := (((((((((yu1.tr yu2).tr yu3).tr yu4).tr yu5).tr yu6).tr yu7).tr yu8).tr yu9).tr yu10).2
  try clear c0
  try clear c1
  try clear c2
  try clear c3
  try clear c4
  try clear hu10
  try clear zu10
  try clear yu10
  try clear hu9
  try clear zu9
  try clear yu9
  try clear nu9
  try clear fu9
  try clear ou9
  try clear hu8
  try clear zu8
  try clear yu8
  try clear nu8
  try clear fu8
  try clear ou8
  try clear hu7
  try clear zu7
  try clear yu7
  try clear nu7
  try clear fu7
  try clear ou7
  try clear hu6
  try clear zu6
  try clear yu6
  try clear nu6
  try clear fu6
  try clear ou6
  try clear hu5
  try clear zu5
  try clear yu5
  try clear nu5
  try clear fu5
  try clear ou5
  try clear hu4
  try clear zu4
  try clear yu4
  try clear nu4
  try clear fu4
  try clear ou4
  try clear hu3
  try clear zu3
  try clear yu3
  try clear nu3
  try clear fu3
  try clear ou3
  try clear hu2
  try clear zu2
  try clear yu2
  try clear nu2
  try clear fu2
  try clear ou2
  try clear hu1
  try clear zu1
  try clear yu1
  try clear nu1
  try clear fu1
  try clear ou1
  try clear u9
  try clear u8
  try clear u7
  try clear u6
  try clear u5
  try clear u4
  try clear u3
  try clear u2
  try clear u1
  refine g_iconst C dX1_init_46 ?_
  refine g_istore_n C dX1_init_47 (by decide) rfl ?_
  have hB : u10.1 = w.1 + 5 := nu10
  refine g_loop (σ := Nat × Wd × (Nat → Option Nat) × (Nat → Option Nat)) (fun s => s.1 ≤ 27 ∧ s.2.1.1 = w.1 + 5 + 4 * s.1 ∧ s.2.1.2 (w.1 + 3) = some (true, eR 6 27 s.2.2.1) ∧ s.2.1.2 (w.1 + 4) = some (true, eR 6 27 s.2.2.2) ∧ (∀ j, j < s.1 → s.2.2.1 j = some (w.1 + 5 + 4 * j) ∧ s.2.2.2 j = some (w.1 + 7 + 4 * j) ∧ WS s.2.1 (w.1 + 5 + 4 * j) (w.1 + 6 + 4 * j) ∧ WS s.2.1 (w.1 + 7 + 4 * j) (w.1 + 8 + 4 * j)) ∧ (∀ q x, q ≠ w.1 + 3 → q ≠ w.1 + 4 → u10.2 q = some x → s.2.1.2 q = some x)) (fun s => G E X 2 48 [some (.ref a), some (iI (s.1 : Int))] [] s.2.1 (5 + 4 * s.1) (132 + 42 * s.1)) (fun s => 27 - s.1) ?_ (0, u10, fun _ => none, fun _ => none) ⟨by dsimp only; omega, by dsimp only; omega, c3', c4', fun j hj => by dsimp only at hj; omega, fun q x _ _ e => e⟩
  rintro ⟨k, u, R, R2⟩ hq ih
  obtain ⟨hk, hn, hR, hR2, hW, hX⟩ := hq
  dsimp only at hk hn hR hR2 hW hX ⊢
  have oU := hX a _ (by omega) (by omega) ou10
  refine g_wf (fun fu => ?_)
  refine g_iload_n C dX1_init_48 rfl ?_
  refine g_bipush C dX1_init_49 (by decide) ?_
  refine g_icmp_ge (tgt := 86) C dX1_init_51 (by decide) (by omega) (by omega) (fun h51 => ?_) (fun h51 => ?_)
  · exact g_return C hQ dX1_init_86 (by omega) (by omega) ⟨rfl, by omega, oU, hX _ _ (by omega) (by omega) c0', hX _ _ (by omega) (by omega) c1', hX _ _ (by omega) (by omega) c2', ⟨R, hR, fun j hj => (hW j (by omega)).1⟩, ⟨R2, hR2, fun j hj => (hW j (by omega)).2.1⟩, fun j hj => (hW j (by omega)).2.2, ⟨by omega, fun b x hb e => by
      have hbl := hwf b x e
      exact hX _ _ (by omega) (by omega) (hkeep _ _ hb e)⟩⟩
  · refine g_aload_n C dX1_init_54 rfl ?_
    refine g_get (ci := 3) C rfl inTX1 5 (by decide) fl_RX1_23 rfl oU rfl dX1_init_55 ?_
    refine g_iload_n C dX1_init_58 rfl ?_
    refine g_new (ci := 7) C rfl inTX5 tyX5 tyX5_ok kl_RX1_21 ib_RX5 in_RX5 (fs := [.null, iI 0, iI 0]) (by intro j hj; repeat (first | rfl | (cases j; rfl) | (rename_i j; cases j; rfl) | omega)) ⟨by omega, by omega⟩ dX1_init_59 ?_
    refine g_dup C dX1_init_62 rfl ?_
    refine t_nI C hT ((s_X5_new (l := xl X) (w := wpush u _) (a := u.1) wpush_s).st) 0 rfl im_yX5_init in_RX5 co_yX5_init rfl hd_X5_init rfl ⟨by omega, by omega⟩ rfl (Nat.le_of_ble_eq_true rfl) ⟨by omega, by omega⟩ dX1_init_63 (fun v63 w63 hp63 => ?_)
    obtain ⟨rfl, hw63⟩ := hp63
    subst w63
    obtain ⟨ua, hua⟩ : ∃ ua, ua = addW u := ⟨_, rfl⟩
    refine g_eqw (w' := ua) (by rw [hua]; rfl) ?_
    have nua : ua.1 = u.1 + 2 := by rw [hua]; rfl
    have zua : Ex u ua := by rw [hua]; exact addW_ex fu
    have qa : WS ua u.1 (u.1 + 1) := by rw [hua]; exact addW_WS _
    refine g_wf (fun fua => ?_)
    refine g_aastoreO C 6 7 rfl rfl (k) (zua.2 _ _ hR) qa.o (by omega) (by omega) dX1_init_66 ?_
    obtain ⟨ub, hub⟩ : ∃ ub, ub = wset ua (w.1 + 3) (true, eR 6 27 (rup R k (some u.1))) := ⟨_, rfl⟩
    refine g_eqw (w' := ub) hub.symm ?_
    have nub : ub.1 = ua.1 := by rw [hub]; rfl
    have yub : ExX ua ub (w.1 + 3) := by rw [hub]; exact ExX.set _ _ _
    have hRb : ub.2 (w.1 + 3) = some (true, eR 6 27 (rup R k (some u.1))) := by rw [hub]; exact wset_s
    refine g_wf (fun fub => ?_)
    have oV := yub.2 _ _ (by omega) (zua.2 _ _ oU)
    refine g_aload_n C dX1_init_67 rfl ?_
    refine g_get (ci := 3) C rfl inTX1 6 (by decide) fl_RX1_27 rfl oV rfl dX1_init_68 ?_
    refine g_iload_n C dX1_init_71 rfl ?_
    refine g_new (ci := 7) C rfl inTX5 tyX5 tyX5_ok kl_RX1_21 ib_RX5 in_RX5 (fs := [.null, iI 0, iI 0]) (by intro j hj; repeat (first | rfl | (cases j; rfl) | (rename_i j; cases j; rfl) | omega)) ⟨by omega, by omega⟩ dX1_init_72 ?_
    refine g_dup C dX1_init_75 rfl ?_
    refine t_nI C hT ((s_X5_new (l := xl X) (w := wpush ub _) (a := ub.1) wpush_s).st) 0 rfl im_yX5_init in_RX5 co_yX5_init rfl hd_X5_init rfl ⟨by omega, by omega⟩ rfl (Nat.le_of_ble_eq_true rfl) ⟨by omega, by omega⟩ dX1_init_76 (fun v76 w76 hp76 => ?_)
    obtain ⟨rfl, hw76⟩ := hp76
    subst w76
    obtain ⟨uc, huc⟩ : ∃ uc, uc = addW ub := ⟨_, rfl⟩
    refine g_eqw (w' := uc) (by rw [huc]; rfl) ?_
    have nuc : uc.1 = ub.1 + 2 := by rw [huc]; rfl
    have zuc : Ex ub uc := by rw [huc]; exact addW_ex fub
    have qc : WS uc ub.1 (ub.1 + 1) := by rw [huc]; exact addW_WS _
    refine g_wf (fun fuc => ?_)
    refine g_aastoreO C 6 7 rfl rfl (k) (zuc.2 _ _ (yub.2 _ _ (by omega) (zua.2 _ _ hR2))) qc.o (by omega) (by omega) dX1_init_79 ?_
    obtain ⟨ud, hud⟩ : ∃ ud, ud = wset uc (w.1 + 4) (true, eR 6 27 (rup R2 k (some ub.1))) := ⟨_, rfl⟩
    refine g_eqw (w' := ud) hud.symm ?_
    have nud : ud.1 = uc.1 := by rw [hud]; rfl
    have yud : ExX uc ud (w.1 + 4) := by rw [hud]; exact ExX.set _ _ _
    have hRd : ud.2 (w.1 + 4) = some (true, eR 6 27 (rup R2 k (some ub.1))) := by rw [hud]; exact wset_s
    have hRd3 : ud.2 (w.1 + 3) = some (true, eR 6 27 (rup R k (some u.1))) := yud.2 _ _ (by omega) (zuc.2 _ _ hRb)
    have lf : ∀ {p r : Nat}, WS u p r → w.1 + 4 < p → w.1 + 4 < r → WS ud p r := fun h h1 h2 => ((((h.exx (zua.exx (w.1 + 3)) (by omega) (by omega)).exx yub (by omega) (by omega)).exx (zuc.exx (w.1 + 3)) (by omega) (by omega)).exx yud (by omega) (by omega))
    have la : WS ud u.1 (u.1 + 1) := ((qa.exx yub (by omega) (by omega)).exx (zuc.exx (w.1 + 3)) (by omega) (by omega)).exx yud (by omega) (by omega)
    have lc : WS ud ub.1 (ub.1 + 1) := qc.exx yud (by omega) (by omega)
    refine g_iinc C dX1_init_80 rfl (by decide) rfl ?_
    refine g_goto (tgt := 48) C dX1_init_83 (by decide) ?_
    rw [show (k : Int) + 1 = ((k + 1 : Nat) : Int) by omega]
    refine g_widen (k' := 5 + 4 * (k + 1)) (n' := 132 + 42 * (k + 1)) (by omega) (by omega) ?_
    exact ih (k + 1, ud, rup R k (some u.1), rup R2 k (some ub.1)) ⟨by dsimp only; omega, by dsimp only; omega, hRd3, hRd, fun j hj => by
      dsimp only at hj ⊢
      by_cases q : j = k
      · subst q
        rw [rup_s, rup_s]
        have e1 : u.1 = w.1 + 5 + 4 * j := hn
        have e2 : ub.1 = w.1 + 7 + 4 * j := by omega
        rw [e1] at la ⊢
        rw [e2] at lc ⊢
        exact ⟨rfl, rfl, by rw [show w.1 + 6 + 4 * j = w.1 + 5 + 4 * j + 1 by omega]; exact la, by rw [show w.1 + 8 + 4 * j = w.1 + 7 + 4 * j + 1 by omega]; exact lc⟩
      · rw [rup_n q, rup_n q]
        obtain ⟨g1, g2, g3, g4⟩ := hW j (by omega)
        exact ⟨g1, g2, lf g3 (by omega) (by omega), lf g4 (by omega) (by omega)⟩, fun q x h3 h4 e => yud.2 _ _ h4 (zuc.2 _ _ (yub.2 _ _ h3 (zua.2 _ _ (hX q x h3 h4 e))))⟩ (by dsimp only; omega)
/-! exceptions that leave a method, and their catching by the law's wrappers -/
abbrev sIO : String := "java/lang/IndexOutOfBoundsException"
abbrev sIA : String := "java/lang/IllegalArgumentException"
abbrev nEx : List String := ["java/lang/RuntimeException", "java/lang/Exception"]
def XcE (E : GE) (cls : String) (Post : Wd → Prop) : String → State → State → Prop := fun nm st t => nm = cls ∧ (∃ w', Post w' ∧ wOk E w' t.heap) ∧ va_F (gA E) st t
def dRt : MethodName := Bundle.initS "java/lang/RuntimeException"
def dEx : MethodName := Bundle.initS "java/lang/Exception"
def dTh : MethodName := Bundle.initS Bundle.tN
def HX (U : State) : Prop := va_Nw (.castable sIO sIO) U ∧ va_Nw (.castable sIA sIA) U ∧ va_Nc sIA sIO U ∧ va_Nw (.declares dRt) U ∧ va_Nw (.declares dEx) U ∧ va_Nw (.declares dTh) U ∧ va_Nw (.fieldLinkNest RL 13 RX7 "n" "J" RL) U ∧ va_Nw (.fieldLinkNest RL 40 RX7 "s" "Ljava/lang/String;" RL) U
theorem HX.warm {s U : State} (hW : s.WarmedH U.vm) (h : HX s) : HX U := ⟨va_Nw.warmC hW h.1, va_Nw.warmC hW h.2.1, va_Nc.moved hW.alike h.2.2.1, va_Nw.warmD hW h.2.2.2.1, va_Nw.warmD hW h.2.2.2.2.1, va_Nw.warmD hW h.2.2.2.2.2.1, va_Nw.warmF hW h.2.2.2.2.2.2.1, va_Nw.warmF hW h.2.2.2.2.2.2.2⟩
theorem HX.same {u U : State} (hv : U.vm = u.vm) (h : HX u) : HX U := ⟨va_Nw.same rfl hv.symm h.1, va_Nw.same rfl hv.symm h.2.1, va_Nc.moved (by rw [hv]; exact Vm.Alike.refl _) h.2.2.1, va_Nw.same rfl hv.symm h.2.2.2.1, va_Nw.same rfl hv.symm h.2.2.2.2.1, va_Nw.same rfl hv.symm h.2.2.2.2.2.1, va_Nw.same rfl hv.symm h.2.2.2.2.2.2.1, va_Nw.same rfl hv.symm h.2.2.2.2.2.2.2⟩
def xB (cls : String) : List Cond := [Cond.castable cls cls, Cond.declares dRt, Cond.declares dEx, Cond.declares dTh]
def PcX (K : KC) (E : GE) (av : List Value) (w : Wd) : Array Value → State → Prop := fun a U => PcT K E av w a U ∧ HX U
theorem px_blind {K : KC} {E : GE} {w : Wd} {av : List Value} : FrameBlind (PcX K E av w) := fun a U g mk q => ⟨pt_blind a U g mk q.1, HX.same (u := U) rfl q.2⟩
def Tx (K : KC) (E : GE) (l : Launch) (y : MethodName) (cc : ByteArray) (maxL : Nat) (ret : Option FieldType) (dep mc ms : Nat) (av : List Value) (w : Wd) (cls : String) (Post : Wd → Prop) : Prop :=
  vx_Met l y (Cond.code y cc maxL ret :: GT) (rmD dep mc ms) (PcX K E av w) (fun _ _ _ _ => False) (XcE E cls Post) mc ms (gA E)
def RX (E : GE) (X : XT) (mc ms : Nat) (cls : String) (Post : Wd → Prop) : Prop := xQ X = vx_MQ (xbelow X) (fun _ _ _ _ => False) (XcE E cls Post) (xargs X) (xs X) mc ms (gA E)
theorem tx_intro {K : KC} {E : GE} {l : Launch} {y : MethodName} {cc : ByteArray} {maxL : Nat} {ret : Option FieldType} {dep mc ms : Nat} {av : List Value} {w : Wd} {cls : String} {Post : Wd → Prop} (L : List (Option Value)) (hL : lA av maxL = L) (hle : (lg_sl av).length ≤ maxL) (hy : plainName y.cls = true)
    (body : ∀ X : XT, CX E X y.cls cc maxL ret → HT K E (xs X) (xs X).heap → HX (xs X) → ((xR X).frames = dep ∧ (xR X).locals = 64 * dep ∧ (xR X).cells = mc ∧ (xR X).slots = ms) → xl X = l → (∀ x ∈ (xc X).exceptionTable.toList, False) → RX E X mc ms cls Post → G E X maxL 0 L [] w 0 0) : Tx K E l y cc maxL ret dep mc ms av w cls Post := by
  refine vx_ofW (cc := cc) (maxL := maxL) (ret := ret) hy rfl ?_
  intro p e s m args below meth c s₁ B hml hne hv
  obtain ⟨⟨rfl, hw, hK, hb, hT⟩, hH⟩ := hv
  have hts := atoms_spec (ws := Cond.code y cc maxL ret :: GT) B.pre
  have b := body (p, l, e, rmD dep mc ms, s, m, av.toArray, below, meth, c, vx_MQ below (fun _ _ _ _ => False) (XcE E cls Post) av.toArray s mc ms (gA E))
    ⟨B.exec, B.bytes, hml, B.returns, B.notSynchronized, findClass_of_methodNamed B.named, fun w h => hts w (List.mem_cons_of_mem _ h), hK, hb⟩ hT hH ⟨rfl, rfl, rfl, rfl⟩ rfl hne rfl
  rw [lg_entry_eq]
  refine b s.heap [] _ hw va_S.rf ⟨(lv_entry av hle).1, (lv_entry av hle).2.1, fun i v h => ?_⟩
  subst hL
  unfold lA at h
  rw [List.getElem?_map] at h
  cases hx : (lg_sl av ++ List.replicate (maxL - (lg_sl av).length) Slot.unset)[i]? with
  | none => rw [hx] at h; cases h
  | some sl =>
    rw [hx] at h
    cases sl with
    | val u =>
      simp [slV] at h
      subst h
      rw [List.getElem?_toArray]
      exact hx
    | _ => simp [slV] at h
theorem wOk.big {E : GE} {w : Wd} {H H1 : Heap} (h : wOk E w H) (h1 : H.size ≤ H1.size) (h2 : ∀ q : Nat, q < H.size → H1[q]? = H[q]?) : wOk E (H1.size, w.2) H1 :=
  ⟨rfl, fun a b e ha => by
    obtain ⟨g1, g2⟩ := h.2 a b e ha
    exact ⟨g1.kept (h2 a g1.lt), g2⟩⟩
/-- new, dup, ldc_w, invokespecial, athrow -/
theorem x_throw {K : KC} {E X own cc nL ret pc L w k n} {mc ms : Nat} {cls : String} {Post : Wd → Prop} (C : CX E X own cc nL ret) (hT : HT K E (xs X) (xs X).heap) (hne : ∀ x ∈ (xc X).exceptionTable.toList, False) (hX : RX E X mc ms cls Post) (hl : (xl X).stackTraces = false) {text : String} {ik is ic sa : Nat}
    (hcls : Bundle.fit cls = true) (hnames : ∀ n ∈ nEx, Bundle.fit n = true) (hk : Cond.classLink own ik cls ∈ GT) (hini : Cond.initialized cls ∈ GT) (hstr : vk_R own is text sa (xs X))
    (hat1 : ∀ w ∈ (vx_atS own ic cls nEx).filter goodWord, w ∈ GT) (hat2 : ∀ w ∈ (vx_atS own ic cls nEx).filter (fun w => !goodWord w), w ∈ xB cls) (hc : va_Nw (.castable cls cls) (xs X)) (hH : HX (xs X)) (hg : ∀ w ∈ Cond.classLink own ik cls :: Cond.initialized cls :: vx_atS own ic cls nEx, vx_ot w = true)
    (d0 : decode cc pc = .ok (.new ik, 3)) (d3 : decode cc (pc + 3) = .ok (.dup, 1)) (d4 : decode cc (pc + 4) = .ok (.ldc_w is, 3)) (d7 : decode cc (pc + 7) = .ok (.invokespecial ic, 3)) (d10 : decode cc (pc + 10) = .ok (.athrow, 1))
    (hR : 5 < (xR X).frames ∧ 82 ≤ (xR X).locals) (hmc : k + 1 ≤ mc ∧ n + 6 ≤ ms ∧ mc ≤ (xR X).cells ∧ ms ≤ (xR X).slots)
    (hp : ∀ w', w.1 ≤ w'.1 → w'.2 = w.2 → Post w') : G E X nL pc L [] w k n := by
  intro H locs ls h1 h2 h3
  have hX' : xQ X = vx_MQ (xbelow X) (fun _ _ _ _ => False) (XcE E cls Post) (xargs X) (xs X) mc ms (gA E) := hX
  show W X.1 (xl X) X.2.2.1 (xR X) (xs X) (xm X) (xargs X) (xbelow X) (xmeth X) (xc X) H locs k n (xQ X) (F0 (xm X) pc ls [])
  rw [hX']
  exact vx_throwSW C.ex C.co hl C.ow hcls hnames (C.ts _ hk) (C.ts _ hini) hstr (vx_hat (fun w hw => C.ts _ (hat1 w hw)) hat2 (vx_c (va_Nw.use rfl hc) (vx_c (va_Nw.use rfl hH.2.2.2.1) (vx_c (va_Nw.use rfl hH.2.2.2.2.1) (vx_c (va_Nw.use rfl hH.2.2.2.2.2.1) vx_n))))) hg hT.2.2.2.2.2.2.1 hT.2.2.2.2.2.2.2.1 h2 (h3.1.trans C.ml.symm)
    d0 d3 d4 d7 d10 (fun x hx => (hne x hx).elim) (by show 2 + 3 < (xR X).frames; omega) (by show 0 + (13 * (2 + 1) + 43) ≤ (xR X).locals; omega) (by omega) (by omega) C.lk
    (fun t ha hz hq => ⟨rfl, ⟨(t.heap.size, w.2), hp (t.heap.size, w.2) (by show w.1 ≤ t.heap.size; rw [← h1.1]; exact hz) rfl, h1.big hz hq⟩, Nat.le_trans h2.1 hz, fun q g1 g2 => (hq q (Nat.lt_of_lt_of_le g1 h2.1)).trans (h2.2.1 q g1 g2)⟩) h2.2.2 hmc.1 hmc.2.1
/-- a static call that throws, not caught here -/
theorem x_callS {K : KC} {E X own cc nL ret pc L st st0 w k n} {mc' ms' : Nat} {cls : String} {Post Post' : Wd → Prop} (C : CX E X own cc nL ret) (hT : HT K E (xs X) (xs X).heap) (hH : HX (xs X)) (hne : ∀ x ∈ (xc X).exceptionTable.toList, False) (hX : RX E X mc' ms' cls Post') {y : MethodName} {bytes : ByteArray} {maxL : Nat} {rt : Option FieldType} {dep mc ms index nA : Nat} {av : List Value} (hS : Tx K E (xl X) y bytes maxL rt dep mc ms av w cls Post)
    (ml : Cond.methodLink own index y ∈ GT) (sm : Cond.static y ∈ GT) (ini : Cond.initialized y.cls ∈ GT) (co : Cond.code y bytes maxL rt ∈ GT)
    (hd : y.cls ≠ "java/lang/invoke/MethodHandle" ∧ y.cls ≠ "java/lang/invoke/VarHandle" ∧ (parseMethodDescriptor y.desc).map (fun d => d.parameters.length) = some nA) (hA : av.length = nA)
    (hR : dep + 1 ≤ (xR X).frames ∧ 8 + (maxL + 11) + 64 * dep ≤ (xR X).locals) (hst : st0 = av.reverse ++ st) (hcat : (st.map fun v => v.category).sum ≤ 8) (hf : k + mc ≤ (xR X).cells ∧ n + ms ≤ (xR X).slots) (hmc : k + mc ≤ mc' ∧ n + ms ≤ ms') (d : decode cc pc = .ok (.invokestatic index, 3))
    (hp : ∀ w', Post w' → Post' w') : G E X nL pc L st0 w k n := by
  intro H locs ls h1 h2 h3 T hT0 Y
  have hr := vx_runS (Ts := GT) ⟨C.ex, C.co, C.ml, C.ow, C.ts⟩ hS (va_cwS nA C.ts (gt_gi (fun w hw => by
      rcases List.mem_append.mp hw with h | h
      · simp only [List.mem_cons, List.not_mem_nil, or_false] at h
        rcases h with rfl | rfl | rfl
        · exact ml
        · exact sm
        · exact ini
      · rcases List.mem_cons.mp h with rfl | h
        · exact co
        · exact h)) rfl rfl rfl hd hR)
    ⟨px_blind, fun U hU hW => ⟨t_pre C hT h1 h2 U hU hW, HX.warm hW hH⟩⟩ (g := F0 (xm X) pc ls st0) rfl hA h3.1 hst (lv_room hcat) d hf T hT0 Y
  rcases hr with ⟨v, st₀, t, T', L9, h0, X', hL, e1, e2, hF, stp⟩ | ⟨q, st₀, t, T', L9, Ecl, ce, h0, X', hL, e1, e2, ⟨rfl, ⟨w', hp', hw'⟩, hz, hkp⟩, hce, hcv, hcl, stp⟩
  · exact hF.elim
  · rw [h0] at hz hkp
    have kx : vx_W X.1 (xl X) X.2.2.1 (xR X) (xs X) (xm X) (xargs X) (xbelow X) (xmeth X) (xc X) T'.heap (locs ++ L9) (k + mc) (n + ms) (vx_MQ (xbelow X) (fun _ _ _ _ => False) (XcE E Ecl Post') (xargs X) (xs X) mc' ms' (gA E)) (F0 (xm X) pc ls st) q := vx_out (fun x hx => (hne x hx).elim) C.lk (by rw [e1]; exact hce) hcv hcl
      (fun t2 ht2 _ => ⟨rfl, ⟨w', hp w' hp', by rw [ht2, e1]; exact hw'⟩, by rw [ht2, e1]; exact Nat.le_trans h2.1 hz, fun q g1 g2 => by
        rw [ht2, e1]
        exact (hkp q (Nat.lt_of_lt_of_le g1 h2.1) g2).trans (h2.2.1 q g1 g2)⟩)
      (fun z hz => by
        rcases List.mem_append.mp hz with h | h
        · exact h2.2.2 z h
        · exact hL z h) hmc.1 hmc.2
    obtain ⟨t2, a1, b1⟩ := kx T' rfl X'
    exact ⟨t2, stp.trans a1, by rw [show xQ X = vx_MQ (xbelow X) (fun _ _ _ _ => False) (XcE E Ecl Post') (xargs X) (xs X) mc' ms' (gA E) from hX]; exact b1⟩
/-- a plain call that throws, caught here -/
theorem x_tryV {K : KC} {E X own cc nL ret pc L st st0 w k n} {cls name : String} {Post : Wd → Prop} (C : CX E X own cc nL ret) (hT : HT K E (xs X) (xs X).heap) (hH : HX (xs X)) {y : MethodName} {bytes : ByteArray} {maxL : Nat} {rt : Option FieldType} {dep mc ms index nA : Nat} {a : Nat} {av : List Value} (hS : Tx K E (xl X) y bytes maxL rt dep mc ms (.ref a :: av) w cls Post)
    {cl : String} (ha : RcV E X w cl a) (hy : y.cls = cl) (ml : Cond.methodLink own index y ∈ GT) (im : Cond.instanceMethod y ∈ GT) (se : Cond.selects cl y y ∈ GT) (ini : Cond.initialized cl ∈ GT) (co : Cond.code y bytes maxL rt ∈ GT)
    (hd : y.cls ≠ "java/lang/invoke/MethodHandle" ∧ y.cls ≠ "java/lang/invoke/VarHandle" ∧ (parseMethodDescriptor y.desc).map (fun d => d.parameters.length) = some nA) (hA : av.length = nA)
    (hR : dep + 1 ≤ (xR X).frames ∧ 8 + (maxL + 11) + 64 * dep ≤ (xR X).locals) (hst : st0 = av.reverse ++ .ref a :: st) (hcat : (st.map fun v => v.category).sum ≤ 8) (hf : k + mc ≤ (xR X).cells ∧ n + ms ≤ (xR X).slots) (d : decode cc pc = .ok (.invokevirtual index, 3))
    (pre : List ExceptionTableEntry) (x : ExceptionTableEntry) (suf : List ExceptionTableEntry) (hsplit : (xc X).exceptionTable.toList = pre ++ x :: suf)
    (hpass : ∀ z ∈ pre, covers z pc = false ∨ (z.catchType ≠ 0 ∧ ∃ nm : String, Cond.classLink own z.catchType nm ∈ GT ∧ va_Nc cls nm (xs X))) (hx : covers x pc = true) (h0 : x.catchType ≠ 0) (hlink : Cond.classLink own x.catchType name ∈ GT) (hcast : va_Nw (.castable cls name) (xs X))
    (kk : ∀ q w', Post w' → G E X nL x.handlerPc L [.ref q] w' (k + mc) (n + ms)) : G E X nL pc L st0 w k n := by
  intro H locs ls h1 h2 h3 T hT0 Y
  have hr := vx_runV (C := cl) (Ts := GT) ⟨C.ex, C.co, C.ml, C.ow, C.ts⟩ hS (cwV nA C.ts (gt_gi (fun w hw => by
      rcases List.mem_append.mp hw with h | h
      · simp only [List.mem_cons, List.not_mem_nil, or_false] at h
        rcases h with rfl | rfl | rfl | rfl
        · exact ml
        · exact im
        · exact se
        · exact ini
      · rcases List.mem_cons.mp h with rfl | h
        · exact co
        · exact h)) rfl rfl rfl ⟨hy, hd⟩ hR)
    ⟨px_blind, ha H locs h1 h2, fun U hU hW => ⟨t_pre C hT h1 h2 U hU hW, HX.warm hW hH⟩⟩ (g := F0 (xm X) pc ls st0) rfl hA h3.1 hst (lv_room hcat) d hf T hT0 Y
  rcases hr with ⟨v, st₀, t, T', L9, h0', X', hL, e1, e2, hF, stp⟩ | ⟨q, st₀, t, T', L9, Ecl, ce, h0', X', hL, e1, e2, ⟨rfl, ⟨w', hp', hw'⟩, hz, hkp⟩, hce, hcv, hcl, stp⟩
  · exact hF.elim
  · rw [h0'] at hz hkp
    have kx : vx_W X.1 (xl X) X.2.2.1 (xR X) (xs X) (xm X) (xargs X) (xbelow X) (xmeth X) (xc X) T'.heap (locs ++ L9) (k + mc) (n + ms) (xQ X) (F0 (xm X) pc ls st) q := vx_catch C.ow pre x suf hsplit (fun z hz => by
        rcases hpass z hz with h | ⟨g1, nm, g2, g3⟩
        · exact Or.inl h
        · exact Or.inr ⟨g1, nm, C.ts _ g2, g3⟩) hx h0 (C.ts _ hlink) (va_Nw.use rfl hcast) (by rw [e1]; exact hce) hcv hcl
      (kk q w' hp' T'.heap (locs ++ L9) ls (by rw [e1]; exact hw') ⟨by rw [e1]; exact Nat.le_trans h2.1 hz, fun q g1 g2 => by
          rw [e1]
          exact (hkp q (Nat.lt_of_lt_of_le g1 h2.1) g2).trans (h2.2.1 q g1 g2), fun z hz => by
          rcases List.mem_append.mp hz with h | h
          · exact h2.2.2 z h
          · exact hL z h⟩ h3)
    obtain ⟨t2, a1, b1⟩ := kx T' rfl X'
    exact ⟨t2, stp.trans a1, b1⟩
/-- the law's wrappers: a body with handlers that always returns -/
def Th (K : KC) (E : GE) (l : Launch) (y : MethodName) (cc : ByteArray) (maxL : Nat) (ret : Option FieldType) (hh : List (Nat × Nat × Nat × Nat)) (dep mc ms : Nat) (av : List Value) (w : Wd) (Post : Option Value → Wd → Prop) : Prop :=
  vx_Met l y (Cond.codeWith y cc maxL ret hh :: GT) (rmD dep mc ms) (PcX K E av w) (Qs E Post) (fun _ _ _ => False) mc ms (gA E)
theorem th_intro {K : KC} {E : GE} {l : Launch} {y : MethodName} {cc : ByteArray} {maxL : Nat} {ret : Option FieldType} {hh : List (Nat × Nat × Nat × Nat)} {dep mc ms : Nat} {av : List Value} {w : Wd} {Post : Option Value → Wd → Prop} (L : List (Option Value)) (hL : lA av maxL = L) (hle : (lg_sl av).length ≤ maxL) (hy : plainName y.cls = true)
    (body : ∀ X : XT, CX E X y.cls cc maxL ret → HT K E (xs X) (xs X).heap → HX (xs X) → ((xR X).frames = dep ∧ (xR X).locals = 64 * dep ∧ (xR X).cells = mc ∧ (xR X).slots = ms) → xl X = l → (xc X).exceptionTable.toList = tableOf hh → RQ E X mc ms Post → G E X maxL 0 L [] w 0 0) : Th K E l y cc maxL ret hh dep mc ms av w Post := by
  refine vx_ofWH (cc := cc) (maxL := maxL) (ret := ret) (hh := hh) hy rfl ?_
  intro p e s m args below meth c s₁ B hml hv
  obtain ⟨⟨rfl, hw, hK, hb, hT⟩, hH⟩ := hv
  have hts := atoms_spec (ws := Cond.codeWith y cc maxL ret hh :: GT) B.pre
  have b := body (p, l, e, rmD dep mc ms, s, m, av.toArray, below, meth, c, MQ below (Qs E Post) av.toArray s mc ms (gA E))
    ⟨B.exec, B.bytes, hml, B.returns, B.notSynchronized, findClass_of_methodNamed B.named, fun w h => hts w (List.mem_cons_of_mem _ h), hK, hb⟩ hT hH ⟨rfl, rfl, rfl, rfl⟩ rfl (vx_table (x := y) B (hts _ List.mem_cons_self)) rfl
  refine vx_ret ?_
  rw [lg_entry_eq]
  refine b s.heap [] _ hw va_S.rf ⟨(lv_entry av hle).1, (lv_entry av hle).2.1, fun i v h => ?_⟩
  subst hL
  unfold lA at h
  rw [List.getElem?_map] at h
  cases hx : (lg_sl av ++ List.replicate (maxL - (lg_sl av).length) Slot.unset)[i]? with
  | none => rw [hx] at h; cases h
  | some sl =>
    rw [hx] at h
    cases sl with
    | val u =>
      simp [slV] at h
      subst h
      rw [List.getElem?_toArray]
      exact hx
    | _ => simp [slV] at h
theorem x_callH {K : KC} {E X own cc nL ret pc L st st0 w k n} (C : CX E X own cc nL ret) (hT : HT K E (xs X) (xs X).heap) (hH : HX (xs X)) {y : MethodName} {bytes : ByteArray} {maxL : Nat} {rt : Option FieldType} {hh : List (Nat × Nat × Nat × Nat)} {dep mc ms index nA : Nat} {av : List Value} {Post : Option Value → Wd → Prop} (hS : Th K E (xl X) y bytes maxL rt hh dep mc ms av w Post)
    (ml : Cond.methodLink own index y ∈ GT) (sm : Cond.static y ∈ GT) (ini : Cond.initialized y.cls ∈ GT) (co : Cond.codeWith y bytes maxL rt hh ∈ GT)
    (hd : y.cls ≠ "java/lang/invoke/MethodHandle" ∧ y.cls ≠ "java/lang/invoke/VarHandle" ∧ (parseMethodDescriptor y.desc).map (fun d => d.parameters.length) = some nA) (hA : av.length = nA)
    (hR : dep + 1 ≤ (xR X).frames ∧ 8 + (maxL + 11) + 64 * dep ≤ (xR X).locals) (hst : st0 = av.reverse ++ st) (hcat : (st.map fun v => v.category).sum ≤ 8) (hf : k + mc ≤ (xR X).cells ∧ n + ms ≤ (xR X).slots) (d : decode cc pc = .ok (.invokestatic index, 3))
    (kk : ∀ v w', Post v w' → G E X nL (pc + 3) L (v.toList ++ st) w' (k + mc) (n + ms)) : G E X nL pc L st0 w k n := by
  intro H locs ls h1 h2 h3 T hT0 Y
  have hr := vx_runSX (Ts := GT) ⟨C.ex, C.co, C.ml, C.ow, C.ts⟩ hS (vx_cwSW (hh := hh) nA C.ts (gt_gi (fun w hw => by
      rcases List.mem_append.mp hw with h | h
      · simp only [List.mem_cons, List.not_mem_nil, or_false] at h
        rcases h with rfl | rfl | rfl
        · exact ml
        · exact sm
        · exact ini
      · rcases List.mem_cons.mp h with rfl | h
        · exact co
        · exact h)) rfl rfl rfl hd hR)
    ⟨px_blind, fun U hU hW => ⟨t_pre C hT h1 h2 U hU hW, HX.warm hW hH⟩⟩ (g := F0 (xm X) pc ls st0) rfl hA h3.1 hst (lv_room hcat) d hf T hT0 Y
  rcases hr with ⟨v, st₀, t, T', L9, h0, X', hL, e1, e2, ⟨⟨v', w', hv, hp, hw⟩, hz, hkp⟩, stp⟩ | ⟨q, st₀, t, T', L9, Ecl, ce, h0, X', hL, e1, e2, hF, -⟩
  · cases hv
    rw [h0] at hz hkp
    rw [← e1] at hw hz hkp
    obtain ⟨t2, a1, b1⟩ := kk v w' hp T'.heap (locs ++ L9) ls hw ⟨Nat.le_trans h2.1 hz, fun q g1 g2 => (hkp q (Nat.lt_of_lt_of_le g1 h2.1) g2).trans (h2.2.1 q g1 g2), fun q hq => by
        rcases List.mem_append.mp hq with h | h
        · exact h2.2.2 q h
        · exact hL q h⟩ h3 T' rfl X'
    exact ⟨t2, stp t2 a1, b1⟩
  · exact hF.elim
/-! the class's whole state -/
/-- all but the cells with the tags of S, and the desk's own, stay -/
def KY (τ : Nat → Nat) (S : Nat → Bool) (w w' : Wd) : Prop := w.1 ≤ w'.1 ∧ ∀ a x, τ a < 340 → ¬ (200 ≤ τ a ∧ τ a < 208) → S (τ a) = false → w.2 a = some x → w'.2 a = some x
def SX (i : Nat) : Nat → Bool := fun s => decide (s = 140 + i) || (decide (208 + 4 * i ≤ s) && decide (s < 212 + 4 * i))
def SF : Nat → Bool := fun s => (decide (104 ≤ s) && decide (s ≤ 109)) || decide (232 ≤ s)
theorem SX_f {i t : Nat} (h : t ≠ 140 + i ∧ ¬ (208 + 4 * i ≤ t ∧ t < 212 + 4 * i)) : SX i t = false := by
  unfold SX
  simp only [Bool.or_eq_false_iff, Bool.and_eq_false_iff, decide_eq_false_iff_not]
  omega
theorem SF_f {t : Nat} (h : ¬ (104 ≤ t ∧ t ≤ 109) ∧ t < 232) : SF t = false := by
  unfold SF
  simp only [Bool.or_eq_false_iff, Bool.and_eq_false_iff, decide_eq_false_iff_not]
  omega
theorem SX_t {i t : Nat} (h : SX i t = false) : t ≠ 140 + i ∧ ¬ (208 + 4 * i ≤ t ∧ t < 212 + 4 * i) := by
  unfold SX at h
  simp only [Bool.or_eq_false_iff, Bool.and_eq_false_iff, decide_eq_false_iff_not] at h
  omega
theorem SF_t {t : Nat} (h : SF t = false) : ¬ (104 ≤ t ∧ t ≤ 109) ∧ t < 232 := by
  unfold SF at h
  simp only [Bool.or_eq_false_iff, Bool.and_eq_false_iff, decide_eq_false_iff_not] at h
  omega
theorem KN.ky {τ : Nat → Nat} {w w' : Wd} (h : KN τ w w') (S : Nat → Bool) : KY τ S w w' := ⟨h.1, fun a x q1 q2 _ e => h.2 a x (by omega) e⟩
theorem KX.ky {τ : Nat → Nat} {t : Nat} {w w' : Wd} (h : KX τ t w w') : KY τ (SX t) w w' := ⟨h.1, fun a x q1 q2 n e => h.2 a x q1 q2 (SX_t n).1 (SX_t n).2 e⟩
theorem KF.ky {τ : Nat → Nat} {w w' : Wd} (h : KF τ w w') : KY τ SF w w' := ⟨h.1, fun a x q1 q2 n e => h.2 a x (SF_t n).1 (by have := (SF_t n).2; omega) e⟩
theorem KY.wst {τ ad : Nat → Nat} {w : Wd} (h : NS τ ad w) {t : Nat} (ht : 100 ≤ t ∧ t < 200) (e : WdE) : KY τ (fun s => s == t) w (wset w (ad t) e) := ⟨Nat.le_refl _, fun a x _ _ n q => by
  rw [wset_n (fun c => by
    rw [c, h.t t (by omega)] at n
    simp at n)]
  exact q⟩
theorem KY.tr {τ : Nat → Nat} {S : Nat → Bool} {w u v : Wd} (h : KY τ S w u) (g : KY τ S u v) : KY τ S w v := ⟨Nat.le_trans h.1 g.1, fun a x q1 q2 n e => g.2 a x q1 q2 n (h.2 a x q1 q2 n e)⟩
theorem KY.ob {τ ad : Nat → Nat} {S : Nat → Bool} {w w' : Wd} (k : KY τ S w w') (h : NS τ ad w') {t : Nat} (ht : 100 ≤ t ∧ t < 200) (hs : S t = false) {x : WdE} (e : w.2 (ad t) = some x) : w'.2 (ad t) = some x := k.2 _ _ (by rw [h.t t (by omega)]; omega) (by rw [h.t t (by omega)]; omega) (by rw [h.t t (by omega)]; exact hs) e
theorem KY.nw {τ ad : Nat → Nat} {S : Nat → Bool} {w w' : Wd} (k : KY τ S w w') (h : NS τ ad w') {j : Nat} (hj : 4 ≤ j ∧ j < 70) (hs : S (200 + 2 * j) = false ∧ S (201 + 2 * j) = false) {z : Int} (e : NW ad w j z) : NW ad w' j z := e.k
  (fun x q => k.2 _ _ (by rw [h.to hj.2]; omega) (by rw [h.to hj.2]; omega) (by rw [h.to hj.2]; exact hs.1) q)
  (fun x q => k.2 _ _ (by rw [h.tr hj.2]; omega) (by rw [h.tr hj.2]; omega) (by rw [h.tr hj.2]; exact hs.2) q)
/-- what others own stays -/
def KO (τ : Nat → Nat) (w w' : Wd) : Prop := w.1 ≤ w'.1 ∧ ∀ a x, (τ a < 100 ∨ τ a = 199) → w.2 a = some x → w'.2 a = some x
theorem KO.rf (τ : Nat → Nat) (w : Wd) : KO τ w w := ⟨Nat.le_refl _, fun _ _ _ h => h⟩
theorem KO.tr {τ : Nat → Nat} {w u v : Wd} (h : KO τ w u) (g : KO τ u v) : KO τ w v := ⟨Nat.le_trans h.1 g.1, fun a x t e => g.2 a x t (h.2 a x t e)⟩
theorem KN.kc {τ : Nat → Nat} {w w' : Wd} (h : KN τ w w') : KO τ w w' := ⟨h.1, fun a x q e => h.2 a x (by omega) e⟩
theorem KX.kc {τ : Nat → Nat} {t : Nat} {w w' : Wd} (h : KX τ t w w') (ht : t < 59) : KO τ w w' := ⟨h.1, fun a x q e => h.2 a x (by omega) (by omega) (by omega) (by omega) e⟩
theorem KF.kc {τ : Nat → Nat} {w w' : Wd} (h : KF τ w w') : KO τ w w' := ⟨h.1, fun a x q e => h.2 a x (by omega) (by omega) e⟩
theorem KO.wst {τ ad : Nat → Nat} {w : Wd} (h : NS τ ad w) {t : Nat} (ht : 100 ≤ t ∧ t < 199) (e : WdE) : KO τ w (wset w (ad t) e) := ⟨Nat.le_refl _, fun a x q g => by
  rw [wset_n (fun c => by
    rw [c, h.t t (by omega)] at q
    omega)]
  exact g⟩
theorem KO.big {τ : Nat → Nat} {w w' : Wd} (h1 : w.1 ≤ w'.1) (h2 : w'.2 = w.2) : KO τ w w' := ⟨h1, fun a x _ e => by rw [h2]; exact e⟩
theorem KO.fr {τ : Nat → Nat} {w w' : Wd} (h : Fr w w') (hw : wF w) : KO τ w w' := ⟨h.1, fun a x _ e => by rw [h.2 a (hw a x e)]; exact e⟩
def oX (ad : Nat → Nat) (ct : Nat → Int) : Ent := eO 8 [.ref (ad 101), .ref (ad 102), .ref (ad 103), .ref (ad 104), .ref (ad 110), .ref (ad 143), .ref (ad 144), .ref (ad 145), .ref (ad 133), .ref (ad 134), iI (ct 0), iI (ct 1), iI (ct 2), iI (ct 3), iI (ct 4)]
theorem oX_eq (ad : Nat → Nat) (ct : Nat → Int) : oX ad ct = eO 8 [.ref (ad 101), .ref (ad 102), .ref (ad 103), .ref (ad 104), .ref (ad 110), .ref (ad 143), .ref (ad 144), .ref (ad 145), .ref (ad 133), .ref (ad 134), iI (ct 0), iI (ct 1), iI (ct 2), iI (ct 3), iI (ct 4)] := rfl
def AR (ad : Nat → Nat) (w : Wd) : Prop := (∃ R, w.2 (ad 101) = some (true, eR 3 3 R) ∧ ∀ i, i < 3 → R i = some (ad (120 + i))) ∧ (∃ R, w.2 (ad 102) = some (true, eR 4 3 R) ∧ ∀ i, i < 3 → R i = some (ad (140 + i))) ∧ (∃ R, w.2 (ad 103) = some (true, eR 5 3 R) ∧ ∀ i, i < 3 → R i = some (ad (130 + i)))
def WK (ad : Nat → Nat) (w : Wd) (bs ss : Nat → Int) : Prop := ∀ i, i < 3 → w.2 (ad (120 + i)) = some (true, eO 6 [iI (bs i), iI (ss i)]) ∧ GB (bs i) ∧ 0 ≤ ss i ∧ ss i ≤ 24
/-- no more than 80 bits -/
def sm (p : PT) : Prop := ¬ (LGN ≤ aB p.2.1 ∨ LGN ≤ aB p.2.2)
def PK (ad : Nat → Nat) (w : Wd) (pb : Nat → PT) : Prop := ∀ i, i < 6 → PV ad w i (pb i) ∧ GB (pb i).1 ∧ (i < 3 → sm (pb i))
def pup (f : Nat → PT) (i : Nat) (x : PT) : Nat → PT := fun j => if j = i then x else f j
theorem pup_s {f : Nat → PT} {i : Nat} {x : PT} : pup f i x i = x := if_pos rfl
theorem pup_n {f : Nat → PT} {i j : Nat} {x : PT} (h : j ≠ i) : pup f i x j = f j := if_neg h
def SK (ad : Nat → Nat) (w : Wd) (sP sQ : Nat → Nat) : Prop := ∀ i, i < 5 → w.2 (ad (130 + i)) = some (true, oS (sP i) (sQ i)) ∧ SV (sP i) (sQ i)
def FK (ad : Nat → Nat) (w : Wd) : Prop := ∃ fb fr m d a, FS ad w fb fr m d a ∧ (fb = 0 ∨ FV fb fr m d a ∧ FN ad w fb fr) ∧ -1000 ≤ fb ∧ fb ≤ 1000
def CS (τ ad : Nat → Nat) (w : Wd) (bs ss : Nat → Int) (pb : Nat → PT) (sP sQ : Nat → Nat) (ct : Nat → Int) : Prop :=
  NS τ ad w ∧ w.2 (ad 100) = some (true, oX ad ct) ∧ AR ad w ∧ WK ad w bs ss ∧ PK ad w pb ∧ SK ad w sP sQ ∧ w.2 (ad 110) = some (true, oD ad) ∧ FK ad w
section
variable {τ ad : Nat → Nat} {w w' : Wd} {bs ss : Nat → Int} {pb : Nat → PT} {sP sQ : Nat → Nat} {ct : Nat → Int}
theorem CS.N (h : CS τ ad w bs ss pb sP sQ ct) : NS τ ad w := h.1
theorem CS.o (h : CS τ ad w bs ss pb sP sQ ct) : w.2 (ad 100) = some (true, oX ad ct) := h.2.1
theorem CS.A (h : CS τ ad w bs ss pb sP sQ ct) : AR ad w := h.2.2.1
theorem CS.W (h : CS τ ad w bs ss pb sP sQ ct) : WK ad w bs ss := h.2.2.2.1
theorem CS.P (h : CS τ ad w bs ss pb sP sQ ct) : PK ad w pb := h.2.2.2.2.1
theorem CS.S (h : CS τ ad w bs ss pb sP sQ ct) : SK ad w sP sQ := h.2.2.2.2.2.1
theorem CS.D (h : CS τ ad w bs ss pb sP sQ ct) : w.2 (ad 110) = some (true, oD ad) := h.2.2.2.2.2.2.1
theorem CS.F (h : CS τ ad w bs ss pb sP sQ ct) : FK ad w := h.2.2.2.2.2.2.2
theorem AR.ky {S : Nat → Bool} (h : AR ad w) (k : KY τ S w w') (hN : NS τ ad w') (hs : S 101 = false ∧ S 102 = false ∧ S 103 = false) : AR ad w' := by
  obtain ⟨⟨R1, a1, b1⟩, ⟨R2, a2, b2⟩, ⟨R3, a3, b3⟩⟩ := h
  exact ⟨⟨R1, k.ob hN (by omega) hs.1 a1, b1⟩, ⟨R2, k.ob hN (by omega) hs.2.1 a2, b2⟩, ⟨R3, k.ob hN (by omega) hs.2.2 a3, b3⟩⟩
theorem WK.ky {S : Nat → Bool} (h : WK ad w bs ss) (k : KY τ S w w') (hN : NS τ ad w') (hs : ∀ i, i < 3 → S (120 + i) = false) : WK ad w' bs ss := fun i hi => ⟨k.ob hN (by omega) (hs i hi) (h i hi).1, (h i hi).2⟩
theorem PV.ky {S : Nat → Bool} {i : Nat} {p : PT} (h : PV ad w i p) (k : KY τ S w w') (hN : NS τ ad w') (hi : i < 6) (hs : S (140 + i) = false ∧ ∀ t, 208 + 4 * i ≤ t → t < 212 + 4 * i → S t = false) : PV ad w' i p :=
  ⟨k.ob hN (t := 140 + i) (by omega) hs.1 h.1, k.nw hN (by omega) ⟨hs.2 _ (by omega) (by omega), hs.2 _ (by omega) (by omega)⟩ h.2.1, k.nw hN (by omega) ⟨hs.2 _ (by omega) (by omega), hs.2 _ (by omega) (by omega)⟩ h.2.2⟩
theorem PK.ky {S : Nat → Bool} (h : PK ad w pb) (k : KY τ S w w') (hN : NS τ ad w') (hs : ∀ t, 140 ≤ t → t < 232 → (t < 146 ∨ 208 ≤ t) → S t = false) : PK ad w' pb := fun i hi => ⟨(h i hi).1.ky k hN hi ⟨hs _ (by omega) (by omega) (by omega), fun t h1 h2 => hs t (by omega) (by omega) (by omega)⟩, (h i hi).2⟩
theorem SK.ky {S : Nat → Bool} (h : SK ad w sP sQ) (k : KY τ S w w') (hN : NS τ ad w') (hs : ∀ i, i < 5 → S (130 + i) = false) : SK ad w' sP sQ := fun i hi => ⟨k.ob hN (by omega) (hs i hi) (h i hi).1, (h i hi).2⟩
theorem FK.ky {S : Nat → Bool} (h : FK ad w) (k : KY τ S w w') (hN : NS τ ad w') (hs : ∀ t, 104 ≤ t → t < 340 → (t ≤ 109 ∨ 232 ≤ t) → S t = false) : FK ad w' := by
  obtain ⟨fb, fr, m, d, a, ⟨h1, h2, h3, h4, ⟨R, h5, h6⟩, ⟨R2, h7, h8⟩⟩, g⟩ := h
  exact ⟨fb, fr, m, d, a, ⟨k.ob hN (t := 104) (by omega) (hs _ (by omega) (by omega) (by omega)) h1, k.ob hN (t := 105) (by omega) (hs _ (by omega) (by omega) (by omega)) h2, k.ob hN (t := 106) (by omega) (hs _ (by omega) (by omega) (by omega)) h3, k.ob hN (t := 107) (by omega) (hs _ (by omega) (by omega) (by omega)) h4, ⟨R, k.ob hN (t := 108) (by omega) (hs _ (by omega) (by omega) (by omega)) h5, h6⟩, ⟨R2, k.ob hN (t := 109) (by omega) (hs _ (by omega) (by omega) (by omega)) h7, h8⟩⟩, g.1.imp id (fun q => ⟨q.1, fun i hi => ⟨k.nw hN (by omega) ⟨hs _ (by omega) (by omega) (by omega), hs _ (by omega) (by omega) (by omega)⟩ (q.2 i hi).1, k.nw hN (by omega) ⟨hs _ (by omega) (by omega) (by omega), hs _ (by omega) (by omega) (by omega)⟩ (q.2 i hi).2⟩⟩), g.2⟩
theorem CS.kn (h : CS τ ad w bs ss pb sP sQ ct) (k : KN τ w w') (hN : NS τ ad w') : CS τ ad w' bs ss pb sP sQ ct := by
  have y := k.ky (fun _ => false)
  exact ⟨hN, y.ob hN (by omega) rfl h.o, h.A.ky y hN ⟨rfl, rfl, rfl⟩, h.W.ky y hN (fun _ _ => rfl), h.P.ky y hN (fun _ _ _ _ => rfl), h.S.ky y hN (fun _ _ => rfl), y.ob hN (by omega) rfl h.D, h.F.ky y hN (fun _ _ _ _ => rfl)⟩
theorem CS.kf (h : CS τ ad w bs ss pb sP sQ ct) (k : KF τ w w') (hN : NS τ ad w') (hF : FK ad w') : CS τ ad w' bs ss pb sP sQ ct := by
  have y := k.ky
  have f : ∀ t, ¬ (104 ≤ t ∧ t ≤ 109) ∧ t < 232 → SF t = false := fun t ht => SF_f ht
  exact ⟨hN, y.ob hN (by omega) (f _ (by omega)) h.o, h.A.ky y hN ⟨f _ (by omega), f _ (by omega), f _ (by omega)⟩, h.W.ky y hN (fun i _ => f _ (by omega)), h.P.ky y hN (fun t h1 h2 _ => f t (by omega)), h.S.ky y hN (fun i _ => f _ (by omega)), y.ob hN (by omega) (f _ (by omega)) h.D, hF⟩
theorem CS.kx (h : CS τ ad w bs ss pb sP sQ ct) {i : Nat} {p : PT} (hi : i < 6) (k : KX τ i w w') (hN : NS τ ad w') (hP : PV ad w' i p) (hb : GB p.1) (hs : i < 3 → sm p) : CS τ ad w' bs ss (pup pb i p) sP sQ ct := by
  have y := k.ky
  have f : ∀ t, t ≠ 140 + i ∧ ¬ (208 + 4 * i ≤ t ∧ t < 212 + 4 * i) → SX i t = false := fun t ht => SX_f ht
  refine ⟨hN, y.ob hN (by omega) (f _ (by omega)) h.o, h.A.ky y hN ⟨f _ (by omega), f _ (by omega), f _ (by omega)⟩, h.W.ky y hN (fun i _ => f _ (by omega)), fun j hj => ?_, h.S.ky y hN (fun i _ => f _ (by omega)), y.ob hN (by omega) (f _ (by omega)) h.D, h.F.ky y hN (fun t _ _ _ => f _ (by omega))⟩
  by_cases q : j = i
  · subst q; rw [pup_s]; exact ⟨hP, hb, hs⟩
  · rw [pup_n q]; exact ⟨(h.P j hj).1.ky y hN hj ⟨f _ (by omega), fun t h1 h2 => f t (by omega)⟩, (h.P j hj).2⟩
theorem CS.sw (h : CS τ ad w bs ss pb sP sQ ct) {i : Nat} {b s : Int} (hi : i < 3) (hb : GB b) (hs : 0 ≤ s ∧ s ≤ 24) : CS τ ad (wset w (ad (120 + i)) (true, eO 6 [iI b, iI s])) (iup bs i b) (iup ss i s) pb sP sQ ct ∧ KO τ w (wset w (ad (120 + i)) (true, eO 6 [iI b, iI s])) := by
  have hN := h.N.wst (t := 120 + i) (by omega) (true, eO 6 [iI b, iI s])
  have y := KY.wst h.N (t := 120 + i) (by omega) (true, eO 6 [iI b, iI s])
  have f : ∀ t, t ≠ 120 + i → (t == 120 + i) = false := fun t ht => by simpa using ht
  refine ⟨⟨hN, y.ob hN (by omega) (f _ (by omega)) h.o, h.A.ky y hN ⟨f _ (by omega), f _ (by omega), f _ (by omega)⟩, fun j hj => ?_, h.P.ky y hN (fun t _ _ _ => f _ (by omega)), h.S.ky y hN (fun i _ => f _ (by omega)), y.ob hN (by omega) (f _ (by omega)) h.D, h.F.ky y hN (fun t _ _ _ => f _ (by omega))⟩, KO.wst h.N (by omega) _⟩
  by_cases q : j = i
  · subst q; rw [iup_s, iup_s]; exact ⟨wset_s, hb, hs⟩
  · rw [iup_n q, iup_n q]; exact ⟨y.ob hN (by omega) (f _ (by omega)) (h.W j hj).1, (h.W j hj).2⟩
def nup (f : Nat → Nat) (i x : Nat) : Nat → Nat := fun j => if j = i then x else f j
theorem nup_s {f : Nat → Nat} {i x : Nat} : nup f i x i = x := if_pos rfl
theorem nup_n {f : Nat → Nat} {i j x : Nat} (h : j ≠ i) : nup f i x j = f j := if_neg h
theorem CS.sp (h : CS τ ad w bs ss pb sP sQ ct) {i p k : Nat} (hi : i < 5) (hV : SV p k) : CS τ ad (wset w (ad (130 + i)) (true, oS p k)) bs ss pb (nup sP i p) (nup sQ i k) ct ∧ KO τ w (wset w (ad (130 + i)) (true, oS p k)) := by
  have hN := h.N.wst (t := 130 + i) (by omega) (true, oS p k)
  have y := KY.wst h.N (t := 130 + i) (by omega) (true, oS p k)
  have f : ∀ t, t ≠ 130 + i → (t == 130 + i) = false := fun t ht => by simpa using ht
  refine ⟨⟨hN, y.ob hN (by omega) (f _ (by omega)) h.o, h.A.ky y hN ⟨f _ (by omega), f _ (by omega), f _ (by omega)⟩, h.W.ky y hN (fun i _ => f _ (by omega)), h.P.ky y hN (fun t _ _ _ => f _ (by omega)), fun j hj => ?_, y.ob hN (by omega) (f _ (by omega)) h.D, h.F.ky y hN (fun t _ _ _ => f _ (by omega))⟩, KO.wst h.N (by omega) _⟩
  by_cases q : j = i
  · subst q; rw [nup_s, nup_s]; exact ⟨wset_s, hV⟩
  · rw [nup_n q, nup_n q]; exact ⟨y.ob hN (by omega) (f _ (by omega)) (h.S j hj).1, (h.S j hj).2⟩
theorem CS.so (h : CS τ ad w bs ss pb sP sQ ct) (ct' : Nat → Int) : CS τ ad (wset w (ad 100) (true, oX ad ct')) bs ss pb sP sQ ct' ∧ KO τ w (wset w (ad 100) (true, oX ad ct')) := by
  have hN := h.N.wst (t := 100) (by omega) (true, oX ad ct')
  have y := KY.wst h.N (t := 100) (by omega) (true, oX ad ct')
  have f : ∀ t, t ≠ 100 → (t == 100) = false := fun t ht => by simpa using ht
  exact ⟨⟨hN, wset_s, h.A.ky y hN ⟨f _ (by omega), f _ (by omega), f _ (by omega)⟩, h.W.ky y hN (fun i _ => f _ (by omega)), h.P.ky y hN (fun t _ _ _ => f _ (by omega)), h.S.ky y hN (fun i _ => f _ (by omega)), y.ob hN (by omega) (f _ (by omega)) h.D, h.F.ky y hN (fun t _ _ _ => f _ (by omega))⟩, KO.wst h.N (by omega) _⟩
theorem NS.kp (h : NS τ ad w) (k : ∀ a x, 100 ≤ τ a → w.2 a = some x → w'.2 a = some x) : NS τ ad w' := by
  obtain ⟨g, hg1, hg2⟩ := h.2.2
  refine ⟨h.1, fun i hi => (h.W hi).kp (fun q x hq e => k q x ?_ e), g, k _ _ (by rw [h.t 340 (by omega)]; omega) hg1, hg2⟩
  rcases hq with r | r
  · rw [r, h.to hi]; omega
  · rw [r, h.tr hi]; omega
theorem CS.kp (h : CS τ ad w bs ss pb sP sQ ct) (k : ∀ a x, 100 ≤ τ a → w.2 a = some x → w'.2 a = some x) (h1 : w.1 ≤ w'.1) : CS τ ad w' bs ss pb sP sQ ct := by
  have hN := h.N.kp k
  have t : ∀ {s : Nat} {x : WdE}, 100 ≤ s ∧ s ≤ 340 → w.2 (ad s) = some x → w'.2 (ad s) = some x := fun {s} {x} hs e => k _ _ (by rw [h.N.t s hs]; exact hs.1) e
  have n : ∀ {j : Nat} {z : Int}, j < 70 → NW ad w j z → NW ad w' j z := fun {j} {z} hj e => e.k (fun x q => t (s := 200 + 2 * j) (by omega) q) (fun x q => t (s := 201 + 2 * j) (by omega) q)
  obtain ⟨⟨R1, a1, b1⟩, ⟨R2, a2, b2⟩, ⟨R3, a3, b3⟩⟩ := h.A
  obtain ⟨fb, fr, m, d, a, ⟨h1, h2, h3, h4, ⟨R, h5, h6⟩, ⟨R2', h7, h8⟩⟩, g⟩ := h.F
  exact ⟨hN, t (by omega) h.o, ⟨⟨R1, t (by omega) a1, b1⟩, ⟨R2, t (by omega) a2, b2⟩, ⟨R3, t (by omega) a3, b3⟩⟩, fun i hi => ⟨t (by omega) (h.W i hi).1, (h.W i hi).2⟩, fun i hi => ⟨⟨t (s := 140 + i) (by omega) (h.P i hi).1.1, n (by omega) (h.P i hi).1.2.1, n (by omega) (h.P i hi).1.2.2⟩, (h.P i hi).2⟩, fun i hi => ⟨t (by omega) (h.S i hi).1, (h.S i hi).2⟩, t (by omega) h.D,
    ⟨fb, fr, m, d, a, ⟨t (s := 104) (by omega) h1, t (s := 105) (by omega) h2, t (s := 106) (by omega) h3, t (s := 107) (by omega) h4, ⟨R, t (s := 108) (by omega) h5, h6⟩, ⟨R2', t (s := 109) (by omega) h7, h8⟩⟩, g.1.imp id (fun q => ⟨q.1, fun i hi => ⟨n (by omega) (q.2 i hi).1, n (by omega) (q.2 i hi).2⟩⟩), g.2⟩⟩
theorem CS.ke (h : CS τ ad w bs ss pb sP sQ ct) (k : Keep τ w w') : CS τ ad w' bs ss pb sP sQ ct := h.kp k.2 k.1
theorem CS.big (h : CS τ ad w bs ss pb sP sQ ct) (h1 : w.1 ≤ w'.1) (h2 : w'.2 = w.2) : CS τ ad w' bs ss pb sP sQ ct := h.kp (fun a x _ e => by rw [h2]; exact e) h1
theorem CS.fr (h : CS τ ad w bs ss pb sP sQ ct) (g : Fr w w') (hw : wF w) : CS τ ad w' bs ss pb sP sQ ct := h.kp (fun a x _ e => by rw [g.2 a (hw a x e)]; exact e) g.1
end
/-! addresses with no thing behind them move up with the world -/
def us (t : Nat) : Bool := decide (t ≤ 110) || (decide (120 ≤ t) && decide (t < 123)) || (decide (130 ≤ t) && decide (t < 135)) || (decide (140 ≤ t) && decide (t < 146)) || (decide (200 ≤ t) && decide (t ≤ 340))
theorem us_i {t : Nat} : us t = true ↔ t ≤ 110 ∨ (120 ≤ t ∧ t < 123) ∨ (130 ≤ t ∧ t < 135) ∨ (140 ≤ t ∧ t < 146) ∨ (200 ≤ t ∧ t ≤ 340) := by
  unfold us
  simp only [Bool.or_eq_true, Bool.and_eq_true, decide_eq_true_eq]
  omega
def adm (ad : Nat → Nat) (N : Nat) : Nat → Nat := fun t => if us t = true then ad t else N + t
def tam (τ : Nat → Nat) (N : Nat) : Nat → Nat := fun a => if a < N then τ a else a - N
theorem adm_u {ad : Nat → Nat} {N t : Nat} (h : t ≤ 110 ∨ (120 ≤ t ∧ t < 123) ∨ (130 ≤ t ∧ t < 135) ∨ (140 ≤ t ∧ t < 146) ∨ (200 ≤ t ∧ t ≤ 340)) : adm ad N t = ad t := if_pos (us_i.mpr h)
theorem CS.lt {τ ad : Nat → Nat} {w : Wd} {bs ss : Nat → Int} {pb : Nat → PT} {sP sQ : Nat → Nat} {ct : Nat → Int} (h : CS τ ad w bs ss pb sP sQ ct) (hw : wF w) {t : Nat} (ht : 100 ≤ t) (hu : us t = true) : ad t < w.1 := by
  have hu := us_i.mp hu
  obtain ⟨⟨R1, a1, b1⟩, ⟨R2, a2, b2⟩, ⟨R3, a3, b3⟩⟩ := h.A
  obtain ⟨fb, fr, m, d, a, ⟨h1, h2, h3, h4, ⟨R, h5, h6⟩, ⟨R2', h7, h8⟩⟩, g⟩ := h.F
  obtain ⟨gg, hg1, hg2⟩ := h.N.2.2
  by_cases c : t < 120
  · rcases (show t = 100 ∨ t = 101 ∨ t = 102 ∨ t = 103 ∨ t = 104 ∨ t = 105 ∨ t = 106 ∨ t = 107 ∨ t = 108 ∨ t = 109 ∨ t = 110 by omega) with q | q | q | q | q | q | q | q | q | q | q <;> subst q
    · exact hw _ _ h.o
    · exact hw _ _ a1
    · exact hw _ _ a2
    · exact hw _ _ a3
    · exact hw _ _ h1
    · exact hw _ _ h2
    · exact hw _ _ h3
    · exact hw _ _ h4
    · exact hw _ _ h5
    · exact hw _ _ h7
    · exact hw _ _ h.D
  · by_cases c2 : t < 200
    · rcases (show (120 ≤ t ∧ t < 123) ∨ (130 ≤ t ∧ t < 135) ∨ (140 ≤ t ∧ t < 146) by omega) with q | q | q
      · have := (h.W (t - 120) (by omega)).1
        rw [show 120 + (t - 120) = t by omega] at this
        exact hw _ _ this
      · have := (h.S (t - 130) (by omega)).1
        rw [show 130 + (t - 130) = t by omega] at this
        exact hw _ _ this
      · have := (h.P (t - 140) (by omega)).1.1
        unfold PO at this
        rw [show 140 + (t - 140) = t by omega] at this
        exact hw _ _ this
    · by_cases c3 : t = 340
      · subst c3; exact hw _ _ hg1
      · obtain ⟨f, uu, bl, e1, e2, e3⟩ := h.N.W (j := (t - 200) / 2) (by omega)
        rcases (show t % 2 = 0 ∨ t % 2 = 1 by omega) with q | q
        · have e : wo ad ((t - 200) / 2) = ad t := by unfold wo; rw [show 200 + 2 * ((t - 200) / 2) = t by omega]
          rw [e] at e1
          exact hw _ _ e1
        · have e : wr ad ((t - 200) / 2) = ad t := by unfold wr; rw [show 201 + 2 * ((t - 200) / 2) = t by omega]
          rw [e] at e2
          exact hw _ _ e2
theorem CS.retag {τ τ' ad : Nat → Nat} {w : Wd} {bs ss : Nat → Int} {pb : Nat → PT} {sP sQ : Nat → Nat} {ct : Nat → Int} {N : Nat} (h : CS τ ad w bs ss pb sP sQ ct) (hu : ∀ t, 100 ≤ t → us t = true → ad t < N ∧ τ' (ad t) = τ (ad t)) : CS (tam τ' N) (adm ad N) w bs ss pb sP sQ ct := by
  have eo : ∀ j, j < 70 → wo (adm ad N) j = wo ad j := fun j hj => by unfold wo; exact adm_u (by omega)
  have er : ∀ j, j < 70 → wr (adm ad N) j = wr ad j := fun j hj => by unfold wr; exact adm_u (by omega)
  have ea : ∀ t, t ≤ 110 → adm ad N t = ad t := fun t ht => adm_u (Or.inl ht)
  have eX : oX (adm ad N) ct = oX ad ct := by
    unfold oX
    rw [ea 101 (by omega), ea 102 (by omega), ea 103 (by omega), ea 104 (by omega), ea 110 (by omega), adm_u (t := 143) (by omega), adm_u (t := 144) (by omega), adm_u (t := 145) (by omega), adm_u (t := 133) (by omega), adm_u (t := 134) (by omega)]
  obtain ⟨⟨R1, a1, b1⟩, ⟨R2, a2, b2⟩, ⟨R3, a3, b3⟩⟩ := h.A
  obtain ⟨fb, fr, m, d, a, ⟨h1, h2, h3, h4, ⟨R, h5, h6⟩, ⟨R2', h7, h8⟩⟩, g⟩ := h.F
  obtain ⟨gg, hg1, hg2⟩ := h.N.2.2
  refine ⟨⟨fun t t1 t2 => ?_, fun j hj => ?_, gg, ?_, hg2⟩, ?_, ⟨⟨R1, ?_, fun i hi => ?_⟩, ⟨R2, ?_, fun i hi => ?_⟩, ⟨R3, ?_, fun i hi => ?_⟩⟩, fun i hi => ?_, fun i hi => ?_, fun i hi => ?_, ?_, ⟨fb, fr, m, d, a, ⟨?_, ?_, ?_, ?_, ⟨R, ?_, fun k hk => ?_⟩, ⟨R2', ?_, fun k hk => ?_⟩⟩, g.1.imp id (fun q => ⟨q.1, fun k hk => ⟨?_, ?_⟩⟩), g.2⟩⟩
  · by_cases q : us t = true
    · rw [show adm ad N t = ad t from if_pos q]
      obtain ⟨g1, g2⟩ := hu t t1 q
      rw [show tam τ' N (ad t) = τ' (ad t) from if_pos g1, g2]
      exact h.N.t t ⟨t1, t2⟩
    · rw [show adm ad N t = N + t from if_neg q, show tam τ' N (N + t) = N + t - N from if_neg (by omega)]
      omega
  · rw [eo j hj, er j hj]; exact h.N.W hj
  · rw [adm_u (by omega)]; exact hg1
  · rw [ea 100 (by omega), eX]; exact h.o
  · rw [ea 101 (by omega)]; exact a1
  · rw [adm_u (by omega)]; exact b1 i hi
  · rw [ea 102 (by omega)]; exact a2
  · rw [adm_u (by omega)]; exact b2 i hi
  · rw [ea 103 (by omega)]; exact a3
  · rw [adm_u (by omega)]; exact b3 i hi
  · rw [adm_u (by omega)]; exact h.W i hi
  · have hp := h.P i hi
    refine ⟨⟨?_, ?_, ?_⟩, hp.2⟩
    · have := hp.1.1
      unfold PO at this ⊢
      rw [adm_u (t := 140 + i) (by omega), eo _ (by omega), eo _ (by omega)]; exact this
    · have := hp.1.2.1
      unfold NW at this ⊢
      rw [eo _ (by omega), er _ (by omega)]; exact this
    · have := hp.1.2.2
      unfold NW at this ⊢
      rw [eo _ (by omega), er _ (by omega)]; exact this
  · rw [adm_u (by omega)]; exact h.S i hi
  · unfold oD
    rw [ea 110 (by omega), eo _ (by omega), eo _ (by omega), eo _ (by omega), eo _ (by omega), adm_u (t := 340) (by omega)]; exact h.D
  · rw [ea 104 (by omega), ea 105 (by omega), ea 106 (by omega), ea 107 (by omega), ea 108 (by omega), ea 109 (by omega)]; exact h1
  · rw [ea 105 (by omega)]; exact h2
  · rw [ea 106 (by omega)]; exact h3
  · rw [ea 107 (by omega)]; exact h4
  · rw [ea 108 (by omega)]; exact h5
  · rw [eo _ (by omega)]; exact h6 k hk
  · rw [ea 109 (by omega)]; exact h7
  · rw [eo _ (by omega)]; exact h8 k hk
  · have := (q.2 k hk).1
    unfold NW at this ⊢
    rw [eo _ (by omega), er _ (by omega)]; exact this
  · have := (q.2 k hk).2
    unfold NW at this ⊢
    rw [eo _ (by omega), er _ (by omega)]; exact this
/-! lookupswitch -/
theorem g_lookup {E X own cc nL ret pc L st w k n} (C : CX E X own cc nL ret) {z dflt off : Int} {ps : Array (Int × Int)} {len tgt : Nat} (d : decode cc pc = .ok (.lookupswitch dflt ps, len)) (hz : -2147483648 ≤ z ∧ z < 2147483648) (hp : (ps.toList.zip (ps.toList.drop 1)).all (fun (a, next) => a.1 < next.1) = true) (ho : Op.lookupswitch.offset ps.toList dflt z = off) (ht : (pc : Int) + off = (tgt : Int))
    (kk : G E X nL tgt L st w k n) : G E X nL pc L (iI z :: st) w k n :=
  fun H locs ls h1 h2 h3 => lv_lookup C.ex C.co d hp (by rw [i_tI hz.1 hz.2]; exact ho) ht (kk H locs ls h1 h2 h3)
theorem g_gen {E : GE} {X : XT} {nL pc : Nat} {L : List (Option Value)} {st : List Value} {w : Wd} {k n : Nat} (kk : ∀ u, u = w → G E X nL pc L st u k n) : G E X nL pc L st w k n := kk w rfl
set_option maxHeartbeats 4000000 in
set_option maxRecDepth 100000 in
theorem s_X6_refuse (l : Launch) {E : GE} {w : Wd} {τ ad : Nat → Nat} {bs ss : Nat → Int} {pb : Nat → PT} {P Q : Nat → Nat} {ct : Nat → Int} (hC0 : CS τ ad w bs ss pb P Q ct) : Sp E l yX6_refuse cX6_refuse 1 (some .int) 0 (0) (0) [.ref (ad 100)] w (fun r' w' => r' = some (iI (-9)) ∧ CS τ ad w' (bs) (ss) (pb) (P) (Q) (iup ct 3 (ct 3 + 1)) ∧ KO τ w w') := by
  refine sp_intro [some (.ref (ad 100))] rfl (Nat.le_of_ble_eq_true rfl) pn_X6 ?_
  intro X C hRm hl hnm hQ
  obtain ⟨hRf, hRl, hRc, hRs⟩ := hRm
  refine g_wf (fun hwf => ?_)
  have hC := hC0
  have hK : KO τ w w := KO.rf _ _
  refine g_aload_n C dX6_refuse_0 rfl ?_
  refine g_dup C dX6_refuse_1 rfl ?_
  refine g_get (ci := 8) C rfl inTX6 13 (by decide) fl_RX6_305 rfl hC.o rfl dX6_refuse_2 ?_
  refine g_iconst C dX6_refuse_5 ?_
  refine g_iadd C dX6_refuse_6 ?_
  refine g_put (ci := 8) C rfl inTX6 tyX6 tyX6_ok nmX6 13 (by decide) fl_RX6_305 rfl rfl hC.o (Nat.le_of_ble_eq_true rfl) rfl rfl dX6_refuse_7 ?_
  refine g_gen (fun v7 hv7 => ?_)
  replace hv7 : v7 = wset _ (ad 100) (true, oX ad (iup ct 3 (ct 3 + 1))) := hv7
  have hq7 := hC.so (iup ct 3 (ct 3 + 1))
  rw [← hv7] at hq7
  replace hC := hq7.1
  replace hK := hK.tr hq7.2
  refine g_bipush C dX6_refuse_10 (by decide) ?_
  exact g_ireturn C hQ dX6_refuse_12 (Nat.le_refl _) (Nat.le_refl _) ⟨rfl, hC, hK⟩
set_option maxHeartbeats 4000000 in
set_option maxRecDepth 100000 in
theorem s_X6_checkThing (l : Launch) {E : GE} {w : Wd} {v : Int} (hv : 0 ≤ v ∧ v ≤ 2) : Sp E l yX6_checkThing cX6_checkThing 1 none 0 (0) (0) [iI v] w (fun r' w' => r' = none ∧ w' = w) := by
  refine sp_intro [some (iI v)] rfl (Nat.le_of_ble_eq_true rfl) pn_X6 ?_
  intro X C hRm hl hnm hQ
  obtain ⟨hRf, hRl, hRc, hRs⟩ := hRm
  refine g_wf (fun hwf => ?_)
  refine g_iload_n C dX6_checkThing_0 rfl ?_
  refine g_if_lt (tgt := 9) C dX6_checkThing_1 (by decide) (by omega) (fun h1 => ?_) (fun h1 => ?_)
  · omega
  · refine g_iload_n C dX6_checkThing_4 rfl ?_
    refine g_iconst C dX6_checkThing_5 ?_
    refine g_icmp_lt (tgt := 20) C dX6_checkThing_6 (by decide) (by omega) (by omega) (fun h6 => ?_) (fun h6 => ?_)
    · exact g_return C hQ dX6_checkThing_20 (Nat.le_refl _) (Nat.le_refl _) ⟨rfl, rfl⟩
    · omega
set_option maxHeartbeats 4000000 in
set_option maxRecDepth 100000 in
theorem s_X6_checkRange (l : Launch) {E : GE} {w : Wd} {v lo hi : Int} (hv : lo ≤ v ∧ v ≤ hi) (hl : -2147483648 ≤ lo) (hh : hi < 2147483648) : Sp E l yX6_checkRange cX6_checkRange 3 none 0 (0) (0) [iI v, iI lo, iI hi] w (fun r' w' => r' = none ∧ w' = w) := by
  refine sp_intro [some (iI v), some (iI lo), some (iI hi)] rfl (Nat.le_of_ble_eq_true rfl) pn_X6 ?_
  intro X C hRm hl hnm hQ
  obtain ⟨hRf, hRl, hRc, hRs⟩ := hRm
  refine g_wf (fun hwf => ?_)
  refine g_iload_n C dX6_checkRange_0 rfl ?_
  refine g_iload_n C dX6_checkRange_1 rfl ?_
  refine g_icmp_lt (tgt := 10) C dX6_checkRange_2 (by decide) (by omega) (by omega) (fun h2 => ?_) (fun h2 => ?_)
  · omega
  · refine g_iload_n C dX6_checkRange_5 rfl ?_
    refine g_iload_n C dX6_checkRange_6 rfl ?_
    refine g_icmp_le (tgt := 21) C dX6_checkRange_7 (by decide) (by omega) (by omega) (fun h7 => ?_) (fun h7 => ?_)
    · exact g_return C hQ dX6_checkRange_21 (Nat.le_refl _) (Nat.le_refl _) ⟨rfl, rfl⟩
    · omega
set_option maxHeartbeats 4000000 in
set_option maxRecDepth 100000 in
theorem s_X6_checkBase (l : Launch) {E : GE} {w : Wd} {v : Int} (hv : GB v) : Sp E l yX6_checkBase cX6_checkBase 2 none 1 (0) (0) [iI v] w (fun r' w' => r' = none ∧ w' = w) := by
  refine sp_intro [some (iI v), none] rfl (Nat.le_of_ble_eq_true rfl) pn_X6 ?_
  intro X C hRm hl hnm hQ
  obtain ⟨hRf, hRl, hRc, hRs⟩ := hRm
  refine g_wf (fun hwf => ?_)
  have h1 := hv.1
  have h2 := hv.2.1
  refine g_iload_n C dX6_checkBase_0 rfl ?_
  refine g_iconst C dX6_checkBase_1 ?_
  refine g_bipush C dX6_checkBase_2 (by decide) ?_
  refine g_callS C (s_X6_checkRange _ (v := v) (lo := 2) (hi := 99) (by omega) (by omega) (by omega)) ml_RX6_82 sm_yX6_checkRange in_RX6 co_yX6_checkRange hd_X6_checkRange rfl ⟨by omega, by omega⟩ rfl (Nat.le_of_ble_eq_true rfl) ⟨by omega, by omega⟩ dX6_checkBase_4 (fun v4 w4 hp4 => ?_)
  obtain ⟨rfl, hw4⟩ := hp4
  subst w4
  refine g_iload_n C dX6_checkBase_7 rfl ?_
  refine g_callS C (s_X6_rootOf _ (b := v) (by omega)) ml_RX6_78 sm_yX6_rootOf in_RX6 co_yX6_rootOf hd_X6_rootOf rfl ⟨by omega, by omega⟩ rfl (Nat.le_of_ble_eq_true rfl) ⟨by omega, by omega⟩ dX6_checkBase_8 (fun v8 w8 hp8 => ?_)
  obtain ⟨⟨r8, rfl, hr8⟩, hw8⟩ := hp8
  subst w8
  refine g_istore_n C dX6_checkBase_11 (by decide) rfl ?_
  refine g_iload_n C dX6_checkBase_12 rfl ?_
  refine g_iload_n C dX6_checkBase_13 rfl ?_
  refine g_imul C dX6_checkBase_14 ?_
  refine g_iload_n C dX6_checkBase_15 rfl ?_
  refine g_icmp_ne (tgt := 30) C dX6_checkBase_16 (by decide) (by have := hr8.2.1; have := Int.mul_nonneg hr8.1 hr8.1; omega) (by omega) (fun h16 => ?_) (fun h16 => ?_)
  · exact g_return C hQ dX6_checkBase_30 (Nat.le_refl _) (Nat.le_refl _) ⟨rfl, rfl⟩
  · exact absurd (Classical.not_not.mp h16) (hv.2.2 _)
theorem FN.kn {τ ad : Nat → Nat} {w w' : Wd} {b r : Int} (h : FN ad w b r) (k : KN τ w w') (hN : NS τ ad w') : FN ad w' b r := fun i hi => ⟨k.nw hN (by omega) (h i hi).1, k.nw hN (by omega) (h i hi).2⟩
theorem FN.top {ad : Nat → Nat} {w : Wd} {b r : Int} (h : FN ad w b r) {k : Int} (hk : 0 ≤ k ∧ k ≤ 25) {j : Nat} (hj : (j : Int) = 17 + k) : NW ad w j (pq b r 1 r k.toNat).1 := by
  have := (h (k.toNat + 1) (by omega)).1
  rw [show 16 + (k.toNat + 1) = j by omega] at this
  exact this
theorem FN.bot {ad : Nat → Nat} {w : Wd} {b r : Int} (h : FN ad w b r) {k : Int} (hk : 0 ≤ k ∧ k ≤ 25) {j : Nat} (hj : (j : Int) = 44 + k) : NW ad w j (pq b r 0 1 k.toNat).1 := by
  have := (h (k.toNat + 1) (by omega)).2
  rw [show 43 + (k.toNat + 1) = j by omega] at this
  exact this
theorem FN.topB {ad : Nat → Nat} {w : Wd} {b r : Int} (h : FN ad w b r) {k : Int} (hk : 0 ≤ k ∧ k ≤ 25) {j : Nat} (hj : (j : Int) = 16 + k) : NW ad w j (pq b r 1 r k.toNat).2 := by
  have := (h k.toNat (by omega)).1
  rw [show 16 + k.toNat = j by omega] at this
  exact this
theorem FN.botB {ad : Nat → Nat} {w : Wd} {b r : Int} (h : FN ad w b r) {k : Int} (hk : 0 ≤ k ∧ k ≤ 25) {j : Nat} (hj : (j : Int) = 43 + k) : NW ad w j (pq b r 0 1 k.toNat).2 := by
  have := (h k.toNat (by omega)).2
  rw [show 43 + k.toNat = j by omega] at this
  exact this
theorem pq_a {b r x y : Int} (hb : GB b) (hr : RT b r) (h0 : 0 ≤ x ∧ x ≤ 1) (h1 : 0 ≤ y ∧ y ≤ 9) {k : Nat} (hk : k ≤ 25) : aB (pq b r x y k).1 < M125 ∧ aB (pq b r x y k).2 < M125 := ⟨row_a hb hr h0 h1 (k := k + 1) (by omega), row_a hb hr h0 h1 (k := k) (by omega)⟩
/-- what is known of a walk's numbers -/
def wkF (b r : Int) (k : Nat) : Prop := (aB (pq b r 1 r k).1 < M125 ∧ aB (pq b r 1 r k).2 < M125) ∧ (aB (pq b r 0 1 k).1 < M125 ∧ aB (pq b r 0 1 k).2 < M125) ∧ (pq b r 1 r k).1 * (pq b r 0 1 k).2 - (pq b r 1 r k).2 * (pq b r 0 1 k).1 = (if k % 2 = 1 then 1 else -1) ∧ (pq b r 1 r k).1 * (pq b r 1 r k).1 - b * ((pq b r 0 1 k).1 * (pq b r 0 1 k).1) = (if k % 2 = 1 then (cf b r (k + 1)).2.1 else -(cf b r (k + 1)).2.1) ∧ 0 < (pq b r 1 r k).1 ∧ 0 < (pq b r 0 1 k).1 ∧ (pq b r 1 r k).1 ≤ 10 * (pq b r 0 1 k).1
theorem wk_f {b r : Int} (hb : GB b) (hr : RT b r) {k : Nat} (hk : k ≤ 25) : wkF b r k := by
  have h9 := RT_le hb hr
  exact ⟨pq_a hb hr (x := 1) (y := r) (by omega) (by omega) hk, pq_a hb hr (x := 0) (y := 1) (by omega) (by omega) hk, wk_good hb hr hk⟩
/-- the number that walkNumber tells -/
def wnV (b r : Int) (k : Nat) (z : Int) : Int := if z = 0 then (pq b r 1 r k).1 else if z = 1 then (pq b r 0 1 k).1 else if z = 2 then (pq b r 1 r k).2 else (pq b r 0 1 k).2
set_option maxHeartbeats 4000000 in
set_option maxRecDepth 100000 in
theorem s_X6_unfold (l : Launch) {K : KC} {E : GE} {w : Wd} {τ ad : Nat → Nat} {bs ss : Nat → Int} {pb : Nat → PT} {P Q : Nat → Nat} {ct : Nat → Int} (hC0 : CS τ ad w bs ss pb P Q ct) {i : Nat} (hi : i < 3) : St K E l yX6_unfold cX6_unfold 2 (some (.object "Rootwalk$Walk")) 5 (0) (0) [.ref (ad 100), iI (i : Int)] w (fun r' w' => r' = some (.ref (ad (120 + i))) ∧ (∃ r m d a, FS ad w' (bs i) r m d a ∧ FV (bs i) r m d a ∧ FN ad w' (bs i) r) ∧ CS τ ad w' (bs) (ss) (pb) (P) (Q) (ct) ∧ KO τ w w') := by
  refine st_intro [some (.ref (ad 100)), some (iI (i : Int))] rfl (Nat.le_of_ble_eq_true rfl) pn_X6 ?_
  intro X C hT hRm hl hnm hQ
  obtain ⟨hRf, hRl, hRc, hRs⟩ := hRm
  refine g_wf (fun hwf => ?_)
  have hC := hC0
  have hK : KO τ w w := KO.rf _ _
  obtain ⟨fb, fr, m0, d0, a0, hF0, hv0, hb0⟩ := hC.F
  have hgb := (hC.W i (by omega)).2.1
  refine g_aload_n C dX6_unfold_0 rfl ?_
  refine g_get (ci := 8) C rfl inTX6 3 (by decide) fl_RX6_30 rfl hC.o rfl dX6_unfold_1 ?_
  refine g_aload_n C dX6_unfold_4 rfl ?_
  refine g_get (ci := 8) C rfl inTX6 0 (by decide) fl_RX6_11 rfl hC.o rfl dX6_unfold_5 ?_
  refine g_iload_n C dX6_unfold_8 rfl ?_
  refine g_aaloadN (i) C rfl rfl hC.A.1.choose_spec.1 (by omega) (by omega) (hC.A.1.choose_spec.2 _ (by omega)) dX6_unfold_9 ?_
  refine g_get (ci := 6) C rfl inTX4 0 (by decide) fl_RX6_68 rfl (hC.W i (by omega)).1 rfl dX6_unfold_10 ?_
  refine t_callV C hT (s_X1_expand _ hC.N hF0 hv0 hb0 hgb) (RcV.ob (ci := 3) C rfl hF0.1) rfl ml_RX6_152 im_yX1_expand se_RX1_yX1_expand in_RX1 co_yX1_expand hd_X1_expand rfl ⟨by omega, by omega⟩ rfl (Nat.le_of_ble_eq_true rfl) ⟨by omega, by omega⟩ dX6_unfold_13 (fun v13 w13 hp13 => ?_)
  obtain ⟨rfl, r1, m1, d1, a1, F1, V1, G1, N1, K1⟩ := hp13
  replace hC := hC.kf K1 N1 ⟨_, _, _, _, _, F1, Or.inr ⟨V1, G1⟩, by have := hgb.1; have := hgb.2.1; omega⟩
  replace hK := hK.tr K1.kc
  refine g_aload_n C dX6_unfold_16 rfl ?_
  refine g_get (ci := 8) C rfl inTX6 0 (by decide) fl_RX6_11 rfl hC.o rfl dX6_unfold_17 ?_
  refine g_iload_n C dX6_unfold_20 rfl ?_
  refine g_aaloadN (i) C rfl rfl hC.A.1.choose_spec.1 (by omega) (by omega) (hC.A.1.choose_spec.2 _ (by omega)) dX6_unfold_21 ?_
  exact g_areturn C (Or.inl ⟨_, rfl⟩) hQ (Or.inr ⟨_, rfl⟩) dX6_unfold_22 (by omega) (by omega) ⟨rfl, ⟨r1, m1, d1, a1, F1, V1, G1⟩, hC, hK⟩
set_option maxHeartbeats 4000000 in
set_option maxRecDepth 100000 in
theorem s_X6_walkPart (l : Launch) {E : GE} {w : Wd} {τ ad : Nat → Nat} {bs ss : Nat → Int} {pb : Nat → PT} {P Q : Nat → Nat} {ct : Nat → Int} (hC0 : CS τ ad w bs ss pb P Q ct) {i : Nat} (hi : i < 3) {r : Int} {m d a : Nat → Int} (hF0 : FS ad w (bs i) r m d a) (hV : FV (bs i) r m d a) (hG0 : FN ad w (bs i) r) {z : Int} (hz : 0 ≤ z ∧ z ≤ 5) : Sp E l yX6_walkPart cX6_walkPart 3 (some .int) 3 (0) (0) [.ref (ad 100), .ref (ad (120 + i)), iI z] w (fun r' w' => r' = some (iI (prV (bs i) r (ss i) z)) ∧ w' = w) := by
  refine sp_intro [some (.ref (ad 100)), some (.ref (ad (120 + i))), some (iI z)] rfl (Nat.le_of_ble_eq_true rfl) pn_X6 ?_
  intro X C hRm hl hnm hQ
  obtain ⟨hRf, hRl, hRc, hRs⟩ := hRm
  refine g_wf (fun hwf => ?_)
  have hC := hC0
  have hK : KO τ w w := KO.rf _ _
  have hF := hF0
  have hG := hG0
  have hs := (hC.W i (by omega)).2.2
  have hgb := (hC.W i (by omega)).2.1
  have hbl := hgb.1
  have hbh := hgb.2.1
  have hr09 := RT_le hV.1 hV.2.1
  refine g_iload_n C dX6_walkPart_0 rfl ?_
  rcases (show z = 0 ∨ z = 1 ∨ z = 2 ∨ z = 3 ∨ z = 4 ∨ z = 5 by omega) with q | q | q | q | q | q <;> subst q
  · refine g_tin (tgt := 36) C dX6_walkPart_1 (by omega) (by omega) rfl rfl ?_
    refine g_aload_n C dX6_walkPart_36 rfl ?_
    refine g_get (ci := 6) C rfl inTX4 0 (by decide) fl_RX6_68 rfl (hC.W i (by omega)).1 rfl dX6_walkPart_37 ?_
    exact g_ireturn C hQ dX6_walkPart_40 (Nat.le_refl _) (Nat.le_refl _) ⟨rfl, rfl⟩
  · refine g_tin (tgt := 41) C dX6_walkPart_1 (by omega) (by omega) rfl rfl ?_
    refine g_aload_n C dX6_walkPart_41 rfl ?_
    refine g_get (ci := 6) C rfl inTX4 1 (by decide) fl_RX6_72 rfl (hC.W i (by omega)).1 rfl dX6_walkPart_42 ?_
    exact g_ireturn C hQ dX6_walkPart_45 (Nat.le_refl _) (Nat.le_refl _) ⟨rfl, rfl⟩
  · refine g_tin (tgt := 46) C dX6_walkPart_1 (by omega) (by omega) rfl rfl ?_
    refine g_aload_n C dX6_walkPart_46 rfl ?_
    refine g_get (ci := 8) C rfl inTX6 3 (by decide) fl_RX6_30 rfl hC.o rfl dX6_walkPart_47 ?_
    refine g_get (ci := 3) C rfl inTX1 1 (by decide) fl_RX6_355 rfl hF.1 rfl dX6_walkPart_50 ?_
    exact g_ireturn C hQ dX6_walkPart_53 (Nat.le_refl _) (Nat.le_refl _) ⟨rfl, rfl⟩
  · refine g_tin (tgt := 54) C dX6_walkPart_1 (by omega) (by omega) rfl rfl ?_
    refine g_aload_n C dX6_walkPart_54 rfl ?_
    refine g_get (ci := 8) C rfl inTX6 3 (by decide) fl_RX6_30 rfl hC.o rfl dX6_walkPart_55 ?_
    refine g_aload_n C dX6_walkPart_58 rfl ?_
    refine g_get (ci := 6) C rfl inTX4 1 (by decide) fl_RX6_72 rfl (hC.W i (by omega)).1 rfl dX6_walkPart_59 ?_
    refine g_callV C (s_X1_partM _ hF (k := ss i) (by omega)) (ci := 3) rfl hF.1 rfl ml_RX6_184 im_yX1_partM se_RX1_yX1_partM in_RX1 co_yX1_partM hd_X1_partM rfl ⟨by omega, by omega⟩ rfl (Nat.le_of_ble_eq_true rfl) ⟨by omega, by omega⟩ dX6_walkPart_62 (fun v62 w62 hp62 => ?_)
    obtain ⟨⟨p62, rfl, hp62a, hp62b⟩, hw62⟩ := hp62
    subst w62
    exact g_ireturn C hQ dX6_walkPart_65 (Nat.le_refl _) (Nat.le_refl _) ⟨by
      have e0 : (ss i).toNat = p62 := by have := hp62b (by omega); omega
      have e1 := (hV.2.2 p62 (by omega)).1
      unfold prV
      rw [e1, ← e0]
      simp, rfl⟩
  · refine g_tin (tgt := 66) C dX6_walkPart_1 (by omega) (by omega) rfl rfl ?_
    refine g_aload_n C dX6_walkPart_66 rfl ?_
    refine g_get (ci := 8) C rfl inTX6 3 (by decide) fl_RX6_30 rfl hC.o rfl dX6_walkPart_67 ?_
    refine g_aload_n C dX6_walkPart_70 rfl ?_
    refine g_get (ci := 6) C rfl inTX4 1 (by decide) fl_RX6_72 rfl (hC.W i (by omega)).1 rfl dX6_walkPart_71 ?_
    refine g_callV C (s_X1_partD _ hF (k := ss i) (by omega)) (ci := 3) rfl hF.1 rfl ml_RX6_187 im_yX1_partD se_RX1_yX1_partD in_RX1 co_yX1_partD hd_X1_partD rfl ⟨by omega, by omega⟩ rfl (Nat.le_of_ble_eq_true rfl) ⟨by omega, by omega⟩ dX6_walkPart_74 (fun v74 w74 hp74 => ?_)
    obtain ⟨⟨p74, rfl, hp74a, hp74b⟩, hw74⟩ := hp74
    subst w74
    exact g_ireturn C hQ dX6_walkPart_77 (Nat.le_refl _) (Nat.le_refl _) ⟨by
      have e0 : (ss i).toNat = p74 := by have := hp74b (by omega); omega
      have e1 := (hV.2.2 p74 (by omega)).2.1
      unfold prV
      rw [e1, ← e0]
      simp, rfl⟩
  · refine g_tout (tgt := 78) C dX6_walkPart_1 (by omega) (by omega) rfl ?_
    refine g_aload_n C dX6_walkPart_78 rfl ?_
    refine g_get (ci := 8) C rfl inTX6 3 (by decide) fl_RX6_30 rfl hC.o rfl dX6_walkPart_79 ?_
    refine g_aload_n C dX6_walkPart_82 rfl ?_
    refine g_get (ci := 6) C rfl inTX4 1 (by decide) fl_RX6_72 rfl (hC.W i (by omega)).1 rfl dX6_walkPart_83 ?_
    refine g_callV C (s_X1_partA _ hF (k := ss i) (by omega)) (ci := 3) rfl hF.1 rfl ml_RX6_161 im_yX1_partA se_RX1_yX1_partA in_RX1 co_yX1_partA hd_X1_partA rfl ⟨by omega, by omega⟩ rfl (Nat.le_of_ble_eq_true rfl) ⟨by omega, by omega⟩ dX6_walkPart_86 (fun v86 w86 hp86 => ?_)
    obtain ⟨⟨p86, rfl, hp86a, hp86b⟩, hw86⟩ := hp86
    subst w86
    exact g_ireturn C hQ dX6_walkPart_89 (Nat.le_refl _) (Nat.le_refl _) ⟨by
      have e0 : (ss i).toNat = p86 := by have := hp86b (by omega); omega
      have e1 := (hV.2.2 p86 (by omega)).2.2
      unfold prV
      rw [e1, ← e0]
      simp, rfl⟩
set_option maxHeartbeats 4000000 in
set_option maxRecDepth 100000 in
theorem s_X6_walkNumber (l : Launch) {E : GE} {w : Wd} {τ ad : Nat → Nat} {bs ss : Nat → Int} {pb : Nat → PT} {P Q : Nat → Nat} {ct : Nat → Int} (hC0 : CS τ ad w bs ss pb P Q ct) {i : Nat} (hi : i < 3) {r : Int} {m d a : Nat → Int} (hF0 : FS ad w (bs i) r m d a) (hV : FV (bs i) r m d a) (hG0 : FN ad w (bs i) r) {z : Int} (hz : 0 ≤ z ∧ z ≤ 3) : Sp E l yX6_walkNumber cX6_walkNumber 3 (some (.object "Rootwalk$Whole")) 3 (0) (0) [.ref (ad 100), .ref (ad (120 + i)), iI z] w (fun r' w' => (∃ j, r' = some (.ref (wo ad j)) ∧ (16 ≤ j ∧ j < 70) ∧ NW ad w j (wnV (bs i) r (ss i).toNat z)) ∧ w' = w) := by
  refine sp_intro [some (.ref (ad 100)), some (.ref (ad (120 + i))), some (iI z)] rfl (Nat.le_of_ble_eq_true rfl) pn_X6 ?_
  intro X C hRm hl hnm hQ
  obtain ⟨hRf, hRl, hRc, hRs⟩ := hRm
  refine g_wf (fun hwf => ?_)
  have hC := hC0
  have hK : KO τ w w := KO.rf _ _
  have hF := hF0
  have hG := hG0
  have hs := (hC.W i (by omega)).2.2
  have hgb := (hC.W i (by omega)).2.1
  have hbl := hgb.1
  have hbh := hgb.2.1
  have hr09 := RT_le hV.1 hV.2.1
  refine g_iload_n C dX6_walkNumber_0 rfl ?_
  rcases (show z = 0 ∨ z = 1 ∨ z = 2 ∨ z = 3 by omega) with q | q | q | q <;> subst q
  · refine g_tin (tgt := 28) C dX6_walkNumber_1 (by omega) (by omega) rfl rfl ?_
    refine g_aload_n C dX6_walkNumber_28 rfl ?_
    refine g_get (ci := 8) C rfl inTX6 3 (by decide) fl_RX6_30 rfl hC.o rfl dX6_walkNumber_29 ?_
    refine g_aload_n C dX6_walkNumber_32 rfl ?_
    refine g_get (ci := 6) C rfl inTX4 1 (by decide) fl_RX6_72 rfl (hC.W i (by omega)).1 rfl dX6_walkNumber_33 ?_
    refine g_callV C (s_X1_top _ hF (k := ss i) (by omega)) (ci := 3) rfl hF.1 rfl ml_RX6_119 im_yX1_top se_RX1_yX1_top in_RX1 co_yX1_top hd_X1_top rfl ⟨by omega, by omega⟩ rfl (Nat.le_of_ble_eq_true rfl) ⟨by omega, by omega⟩ dX6_walkNumber_36 (fun v36 w36 hp36 => ?_)
    obtain ⟨⟨j36, rfl, hj36a, hj36b, hj36⟩, hw36⟩ := hp36
    subst w36
    have f36 := hG.top (k := ss i) (j := j36) (by omega) (by have := hj36 (by omega); omega)
    exact g_areturn C (Or.inl ⟨_, rfl⟩) hQ (Or.inr ⟨_, rfl⟩) dX6_walkNumber_39 (by omega) (by omega) ⟨⟨j36, rfl, by omega, f36⟩, rfl⟩
  · refine g_tin (tgt := 40) C dX6_walkNumber_1 (by omega) (by omega) rfl rfl ?_
    refine g_aload_n C dX6_walkNumber_40 rfl ?_
    refine g_get (ci := 8) C rfl inTX6 3 (by decide) fl_RX6_30 rfl hC.o rfl dX6_walkNumber_41 ?_
    refine g_aload_n C dX6_walkNumber_44 rfl ?_
    refine g_get (ci := 6) C rfl inTX4 1 (by decide) fl_RX6_72 rfl (hC.W i (by omega)).1 rfl dX6_walkNumber_45 ?_
    refine g_callV C (s_X1_bottom _ hF (k := ss i) (by omega)) (ci := 3) rfl hF.1 rfl ml_RX6_123 im_yX1_bottom se_RX1_yX1_bottom in_RX1 co_yX1_bottom hd_X1_bottom rfl ⟨by omega, by omega⟩ rfl (Nat.le_of_ble_eq_true rfl) ⟨by omega, by omega⟩ dX6_walkNumber_48 (fun v48 w48 hp48 => ?_)
    obtain ⟨⟨j48, rfl, hj48a, hj48b, hj48⟩, hw48⟩ := hp48
    subst w48
    have f48 := hG.bot (k := ss i) (j := j48) (by omega) (by have := hj48 (by omega); omega)
    exact g_areturn C (Or.inl ⟨_, rfl⟩) hQ (Or.inr ⟨_, rfl⟩) dX6_walkNumber_51 (by omega) (by omega) ⟨⟨j48, rfl, by omega, f48⟩, rfl⟩
  · refine g_tin (tgt := 52) C dX6_walkNumber_1 (by omega) (by omega) rfl rfl ?_
    refine g_aload_n C dX6_walkNumber_52 rfl ?_
    refine g_get (ci := 8) C rfl inTX6 3 (by decide) fl_RX6_30 rfl hC.o rfl dX6_walkNumber_53 ?_
    refine g_aload_n C dX6_walkNumber_56 rfl ?_
    refine g_get (ci := 6) C rfl inTX4 1 (by decide) fl_RX6_72 rfl (hC.W i (by omega)).1 rfl dX6_walkNumber_57 ?_
    refine g_iconst C dX6_walkNumber_60 ?_
    refine g_isub C dX6_walkNumber_61 ?_
    refine g_callV C (s_X1_top _ hF (k := ss i - 1) (by omega)) (ci := 3) rfl hF.1 rfl ml_RX6_119 im_yX1_top se_RX1_yX1_top in_RX1 co_yX1_top hd_X1_top rfl ⟨by omega, by omega⟩ rfl (Nat.le_of_ble_eq_true rfl) ⟨by omega, by omega⟩ dX6_walkNumber_62 (fun v62 w62 hp62 => ?_)
    obtain ⟨⟨j62, rfl, hj62a, hj62b, hj62⟩, hw62⟩ := hp62
    subst w62
    have f62 := hG.topB (k := ss i) (j := j62) (by omega) (by have := hj62 (by omega); omega)
    exact g_areturn C (Or.inl ⟨_, rfl⟩) hQ (Or.inr ⟨_, rfl⟩) dX6_walkNumber_65 (by omega) (by omega) ⟨⟨j62, rfl, by omega, f62⟩, rfl⟩
  · refine g_tout (tgt := 66) C dX6_walkNumber_1 (by omega) (by omega) rfl ?_
    refine g_aload_n C dX6_walkNumber_66 rfl ?_
    refine g_get (ci := 8) C rfl inTX6 3 (by decide) fl_RX6_30 rfl hC.o rfl dX6_walkNumber_67 ?_
    refine g_aload_n C dX6_walkNumber_70 rfl ?_
    refine g_get (ci := 6) C rfl inTX4 1 (by decide) fl_RX6_72 rfl (hC.W i (by omega)).1 rfl dX6_walkNumber_71 ?_
    refine g_iconst C dX6_walkNumber_74 ?_
    refine g_isub C dX6_walkNumber_75 ?_
    refine g_callV C (s_X1_bottom _ hF (k := ss i - 1) (by omega)) (ci := 3) rfl hF.1 rfl ml_RX6_123 im_yX1_bottom se_RX1_yX1_bottom in_RX1 co_yX1_bottom hd_X1_bottom rfl ⟨by omega, by omega⟩ rfl (Nat.le_of_ble_eq_true rfl) ⟨by omega, by omega⟩ dX6_walkNumber_76 (fun v76 w76 hp76 => ?_)
    obtain ⟨⟨j76, rfl, hj76a, hj76b, hj76⟩, hw76⟩ := hp76
    subst w76
    have f76 := hG.botB (k := ss i) (j := j76) (by omega) (by have := hj76 (by omega); omega)
    exact g_areturn C (Or.inl ⟨_, rfl⟩) hQ (Or.inr ⟨_, rfl⟩) dX6_walkNumber_79 (by omega) (by omega) ⟨⟨j76, rfl, by omega, f76⟩, rfl⟩
set_option maxHeartbeats 4000000 in
set_option maxRecDepth 100000 in
theorem s_X6_walkTest (l : Launch) {E : GE} {w : Wd} {τ ad : Nat → Nat} {bs ss : Nat → Int} {pb : Nat → PT} {P Q : Nat → Nat} {ct : Nat → Int} (hC0 : CS τ ad w bs ss pb P Q ct) {i : Nat} (hi : i < 3) {r : Int} {m d a : Nat → Int} (hF0 : FS ad w (bs i) r m d a) (hV : FV (bs i) r m d a) (hG0 : FN ad w (bs i) r) {z : Int} (hz : 0 ≤ z ∧ z ≤ 2) : Sp E l yX6_walkTest cX6_walkTest 5 (some .int) 4 (0) (0) [.ref (ad 100), .ref (ad (120 + i)), iI z] w (fun r' w' => r' = some (iI (tstV (bs i) r (ss i).toNat z)) ∧ FS ad w' (bs i) r m d a ∧ FN ad w' (bs i) r ∧ CS τ ad w' (bs) (ss) (pb) (P) (Q) (ct) ∧ KO τ w w') := by
  refine sp_intro [some (.ref (ad 100)), some (.ref (ad (120 + i))), some (iI z), none, none] rfl (Nat.le_of_ble_eq_true rfl) pn_X6 ?_
  intro X C hRm hl hnm hQ
  obtain ⟨hRf, hRl, hRc, hRs⟩ := hRm
  refine g_wf (fun hwf => ?_)
  have hC := hC0
  have hK : KO τ w w := KO.rf _ _
  have hF := hF0
  have hG := hG0
  have hs := (hC.W i (by omega)).2.2
  have hgb := (hC.W i (by omega)).2.1
  have hbl := hgb.1
  have hbh := hgb.2.1
  have hr09 := RT_le hV.1 hV.2.1
  have hw := wk_f hV.1 hV.2.1 (k := (ss i).toNat) (by omega)
  refine g_aload_n C dX6_walkTest_0 rfl ?_
  refine g_get (ci := 8) C rfl inTX6 3 (by decide) fl_RX6_30 rfl hC.o rfl dX6_walkTest_1 ?_
  refine g_aload_n C dX6_walkTest_4 rfl ?_
  refine g_get (ci := 6) C rfl inTX4 1 (by decide) fl_RX6_72 rfl (hC.W i (by omega)).1 rfl dX6_walkTest_5 ?_
  refine g_callV C (s_X1_top _ hF (k := ss i) (by omega)) (ci := 3) rfl hF.1 rfl ml_RX6_119 im_yX1_top se_RX1_yX1_top in_RX1 co_yX1_top hd_X1_top rfl ⟨by omega, by omega⟩ rfl (Nat.le_of_ble_eq_true rfl) ⟨by omega, by omega⟩ dX6_walkTest_8 (fun v8 w8 hp8 => ?_)
  obtain ⟨⟨j8, rfl, hj8a, hj8b, hj8⟩, hw8⟩ := hp8
  subst w8
  have f8 := hG.top (k := ss i) (j := j8) (by omega) (by have := hj8 (by omega); omega)
  refine g_astore_n C dX6_walkTest_11 (by decide) rfl ?_
  refine g_aload_n C dX6_walkTest_12 rfl ?_
  refine g_get (ci := 8) C rfl inTX6 3 (by decide) fl_RX6_30 rfl hC.o rfl dX6_walkTest_13 ?_
  refine g_aload_n C dX6_walkTest_16 rfl ?_
  refine g_get (ci := 6) C rfl inTX4 1 (by decide) fl_RX6_72 rfl (hC.W i (by omega)).1 rfl dX6_walkTest_17 ?_
  refine g_callV C (s_X1_bottom _ hF (k := ss i) (by omega)) (ci := 3) rfl hF.1 rfl ml_RX6_123 im_yX1_bottom se_RX1_yX1_bottom in_RX1 co_yX1_bottom hd_X1_bottom rfl ⟨by omega, by omega⟩ rfl (Nat.le_of_ble_eq_true rfl) ⟨by omega, by omega⟩ dX6_walkTest_20 (fun v20 w20 hp20 => ?_)
  obtain ⟨⟨j20, rfl, hj20a, hj20b, hj20⟩, hw20⟩ := hp20
  subst w20
  have f20 := hG.bot (k := ss i) (j := j20) (by omega) (by have := hj20 (by omega); omega)
  refine g_astore C dX6_walkTest_23 (by decide) rfl ?_
  refine g_iload_n C dX6_walkTest_25 rfl ?_
  rcases (show z = 0 ∨ z = 1 ∨ z = 2 by omega) with q | q | q <;> subst q
  · refine g_lookup (tgt := 52) (off := 26) C dX6_walkTest_26 (by omega) (by decide) (by decide) rfl ?_
    refine g_aload_n C dX6_walkTest_52 rfl ?_
    refine g_get (ci := 8) C rfl inTX6 4 (by decide) fl_RX6_37 rfl hC.o rfl dX6_walkTest_53 ?_
    refine g_aload_n C dX6_walkTest_56 rfl ?_
    refine g_aload C dX6_walkTest_57 rfl ?_
    refine g_callV C (s_X0_divisor _ hC.N hC.D (j := j8) (k := j20) (by omega) (by omega) f8 hw.1.1 f20 hw.2.1.1 hw.2.2.2.2.1 hw.2.2.2.2.2.1) (ci := 2) rfl hC.D rfl ml_RX6_358 im_yX0_divisor se_RX0_yX0_divisor in_RX0 co_yX0_divisor hd_X0_divisor rfl ⟨by omega, by omega⟩ rfl (Nat.le_of_ble_eq_true rfl) ⟨by omega, by omega⟩ dX6_walkTest_59 (fun v59 w59 hp59 => ?_)
    obtain ⟨g59, z59, rfl, hg59, f59, z59a, z59b, z59c, hN59, hk59⟩ := hp59
    have hz59 := wk_cop hV.1 hV.2.1 (k := (ss i).toNat) (by omega) z59a z59b z59c
    subst hz59
    replace hC := hC.kn hk59 hN59
    replace hK := hK.tr hk59.kc
    replace hF := hF.kn hk59 hN59
    replace hG := hG.kn hk59 hN59
    replace f8 := hk59.nw hN59 (by omega) f8
    replace f20 := hk59.nw hN59 (by omega) f20
    refine g_callV C (v_X5_lowBits _ f59 ) (ci := 7) rfl (hC.N.W (j := g59) (by omega)).o rfl ml_RX6_362 im_yX5_lowBits se_RX5_yX5_lowBits in_RX5 co_yX5_lowBits hd_X5_lowBits rfl ⟨by omega, by omega⟩ rfl (Nat.le_of_ble_eq_true rfl) ⟨by omega, by omega⟩ dX6_walkTest_62 (fun v62 w62 hp62 => ?_)
    obtain ⟨rfl, hw62⟩ := hp62
    subst w62
    refine g_l2i C dX6_walkTest_65 ?_
    exact g_ireturn C hQ dX6_walkTest_66 (Nat.le_refl _) (Nat.le_refl _) ⟨rfl, hF, hG, hC, hK⟩
  · refine g_lookup (tgt := 67) (off := 41) C dX6_walkTest_26 (by omega) (by decide) (by decide) rfl ?_
    refine g_aload_n C dX6_walkTest_67 rfl ?_
    refine g_get (ci := 8) C rfl inTX6 4 (by decide) fl_RX6_37 rfl hC.o rfl dX6_walkTest_68 ?_
    refine g_aload_n C dX6_walkTest_71 rfl ?_
    refine g_aload C dX6_walkTest_72 rfl ?_
    refine g_aload_n C dX6_walkTest_74 rfl ?_
    refine g_aload_n C dX6_walkTest_75 rfl ?_
    refine g_iconst C dX6_walkTest_76 ?_
    refine g_callV C (s_X6_walkNumber _ hC hi hF hV hG (z := 2) (by omega)) (ci := 8) rfl hC.o rfl ml_RX6_98 im_yX6_walkNumber se_RX6_yX6_walkNumber in_RX6 co_yX6_walkNumber hd_X6_walkNumber rfl ⟨by omega, by omega⟩ rfl (Nat.le_of_ble_eq_true rfl) ⟨by omega, by omega⟩ dX6_walkTest_77 (fun v77 w77 hp77 => ?_)
    obtain ⟨⟨j77, rfl, hj77, f77⟩, hw77⟩ := hp77
    subst w77
    refine g_aload_n C dX6_walkTest_80 rfl ?_
    refine g_aload_n C dX6_walkTest_81 rfl ?_
    refine g_iconst C dX6_walkTest_82 ?_
    refine g_callV C (s_X6_walkNumber _ hC hi hF hV hG (z := 3) (by omega)) (ci := 8) rfl hC.o rfl ml_RX6_98 im_yX6_walkNumber se_RX6_yX6_walkNumber in_RX6 co_yX6_walkNumber hd_X6_walkNumber rfl ⟨by omega, by omega⟩ rfl (Nat.le_of_ble_eq_true rfl) ⟨by omega, by omega⟩ dX6_walkTest_83 (fun v83 w83 hp83 => ?_)
    obtain ⟨⟨j83, rfl, hj83, f83⟩, hw83⟩ := hp83
    subst w83
    refine g_callV C (s_X0_cross _ hC.N hC.D (i := j8) (j := j20) (k := j77) (m := j83) (by omega) (by omega) (by omega) (by omega) f8 hw.1.1 f20 hw.2.1.1 f77 hw.1.2 f83 hw.2.1.2) (ci := 2) rfl hC.D rfl ml_RX6_366 im_yX0_cross se_RX0_yX0_cross in_RX0 co_yX0_cross hd_X0_cross rfl ⟨by omega, by omega⟩ rfl (Nat.le_of_ble_eq_true rfl) ⟨by omega, by omega⟩ dX6_walkTest_86 (fun v86 w86 hp86 => ?_)
    obtain ⟨rfl, f86, hN86, hk86⟩ := hp86
    replace hC := hC.kn hk86 hN86
    replace hK := hK.tr hk86.kc
    replace hF := hF.kn hk86 hN86
    replace hG := hG.kn hk86 hN86
    replace f8 := hk86.nw hN86 (by omega) f8
    replace f20 := hk86.nw hN86 (by omega) f20
    replace f77 := hk86.nw hN86 (by omega) f77
    replace f83 := hk86.nw hN86 (by omega) f83
    refine g_callV C (v_X5_lowBits _ f86 ) (ci := 7) rfl (hC.N.W (j := 0) (by omega)).o rfl ml_RX6_362 im_yX5_lowBits se_RX5_yX5_lowBits in_RX5 co_yX5_lowBits hd_X5_lowBits rfl ⟨by omega, by omega⟩ rfl (Nat.le_of_ble_eq_true rfl) ⟨by omega, by omega⟩ dX6_walkTest_89 (fun v89 w89 hp89 => ?_)
    obtain ⟨rfl, hw89⟩ := hp89
    subst w89
    refine g_l2i C dX6_walkTest_92 ?_
    exact g_ireturn C hQ dX6_walkTest_93 (Nat.le_refl _) (Nat.le_refl _) ⟨by rw [show wnV (bs i) r (ss i).toNat 3 = (pq (bs i) r 0 1 (ss i).toNat).2 from rfl, show wnV (bs i) r (ss i).toNat 2 = (pq (bs i) r 1 r (ss i).toNat).2 from rfl, hw.2.2.1]; rfl, hF, hG, hC, hK⟩
  · refine g_lookup (tgt := 94) (off := 68) C dX6_walkTest_26 (by omega) (by decide) (by decide) rfl ?_
    refine g_aload_n C dX6_walkTest_94 rfl ?_
    refine g_get (ci := 8) C rfl inTX6 4 (by decide) fl_RX6_37 rfl hC.o rfl dX6_walkTest_95 ?_
    refine g_aload_n C dX6_walkTest_98 rfl ?_
    refine g_get (ci := 6) C rfl inTX4 0 (by decide) fl_RX6_68 rfl (hC.W i (by omega)).1 rfl dX6_walkTest_99 ?_
    refine g_aload_n C dX6_walkTest_102 rfl ?_
    refine g_aload C dX6_walkTest_103 rfl ?_
    refine g_callV C (s_X0_norm _ hC.N hC.D (b := bs i) (by omega) (j := j8) (k := j20) (by omega) (by omega) f8 hw.1.1 f20 hw.2.1.1) (ci := 2) rfl hC.D rfl ml_RX6_234 im_yX0_norm se_RX0_yX0_norm in_RX0 co_yX0_norm hd_X0_norm rfl ⟨by omega, by omega⟩ rfl (Nat.le_of_ble_eq_true rfl) ⟨by omega, by omega⟩ dX6_walkTest_105 (fun v105 w105 hp105 => ?_)
    obtain ⟨rfl, f105, hN105, hk105⟩ := hp105
    replace hC := hC.kn hk105 hN105
    replace hK := hK.tr hk105.kc
    replace hF := hF.kn hk105 hN105
    replace hG := hG.kn hk105 hN105
    replace f8 := hk105.nw hN105 (by omega) f8
    replace f20 := hk105.nw hN105 (by omega) f20
    refine g_callV C (v_X5_lowBits _ f105 ) (ci := 7) rfl (hC.N.W (j := 1) (by omega)).o rfl ml_RX6_362 im_yX5_lowBits se_RX5_yX5_lowBits in_RX5 co_yX5_lowBits hd_X5_lowBits rfl ⟨by omega, by omega⟩ rfl (Nat.le_of_ble_eq_true rfl) ⟨by omega, by omega⟩ dX6_walkTest_108 (fun v108 w108 hp108 => ?_)
    obtain ⟨rfl, hw108⟩ := hp108
    subst w108
    refine g_l2i C dX6_walkTest_111 ?_
    exact g_ireturn C hQ dX6_walkTest_112 (Nat.le_refl _) (Nat.le_refl _) ⟨by rw [hw.2.2.2.1]; rfl, hF, hG, hC, hK⟩
set_option maxHeartbeats 4000000 in
set_option maxRecDepth 100000 in
theorem s_X6_walkDecimals (l : Launch) {E : GE} {w : Wd} {τ ad : Nat → Nat} {bs ss : Nat → Int} {pb : Nat → PT} {P Q : Nat → Nat} {ct : Nat → Int} (hC0 : CS τ ad w bs ss pb P Q ct) {i : Nat} (hi : i < 3) {r : Int} {m d a : Nat → Int} (hF0 : FS ad w (bs i) r m d a) (hV : FV (bs i) r m d a) (hG0 : FN ad w (bs i) r) {z : Nat} (hz : z ≤ 16) : Sp E l yX6_walkDecimals cX6_walkDecimals 3 (some .long) 4 (0) (0) [.ref (ad 100), .ref (ad (120 + i)), iI (z : Int)] w (fun r' w' => r' = some (jJ ((pq (bs i) r 1 r (ss i).toNat).1 * 10 ^ z / (pq (bs i) r 0 1 (ss i).toNat).1)) ∧ CS τ ad w' (bs) (ss) (pb) (P) (Q) (ct) ∧ KO τ w w') := by
  refine sp_intro [some (.ref (ad 100)), some (.ref (ad (120 + i))), some (iI (z : Int))] rfl (Nat.le_of_ble_eq_true rfl) pn_X6 ?_
  intro X C hRm hl hnm hQ
  obtain ⟨hRf, hRl, hRc, hRs⟩ := hRm
  refine g_wf (fun hwf => ?_)
  have hC := hC0
  have hK : KO τ w w := KO.rf _ _
  have hF := hF0
  have hG := hG0
  have hs := (hC.W i (by omega)).2.2
  have hgb := (hC.W i (by omega)).2.1
  have hbl := hgb.1
  have hbh := hgb.2.1
  have hr09 := RT_le hV.1 hV.2.1
  have hw := wk_f hV.1 hV.2.1 (k := (ss i).toNat) (by omega)
  refine g_aload_n C dX6_walkDecimals_0 rfl ?_
  refine g_get (ci := 8) C rfl inTX6 4 (by decide) fl_RX6_37 rfl hC.o rfl dX6_walkDecimals_1 ?_
  refine g_aload_n C dX6_walkDecimals_4 rfl ?_
  refine g_get (ci := 8) C rfl inTX6 3 (by decide) fl_RX6_30 rfl hC.o rfl dX6_walkDecimals_5 ?_
  refine g_aload_n C dX6_walkDecimals_8 rfl ?_
  refine g_get (ci := 6) C rfl inTX4 1 (by decide) fl_RX6_72 rfl (hC.W i (by omega)).1 rfl dX6_walkDecimals_9 ?_
  refine g_callV C (s_X1_top _ hF (k := ss i) (by omega)) (ci := 3) rfl hF.1 rfl ml_RX6_119 im_yX1_top se_RX1_yX1_top in_RX1 co_yX1_top hd_X1_top rfl ⟨by omega, by omega⟩ rfl (Nat.le_of_ble_eq_true rfl) ⟨by omega, by omega⟩ dX6_walkDecimals_12 (fun v12 w12 hp12 => ?_)
  obtain ⟨⟨j12, rfl, hj12a, hj12b, hj12⟩, hw12⟩ := hp12
  subst w12
  have f12 := hG.top (k := ss i) (j := j12) (by omega) (by have := hj12 (by omega); omega)
  refine g_aload_n C dX6_walkDecimals_15 rfl ?_
  refine g_get (ci := 8) C rfl inTX6 3 (by decide) fl_RX6_30 rfl hC.o rfl dX6_walkDecimals_16 ?_
  refine g_aload_n C dX6_walkDecimals_19 rfl ?_
  refine g_get (ci := 6) C rfl inTX4 1 (by decide) fl_RX6_72 rfl (hC.W i (by omega)).1 rfl dX6_walkDecimals_20 ?_
  refine g_callV C (s_X1_bottom _ hF (k := ss i) (by omega)) (ci := 3) rfl hF.1 rfl ml_RX6_123 im_yX1_bottom se_RX1_yX1_bottom in_RX1 co_yX1_bottom hd_X1_bottom rfl ⟨by omega, by omega⟩ rfl (Nat.le_of_ble_eq_true rfl) ⟨by omega, by omega⟩ dX6_walkDecimals_23 (fun v23 w23 hp23 => ?_)
  obtain ⟨⟨j23, rfl, hj23a, hj23b, hj23⟩, hw23⟩ := hp23
  subst w23
  have f23 := hG.bot (k := ss i) (j := j23) (by omega) (by have := hj23 (by omega); omega)
  refine g_iload_n C dX6_walkDecimals_26 rfl ?_
  refine g_callV C (s_X0_quotient _ hC.N hC.D (p := z) hz (j := j12) (k := j23) (by omega) (by omega) f12 hw.1.1 f23 (Int.le_of_lt hw.2.2.2.2.1) (Int.le_of_lt hw.2.2.2.2.2.1)) (ci := 2) rfl hC.D rfl ml_RX6_370 im_yX0_quotient se_RX0_yX0_quotient in_RX0 co_yX0_quotient hd_X0_quotient rfl ⟨by omega, by omega⟩ rfl (Nat.le_of_ble_eq_true rfl) ⟨by omega, by omega⟩ dX6_walkDecimals_27 (fun v27 w27 hp27 => ?_)
  obtain ⟨rfl, hN27, hk27⟩ := hp27
  replace hC := hC.kn hk27 hN27
  replace hK := hK.tr hk27.kc
  replace hF := hF.kn hk27 hN27
  replace hG := hG.kn hk27 hN27
  exact g_lreturn C hQ dX6_walkDecimals_30 (Nat.le_refl _) (Nat.le_refl _) ⟨rfl, hC, hK⟩
theorem bits120 {v : Int} (hv : aB v < 2 ^ 120) (z : Int) : (if z = 0 then hiB (aB v) 504 + 1 else if z = 1 then onB (aB v) 504 else loB (aB v) 504) = bitV v z := by
  unfold bitV
  rw [hiB_ext (aB_0 v) hv (q := 504) (by omega), onB_ext (aB_0 v) hv (q := 504) (by omega), loB_ext (aB_0 v) hv (q := 504) (by omega)]
theorem pq_120 {b r x y : Int} (hb : GB b) (hr : RT b r) (h0 : 0 ≤ x ∧ x ≤ 1) (h1 : 0 ≤ y ∧ y ≤ 9) {k : Nat} (hk : k ≤ 26) : aB (pq b r x y k).2 < 2 ^ 120 := by
  have := row_b hb hr h0 h1 hk
  have e : (2 : Int) ^ 120 = 1329227995784915872903807060280344576 := by decide +kernel
  rw [aB_p this.1, e]
  omega
theorem lg_120 {v : Int} (h : ¬ LGN ≤ aB v) : aB v < 2 ^ 120 := by
  have e : (2 : Int) ^ 120 = 1329227995784915872903807060280344576 := by decide +kernel
  have e2 : LGN = 1208925819614629174706176 := rfl
  rw [e]
  omega
set_option maxHeartbeats 4000000 in
set_option maxRecDepth 100000 in
theorem s_X6_countBits (l : Launch) {E : GE} {w : Wd} {τ ad : Nat → Nat} {bs ss : Nat → Int} {pb : Nat → PT} {P Q : Nat → Nat} {ct : Nat → Int} (hC0 : CS τ ad w bs ss pb P Q ct) {j : Nat} (hj : j < 70) {v : Int} (hv : NW ad w j v) (hs : aB v < 2 ^ 120) {z : Int} (hz : 0 ≤ z ∧ z ≤ 2) : Sp E l yX6_countBits cX6_countBits 2 (some .int) 2 (0) (0) [.ref (wo ad j), iI z] w (fun r' w' => r' = some (iI (bitV v z)) ∧ w' = w) := by
  refine sp_intro [some (.ref (wo ad j)), some (iI z)] rfl (Nat.le_of_ble_eq_true rfl) pn_X6 ?_
  intro X C hRm hl hnm hQ
  obtain ⟨hRf, hRl, hRc, hRs⟩ := hRm
  refine g_wf (fun hwf => ?_)
  have hC := hC0
  have hK : KO τ w w := KO.rf _ _
  refine g_iload_n C dX6_countBits_0 rfl ?_
  rcases (show z = 0 ∨ z = 1 ∨ z = 2 by omega) with q | q | q <;> subst q
  · refine g_lookup (tgt := 28) (off := 27) C dX6_countBits_1 (by omega) (by decide) (by decide) rfl ?_
    refine g_aload_n C dX6_countBits_28 rfl ?_
    refine g_callV C (u_X5_bits _ hv ) (ci := 7) rfl (hC.N.W (j := j) (by omega)).o rfl ml_RX6_374 im_yX5_bits se_RX5_yX5_bits in_RX5 co_yX5_bits hd_X5_bits rfl ⟨by omega, by omega⟩ rfl (Nat.le_of_ble_eq_true rfl) ⟨by omega, by omega⟩ dX6_countBits_29 (fun v29 w29 hp29 => ?_)
    obtain ⟨rfl, hw29⟩ := hp29
    subst w29
    exact g_ireturn C hQ dX6_countBits_32 (Nat.le_refl _) (Nat.le_refl _) ⟨by rw [← bits120 hs, if_pos rfl], rfl⟩
  · refine g_lookup (tgt := 33) (off := 32) C dX6_countBits_1 (by omega) (by decide) (by decide) rfl ?_
    refine g_aload_n C dX6_countBits_33 rfl ?_
    refine g_callV C (u_X5_ones _ hv ) (ci := 7) rfl (hC.N.W (j := j) (by omega)).o rfl ml_RX6_377 im_yX5_ones se_RX5_yX5_ones in_RX5 co_yX5_ones hd_X5_ones rfl ⟨by omega, by omega⟩ rfl (Nat.le_of_ble_eq_true rfl) ⟨by omega, by omega⟩ dX6_countBits_34 (fun v34 w34 hp34 => ?_)
    obtain ⟨rfl, hw34⟩ := hp34
    subst w34
    exact g_ireturn C hQ dX6_countBits_37 (Nat.le_refl _) (Nat.le_refl _) ⟨by rw [← bits120 hs, if_neg (by decide), if_pos rfl], rfl⟩
  · refine g_lookup (tgt := 38) (off := 37) C dX6_countBits_1 (by omega) (by decide) (by decide) rfl ?_
    refine g_aload_n C dX6_countBits_38 rfl ?_
    refine g_callV C (u_X5_zerosBehind _ hv ) (ci := 7) rfl (hC.N.W (j := j) (by omega)).o rfl ml_RX6_380 im_yX5_zerosBehind se_RX5_yX5_zerosBehind in_RX5 co_yX5_zerosBehind hd_X5_zerosBehind rfl ⟨by omega, by omega⟩ rfl (Nat.le_of_ble_eq_true rfl) ⟨by omega, by omega⟩ dX6_countBits_39 (fun v39 w39 hp39 => ?_)
    obtain ⟨rfl, hw39⟩ := hp39
    subst w39
    exact g_ireturn C hQ dX6_countBits_42 (Nat.le_refl _) (Nat.le_refl _) ⟨by rw [← bits120 hs, if_neg (by decide), if_neg (by decide)], rfl⟩
