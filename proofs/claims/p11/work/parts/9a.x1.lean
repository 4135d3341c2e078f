/-! what is thrown -/
set_option maxRecDepth 20000 in
theorem hatIO1 : ∀ w ∈ (vx_atS RX6 345 sIO nEx).filter goodWord, w ∈ GT := gt_in [51, 579, 588, 593, 596, 598, 580, 581, 75, 76, 582, 587, 594, 619, 569, 620, 571, 621, 573, 583, 585, 575, 615, 616, 618, 575, 655, 656, 657, 609, 609, 610, 611, 612, 612, 613, 614, 615, 1001, 992, 994, 591, 995, 996, 997, 998, 578, 577, 999] (by decide +kernel) (by decide +kernel)
set_option maxRecDepth 20000 in
theorem hatIA1 : ∀ w ∈ (vx_atS RX6 352 sIA nEx).filter goodWord, w ∈ GT := gt_in [51, 579, 588, 593, 596, 598, 580, 581, 75, 76, 582, 587, 594, 619, 569, 620, 571, 621, 573, 583, 585, 575, 615, 616, 618, 575, 606, 607, 608, 609, 609, 610, 611, 612, 612, 613, 614, 615, 964, 558, 566, 567, 568, 570, 572, 574, 578, 577, 576] (by decide +kernel) (by decide +kernel)
theorem hatIO2 : ∀ w ∈ (vx_atS RX6 345 sIO nEx).filter (fun w => !goodWord w), w ∈ xB sIO := by decide +kernel
theorem hatIA2 : ∀ w ∈ (vx_atS RX6 352 sIA nEx).filter (fun w => !goodWord w), w ∈ xB sIA := by decide +kernel
theorem hgIO : ∀ w ∈ Cond.classLink RX6 341 sIO :: Cond.initialized sIO :: vx_atS RX6 345 sIO nEx, vx_ot w = true := by decide +kernel
theorem hgIA : ∀ w ∈ Cond.classLink RX6 348 sIA :: Cond.initialized sIA :: vx_atS RX6 352 sIA nEx, vx_ot w = true := by decide +kernel
theorem fitIO : Bundle.fit sIO = true := by decide +kernel
theorem fitIA : Bundle.fit sIA = true := by decide +kernel
theorem fitEx : ∀ n ∈ nEx, Bundle.fit n = true := by decide +kernel
set_option maxHeartbeats 4000000 in
set_option maxRecDepth 100000 in
theorem x_X6_checkThing (l : Launch) {K : KC} {E : GE} {w : Wd} (hfl : l.stackTraces = false) {v : Int} (h_v : -2147483648 ≤ v ∧ v < 2147483648) (hv : ¬ (0 ≤ v ∧ v ≤ 2)) : Tx K E l yX6_checkThing cX6_checkThing 1 none 6 (1) (6) [iI v] w sIO (fun w' => w.1 ≤ w'.1 ∧ w'.2 = w.2) := by
  refine tx_intro [some (iI v)] rfl (Nat.le_of_ble_eq_true rfl) pn_X6 ?_
  intro X C hT hH hRm hl hne hX
  obtain ⟨hRf, hRl, hRc, hRs⟩ := hRm
  have hls : (xl X).stackTraces = false := by rw [hl]; exact hfl
  refine g_iload_n C dX6_checkThing_0 rfl ?_
  refine g_if_lt (tgt := 9) C dX6_checkThing_1 (by decide) (by omega) (fun h1 => ?_) (fun h1 => ?_)
  · exact x_throw C hT hne hX hls fitIO fitEx kl_RX6_341 gw_initialized_java_lang_IndexOutOfBoundsException (hT.1 5 ("Rootwalk", 343, "not 0 to 2") rfl) hatIO1 hatIO2 hH.1 hH hgIO dX6_checkThing_9 dX6_checkThing_12 dX6_checkThing_13 dX6_checkThing_16 dX6_checkThing_19 ⟨by omega, by omega⟩ ⟨by omega, by omega, by omega, by omega⟩ (fun w' h1 h2 => ⟨h1, h2⟩)
  · refine g_iload_n C dX6_checkThing_4 rfl ?_
    refine g_iconst C dX6_checkThing_5 ?_
    refine g_icmp_lt (tgt := 20) C dX6_checkThing_6 (by decide) (by omega) (by omega) (fun h6 => ?_) (fun h6 => ?_)
    · omega
    · exact x_throw C hT hne hX hls fitIO fitEx kl_RX6_341 gw_initialized_java_lang_IndexOutOfBoundsException (hT.1 5 ("Rootwalk", 343, "not 0 to 2") rfl) hatIO1 hatIO2 hH.1 hH hgIO dX6_checkThing_9 dX6_checkThing_12 dX6_checkThing_13 dX6_checkThing_16 dX6_checkThing_19 ⟨by omega, by omega⟩ ⟨by omega, by omega, by omega, by omega⟩ (fun w' h1 h2 => ⟨h1, h2⟩)
set_option maxHeartbeats 4000000 in
set_option maxRecDepth 100000 in
theorem x_X6_checkRange (l : Launch) {K : KC} {E : GE} {w : Wd} (hfl : l.stackTraces = false) {v lo hi : Int} (h_v : -2147483648 ≤ v ∧ v < 2147483648) (hl1 : -2147483648 ≤ lo ∧ lo < 2147483648) (hh1 : -2147483648 ≤ hi ∧ hi < 2147483648) (hv : ¬ (lo ≤ v ∧ v ≤ hi)) : Tx K E l yX6_checkRange cX6_checkRange 3 none 6 (1) (6) [iI v, iI lo, iI hi] w sIA (fun w' => w.1 ≤ w'.1 ∧ w'.2 = w.2) := by
  refine tx_intro [some (iI v), some (iI lo), some (iI hi)] rfl (Nat.le_of_ble_eq_true rfl) pn_X6 ?_
  intro X C hT hH hRm hl hne hX
  obtain ⟨hRf, hRl, hRc, hRs⟩ := hRm
  have hls : (xl X).stackTraces = false := by rw [hl]; exact hfl
  refine g_iload_n C dX6_checkRange_0 rfl ?_
  refine g_iload_n C dX6_checkRange_1 rfl ?_
  refine g_icmp_lt (tgt := 10) C dX6_checkRange_2 (by decide) (by omega) (by omega) (fun h2 => ?_) (fun h2 => ?_)
  · exact x_throw C hT hne hX hls fitIA fitEx kl_RX6_348 gw_initialized_java_lang_IllegalArgumentException (hT.1 6 ("Rootwalk", 350, "out of its range") rfl) hatIA1 hatIA2 hH.2.1 hH hgIA dX6_checkRange_10 dX6_checkRange_13 dX6_checkRange_14 dX6_checkRange_17 dX6_checkRange_20 ⟨by omega, by omega⟩ ⟨by omega, by omega, by omega, by omega⟩ (fun w' h1 h2 => ⟨h1, h2⟩)
  · refine g_iload_n C dX6_checkRange_5 rfl ?_
    refine g_iload_n C dX6_checkRange_6 rfl ?_
    refine g_icmp_le (tgt := 21) C dX6_checkRange_7 (by decide) (by omega) (by omega) (fun h7 => ?_) (fun h7 => ?_)
    · omega
    · exact x_throw C hT hne hX hls fitIA fitEx kl_RX6_348 gw_initialized_java_lang_IllegalArgumentException (hT.1 6 ("Rootwalk", 350, "out of its range") rfl) hatIA1 hatIA2 hH.2.1 hH hgIA dX6_checkRange_10 dX6_checkRange_13 dX6_checkRange_14 dX6_checkRange_17 dX6_checkRange_20 ⟨by omega, by omega⟩ ⟨by omega, by omega, by omega, by omega⟩ (fun w' h1 h2 => ⟨h1, h2⟩)
set_option maxHeartbeats 4000000 in
set_option maxRecDepth 100000 in
theorem x_X6_checkBase (l : Launch) {K : KC} {E : GE} {w : Wd} (hfl : l.stackTraces = false) {v : Int} (h_v : -2147483648 ≤ v ∧ v < 2147483648) (hv : ¬ GB v) : Tx K E l yX6_checkBase cX6_checkBase 2 none 7 (1) (6) [iI v] w sIA (fun w' => w.1 ≤ w'.1 ∧ w'.2 = w.2) := by
  refine tx_intro [some (iI v), none] rfl (Nat.le_of_ble_eq_true rfl) pn_X6 ?_
  intro X C hT hH hRm hl hne hX
  obtain ⟨hRf, hRl, hRc, hRs⟩ := hRm
  have hls : (xl X).stackTraces = false := by rw [hl]; exact hfl
  refine g_iload_n C dX6_checkBase_0 rfl ?_
  refine g_iconst C dX6_checkBase_1 ?_
  refine g_bipush C dX6_checkBase_2 (by decide) ?_
  by_cases hc4 : 2 ≤ v ∧ v ≤ 99
  · refine g_callS C (s_X6_checkRange _ (v := v) (lo := 2) (hi := 99) hc4 (by omega) (by omega)) ml_RX6_82 sm_yX6_checkRange in_RX6 co_yX6_checkRange hd_X6_checkRange rfl ⟨by omega, by omega⟩ rfl (Nat.le_of_ble_eq_true rfl) ⟨by omega, by omega⟩ dX6_checkBase_4 (fun v4 w4 hp4 => ?_)
    obtain ⟨rfl, hw4⟩ := hp4
    subst w4
    refine g_iload_n C dX6_checkBase_7 rfl ?_
    refine g_callS C (s_X6_rootOf _ (b := v) (by omega)) ml_RX6_78 sm_yX6_rootOf in_RX6 co_yX6_rootOf hd_X6_rootOf rfl ⟨by omega, by omega⟩ rfl (Nat.le_of_ble_eq_true rfl) ⟨by omega, by omega⟩ dX6_checkBase_8 (fun v8 w8 hp8 => ?_)
    obtain ⟨⟨r8, rfl, hr8⟩, hw8⟩ := hp8
    subst w8
    refine g_istore_n C dX6_checkBase_11 (by decide) rfl ?_
    refine g_iload_n C dX6_checkBase_12 rfl ?_
    refine g_iload_n C dX6_checkBase_13 rfl ?_
    refine g_imul C dX6_checkBase_14 ?_
    refine g_iload_n C dX6_checkBase_15 rfl ?_
    refine g_icmp_ne (tgt := 30) C dX6_checkBase_16 (by decide) (by have := hr8.2.1; have := Int.mul_nonneg hr8.1 hr8.1; omega) (by omega) (fun h16 => ?_) (fun h16 => ?_)
    · refine (hv ⟨hc4.1, hc4.2, fun m hm => ?_⟩).elim
      have e1 := hr8.1
      have e2 := hr8.2.1
      have e3 := hr8.2.2
      have hz : ∃ x : Int, 0 ≤ x ∧ x * x = v := by
        rcases Int.lt_or_le m 0 with q | q
        · exact ⟨-m, by omega, by rw [Int.neg_mul_neg]; exact hm⟩
        · exact ⟨m, q, hm⟩
      obtain ⟨x, x0, x1⟩ := hz
      rcases Int.lt_or_le x r8 with q | q
      · have := Int.mul_le_mul (show x + 1 ≤ r8 by omega) (show x + 1 ≤ r8 by omega) (by omega) (by omega)
        have g : (x + 1) * (x + 1) = x * x + 2 * x + 1 := by grind
        omega
      · rcases Int.lt_or_le r8 x with c | c
        · have := Int.mul_le_mul (show r8 + 1 ≤ x by omega) (show r8 + 1 ≤ x by omega) (by omega) (by omega)
          omega
        · have : x = r8 := by omega
          subst this
          exact h16 x1
    · exact x_throw C hT hne hX hls fitIA fitEx kl_RX6_348 gw_initialized_java_lang_IllegalArgumentException (hT.1 7 ("Rootwalk", 353, "a square is not a BASE") rfl) hatIA1 hatIA2 hH.2.1 hH hgIA dX6_checkBase_19 dX6_checkBase_22 dX6_checkBase_23 dX6_checkBase_26 dX6_checkBase_29 ⟨by omega, by omega⟩ ⟨by omega, by omega, by omega, by omega⟩ (fun w' h1 h2 => ⟨h1, h2⟩)
  · exact x_callS C hT hH hne hX (x_X6_checkRange _ hls (v := v) (lo := 2) (hi := 99) h_v (by omega) (by omega) hc4) ml_RX6_82 sm_yX6_checkRange in_RX6 co_yX6_checkRange hd_X6_checkRange rfl ⟨by omega, by omega⟩ rfl (Nat.le_of_ble_eq_true rfl) ⟨by omega, by omega⟩ ⟨by omega, by omega⟩ dX6_checkBase_4 (fun w' h => h)
set_option maxHeartbeats 4000000 in
set_option maxRecDepth 100000 in
theorem x_X6_open_IO (l : Launch) {K : KC} {E : GE} {w : Wd} (hfl : l.stackTraces = false) {a0 : Nat} {p : Int} (h_p : -2147483648 ≤ p ∧ p < 2147483648) {q : Int} (h_q : -2147483648 ≤ q ∧ q < 2147483648)  (hbad : ¬ ((0 ≤ p ∧ p ≤ 2))) : Tx K E l yX6_open cX6_open 3 (some .int) 7 (1) (6) [.ref a0, iI p, iI q] w sIO (fun w' => w.1 ≤ w'.1 ∧ w'.2 = w.2) := by
  refine tx_intro [some (.ref a0), some (iI p), some (iI q)] rfl (Nat.le_of_ble_eq_true rfl) pn_X6 ?_
  intro X C hT hH hRm hl hne hX
  obtain ⟨hRf, hRl, hRc, hRs⟩ := hRm
  have hls : (xl X).stackTraces = false := by rw [hl]; exact hfl
  refine g_iload_n C dX6_open_0 rfl ?_
  by_cases hc1 : (0 ≤ p ∧ p ≤ 2)
  · refine g_callS C (s_X6_checkThing _ (v := p) hc1) ml_RX6_61 sm_yX6_checkThing in_RX6 co_yX6_checkThing hd_X6_checkThing rfl ⟨by omega, by omega⟩ rfl (Nat.le_of_ble_eq_true rfl) ⟨by omega, by omega⟩ dX6_open_1 (fun v1 w1 hp1 => ?_)
    obtain ⟨rfl, hw1⟩ := hp1
    subst w1
    exact (hbad hc1).elim
  · exact x_callS C hT hH hne hX (x_X6_checkThing _ hls (v := p) h_p hc1) ml_RX6_61 sm_yX6_checkThing in_RX6 co_yX6_checkThing hd_X6_checkThing rfl ⟨by omega, by omega⟩ rfl (Nat.le_of_ble_eq_true rfl) ⟨by omega, by omega⟩ ⟨by omega, by omega⟩ dX6_open_1 (fun w' h => h)
set_option maxHeartbeats 4000000 in
set_option maxRecDepth 100000 in
theorem x_X6_open_IA (l : Launch) {K : KC} {E : GE} {w : Wd} (hfl : l.stackTraces = false) {a0 : Nat} {p : Int} (h_p : -2147483648 ≤ p ∧ p < 2147483648) {q : Int} (h_q : -2147483648 ≤ q ∧ q < 2147483648) (hg1 : (0 ≤ p ∧ p ≤ 2)) (hbad : ¬ (GB q)) : Tx K E l yX6_open cX6_open 3 (some .int) 8 (1) (6) [.ref a0, iI p, iI q] w sIA (fun w' => w.1 ≤ w'.1 ∧ w'.2 = w.2) := by
  refine tx_intro [some (.ref a0), some (iI p), some (iI q)] rfl (Nat.le_of_ble_eq_true rfl) pn_X6 ?_
  intro X C hT hH hRm hl hne hX
  obtain ⟨hRf, hRl, hRc, hRs⟩ := hRm
  have hls : (xl X).stackTraces = false := by rw [hl]; exact hfl
  refine g_iload_n C dX6_open_0 rfl ?_
  refine g_callS C (s_X6_checkThing _ (v := p) hg1) ml_RX6_61 sm_yX6_checkThing in_RX6 co_yX6_checkThing hd_X6_checkThing rfl ⟨by omega, by omega⟩ rfl (Nat.le_of_ble_eq_true rfl) ⟨by omega, by omega⟩ dX6_open_1 (fun v1 w1 hp1 => ?_)
  obtain ⟨rfl, hw1⟩ := hp1
  subst w1
  refine g_iload_n C dX6_open_4 rfl ?_
  by_cases hc5 : GB q
  · refine g_callS C (s_X6_checkBase _ (v := q) hc5) ml_RX6_65 sm_yX6_checkBase in_RX6 co_yX6_checkBase hd_X6_checkBase rfl ⟨by omega, by omega⟩ rfl (Nat.le_of_ble_eq_true rfl) ⟨by omega, by omega⟩ dX6_open_5 (fun v5 w5 hp5 => ?_)
    obtain ⟨rfl, hw5⟩ := hp5
    subst w5
    exact (hbad hc5).elim
  · exact x_callS C hT hH hne hX (x_X6_checkBase _ hls (v := q) h_q hc5) ml_RX6_65 sm_yX6_checkBase in_RX6 co_yX6_checkBase hd_X6_checkBase rfl ⟨by omega, by omega⟩ rfl (Nat.le_of_ble_eq_true rfl) ⟨by omega, by omega⟩ ⟨by omega, by omega⟩ dX6_open_5 (fun w' h => h)
set_option maxHeartbeats 4000000 in
set_option maxRecDepth 100000 in
theorem x_X6_forth_IO (l : Launch) {K : KC} {E : GE} {w : Wd} (hfl : l.stackTraces = false) {a0 : Nat} {p : Int} (h_p : -2147483648 ≤ p ∧ p < 2147483648) {q : Int} (h_q : -2147483648 ≤ q ∧ q < 2147483648)  (hbad : ¬ ((0 ≤ p ∧ p ≤ 2))) : Tx K E l yX6_forth cX6_forth 4 (some .int) 7 (1) (6) [.ref a0, iI p, iI q] w sIO (fun w' => w.1 ≤ w'.1 ∧ w'.2 = w.2) := by
  refine tx_intro [some (.ref a0), some (iI p), some (iI q), none] rfl (Nat.le_of_ble_eq_true rfl) pn_X6 ?_
  intro X C hT hH hRm hl hne hX
  obtain ⟨hRf, hRl, hRc, hRs⟩ := hRm
  have hls : (xl X).stackTraces = false := by rw [hl]; exact hfl
  refine g_iload_n C dX6_forth_0 rfl ?_
  by_cases hc1 : (0 ≤ p ∧ p ≤ 2)
  · refine g_callS C (s_X6_checkThing _ (v := p) hc1) ml_RX6_61 sm_yX6_checkThing in_RX6 co_yX6_checkThing hd_X6_checkThing rfl ⟨by omega, by omega⟩ rfl (Nat.le_of_ble_eq_true rfl) ⟨by omega, by omega⟩ dX6_forth_1 (fun v1 w1 hp1 => ?_)
    obtain ⟨rfl, hw1⟩ := hp1
    subst w1
    exact (hbad hc1).elim
  · exact x_callS C hT hH hne hX (x_X6_checkThing _ hls (v := p) h_p hc1) ml_RX6_61 sm_yX6_checkThing in_RX6 co_yX6_checkThing hd_X6_checkThing rfl ⟨by omega, by omega⟩ rfl (Nat.le_of_ble_eq_true rfl) ⟨by omega, by omega⟩ ⟨by omega, by omega⟩ dX6_forth_1 (fun w' h => h)
set_option maxHeartbeats 4000000 in
set_option maxRecDepth 100000 in
theorem x_X6_forth_IA (l : Launch) {K : KC} {E : GE} {w : Wd} (hfl : l.stackTraces = false) {a0 : Nat} {p : Int} (h_p : -2147483648 ≤ p ∧ p < 2147483648) {q : Int} (h_q : -2147483648 ≤ q ∧ q < 2147483648) (hg1 : (0 ≤ p ∧ p ≤ 2)) (hbad : ¬ ((1 ≤ q ∧ q ≤ 6))) : Tx K E l yX6_forth cX6_forth 4 (some .int) 7 (1) (6) [.ref a0, iI p, iI q] w sIA (fun w' => w.1 ≤ w'.1 ∧ w'.2 = w.2) := by
  refine tx_intro [some (.ref a0), some (iI p), some (iI q), none] rfl (Nat.le_of_ble_eq_true rfl) pn_X6 ?_
  intro X C hT hH hRm hl hne hX
  obtain ⟨hRf, hRl, hRc, hRs⟩ := hRm
  have hls : (xl X).stackTraces = false := by rw [hl]; exact hfl
  refine g_iload_n C dX6_forth_0 rfl ?_
  refine g_callS C (s_X6_checkThing _ (v := p) hg1) ml_RX6_61 sm_yX6_checkThing in_RX6 co_yX6_checkThing hd_X6_checkThing rfl ⟨by omega, by omega⟩ rfl (Nat.le_of_ble_eq_true rfl) ⟨by omega, by omega⟩ dX6_forth_1 (fun v1 w1 hp1 => ?_)
  obtain ⟨rfl, hw1⟩ := hp1
  subst w1
  refine g_iload_n C dX6_forth_4 rfl ?_
  refine g_iconst C dX6_forth_5 ?_
  refine g_bipush C dX6_forth_6 (by decide) ?_
  by_cases hc8 : (1 ≤ q ∧ q ≤ 6)
  · refine g_callS C (s_X6_checkRange _ (v := q) (lo := 1) (hi := 6) hc8 (by omega) (by omega)) ml_RX6_82 sm_yX6_checkRange in_RX6 co_yX6_checkRange hd_X6_checkRange rfl ⟨by omega, by omega⟩ rfl (Nat.le_of_ble_eq_true rfl) ⟨by omega, by omega⟩ dX6_forth_8 (fun v8 w8 hp8 => ?_)
    obtain ⟨rfl, hw8⟩ := hp8
    subst w8
    exact (hbad hc8).elim
  · exact x_callS C hT hH hne hX (x_X6_checkRange _ hls (v := q) (lo := 1) (hi := 6) h_q (by omega) (by omega) hc8) ml_RX6_82 sm_yX6_checkRange in_RX6 co_yX6_checkRange hd_X6_checkRange rfl ⟨by omega, by omega⟩ rfl (Nat.le_of_ble_eq_true rfl) ⟨by omega, by omega⟩ ⟨by omega, by omega⟩ dX6_forth_8 (fun w' h => h)
set_option maxHeartbeats 4000000 in
set_option maxRecDepth 100000 in
theorem x_X6_back_IO (l : Launch) {K : KC} {E : GE} {w : Wd} (hfl : l.stackTraces = false) {a0 : Nat} {p : Int} (h_p : -2147483648 ≤ p ∧ p < 2147483648)  (hbad : ¬ ((0 ≤ p ∧ p ≤ 2))) : Tx K E l yX6_back cX6_back 3 (some .int) 7 (1) (6) [.ref a0, iI p] w sIO (fun w' => w.1 ≤ w'.1 ∧ w'.2 = w.2) := by
  refine tx_intro [some (.ref a0), some (iI p), none] rfl (Nat.le_of_ble_eq_true rfl) pn_X6 ?_
  intro X C hT hH hRm hl hne hX
  obtain ⟨hRf, hRl, hRc, hRs⟩ := hRm
  have hls : (xl X).stackTraces = false := by rw [hl]; exact hfl
  refine g_iload_n C dX6_back_0 rfl ?_
  by_cases hc1 : (0 ≤ p ∧ p ≤ 2)
  · refine g_callS C (s_X6_checkThing _ (v := p) hc1) ml_RX6_61 sm_yX6_checkThing in_RX6 co_yX6_checkThing hd_X6_checkThing rfl ⟨by omega, by omega⟩ rfl (Nat.le_of_ble_eq_true rfl) ⟨by omega, by omega⟩ dX6_back_1 (fun v1 w1 hp1 => ?_)
    obtain ⟨rfl, hw1⟩ := hp1
    subst w1
    exact (hbad hc1).elim
  · exact x_callS C hT hH hne hX (x_X6_checkThing _ hls (v := p) h_p hc1) ml_RX6_61 sm_yX6_checkThing in_RX6 co_yX6_checkThing hd_X6_checkThing rfl ⟨by omega, by omega⟩ rfl (Nat.le_of_ble_eq_true rfl) ⟨by omega, by omega⟩ ⟨by omega, by omega⟩ dX6_back_1 (fun w' h => h)
set_option maxHeartbeats 4000000 in
set_option maxRecDepth 100000 in
theorem x_X6_walkCopy_IO (l : Launch) {K : KC} {E : GE} {w : Wd} (hfl : l.stackTraces = false) {a0 : Nat} {p : Int} (h_p : -2147483648 ≤ p ∧ p < 2147483648) {q : Int} (h_q : -2147483648 ≤ q ∧ q < 2147483648)  (hbad : ¬ ((0 ≤ p ∧ p ≤ 2) ∧ (0 ≤ q ∧ q ≤ 2))) : Tx K E l yX6_walkCopy cX6_walkCopy 6 (some .int) 7 (1) (6) [.ref a0, iI p, iI q] w sIO (fun w' => w.1 ≤ w'.1 ∧ w'.2 = w.2) := by
  refine tx_intro [some (.ref a0), some (iI p), some (iI q), none, none, none] rfl (Nat.le_of_ble_eq_true rfl) pn_X6 ?_
  intro X C hT hH hRm hl hne hX
  obtain ⟨hRf, hRl, hRc, hRs⟩ := hRm
  have hls : (xl X).stackTraces = false := by rw [hl]; exact hfl
  refine g_iload_n C dX6_walkCopy_0 rfl ?_
  by_cases hc1 : (0 ≤ p ∧ p ≤ 2)
  · refine g_callS C (s_X6_checkThing _ (v := p) hc1) ml_RX6_61 sm_yX6_checkThing in_RX6 co_yX6_checkThing hd_X6_checkThing rfl ⟨by omega, by omega⟩ rfl (Nat.le_of_ble_eq_true rfl) ⟨by omega, by omega⟩ dX6_walkCopy_1 (fun v1 w1 hp1 => ?_)
    obtain ⟨rfl, hw1⟩ := hp1
    subst w1
    refine g_iload_n C dX6_walkCopy_4 rfl ?_
    by_cases hc5 : (0 ≤ q ∧ q ≤ 2)
    · refine g_callS C (s_X6_checkThing _ (v := q) hc5) ml_RX6_61 sm_yX6_checkThing in_RX6 co_yX6_checkThing hd_X6_checkThing rfl ⟨by omega, by omega⟩ rfl (Nat.le_of_ble_eq_true rfl) ⟨by omega, by omega⟩ dX6_walkCopy_5 (fun v5 w5 hp5 => ?_)
      obtain ⟨rfl, hw5⟩ := hp5
      subst w5
      exact (hbad ⟨hc1, hc5⟩).elim
    · exact x_callS C hT hH hne hX (x_X6_checkThing _ hls (v := q) h_q hc5) ml_RX6_61 sm_yX6_checkThing in_RX6 co_yX6_checkThing hd_X6_checkThing rfl ⟨by omega, by omega⟩ rfl (Nat.le_of_ble_eq_true rfl) ⟨by omega, by omega⟩ ⟨by omega, by omega⟩ dX6_walkCopy_5 (fun w' h => h)
  · exact x_callS C hT hH hne hX (x_X6_checkThing _ hls (v := p) h_p hc1) ml_RX6_61 sm_yX6_checkThing in_RX6 co_yX6_checkThing hd_X6_checkThing rfl ⟨by omega, by omega⟩ rfl (Nat.le_of_ble_eq_true rfl) ⟨by omega, by omega⟩ ⟨by omega, by omega⟩ dX6_walkCopy_1 (fun w' h => h)
set_option maxHeartbeats 4000000 in
set_option maxRecDepth 100000 in
theorem x_X6_part_IO (l : Launch) {K : KC} {E : GE} {w : Wd} (hfl : l.stackTraces = false) {a0 : Nat} {p : Int} (h_p : -2147483648 ≤ p ∧ p < 2147483648) {q : Int} (h_q : -2147483648 ≤ q ∧ q < 2147483648)  (hbad : ¬ ((0 ≤ p ∧ p ≤ 2))) : Tx K E l yX6_part cX6_part 3 (some .int) 7 (1) (6) [.ref a0, iI p, iI q] w sIO (fun w' => w.1 ≤ w'.1 ∧ w'.2 = w.2) := by
  refine tx_intro [some (.ref a0), some (iI p), some (iI q)] rfl (Nat.le_of_ble_eq_true rfl) pn_X6 ?_
  intro X C hT hH hRm hl hne hX
  obtain ⟨hRf, hRl, hRc, hRs⟩ := hRm
  have hls : (xl X).stackTraces = false := by rw [hl]; exact hfl
  refine g_iload_n C dX6_part_0 rfl ?_
  by_cases hc1 : (0 ≤ p ∧ p ≤ 2)
  · refine g_callS C (s_X6_checkThing _ (v := p) hc1) ml_RX6_61 sm_yX6_checkThing in_RX6 co_yX6_checkThing hd_X6_checkThing rfl ⟨by omega, by omega⟩ rfl (Nat.le_of_ble_eq_true rfl) ⟨by omega, by omega⟩ dX6_part_1 (fun v1 w1 hp1 => ?_)
    obtain ⟨rfl, hw1⟩ := hp1
    subst w1
    exact (hbad hc1).elim
  · exact x_callS C hT hH hne hX (x_X6_checkThing _ hls (v := p) h_p hc1) ml_RX6_61 sm_yX6_checkThing in_RX6 co_yX6_checkThing hd_X6_checkThing rfl ⟨by omega, by omega⟩ rfl (Nat.le_of_ble_eq_true rfl) ⟨by omega, by omega⟩ ⟨by omega, by omega⟩ dX6_part_1 (fun w' h => h)
set_option maxHeartbeats 4000000 in
set_option maxRecDepth 100000 in
theorem x_X6_part_IA (l : Launch) {K : KC} {E : GE} {w : Wd} (hfl : l.stackTraces = false) {a0 : Nat} {p : Int} (h_p : -2147483648 ≤ p ∧ p < 2147483648) {q : Int} (h_q : -2147483648 ≤ q ∧ q < 2147483648) (hg1 : (0 ≤ p ∧ p ≤ 2)) (hbad : ¬ ((0 ≤ q ∧ q ≤ 5))) : Tx K E l yX6_part cX6_part 3 (some .int) 7 (1) (6) [.ref a0, iI p, iI q] w sIA (fun w' => w.1 ≤ w'.1 ∧ w'.2 = w.2) := by
  refine tx_intro [some (.ref a0), some (iI p), some (iI q)] rfl (Nat.le_of_ble_eq_true rfl) pn_X6 ?_
  intro X C hT hH hRm hl hne hX
  obtain ⟨hRf, hRl, hRc, hRs⟩ := hRm
  have hls : (xl X).stackTraces = false := by rw [hl]; exact hfl
  refine g_iload_n C dX6_part_0 rfl ?_
  refine g_callS C (s_X6_checkThing _ (v := p) hg1) ml_RX6_61 sm_yX6_checkThing in_RX6 co_yX6_checkThing hd_X6_checkThing rfl ⟨by omega, by omega⟩ rfl (Nat.le_of_ble_eq_true rfl) ⟨by omega, by omega⟩ dX6_part_1 (fun v1 w1 hp1 => ?_)
  obtain ⟨rfl, hw1⟩ := hp1
  subst w1
  refine g_iload_n C dX6_part_4 rfl ?_
  refine g_iconst C dX6_part_5 ?_
  refine g_iconst C dX6_part_6 ?_
  by_cases hc7 : (0 ≤ q ∧ q ≤ 5)
  · refine g_callS C (s_X6_checkRange _ (v := q) (lo := 0) (hi := 5) hc7 (by omega) (by omega)) ml_RX6_82 sm_yX6_checkRange in_RX6 co_yX6_checkRange hd_X6_checkRange rfl ⟨by omega, by omega⟩ rfl (Nat.le_of_ble_eq_true rfl) ⟨by omega, by omega⟩ dX6_part_7 (fun v7 w7 hp7 => ?_)
    obtain ⟨rfl, hw7⟩ := hp7
    subst w7
    exact (hbad hc7).elim
  · exact x_callS C hT hH hne hX (x_X6_checkRange _ hls (v := q) (lo := 0) (hi := 5) h_q (by omega) (by omega) hc7) ml_RX6_82 sm_yX6_checkRange in_RX6 co_yX6_checkRange hd_X6_checkRange rfl ⟨by omega, by omega⟩ rfl (Nat.le_of_ble_eq_true rfl) ⟨by omega, by omega⟩ ⟨by omega, by omega⟩ dX6_part_7 (fun w' h => h)
set_option maxHeartbeats 4000000 in
set_option maxRecDepth 100000 in
theorem x_X6_walkText_IO (l : Launch) {K : KC} {E : GE} {w : Wd} (hfl : l.stackTraces = false) {a0 : Nat} {p : Int} (h_p : -2147483648 ≤ p ∧ p < 2147483648) {q : Int} (h_q : -2147483648 ≤ q ∧ q < 2147483648) {r : Int} (h_r : -2147483648 ≤ r ∧ r < 2147483648)  (hbad : ¬ ((0 ≤ p ∧ p ≤ 2))) : Tx K E l yX6_walkText cX6_walkText 4 (some (.object "java/lang/String")) 7 (1) (6) [.ref a0, iI p, iI q, iI r] w sIO (fun w' => w.1 ≤ w'.1 ∧ w'.2 = w.2) := by
  refine tx_intro [some (.ref a0), some (iI p), some (iI q), some (iI r)] rfl (Nat.le_of_ble_eq_true rfl) pn_X6 ?_
  intro X C hT hH hRm hl hne hX
  obtain ⟨hRf, hRl, hRc, hRs⟩ := hRm
  have hls : (xl X).stackTraces = false := by rw [hl]; exact hfl
  refine g_iload_n C dX6_walkText_0 rfl ?_
  by_cases hc1 : (0 ≤ p ∧ p ≤ 2)
  · refine g_callS C (s_X6_checkThing _ (v := p) hc1) ml_RX6_61 sm_yX6_checkThing in_RX6 co_yX6_checkThing hd_X6_checkThing rfl ⟨by omega, by omega⟩ rfl (Nat.le_of_ble_eq_true rfl) ⟨by omega, by omega⟩ dX6_walkText_1 (fun v1 w1 hp1 => ?_)
    obtain ⟨rfl, hw1⟩ := hp1
    subst w1
    exact (hbad hc1).elim
  · exact x_callS C hT hH hne hX (x_X6_checkThing _ hls (v := p) h_p hc1) ml_RX6_61 sm_yX6_checkThing in_RX6 co_yX6_checkThing hd_X6_checkThing rfl ⟨by omega, by omega⟩ rfl (Nat.le_of_ble_eq_true rfl) ⟨by omega, by omega⟩ ⟨by omega, by omega⟩ dX6_walkText_1 (fun w' h => h)
set_option maxHeartbeats 4000000 in
set_option maxRecDepth 100000 in
theorem x_X6_walkText_IA (l : Launch) {K : KC} {E : GE} {w : Wd} (hfl : l.stackTraces = false) {a0 : Nat} {p : Int} (h_p : -2147483648 ≤ p ∧ p < 2147483648) {q : Int} (h_q : -2147483648 ≤ q ∧ q < 2147483648) {r : Int} (h_r : -2147483648 ≤ r ∧ r < 2147483648) (hg1 : (0 ≤ p ∧ p ≤ 2)) (hbad : ¬ ((0 ≤ q ∧ q ≤ 3) ∧ (2 ≤ r ∧ r ≤ 16))) : Tx K E l yX6_walkText cX6_walkText 4 (some (.object "java/lang/String")) 7 (1) (6) [.ref a0, iI p, iI q, iI r] w sIA (fun w' => w.1 ≤ w'.1 ∧ w'.2 = w.2) := by
  refine tx_intro [some (.ref a0), some (iI p), some (iI q), some (iI r)] rfl (Nat.le_of_ble_eq_true rfl) pn_X6 ?_
  intro X C hT hH hRm hl hne hX
  obtain ⟨hRf, hRl, hRc, hRs⟩ := hRm
  have hls : (xl X).stackTraces = false := by rw [hl]; exact hfl
  refine g_iload_n C dX6_walkText_0 rfl ?_
  refine g_callS C (s_X6_checkThing _ (v := p) hg1) ml_RX6_61 sm_yX6_checkThing in_RX6 co_yX6_checkThing hd_X6_checkThing rfl ⟨by omega, by omega⟩ rfl (Nat.le_of_ble_eq_true rfl) ⟨by omega, by omega⟩ dX6_walkText_1 (fun v1 w1 hp1 => ?_)
  obtain ⟨rfl, hw1⟩ := hp1
  subst w1
  refine g_iload_n C dX6_walkText_4 rfl ?_
  refine g_iconst C dX6_walkText_5 ?_
  refine g_iconst C dX6_walkText_6 ?_
  by_cases hc7 : (0 ≤ q ∧ q ≤ 3)
  · refine g_callS C (s_X6_checkRange _ (v := q) (lo := 0) (hi := 3) hc7 (by omega) (by omega)) ml_RX6_82 sm_yX6_checkRange in_RX6 co_yX6_checkRange hd_X6_checkRange rfl ⟨by omega, by omega⟩ rfl (Nat.le_of_ble_eq_true rfl) ⟨by omega, by omega⟩ dX6_walkText_7 (fun v7 w7 hp7 => ?_)
    obtain ⟨rfl, hw7⟩ := hp7
    subst w7
    refine g_iload_n C dX6_walkText_10 rfl ?_
    refine g_iconst C dX6_walkText_11 ?_
    refine g_bipush C dX6_walkText_12 (by decide) ?_
    by_cases hc14 : (2 ≤ r ∧ r ≤ 16)
    · refine g_callS C (s_X6_checkRange _ (v := r) (lo := 2) (hi := 16) hc14 (by omega) (by omega)) ml_RX6_82 sm_yX6_checkRange in_RX6 co_yX6_checkRange hd_X6_checkRange rfl ⟨by omega, by omega⟩ rfl (Nat.le_of_ble_eq_true rfl) ⟨by omega, by omega⟩ dX6_walkText_14 (fun v14 w14 hp14 => ?_)
      obtain ⟨rfl, hw14⟩ := hp14
      subst w14
      exact (hbad ⟨hc7, hc14⟩).elim
    · exact x_callS C hT hH hne hX (x_X6_checkRange _ hls (v := r) (lo := 2) (hi := 16) h_r (by omega) (by omega) hc14) ml_RX6_82 sm_yX6_checkRange in_RX6 co_yX6_checkRange hd_X6_checkRange rfl ⟨by omega, by omega⟩ rfl (Nat.le_of_ble_eq_true rfl) ⟨by omega, by omega⟩ ⟨by omega, by omega⟩ dX6_walkText_14 (fun w' h => h)
  · exact x_callS C hT hH hne hX (x_X6_checkRange _ hls (v := q) (lo := 0) (hi := 3) h_q (by omega) (by omega) hc7) ml_RX6_82 sm_yX6_checkRange in_RX6 co_yX6_checkRange hd_X6_checkRange rfl ⟨by omega, by omega⟩ rfl (Nat.le_of_ble_eq_true rfl) ⟨by omega, by omega⟩ ⟨by omega, by omega⟩ dX6_walkText_7 (fun w' h => h)
set_option maxHeartbeats 4000000 in
set_option maxRecDepth 100000 in
theorem x_X6_test_IO (l : Launch) {K : KC} {E : GE} {w : Wd} (hfl : l.stackTraces = false) {a0 : Nat} {p : Int} (h_p : -2147483648 ≤ p ∧ p < 2147483648) {q : Int} (h_q : -2147483648 ≤ q ∧ q < 2147483648)  (hbad : ¬ ((0 ≤ p ∧ p ≤ 2))) : Tx K E l yX6_test cX6_test 3 (some .int) 7 (1) (6) [.ref a0, iI p, iI q] w sIO (fun w' => w.1 ≤ w'.1 ∧ w'.2 = w.2) := by
  refine tx_intro [some (.ref a0), some (iI p), some (iI q)] rfl (Nat.le_of_ble_eq_true rfl) pn_X6 ?_
  intro X C hT hH hRm hl hne hX
  obtain ⟨hRf, hRl, hRc, hRs⟩ := hRm
  have hls : (xl X).stackTraces = false := by rw [hl]; exact hfl
  refine g_iload_n C dX6_test_0 rfl ?_
  by_cases hc1 : (0 ≤ p ∧ p ≤ 2)
  · refine g_callS C (s_X6_checkThing _ (v := p) hc1) ml_RX6_61 sm_yX6_checkThing in_RX6 co_yX6_checkThing hd_X6_checkThing rfl ⟨by omega, by omega⟩ rfl (Nat.le_of_ble_eq_true rfl) ⟨by omega, by omega⟩ dX6_test_1 (fun v1 w1 hp1 => ?_)
    obtain ⟨rfl, hw1⟩ := hp1
    subst w1
    exact (hbad hc1).elim
  · exact x_callS C hT hH hne hX (x_X6_checkThing _ hls (v := p) h_p hc1) ml_RX6_61 sm_yX6_checkThing in_RX6 co_yX6_checkThing hd_X6_checkThing rfl ⟨by omega, by omega⟩ rfl (Nat.le_of_ble_eq_true rfl) ⟨by omega, by omega⟩ ⟨by omega, by omega⟩ dX6_test_1 (fun w' h => h)
set_option maxHeartbeats 4000000 in
set_option maxRecDepth 100000 in
theorem x_X6_test_IA (l : Launch) {K : KC} {E : GE} {w : Wd} (hfl : l.stackTraces = false) {a0 : Nat} {p : Int} (h_p : -2147483648 ≤ p ∧ p < 2147483648) {q : Int} (h_q : -2147483648 ≤ q ∧ q < 2147483648) (hg1 : (0 ≤ p ∧ p ≤ 2)) (hbad : ¬ ((0 ≤ q ∧ q ≤ 2))) : Tx K E l yX6_test cX6_test 3 (some .int) 7 (1) (6) [.ref a0, iI p, iI q] w sIA (fun w' => w.1 ≤ w'.1 ∧ w'.2 = w.2) := by
  refine tx_intro [some (.ref a0), some (iI p), some (iI q)] rfl (Nat.le_of_ble_eq_true rfl) pn_X6 ?_
  intro X C hT hH hRm hl hne hX
  obtain ⟨hRf, hRl, hRc, hRs⟩ := hRm
  have hls : (xl X).stackTraces = false := by rw [hl]; exact hfl
  refine g_iload_n C dX6_test_0 rfl ?_
  refine g_callS C (s_X6_checkThing _ (v := p) hg1) ml_RX6_61 sm_yX6_checkThing in_RX6 co_yX6_checkThing hd_X6_checkThing rfl ⟨by omega, by omega⟩ rfl (Nat.le_of_ble_eq_true rfl) ⟨by omega, by omega⟩ dX6_test_1 (fun v1 w1 hp1 => ?_)
  obtain ⟨rfl, hw1⟩ := hp1
  subst w1
  refine g_iload_n C dX6_test_4 rfl ?_
  refine g_iconst C dX6_test_5 ?_
  refine g_iconst C dX6_test_6 ?_
  by_cases hc7 : (0 ≤ q ∧ q ≤ 2)
  · refine g_callS C (s_X6_checkRange _ (v := q) (lo := 0) (hi := 2) hc7 (by omega) (by omega)) ml_RX6_82 sm_yX6_checkRange in_RX6 co_yX6_checkRange hd_X6_checkRange rfl ⟨by omega, by omega⟩ rfl (Nat.le_of_ble_eq_true rfl) ⟨by omega, by omega⟩ dX6_test_7 (fun v7 w7 hp7 => ?_)
    obtain ⟨rfl, hw7⟩ := hp7
    subst w7
    exact (hbad hc7).elim
  · exact x_callS C hT hH hne hX (x_X6_checkRange _ hls (v := q) (lo := 0) (hi := 2) h_q (by omega) (by omega) hc7) ml_RX6_82 sm_yX6_checkRange in_RX6 co_yX6_checkRange hd_X6_checkRange rfl ⟨by omega, by omega⟩ rfl (Nat.le_of_ble_eq_true rfl) ⟨by omega, by omega⟩ ⟨by omega, by omega⟩ dX6_test_7 (fun w' h => h)
set_option maxHeartbeats 4000000 in
set_option maxRecDepth 100000 in
theorem x_X6_walkBits_IO (l : Launch) {K : KC} {E : GE} {w : Wd} (hfl : l.stackTraces = false) {a0 : Nat} {p : Int} (h_p : -2147483648 ≤ p ∧ p < 2147483648) {q : Int} {r : Int} (h_r : -2147483648 ≤ r ∧ r < 2147483648)  (hbad : ¬ ((0 ≤ p ∧ p ≤ 2))) : Tx K E l yX6_walkBits cX6_walkBits 4 (some .int) 7 (1) (6) [.ref a0, iI p, iI q, iI r] w sIO (fun w' => w.1 ≤ w'.1 ∧ w'.2 = w.2) := by
  refine tx_intro [some (.ref a0), some (iI p), some (iI q), some (iI r)] rfl (Nat.le_of_ble_eq_true rfl) pn_X6 ?_
  intro X C hT hH hRm hl hne hX
  obtain ⟨hRf, hRl, hRc, hRs⟩ := hRm
  have hls : (xl X).stackTraces = false := by rw [hl]; exact hfl
  refine g_iload_n C dX6_walkBits_0 rfl ?_
  by_cases hc1 : (0 ≤ p ∧ p ≤ 2)
  · refine g_callS C (s_X6_checkThing _ (v := p) hc1) ml_RX6_61 sm_yX6_checkThing in_RX6 co_yX6_checkThing hd_X6_checkThing rfl ⟨by omega, by omega⟩ rfl (Nat.le_of_ble_eq_true rfl) ⟨by omega, by omega⟩ dX6_walkBits_1 (fun v1 w1 hp1 => ?_)
    obtain ⟨rfl, hw1⟩ := hp1
    subst w1
    exact (hbad hc1).elim
  · exact x_callS C hT hH hne hX (x_X6_checkThing _ hls (v := p) h_p hc1) ml_RX6_61 sm_yX6_checkThing in_RX6 co_yX6_checkThing hd_X6_checkThing rfl ⟨by omega, by omega⟩ rfl (Nat.le_of_ble_eq_true rfl) ⟨by omega, by omega⟩ ⟨by omega, by omega⟩ dX6_walkBits_1 (fun w' h => h)
set_option maxHeartbeats 4000000 in
set_option maxRecDepth 100000 in
theorem x_X6_walkBits_IA (l : Launch) {K : KC} {E : GE} {w : Wd} (hfl : l.stackTraces = false) {a0 : Nat} {p : Int} (h_p : -2147483648 ≤ p ∧ p < 2147483648) {q : Int} {r : Int} (h_r : -2147483648 ≤ r ∧ r < 2147483648) (hg1 : (0 ≤ p ∧ p ≤ 2)) (hbad : ¬ ((0 ≤ r ∧ r ≤ 2))) : Tx K E l yX6_walkBits cX6_walkBits 4 (some .int) 7 (1) (6) [.ref a0, iI p, iI q, iI r] w sIA (fun w' => w.1 ≤ w'.1 ∧ w'.2 = w.2) := by
  refine tx_intro [some (.ref a0), some (iI p), some (iI q), some (iI r)] rfl (Nat.le_of_ble_eq_true rfl) pn_X6 ?_
  intro X C hT hH hRm hl hne hX
  obtain ⟨hRf, hRl, hRc, hRs⟩ := hRm
  have hls : (xl X).stackTraces = false := by rw [hl]; exact hfl
  refine g_iload_n C dX6_walkBits_0 rfl ?_
  refine g_callS C (s_X6_checkThing _ (v := p) hg1) ml_RX6_61 sm_yX6_checkThing in_RX6 co_yX6_checkThing hd_X6_checkThing rfl ⟨by omega, by omega⟩ rfl (Nat.le_of_ble_eq_true rfl) ⟨by omega, by omega⟩ dX6_walkBits_1 (fun v1 w1 hp1 => ?_)
  obtain ⟨rfl, hw1⟩ := hp1
  subst w1
  refine g_iload_n C dX6_walkBits_4 rfl ?_
  refine g_iconst C dX6_walkBits_5 ?_
  refine g_iconst C dX6_walkBits_6 ?_
  by_cases hc7 : (0 ≤ r ∧ r ≤ 2)
  · refine g_callS C (s_X6_checkRange _ (v := r) (lo := 0) (hi := 2) hc7 (by omega) (by omega)) ml_RX6_82 sm_yX6_checkRange in_RX6 co_yX6_checkRange hd_X6_checkRange rfl ⟨by omega, by omega⟩ rfl (Nat.le_of_ble_eq_true rfl) ⟨by omega, by omega⟩ dX6_walkBits_7 (fun v7 w7 hp7 => ?_)
    obtain ⟨rfl, hw7⟩ := hp7
    subst w7
    exact (hbad hc7).elim
  · exact x_callS C hT hH hne hX (x_X6_checkRange _ hls (v := r) (lo := 0) (hi := 2) h_r (by omega) (by omega) hc7) ml_RX6_82 sm_yX6_checkRange in_RX6 co_yX6_checkRange hd_X6_checkRange rfl ⟨by omega, by omega⟩ rfl (Nat.le_of_ble_eq_true rfl) ⟨by omega, by omega⟩ ⟨by omega, by omega⟩ dX6_walkBits_7 (fun w' h => h)
set_option maxHeartbeats 4000000 in
set_option maxRecDepth 100000 in
theorem x_X6_bit_IO (l : Launch) {K : KC} {E : GE} {w : Wd} (hfl : l.stackTraces = false) {a0 : Nat} {p : Int} (h_p : -2147483648 ≤ p ∧ p < 2147483648) {q : Int} {r : Int} (h_r : -2147483648 ≤ r ∧ r < 2147483648)  (hbad : ¬ ((0 ≤ p ∧ p ≤ 2))) : Tx K E l yX6_bit cX6_bit 4 (some .boolean) 7 (1) (6) [.ref a0, iI p, iI q, iI r] w sIO (fun w' => w.1 ≤ w'.1 ∧ w'.2 = w.2) := by
  refine tx_intro [some (.ref a0), some (iI p), some (iI q), some (iI r)] rfl (Nat.le_of_ble_eq_true rfl) pn_X6 ?_
  intro X C hT hH hRm hl hne hX
  obtain ⟨hRf, hRl, hRc, hRs⟩ := hRm
  have hls : (xl X).stackTraces = false := by rw [hl]; exact hfl
  refine g_iload_n C dX6_bit_0 rfl ?_
  by_cases hc1 : (0 ≤ p ∧ p ≤ 2)
  · refine g_callS C (s_X6_checkThing _ (v := p) hc1) ml_RX6_61 sm_yX6_checkThing in_RX6 co_yX6_checkThing hd_X6_checkThing rfl ⟨by omega, by omega⟩ rfl (Nat.le_of_ble_eq_true rfl) ⟨by omega, by omega⟩ dX6_bit_1 (fun v1 w1 hp1 => ?_)
    obtain ⟨rfl, hw1⟩ := hp1
    subst w1
    exact (hbad hc1).elim
  · exact x_callS C hT hH hne hX (x_X6_checkThing _ hls (v := p) h_p hc1) ml_RX6_61 sm_yX6_checkThing in_RX6 co_yX6_checkThing hd_X6_checkThing rfl ⟨by omega, by omega⟩ rfl (Nat.le_of_ble_eq_true rfl) ⟨by omega, by omega⟩ ⟨by omega, by omega⟩ dX6_bit_1 (fun w' h => h)
set_option maxHeartbeats 4000000 in
set_option maxRecDepth 100000 in
theorem x_X6_bit_IA (l : Launch) {K : KC} {E : GE} {w : Wd} (hfl : l.stackTraces = false) {a0 : Nat} {p : Int} (h_p : -2147483648 ≤ p ∧ p < 2147483648) {q : Int} {r : Int} (h_r : -2147483648 ≤ r ∧ r < 2147483648) (hg1 : (0 ≤ p ∧ p ≤ 2)) (hbad : ¬ ((0 ≤ r ∧ r ≤ 119))) : Tx K E l yX6_bit cX6_bit 4 (some .boolean) 7 (1) (6) [.ref a0, iI p, iI q, iI r] w sIA (fun w' => w.1 ≤ w'.1 ∧ w'.2 = w.2) := by
  refine tx_intro [some (.ref a0), some (iI p), some (iI q), some (iI r)] rfl (Nat.le_of_ble_eq_true rfl) pn_X6 ?_
  intro X C hT hH hRm hl hne hX
  obtain ⟨hRf, hRl, hRc, hRs⟩ := hRm
  have hls : (xl X).stackTraces = false := by rw [hl]; exact hfl
  refine g_iload_n C dX6_bit_0 rfl ?_
  refine g_callS C (s_X6_checkThing _ (v := p) hg1) ml_RX6_61 sm_yX6_checkThing in_RX6 co_yX6_checkThing hd_X6_checkThing rfl ⟨by omega, by omega⟩ rfl (Nat.le_of_ble_eq_true rfl) ⟨by omega, by omega⟩ dX6_bit_1 (fun v1 w1 hp1 => ?_)
  obtain ⟨rfl, hw1⟩ := hp1
  subst w1
  refine g_iload_n C dX6_bit_4 rfl ?_
  refine g_iconst C dX6_bit_5 ?_
  refine g_bipush C dX6_bit_6 (by decide) ?_
  by_cases hc8 : (0 ≤ r ∧ r ≤ 119)
  · refine g_callS C (s_X6_checkRange _ (v := r) (lo := 0) (hi := 119) hc8 (by omega) (by omega)) ml_RX6_82 sm_yX6_checkRange in_RX6 co_yX6_checkRange hd_X6_checkRange rfl ⟨by omega, by omega⟩ rfl (Nat.le_of_ble_eq_true rfl) ⟨by omega, by omega⟩ dX6_bit_8 (fun v8 w8 hp8 => ?_)
    obtain ⟨rfl, hw8⟩ := hp8
    subst w8
    exact (hbad hc8).elim
  · exact x_callS C hT hH hne hX (x_X6_checkRange _ hls (v := r) (lo := 0) (hi := 119) h_r (by omega) (by omega) hc8) ml_RX6_82 sm_yX6_checkRange in_RX6 co_yX6_checkRange hd_X6_checkRange rfl ⟨by omega, by omega⟩ rfl (Nat.le_of_ble_eq_true rfl) ⟨by omega, by omega⟩ ⟨by omega, by omega⟩ dX6_bit_8 (fun w' h => h)
set_option maxHeartbeats 4000000 in
set_option maxRecDepth 100000 in
theorem x_X6_isRead_IO (l : Launch) {K : KC} {E : GE} {w : Wd} (hfl : l.stackTraces = false) {a0 : Nat} {p : Int} (h_p : -2147483648 ≤ p ∧ p < 2147483648) {q : Int} (h_q : -2147483648 ≤ q ∧ q < 2147483648)  (hbad : ¬ ((0 ≤ p ∧ p ≤ 2))) : Tx K E l yX6_isRead cX6_isRead 6 (some .boolean) 7 (1) (6) [.ref a0, iI p, iI q] w sIO (fun w' => w.1 ≤ w'.1 ∧ w'.2 = w.2) := by
  refine tx_intro [some (.ref a0), some (iI p), some (iI q), none, none, none] rfl (Nat.le_of_ble_eq_true rfl) pn_X6 ?_
  intro X C hT hH hRm hl hne hX
  obtain ⟨hRf, hRl, hRc, hRs⟩ := hRm
  have hls : (xl X).stackTraces = false := by rw [hl]; exact hfl
  refine g_iload_n C dX6_isRead_0 rfl ?_
  by_cases hc1 : (0 ≤ p ∧ p ≤ 2)
  · refine g_callS C (s_X6_checkThing _ (v := p) hc1) ml_RX6_61 sm_yX6_checkThing in_RX6 co_yX6_checkThing hd_X6_checkThing rfl ⟨by omega, by omega⟩ rfl (Nat.le_of_ble_eq_true rfl) ⟨by omega, by omega⟩ dX6_isRead_1 (fun v1 w1 hp1 => ?_)
    obtain ⟨rfl, hw1⟩ := hp1
    subst w1
    exact (hbad hc1).elim
  · exact x_callS C hT hH hne hX (x_X6_checkThing _ hls (v := p) h_p hc1) ml_RX6_61 sm_yX6_checkThing in_RX6 co_yX6_checkThing hd_X6_checkThing rfl ⟨by omega, by omega⟩ rfl (Nat.le_of_ble_eq_true rfl) ⟨by omega, by omega⟩ ⟨by omega, by omega⟩ dX6_isRead_1 (fun w' h => h)
set_option maxHeartbeats 4000000 in
set_option maxRecDepth 100000 in
theorem x_X6_isRead_IA (l : Launch) {K : KC} {E : GE} {w : Wd} (hfl : l.stackTraces = false) {a0 : Nat} {p : Int} (h_p : -2147483648 ≤ p ∧ p < 2147483648) {q : Int} (h_q : -2147483648 ≤ q ∧ q < 2147483648) (hg1 : (0 ≤ p ∧ p ≤ 2)) (hz0 : ¬ q = 0) (hbad : ¬ ((2 ≤ q ∧ q ≤ 16))) : Tx K E l yX6_isRead cX6_isRead 6 (some .boolean) 7 (1) (6) [.ref a0, iI p, iI q] w sIA (fun w' => w.1 ≤ w'.1 ∧ w'.2 = w.2) := by
  refine tx_intro [some (.ref a0), some (iI p), some (iI q), none, none, none] rfl (Nat.le_of_ble_eq_true rfl) pn_X6 ?_
  intro X C hT hH hRm hl hne hX
  obtain ⟨hRf, hRl, hRc, hRs⟩ := hRm
  have hls : (xl X).stackTraces = false := by rw [hl]; exact hfl
  refine g_iload_n C dX6_isRead_0 rfl ?_
  refine g_callS C (s_X6_checkThing _ (v := p) hg1) ml_RX6_61 sm_yX6_checkThing in_RX6 co_yX6_checkThing hd_X6_checkThing rfl ⟨by omega, by omega⟩ rfl (Nat.le_of_ble_eq_true rfl) ⟨by omega, by omega⟩ dX6_isRead_1 (fun v1 w1 hp1 => ?_)
  obtain ⟨rfl, hw1⟩ := hp1
  subst w1
  refine g_iload_n C dX6_isRead_4 rfl ?_
  refine g_if_eq (tgt := 15) C dX6_isRead_5 (by decide) (by omega) (fun h5 => ?_) (fun h5 => ?_)
  · exact (hz0 h5).elim
  · refine g_iload_n C dX6_isRead_8 rfl ?_
    refine g_iconst C dX6_isRead_9 ?_
    refine g_bipush C dX6_isRead_10 (by decide) ?_
    by_cases hc12 : (2 ≤ q ∧ q ≤ 16)
    · refine g_callS C (s_X6_checkRange _ (v := q) (lo := 2) (hi := 16) hc12 (by omega) (by omega)) ml_RX6_82 sm_yX6_checkRange in_RX6 co_yX6_checkRange hd_X6_checkRange rfl ⟨by omega, by omega⟩ rfl (Nat.le_of_ble_eq_true rfl) ⟨by omega, by omega⟩ dX6_isRead_12 (fun v12 w12 hp12 => ?_)
      obtain ⟨rfl, hw12⟩ := hp12
      subst w12
      exact (hbad hc12).elim
    · exact x_callS C hT hH hne hX (x_X6_checkRange _ hls (v := q) (lo := 2) (hi := 16) h_q (by omega) (by omega) hc12) ml_RX6_82 sm_yX6_checkRange in_RX6 co_yX6_checkRange hd_X6_checkRange rfl ⟨by omega, by omega⟩ rfl (Nat.le_of_ble_eq_true rfl) ⟨by omega, by omega⟩ ⟨by omega, by omega⟩ dX6_isRead_12 (fun w' h => h)
set_option maxHeartbeats 4000000 in
set_option maxRecDepth 100000 in
theorem x_X6_isNear_IO (l : Launch) {K : KC} {E : GE} {w : Wd} (hfl : l.stackTraces = false) {a0 : Nat} {p : Int} (h_p : -2147483648 ≤ p ∧ p < 2147483648) {q : Int} (h_q : -2147483648 ≤ q ∧ q < 2147483648)  (hbad : ¬ ((0 ≤ p ∧ p ≤ 2))) : Tx K E l yX6_isNear cX6_isNear 5 (some .boolean) 7 (1) (6) [.ref a0, iI p, iI q] w sIO (fun w' => w.1 ≤ w'.1 ∧ w'.2 = w.2) := by
  refine tx_intro [some (.ref a0), some (iI p), some (iI q), none, none] rfl (Nat.le_of_ble_eq_true rfl) pn_X6 ?_
  intro X C hT hH hRm hl hne hX
  obtain ⟨hRf, hRl, hRc, hRs⟩ := hRm
  have hls : (xl X).stackTraces = false := by rw [hl]; exact hfl
  refine g_iload_n C dX6_isNear_0 rfl ?_
  by_cases hc1 : (0 ≤ p ∧ p ≤ 2)
  · refine g_callS C (s_X6_checkThing _ (v := p) hc1) ml_RX6_61 sm_yX6_checkThing in_RX6 co_yX6_checkThing hd_X6_checkThing rfl ⟨by omega, by omega⟩ rfl (Nat.le_of_ble_eq_true rfl) ⟨by omega, by omega⟩ dX6_isNear_1 (fun v1 w1 hp1 => ?_)
    obtain ⟨rfl, hw1⟩ := hp1
    subst w1
    exact (hbad hc1).elim
  · exact x_callS C hT hH hne hX (x_X6_checkThing _ hls (v := p) h_p hc1) ml_RX6_61 sm_yX6_checkThing in_RX6 co_yX6_checkThing hd_X6_checkThing rfl ⟨by omega, by omega⟩ rfl (Nat.le_of_ble_eq_true rfl) ⟨by omega, by omega⟩ ⟨by omega, by omega⟩ dX6_isNear_1 (fun w' h => h)
set_option maxHeartbeats 4000000 in
set_option maxRecDepth 100000 in
theorem x_X6_isNear_IA (l : Launch) {K : KC} {E : GE} {w : Wd} (hfl : l.stackTraces = false) {a0 : Nat} {p : Int} (h_p : -2147483648 ≤ p ∧ p < 2147483648) {q : Int} (h_q : -2147483648 ≤ q ∧ q < 2147483648) (hg1 : (0 ≤ p ∧ p ≤ 2)) (hbad : ¬ ((1 ≤ q ∧ q ≤ 3))) : Tx K E l yX6_isNear cX6_isNear 5 (some .boolean) 7 (1) (6) [.ref a0, iI p, iI q] w sIA (fun w' => w.1 ≤ w'.1 ∧ w'.2 = w.2) := by
  refine tx_intro [some (.ref a0), some (iI p), some (iI q), none, none] rfl (Nat.le_of_ble_eq_true rfl) pn_X6 ?_
  intro X C hT hH hRm hl hne hX
  obtain ⟨hRf, hRl, hRc, hRs⟩ := hRm
  have hls : (xl X).stackTraces = false := by rw [hl]; exact hfl
  refine g_iload_n C dX6_isNear_0 rfl ?_
  refine g_callS C (s_X6_checkThing _ (v := p) hg1) ml_RX6_61 sm_yX6_checkThing in_RX6 co_yX6_checkThing hd_X6_checkThing rfl ⟨by omega, by omega⟩ rfl (Nat.le_of_ble_eq_true rfl) ⟨by omega, by omega⟩ dX6_isNear_1 (fun v1 w1 hp1 => ?_)
  obtain ⟨rfl, hw1⟩ := hp1
  subst w1
  refine g_iload_n C dX6_isNear_4 rfl ?_
  refine g_iconst C dX6_isNear_5 ?_
  refine g_iconst C dX6_isNear_6 ?_
  by_cases hc7 : (1 ≤ q ∧ q ≤ 3)
  · refine g_callS C (s_X6_checkRange _ (v := q) (lo := 1) (hi := 3) hc7 (by omega) (by omega)) ml_RX6_82 sm_yX6_checkRange in_RX6 co_yX6_checkRange hd_X6_checkRange rfl ⟨by omega, by omega⟩ rfl (Nat.le_of_ble_eq_true rfl) ⟨by omega, by omega⟩ dX6_isNear_7 (fun v7 w7 hp7 => ?_)
    obtain ⟨rfl, hw7⟩ := hp7
    subst w7
    exact (hbad hc7).elim
  · exact x_callS C hT hH hne hX (x_X6_checkRange _ hls (v := q) (lo := 1) (hi := 3) h_q (by omega) (by omega) hc7) ml_RX6_82 sm_yX6_checkRange in_RX6 co_yX6_checkRange hd_X6_checkRange rfl ⟨by omega, by omega⟩ rfl (Nat.le_of_ble_eq_true rfl) ⟨by omega, by omega⟩ ⟨by omega, by omega⟩ dX6_isNear_7 (fun w' h => h)
set_option maxHeartbeats 4000000 in
set_option maxRecDepth 100000 in
theorem x_X6_decimals_IO (l : Launch) {K : KC} {E : GE} {w : Wd} (hfl : l.stackTraces = false) {a0 : Nat} {p : Int} (h_p : -2147483648 ≤ p ∧ p < 2147483648) {q : Int} (h_q : -2147483648 ≤ q ∧ q < 2147483648)  (hbad : ¬ ((0 ≤ p ∧ p ≤ 2))) : Tx K E l yX6_decimals cX6_decimals 3 (some (.object "java/lang/String")) 7 (1) (6) [.ref a0, iI p, iI q] w sIO (fun w' => w.1 ≤ w'.1 ∧ w'.2 = w.2) := by
  refine tx_intro [some (.ref a0), some (iI p), some (iI q)] rfl (Nat.le_of_ble_eq_true rfl) pn_X6 ?_
  intro X C hT hH hRm hl hne hX
  obtain ⟨hRf, hRl, hRc, hRs⟩ := hRm
  have hls : (xl X).stackTraces = false := by rw [hl]; exact hfl
  refine g_iload_n C dX6_decimals_0 rfl ?_
  by_cases hc1 : (0 ≤ p ∧ p ≤ 2)
  · refine g_callS C (s_X6_checkThing _ (v := p) hc1) ml_RX6_61 sm_yX6_checkThing in_RX6 co_yX6_checkThing hd_X6_checkThing rfl ⟨by omega, by omega⟩ rfl (Nat.le_of_ble_eq_true rfl) ⟨by omega, by omega⟩ dX6_decimals_1 (fun v1 w1 hp1 => ?_)
    obtain ⟨rfl, hw1⟩ := hp1
    subst w1
    exact (hbad hc1).elim
  · exact x_callS C hT hH hne hX (x_X6_checkThing _ hls (v := p) h_p hc1) ml_RX6_61 sm_yX6_checkThing in_RX6 co_yX6_checkThing hd_X6_checkThing rfl ⟨by omega, by omega⟩ rfl (Nat.le_of_ble_eq_true rfl) ⟨by omega, by omega⟩ ⟨by omega, by omega⟩ dX6_decimals_1 (fun w' h => h)
set_option maxHeartbeats 4000000 in
set_option maxRecDepth 100000 in
theorem x_X6_decimals_IA (l : Launch) {K : KC} {E : GE} {w : Wd} (hfl : l.stackTraces = false) {a0 : Nat} {p : Int} (h_p : -2147483648 ≤ p ∧ p < 2147483648) {q : Int} (h_q : -2147483648 ≤ q ∧ q < 2147483648) (hg1 : (0 ≤ p ∧ p ≤ 2)) (hbad : ¬ ((0 ≤ q ∧ q ≤ 16))) : Tx K E l yX6_decimals cX6_decimals 3 (some (.object "java/lang/String")) 7 (1) (6) [.ref a0, iI p, iI q] w sIA (fun w' => w.1 ≤ w'.1 ∧ w'.2 = w.2) := by
  refine tx_intro [some (.ref a0), some (iI p), some (iI q)] rfl (Nat.le_of_ble_eq_true rfl) pn_X6 ?_
  intro X C hT hH hRm hl hne hX
  obtain ⟨hRf, hRl, hRc, hRs⟩ := hRm
  have hls : (xl X).stackTraces = false := by rw [hl]; exact hfl
  refine g_iload_n C dX6_decimals_0 rfl ?_
  refine g_callS C (s_X6_checkThing _ (v := p) hg1) ml_RX6_61 sm_yX6_checkThing in_RX6 co_yX6_checkThing hd_X6_checkThing rfl ⟨by omega, by omega⟩ rfl (Nat.le_of_ble_eq_true rfl) ⟨by omega, by omega⟩ dX6_decimals_1 (fun v1 w1 hp1 => ?_)
  obtain ⟨rfl, hw1⟩ := hp1
  subst w1
  refine g_iload_n C dX6_decimals_4 rfl ?_
  refine g_iconst C dX6_decimals_5 ?_
  refine g_bipush C dX6_decimals_6 (by decide) ?_
  by_cases hc8 : (0 ≤ q ∧ q ≤ 16)
  · refine g_callS C (s_X6_checkRange _ (v := q) (lo := 0) (hi := 16) hc8 (by omega) (by omega)) ml_RX6_82 sm_yX6_checkRange in_RX6 co_yX6_checkRange hd_X6_checkRange rfl ⟨by omega, by omega⟩ rfl (Nat.le_of_ble_eq_true rfl) ⟨by omega, by omega⟩ dX6_decimals_8 (fun v8 w8 hp8 => ?_)
    obtain ⟨rfl, hw8⟩ := hp8
    subst w8
    exact (hbad hc8).elim
  · exact x_callS C hT hH hne hX (x_X6_checkRange _ hls (v := q) (lo := 0) (hi := 16) h_q (by omega) (by omega) hc8) ml_RX6_82 sm_yX6_checkRange in_RX6 co_yX6_checkRange hd_X6_checkRange rfl ⟨by omega, by omega⟩ rfl (Nat.le_of_ble_eq_true rfl) ⟨by omega, by omega⟩ ⟨by omega, by omega⟩ dX6_decimals_8 (fun w' h => h)
set_option maxHeartbeats 4000000 in
set_option maxRecDepth 100000 in
theorem x_X6_alike_IO (l : Launch) {K : KC} {E : GE} {w : Wd} (hfl : l.stackTraces = false) {a0 : Nat} {p : Int} (h_p : -2147483648 ≤ p ∧ p < 2147483648)  (hbad : ¬ ((0 ≤ p ∧ p ≤ 2))) : Tx K E l yX6_alike cX6_alike 8 (some .int) 7 (1) (6) [.ref a0, iI p] w sIO (fun w' => w.1 ≤ w'.1 ∧ w'.2 = w.2) := by
  refine tx_intro [some (.ref a0), some (iI p), none, none, none, none, none, none] rfl (Nat.le_of_ble_eq_true rfl) pn_X6 ?_
  intro X C hT hH hRm hl hne hX
  obtain ⟨hRf, hRl, hRc, hRs⟩ := hRm
  have hls : (xl X).stackTraces = false := by rw [hl]; exact hfl
  refine g_iload_n C dX6_alike_0 rfl ?_
  by_cases hc1 : (0 ≤ p ∧ p ≤ 2)
  · refine g_callS C (s_X6_checkThing _ (v := p) hc1) ml_RX6_61 sm_yX6_checkThing in_RX6 co_yX6_checkThing hd_X6_checkThing rfl ⟨by omega, by omega⟩ rfl (Nat.le_of_ble_eq_true rfl) ⟨by omega, by omega⟩ dX6_alike_1 (fun v1 w1 hp1 => ?_)
    obtain ⟨rfl, hw1⟩ := hp1
    subst w1
    exact (hbad hc1).elim
  · exact x_callS C hT hH hne hX (x_X6_checkThing _ hls (v := p) h_p hc1) ml_RX6_61 sm_yX6_checkThing in_RX6 co_yX6_checkThing hd_X6_checkThing rfl ⟨by omega, by omega⟩ rfl (Nat.le_of_ble_eq_true rfl) ⟨by omega, by omega⟩ ⟨by omega, by omega⟩ dX6_alike_1 (fun w' h => h)
set_option maxHeartbeats 4000000 in
set_option maxRecDepth 100000 in
theorem x_X6_rootText_IA (l : Launch) {K : KC} {E : GE} {w : Wd} (hfl : l.stackTraces = false) {a0 : Nat} {p : Int} (h_p : -2147483648 ≤ p ∧ p < 2147483648) {q : Int} (h_q : -2147483648 ≤ q ∧ q < 2147483648)  (hbad : ¬ ((1 ≤ p ∧ p ≤ 99) ∧ (0 ≤ q ∧ q ≤ 16))) : Tx K E l yX6_rootText cX6_rootText 3 (some (.object "java/lang/String")) 7 (1) (6) [.ref a0, iI p, iI q] w sIA (fun w' => w.1 ≤ w'.1 ∧ w'.2 = w.2) := by
  refine tx_intro [some (.ref a0), some (iI p), some (iI q)] rfl (Nat.le_of_ble_eq_true rfl) pn_X6 ?_
  intro X C hT hH hRm hl hne hX
  obtain ⟨hRf, hRl, hRc, hRs⟩ := hRm
  have hls : (xl X).stackTraces = false := by rw [hl]; exact hfl
  refine g_iload_n C dX6_rootText_0 rfl ?_
  refine g_iconst C dX6_rootText_1 ?_
  refine g_bipush C dX6_rootText_2 (by decide) ?_
  by_cases hc4 : (1 ≤ p ∧ p ≤ 99)
  · refine g_callS C (s_X6_checkRange _ (v := p) (lo := 1) (hi := 99) hc4 (by omega) (by omega)) ml_RX6_82 sm_yX6_checkRange in_RX6 co_yX6_checkRange hd_X6_checkRange rfl ⟨by omega, by omega⟩ rfl (Nat.le_of_ble_eq_true rfl) ⟨by omega, by omega⟩ dX6_rootText_4 (fun v4 w4 hp4 => ?_)
    obtain ⟨rfl, hw4⟩ := hp4
    subst w4
    refine g_iload_n C dX6_rootText_7 rfl ?_
    refine g_iconst C dX6_rootText_8 ?_
    refine g_bipush C dX6_rootText_9 (by decide) ?_
    by_cases hc11 : (0 ≤ q ∧ q ≤ 16)
    · refine g_callS C (s_X6_checkRange _ (v := q) (lo := 0) (hi := 16) hc11 (by omega) (by omega)) ml_RX6_82 sm_yX6_checkRange in_RX6 co_yX6_checkRange hd_X6_checkRange rfl ⟨by omega, by omega⟩ rfl (Nat.le_of_ble_eq_true rfl) ⟨by omega, by omega⟩ dX6_rootText_11 (fun v11 w11 hp11 => ?_)
      obtain ⟨rfl, hw11⟩ := hp11
      subst w11
      exact (hbad ⟨hc4, hc11⟩).elim
    · exact x_callS C hT hH hne hX (x_X6_checkRange _ hls (v := q) (lo := 0) (hi := 16) h_q (by omega) (by omega) hc11) ml_RX6_82 sm_yX6_checkRange in_RX6 co_yX6_checkRange hd_X6_checkRange rfl ⟨by omega, by omega⟩ rfl (Nat.le_of_ble_eq_true rfl) ⟨by omega, by omega⟩ ⟨by omega, by omega⟩ dX6_rootText_11 (fun w' h => h)
  · exact x_callS C hT hH hne hX (x_X6_checkRange _ hls (v := p) (lo := 1) (hi := 99) h_p (by omega) (by omega) hc4) ml_RX6_82 sm_yX6_checkRange in_RX6 co_yX6_checkRange hd_X6_checkRange rfl ⟨by omega, by omega⟩ rfl (Nat.le_of_ble_eq_true rfl) ⟨by omega, by omega⟩ ⟨by omega, by omega⟩ dX6_rootText_4 (fun w' h => h)
set_option maxHeartbeats 4000000 in
set_option maxRecDepth 100000 in
theorem x_X6_period_IA (l : Launch) {K : KC} {E : GE} {w : Wd} (hfl : l.stackTraces = false) {a0 : Nat} {p : Int} (h_p : -2147483648 ≤ p ∧ p < 2147483648)  (hbad : ¬ (GB p)) : Tx K E l yX6_period cX6_period 2 (some .int) 8 (1) (6) [.ref a0, iI p] w sIA (fun w' => w.1 ≤ w'.1 ∧ w'.2 = w.2) := by
  refine tx_intro [some (.ref a0), some (iI p)] rfl (Nat.le_of_ble_eq_true rfl) pn_X6 ?_
  intro X C hT hH hRm hl hne hX
  obtain ⟨hRf, hRl, hRc, hRs⟩ := hRm
  have hls : (xl X).stackTraces = false := by rw [hl]; exact hfl
  refine g_iload_n C dX6_period_0 rfl ?_
  by_cases hc1 : GB p
  · refine g_callS C (s_X6_checkBase _ (v := p) hc1) ml_RX6_65 sm_yX6_checkBase in_RX6 co_yX6_checkBase hd_X6_checkBase rfl ⟨by omega, by omega⟩ rfl (Nat.le_of_ble_eq_true rfl) ⟨by omega, by omega⟩ dX6_period_1 (fun v1 w1 hp1 => ?_)
    obtain ⟨rfl, hw1⟩ := hp1
    subst w1
    exact (hbad hc1).elim
  · exact x_callS C hT hH hne hX (x_X6_checkBase _ hls (v := p) h_p hc1) ml_RX6_65 sm_yX6_checkBase in_RX6 co_yX6_checkBase hd_X6_checkBase rfl ⟨by omega, by omega⟩ rfl (Nat.le_of_ble_eq_true rfl) ⟨by omega, by omega⟩ ⟨by omega, by omega⟩ dX6_period_1 (fun w' h => h)
set_option maxHeartbeats 4000000 in
set_option maxRecDepth 100000 in
theorem x_X6_periodText_IA (l : Launch) {K : KC} {E : GE} {w : Wd} (hfl : l.stackTraces = false) {a0 : Nat} {p : Int} (h_p : -2147483648 ≤ p ∧ p < 2147483648)  (hbad : ¬ (GB p)) : Tx K E l yX6_periodText cX6_periodText 5 (some (.object "java/lang/String")) 8 (1) (6) [.ref a0, iI p] w sIA (fun w' => w.1 ≤ w'.1 ∧ w'.2 = w.2) := by
  refine tx_intro [some (.ref a0), some (iI p), none, none, none] rfl (Nat.le_of_ble_eq_true rfl) pn_X6 ?_
  intro X C hT hH hRm hl hne hX
  obtain ⟨hRf, hRl, hRc, hRs⟩ := hRm
  have hls : (xl X).stackTraces = false := by rw [hl]; exact hfl
  refine g_iload_n C dX6_periodText_0 rfl ?_
  by_cases hc1 : GB p
  · refine g_callS C (s_X6_checkBase _ (v := p) hc1) ml_RX6_65 sm_yX6_checkBase in_RX6 co_yX6_checkBase hd_X6_checkBase rfl ⟨by omega, by omega⟩ rfl (Nat.le_of_ble_eq_true rfl) ⟨by omega, by omega⟩ dX6_periodText_1 (fun v1 w1 hp1 => ?_)
    obtain ⟨rfl, hw1⟩ := hp1
    subst w1
    exact (hbad hc1).elim
  · exact x_callS C hT hH hne hX (x_X6_checkBase _ hls (v := p) h_p hc1) ml_RX6_65 sm_yX6_checkBase in_RX6 co_yX6_checkBase hd_X6_checkBase rfl ⟨by omega, by omega⟩ rfl (Nat.le_of_ble_eq_true rfl) ⟨by omega, by omega⟩ ⟨by omega, by omega⟩ dX6_periodText_1 (fun w' h => h)
set_option maxHeartbeats 4000000 in
set_option maxRecDepth 100000 in
theorem x_X6_solution_IA (l : Launch) {K : KC} {E : GE} {w : Wd} (hfl : l.stackTraces = false) {a0 : Nat} {p : Int} (h_p : -2147483648 ≤ p ∧ p < 2147483648) {q : Int}  (hbad : ¬ (GB p)) : Tx K E l yX6_solution cX6_solution 4 (some (.object "java/lang/String")) 8 (1) (6) [.ref a0, iI p, iI q] w sIA (fun w' => w.1 ≤ w'.1 ∧ w'.2 = w.2) := by
  refine tx_intro [some (.ref a0), some (iI p), some (iI q), none] rfl (Nat.le_of_ble_eq_true rfl) pn_X6 ?_
  intro X C hT hH hRm hl hne hX
  obtain ⟨hRf, hRl, hRc, hRs⟩ := hRm
  have hls : (xl X).stackTraces = false := by rw [hl]; exact hfl
  refine g_iload_n C dX6_solution_0 rfl ?_
  by_cases hc1 : GB p
  · refine g_callS C (s_X6_checkBase _ (v := p) hc1) ml_RX6_65 sm_yX6_checkBase in_RX6 co_yX6_checkBase hd_X6_checkBase rfl ⟨by omega, by omega⟩ rfl (Nat.le_of_ble_eq_true rfl) ⟨by omega, by omega⟩ dX6_solution_1 (fun v1 w1 hp1 => ?_)
    obtain ⟨rfl, hw1⟩ := hp1
    subst w1
    exact (hbad hc1).elim
  · exact x_callS C hT hH hne hX (x_X6_checkBase _ hls (v := p) h_p hc1) ml_RX6_65 sm_yX6_checkBase in_RX6 co_yX6_checkBase hd_X6_checkBase rfl ⟨by omega, by omega⟩ rfl (Nat.le_of_ble_eq_true rfl) ⟨by omega, by omega⟩ ⟨by omega, by omega⟩ dX6_solution_1 (fun w' h => h)
set_option maxHeartbeats 4000000 in
set_option maxRecDepth 100000 in
theorem x_X6_minus_IA (l : Launch) {K : KC} {E : GE} {w : Wd} (hfl : l.stackTraces = false) {a0 : Nat} {p : Int} (h_p : -2147483648 ≤ p ∧ p < 2147483648) {q : Int}  (hbad : ¬ (GB p)) : Tx K E l yX6_minus cX6_minus 4 (some (.object "java/lang/String")) 8 (1) (6) [.ref a0, iI p, iI q] w sIA (fun w' => w.1 ≤ w'.1 ∧ w'.2 = w.2) := by
  refine tx_intro [some (.ref a0), some (iI p), some (iI q), none] rfl (Nat.le_of_ble_eq_true rfl) pn_X6 ?_
  intro X C hT hH hRm hl hne hX
  obtain ⟨hRf, hRl, hRc, hRs⟩ := hRm
  have hls : (xl X).stackTraces = false := by rw [hl]; exact hfl
  refine g_iload_n C dX6_minus_0 rfl ?_
  by_cases hc1 : GB p
  · refine g_callS C (s_X6_checkBase _ (v := p) hc1) ml_RX6_65 sm_yX6_checkBase in_RX6 co_yX6_checkBase hd_X6_checkBase rfl ⟨by omega, by omega⟩ rfl (Nat.le_of_ble_eq_true rfl) ⟨by omega, by omega⟩ dX6_minus_1 (fun v1 w1 hp1 => ?_)
    obtain ⟨rfl, hw1⟩ := hp1
    subst w1
    exact (hbad hc1).elim
  · exact x_callS C hT hH hne hX (x_X6_checkBase _ hls (v := p) h_p hc1) ml_RX6_65 sm_yX6_checkBase in_RX6 co_yX6_checkBase hd_X6_checkBase rfl ⟨by omega, by omega⟩ rfl (Nat.le_of_ble_eq_true rfl) ⟨by omega, by omega⟩ ⟨by omega, by omega⟩ dX6_minus_1 (fun w' h => h)
set_option maxHeartbeats 4000000 in
set_option maxRecDepth 100000 in
theorem x_X6_middle_IA (l : Launch) {K : KC} {E : GE} {w : Wd} (hfl : l.stackTraces = false) {a0 : Nat} {p : Int} (h_p : -2147483648 ≤ p ∧ p < 2147483648)  (hbad : ¬ (GB p)) : Tx K E l yX6_middle cX6_middle 4 (some (.object "java/lang/String")) 8 (1) (6) [.ref a0, iI p] w sIA (fun w' => w.1 ≤ w'.1 ∧ w'.2 = w.2) := by
  refine tx_intro [some (.ref a0), some (iI p), none, none] rfl (Nat.le_of_ble_eq_true rfl) pn_X6 ?_
  intro X C hT hH hRm hl hne hX
  obtain ⟨hRf, hRl, hRc, hRs⟩ := hRm
  have hls : (xl X).stackTraces = false := by rw [hl]; exact hfl
  refine g_iload_n C dX6_middle_0 rfl ?_
  by_cases hc1 : GB p
  · refine g_callS C (s_X6_checkBase _ (v := p) hc1) ml_RX6_65 sm_yX6_checkBase in_RX6 co_yX6_checkBase hd_X6_checkBase rfl ⟨by omega, by omega⟩ rfl (Nat.le_of_ble_eq_true rfl) ⟨by omega, by omega⟩ dX6_middle_1 (fun v1 w1 hp1 => ?_)
    obtain ⟨rfl, hw1⟩ := hp1
    subst w1
    exact (hbad hc1).elim
  · exact x_callS C hT hH hne hX (x_X6_checkBase _ hls (v := p) h_p hc1) ml_RX6_65 sm_yX6_checkBase in_RX6 co_yX6_checkBase hd_X6_checkBase rfl ⟨by omega, by omega⟩ rfl (Nat.le_of_ble_eq_true rfl) ⟨by omega, by omega⟩ ⟨by omega, by omega⟩ dX6_middle_1 (fun w' h => h)
set_option maxHeartbeats 4000000 in
set_option maxRecDepth 100000 in
theorem x_X6_put_IO (l : Launch) {K : KC} {E : GE} {w : Wd} (hfl : l.stackTraces = false) {a0 : Nat} {p : Int} (h_p : -2147483648 ≤ p ∧ p < 2147483648) {q : Int} (h_q : -2147483648 ≤ q ∧ q < 2147483648) {r : Int} (h_r : -2147483648 ≤ r ∧ r < 2147483648) {s : Int} (h_s : -2147483648 ≤ s ∧ s < 2147483648)  (hbad : ¬ ((0 ≤ p ∧ p ≤ 2))) : Tx K E l yX6_put cX6_put 5 (some .int) 7 (1) (6) [.ref a0, iI p, iI q, iI r, iI s] w sIO (fun w' => w.1 ≤ w'.1 ∧ w'.2 = w.2) := by
  refine tx_intro [some (.ref a0), some (iI p), some (iI q), some (iI r), some (iI s)] rfl (Nat.le_of_ble_eq_true rfl) pn_X6 ?_
  intro X C hT hH hRm hl hne hX
  obtain ⟨hRf, hRl, hRc, hRs⟩ := hRm
  have hls : (xl X).stackTraces = false := by rw [hl]; exact hfl
  refine g_iload_n C dX6_put_0 rfl ?_
  by_cases hc1 : (0 ≤ p ∧ p ≤ 2)
  · refine g_callS C (s_X6_checkThing _ (v := p) hc1) ml_RX6_61 sm_yX6_checkThing in_RX6 co_yX6_checkThing hd_X6_checkThing rfl ⟨by omega, by omega⟩ rfl (Nat.le_of_ble_eq_true rfl) ⟨by omega, by omega⟩ dX6_put_1 (fun v1 w1 hp1 => ?_)
    obtain ⟨rfl, hw1⟩ := hp1
    subst w1
    exact (hbad hc1).elim
  · exact x_callS C hT hH hne hX (x_X6_checkThing _ hls (v := p) h_p hc1) ml_RX6_61 sm_yX6_checkThing in_RX6 co_yX6_checkThing hd_X6_checkThing rfl ⟨by omega, by omega⟩ rfl (Nat.le_of_ble_eq_true rfl) ⟨by omega, by omega⟩ ⟨by omega, by omega⟩ dX6_put_1 (fun w' h => h)
set_option maxHeartbeats 4000000 in
set_option maxRecDepth 100000 in
theorem x_X6_put_IA (l : Launch) {K : KC} {E : GE} {w : Wd} (hfl : l.stackTraces = false) {a0 : Nat} {p : Int} (h_p : -2147483648 ≤ p ∧ p < 2147483648) {q : Int} (h_q : -2147483648 ≤ q ∧ q < 2147483648) {r : Int} (h_r : -2147483648 ≤ r ∧ r < 2147483648) {s : Int} (h_s : -2147483648 ≤ s ∧ s < 2147483648) (hg1 : (0 ≤ p ∧ p ≤ 2)) (hbad : ¬ (GB q ∧ (-1000 ≤ r ∧ r ≤ 1000) ∧ (-1000 ≤ s ∧ s ≤ 1000))) : Tx K E l yX6_put cX6_put 5 (some .int) 8 (1) (6) [.ref a0, iI p, iI q, iI r, iI s] w sIA (fun w' => w.1 ≤ w'.1 ∧ w'.2 = w.2) := by
  refine tx_intro [some (.ref a0), some (iI p), some (iI q), some (iI r), some (iI s)] rfl (Nat.le_of_ble_eq_true rfl) pn_X6 ?_
  intro X C hT hH hRm hl hne hX
  obtain ⟨hRf, hRl, hRc, hRs⟩ := hRm
  have hls : (xl X).stackTraces = false := by rw [hl]; exact hfl
  refine g_iload_n C dX6_put_0 rfl ?_
  refine g_callS C (s_X6_checkThing _ (v := p) hg1) ml_RX6_61 sm_yX6_checkThing in_RX6 co_yX6_checkThing hd_X6_checkThing rfl ⟨by omega, by omega⟩ rfl (Nat.le_of_ble_eq_true rfl) ⟨by omega, by omega⟩ dX6_put_1 (fun v1 w1 hp1 => ?_)
  obtain ⟨rfl, hw1⟩ := hp1
  subst w1
  refine g_iload_n C dX6_put_4 rfl ?_
  by_cases hc5 : GB q
  · refine g_callS C (s_X6_checkBase _ (v := q) hc5) ml_RX6_65 sm_yX6_checkBase in_RX6 co_yX6_checkBase hd_X6_checkBase rfl ⟨by omega, by omega⟩ rfl (Nat.le_of_ble_eq_true rfl) ⟨by omega, by omega⟩ dX6_put_5 (fun v5 w5 hp5 => ?_)
    obtain ⟨rfl, hw5⟩ := hp5
    subst w5
    refine g_iload_n C dX6_put_8 rfl ?_
    refine g_sipush C dX6_put_9 (by decide) ?_
    refine g_sipush C dX6_put_12 (by decide) ?_
    by_cases hc15 : (-1000 ≤ r ∧ r ≤ 1000)
    · refine g_callS C (s_X6_checkRange _ (v := r) (lo := -1000) (hi := 1000) hc15 (by omega) (by omega)) ml_RX6_82 sm_yX6_checkRange in_RX6 co_yX6_checkRange hd_X6_checkRange rfl ⟨by omega, by omega⟩ rfl (Nat.le_of_ble_eq_true rfl) ⟨by omega, by omega⟩ dX6_put_15 (fun v15 w15 hp15 => ?_)
      obtain ⟨rfl, hw15⟩ := hp15
      subst w15
      refine g_iload C dX6_put_18 rfl ?_
      refine g_sipush C dX6_put_20 (by decide) ?_
      refine g_sipush C dX6_put_23 (by decide) ?_
      by_cases hc26 : (-1000 ≤ s ∧ s ≤ 1000)
      · refine g_callS C (s_X6_checkRange _ (v := s) (lo := -1000) (hi := 1000) hc26 (by omega) (by omega)) ml_RX6_82 sm_yX6_checkRange in_RX6 co_yX6_checkRange hd_X6_checkRange rfl ⟨by omega, by omega⟩ rfl (Nat.le_of_ble_eq_true rfl) ⟨by omega, by omega⟩ dX6_put_26 (fun v26 w26 hp26 => ?_)
        obtain ⟨rfl, hw26⟩ := hp26
        subst w26
        exact (hbad ⟨hc5, hc15, hc26⟩).elim
      · exact x_callS C hT hH hne hX (x_X6_checkRange _ hls (v := s) (lo := -1000) (hi := 1000) h_s (by omega) (by omega) hc26) ml_RX6_82 sm_yX6_checkRange in_RX6 co_yX6_checkRange hd_X6_checkRange rfl ⟨by omega, by omega⟩ rfl (Nat.le_of_ble_eq_true rfl) ⟨by omega, by omega⟩ ⟨by omega, by omega⟩ dX6_put_26 (fun w' h => h)
    · exact x_callS C hT hH hne hX (x_X6_checkRange _ hls (v := r) (lo := -1000) (hi := 1000) h_r (by omega) (by omega) hc15) ml_RX6_82 sm_yX6_checkRange in_RX6 co_yX6_checkRange hd_X6_checkRange rfl ⟨by omega, by omega⟩ rfl (Nat.le_of_ble_eq_true rfl) ⟨by omega, by omega⟩ ⟨by omega, by omega⟩ dX6_put_15 (fun w' h => h)
  · exact x_callS C hT hH hne hX (x_X6_checkBase _ hls (v := q) h_q hc5) ml_RX6_65 sm_yX6_checkBase in_RX6 co_yX6_checkBase hd_X6_checkBase rfl ⟨by omega, by omega⟩ rfl (Nat.le_of_ble_eq_true rfl) ⟨by omega, by omega⟩ ⟨by omega, by omega⟩ dX6_put_5 (fun w' h => h)
set_option maxHeartbeats 4000000 in
set_option maxRecDepth 100000 in
theorem x_X6_take_IO (l : Launch) {K : KC} {E : GE} {w : Wd} (hfl : l.stackTraces = false) {a0 : Nat} {p : Int} (h_p : -2147483648 ≤ p ∧ p < 2147483648) {q : Int} (h_q : -2147483648 ≤ q ∧ q < 2147483648)  (hbad : ¬ ((0 ≤ p ∧ p ≤ 2) ∧ (0 ≤ q ∧ q ≤ 2))) : Tx K E l yX6_take cX6_take 4 (some .int) 7 (1) (6) [.ref a0, iI p, iI q] w sIO (fun w' => w.1 ≤ w'.1 ∧ w'.2 = w.2) := by
  refine tx_intro [some (.ref a0), some (iI p), some (iI q), none] rfl (Nat.le_of_ble_eq_true rfl) pn_X6 ?_
  intro X C hT hH hRm hl hne hX
  obtain ⟨hRf, hRl, hRc, hRs⟩ := hRm
  have hls : (xl X).stackTraces = false := by rw [hl]; exact hfl
  refine g_iload_n C dX6_take_0 rfl ?_
  by_cases hc1 : (0 ≤ p ∧ p ≤ 2)
  · refine g_callS C (s_X6_checkThing _ (v := p) hc1) ml_RX6_61 sm_yX6_checkThing in_RX6 co_yX6_checkThing hd_X6_checkThing rfl ⟨by omega, by omega⟩ rfl (Nat.le_of_ble_eq_true rfl) ⟨by omega, by omega⟩ dX6_take_1 (fun v1 w1 hp1 => ?_)
    obtain ⟨rfl, hw1⟩ := hp1
    subst w1
    refine g_iload_n C dX6_take_4 rfl ?_
    by_cases hc5 : (0 ≤ q ∧ q ≤ 2)
    · refine g_callS C (s_X6_checkThing _ (v := q) hc5) ml_RX6_61 sm_yX6_checkThing in_RX6 co_yX6_checkThing hd_X6_checkThing rfl ⟨by omega, by omega⟩ rfl (Nat.le_of_ble_eq_true rfl) ⟨by omega, by omega⟩ dX6_take_5 (fun v5 w5 hp5 => ?_)
      obtain ⟨rfl, hw5⟩ := hp5
      subst w5
      exact (hbad ⟨hc1, hc5⟩).elim
    · exact x_callS C hT hH hne hX (x_X6_checkThing _ hls (v := q) h_q hc5) ml_RX6_61 sm_yX6_checkThing in_RX6 co_yX6_checkThing hd_X6_checkThing rfl ⟨by omega, by omega⟩ rfl (Nat.le_of_ble_eq_true rfl) ⟨by omega, by omega⟩ ⟨by omega, by omega⟩ dX6_take_5 (fun w' h => h)
  · exact x_callS C hT hH hne hX (x_X6_checkThing _ hls (v := p) h_p hc1) ml_RX6_61 sm_yX6_checkThing in_RX6 co_yX6_checkThing hd_X6_checkThing rfl ⟨by omega, by omega⟩ rfl (Nat.le_of_ble_eq_true rfl) ⟨by omega, by omega⟩ ⟨by omega, by omega⟩ dX6_take_1 (fun w' h => h)
set_option maxHeartbeats 4000000 in
set_option maxRecDepth 100000 in
theorem x_X6_least_IO (l : Launch) {K : KC} {E : GE} {w : Wd} (hfl : l.stackTraces = false) {a0 : Nat} {p : Int} (h_p : -2147483648 ≤ p ∧ p < 2147483648) {q : Int} (h_q : -2147483648 ≤ q ∧ q < 2147483648)  (hbad : ¬ ((0 ≤ p ∧ p ≤ 2))) : Tx K E l yX6_least cX6_least 3 (some .int) 7 (1) (6) [.ref a0, iI p, iI q] w sIO (fun w' => w.1 ≤ w'.1 ∧ w'.2 = w.2) := by
  refine tx_intro [some (.ref a0), some (iI p), some (iI q)] rfl (Nat.le_of_ble_eq_true rfl) pn_X6 ?_
  intro X C hT hH hRm hl hne hX
  obtain ⟨hRf, hRl, hRc, hRs⟩ := hRm
  have hls : (xl X).stackTraces = false := by rw [hl]; exact hfl
  refine g_iload_n C dX6_least_0 rfl ?_
  by_cases hc1 : (0 ≤ p ∧ p ≤ 2)
  · refine g_callS C (s_X6_checkThing _ (v := p) hc1) ml_RX6_61 sm_yX6_checkThing in_RX6 co_yX6_checkThing hd_X6_checkThing rfl ⟨by omega, by omega⟩ rfl (Nat.le_of_ble_eq_true rfl) ⟨by omega, by omega⟩ dX6_least_1 (fun v1 w1 hp1 => ?_)
    obtain ⟨rfl, hw1⟩ := hp1
    subst w1
    exact (hbad hc1).elim
  · exact x_callS C hT hH hne hX (x_X6_checkThing _ hls (v := p) h_p hc1) ml_RX6_61 sm_yX6_checkThing in_RX6 co_yX6_checkThing hd_X6_checkThing rfl ⟨by omega, by omega⟩ rfl (Nat.le_of_ble_eq_true rfl) ⟨by omega, by omega⟩ ⟨by omega, by omega⟩ dX6_least_1 (fun w' h => h)
set_option maxHeartbeats 4000000 in
set_option maxRecDepth 100000 in
theorem x_X6_least_IA (l : Launch) {K : KC} {E : GE} {w : Wd} (hfl : l.stackTraces = false) {a0 : Nat} {p : Int} (h_p : -2147483648 ≤ p ∧ p < 2147483648) {q : Int} (h_q : -2147483648 ≤ q ∧ q < 2147483648) (hg1 : (0 ≤ p ∧ p ≤ 2)) (hbad : ¬ (GB q)) : Tx K E l yX6_least cX6_least 3 (some .int) 8 (1) (6) [.ref a0, iI p, iI q] w sIA (fun w' => w.1 ≤ w'.1 ∧ w'.2 = w.2) := by
  refine tx_intro [some (.ref a0), some (iI p), some (iI q)] rfl (Nat.le_of_ble_eq_true rfl) pn_X6 ?_
  intro X C hT hH hRm hl hne hX
  obtain ⟨hRf, hRl, hRc, hRs⟩ := hRm
  have hls : (xl X).stackTraces = false := by rw [hl]; exact hfl
  refine g_iload_n C dX6_least_0 rfl ?_
  refine g_callS C (s_X6_checkThing _ (v := p) hg1) ml_RX6_61 sm_yX6_checkThing in_RX6 co_yX6_checkThing hd_X6_checkThing rfl ⟨by omega, by omega⟩ rfl (Nat.le_of_ble_eq_true rfl) ⟨by omega, by omega⟩ dX6_least_1 (fun v1 w1 hp1 => ?_)
  obtain ⟨rfl, hw1⟩ := hp1
  subst w1
  refine g_iload_n C dX6_least_4 rfl ?_
  by_cases hc5 : GB q
  · refine g_callS C (s_X6_checkBase _ (v := q) hc5) ml_RX6_65 sm_yX6_checkBase in_RX6 co_yX6_checkBase hd_X6_checkBase rfl ⟨by omega, by omega⟩ rfl (Nat.le_of_ble_eq_true rfl) ⟨by omega, by omega⟩ dX6_least_5 (fun v5 w5 hp5 => ?_)
    obtain ⟨rfl, hw5⟩ := hp5
    subst w5
    exact (hbad hc5).elim
  · exact x_callS C hT hH hne hX (x_X6_checkBase _ hls (v := q) h_q hc5) ml_RX6_65 sm_yX6_checkBase in_RX6 co_yX6_checkBase hd_X6_checkBase rfl ⟨by omega, by omega⟩ rfl (Nat.le_of_ble_eq_true rfl) ⟨by omega, by omega⟩ ⟨by omega, by omega⟩ dX6_least_5 (fun w' h => h)
set_option maxHeartbeats 4000000 in
set_option maxRecDepth 100000 in
theorem x_X6_compose_IO (l : Launch) {K : KC} {E : GE} {w : Wd} (hfl : l.stackTraces = false) {a0 : Nat} {p : Int} (h_p : -2147483648 ≤ p ∧ p < 2147483648) {q : Int} (h_q : -2147483648 ≤ q ∧ q < 2147483648) {r : Int} (h_r : -2147483648 ≤ r ∧ r < 2147483648)  (hbad : ¬ ((0 ≤ p ∧ p ≤ 2) ∧ (0 ≤ q ∧ q ≤ 2) ∧ (0 ≤ r ∧ r ≤ 2))) : Tx K E l yX6_compose cX6_compose 4 (some .int) 7 (1) (6) [.ref a0, iI p, iI q, iI r] w sIO (fun w' => w.1 ≤ w'.1 ∧ w'.2 = w.2) := by
  refine tx_intro [some (.ref a0), some (iI p), some (iI q), some (iI r)] rfl (Nat.le_of_ble_eq_true rfl) pn_X6 ?_
  intro X C hT hH hRm hl hne hX
  obtain ⟨hRf, hRl, hRc, hRs⟩ := hRm
  have hls : (xl X).stackTraces = false := by rw [hl]; exact hfl
  refine g_iload_n C dX6_compose_0 rfl ?_
  by_cases hc1 : (0 ≤ p ∧ p ≤ 2)
  · refine g_callS C (s_X6_checkThing _ (v := p) hc1) ml_RX6_61 sm_yX6_checkThing in_RX6 co_yX6_checkThing hd_X6_checkThing rfl ⟨by omega, by omega⟩ rfl (Nat.le_of_ble_eq_true rfl) ⟨by omega, by omega⟩ dX6_compose_1 (fun v1 w1 hp1 => ?_)
    obtain ⟨rfl, hw1⟩ := hp1
    subst w1
    refine g_iload_n C dX6_compose_4 rfl ?_
    by_cases hc5 : (0 ≤ q ∧ q ≤ 2)
    · refine g_callS C (s_X6_checkThing _ (v := q) hc5) ml_RX6_61 sm_yX6_checkThing in_RX6 co_yX6_checkThing hd_X6_checkThing rfl ⟨by omega, by omega⟩ rfl (Nat.le_of_ble_eq_true rfl) ⟨by omega, by omega⟩ dX6_compose_5 (fun v5 w5 hp5 => ?_)
      obtain ⟨rfl, hw5⟩ := hp5
      subst w5
      refine g_iload_n C dX6_compose_8 rfl ?_
      by_cases hc9 : (0 ≤ r ∧ r ≤ 2)
      · refine g_callS C (s_X6_checkThing _ (v := r) hc9) ml_RX6_61 sm_yX6_checkThing in_RX6 co_yX6_checkThing hd_X6_checkThing rfl ⟨by omega, by omega⟩ rfl (Nat.le_of_ble_eq_true rfl) ⟨by omega, by omega⟩ dX6_compose_9 (fun v9 w9 hp9 => ?_)
        obtain ⟨rfl, hw9⟩ := hp9
        subst w9
        exact (hbad ⟨hc1, hc5, hc9⟩).elim
      · exact x_callS C hT hH hne hX (x_X6_checkThing _ hls (v := r) h_r hc9) ml_RX6_61 sm_yX6_checkThing in_RX6 co_yX6_checkThing hd_X6_checkThing rfl ⟨by omega, by omega⟩ rfl (Nat.le_of_ble_eq_true rfl) ⟨by omega, by omega⟩ ⟨by omega, by omega⟩ dX6_compose_9 (fun w' h => h)
    · exact x_callS C hT hH hne hX (x_X6_checkThing _ hls (v := q) h_q hc5) ml_RX6_61 sm_yX6_checkThing in_RX6 co_yX6_checkThing hd_X6_checkThing rfl ⟨by omega, by omega⟩ rfl (Nat.le_of_ble_eq_true rfl) ⟨by omega, by omega⟩ ⟨by omega, by omega⟩ dX6_compose_5 (fun w' h => h)
  · exact x_callS C hT hH hne hX (x_X6_checkThing _ hls (v := p) h_p hc1) ml_RX6_61 sm_yX6_checkThing in_RX6 co_yX6_checkThing hd_X6_checkThing rfl ⟨by omega, by omega⟩ rfl (Nat.le_of_ble_eq_true rfl) ⟨by omega, by omega⟩ ⟨by omega, by omega⟩ dX6_compose_1 (fun w' h => h)
set_option maxHeartbeats 4000000 in
set_option maxRecDepth 100000 in
theorem x_X6_power_IO (l : Launch) {K : KC} {E : GE} {w : Wd} (hfl : l.stackTraces = false) {a0 : Nat} {p : Int} (h_p : -2147483648 ≤ p ∧ p < 2147483648) {q : Int} (h_q : -2147483648 ≤ q ∧ q < 2147483648)  (hbad : ¬ ((0 ≤ p ∧ p ≤ 2))) : Tx K E l yX6_power cX6_power 4 (some .int) 7 (1) (6) [.ref a0, iI p, iI q] w sIO (fun w' => w.1 ≤ w'.1 ∧ w'.2 = w.2) := by
  refine tx_intro [some (.ref a0), some (iI p), some (iI q), none] rfl (Nat.le_of_ble_eq_true rfl) pn_X6 ?_
  intro X C hT hH hRm hl hne hX
  obtain ⟨hRf, hRl, hRc, hRs⟩ := hRm
  have hls : (xl X).stackTraces = false := by rw [hl]; exact hfl
  refine g_iload_n C dX6_power_0 rfl ?_
  by_cases hc1 : (0 ≤ p ∧ p ≤ 2)
  · refine g_callS C (s_X6_checkThing _ (v := p) hc1) ml_RX6_61 sm_yX6_checkThing in_RX6 co_yX6_checkThing hd_X6_checkThing rfl ⟨by omega, by omega⟩ rfl (Nat.le_of_ble_eq_true rfl) ⟨by omega, by omega⟩ dX6_power_1 (fun v1 w1 hp1 => ?_)
    obtain ⟨rfl, hw1⟩ := hp1
    subst w1
    exact (hbad hc1).elim
  · exact x_callS C hT hH hne hX (x_X6_checkThing _ hls (v := p) h_p hc1) ml_RX6_61 sm_yX6_checkThing in_RX6 co_yX6_checkThing hd_X6_checkThing rfl ⟨by omega, by omega⟩ rfl (Nat.le_of_ble_eq_true rfl) ⟨by omega, by omega⟩ ⟨by omega, by omega⟩ dX6_power_1 (fun w' h => h)
set_option maxHeartbeats 4000000 in
set_option maxRecDepth 100000 in
theorem x_X6_power_IA (l : Launch) {K : KC} {E : GE} {w : Wd} (hfl : l.stackTraces = false) {a0 : Nat} {p : Int} (h_p : -2147483648 ≤ p ∧ p < 2147483648) {q : Int} (h_q : -2147483648 ≤ q ∧ q < 2147483648) (hg1 : (0 ≤ p ∧ p ≤ 2)) (hbad : ¬ ((0 ≤ q ∧ q ≤ 5))) : Tx K E l yX6_power cX6_power 4 (some .int) 7 (1) (6) [.ref a0, iI p, iI q] w sIA (fun w' => w.1 ≤ w'.1 ∧ w'.2 = w.2) := by
  refine tx_intro [some (.ref a0), some (iI p), some (iI q), none] rfl (Nat.le_of_ble_eq_true rfl) pn_X6 ?_
  intro X C hT hH hRm hl hne hX
  obtain ⟨hRf, hRl, hRc, hRs⟩ := hRm
  have hls : (xl X).stackTraces = false := by rw [hl]; exact hfl
  refine g_iload_n C dX6_power_0 rfl ?_
  refine g_callS C (s_X6_checkThing _ (v := p) hg1) ml_RX6_61 sm_yX6_checkThing in_RX6 co_yX6_checkThing hd_X6_checkThing rfl ⟨by omega, by omega⟩ rfl (Nat.le_of_ble_eq_true rfl) ⟨by omega, by omega⟩ dX6_power_1 (fun v1 w1 hp1 => ?_)
  obtain ⟨rfl, hw1⟩ := hp1
  subst w1
  refine g_iload_n C dX6_power_4 rfl ?_
  refine g_iconst C dX6_power_5 ?_
  refine g_iconst C dX6_power_6 ?_
  by_cases hc7 : (0 ≤ q ∧ q ≤ 5)
  · refine g_callS C (s_X6_checkRange _ (v := q) (lo := 0) (hi := 5) hc7 (by omega) (by omega)) ml_RX6_82 sm_yX6_checkRange in_RX6 co_yX6_checkRange hd_X6_checkRange rfl ⟨by omega, by omega⟩ rfl (Nat.le_of_ble_eq_true rfl) ⟨by omega, by omega⟩ dX6_power_7 (fun v7 w7 hp7 => ?_)
    obtain ⟨rfl, hw7⟩ := hp7
    subst w7
    exact (hbad hc7).elim
  · exact x_callS C hT hH hne hX (x_X6_checkRange _ hls (v := q) (lo := 0) (hi := 5) h_q (by omega) (by omega) hc7) ml_RX6_82 sm_yX6_checkRange in_RX6 co_yX6_checkRange hd_X6_checkRange rfl ⟨by omega, by omega⟩ rfl (Nat.le_of_ble_eq_true rfl) ⟨by omega, by omega⟩ ⟨by omega, by omega⟩ dX6_power_7 (fun w' h => h)
set_option maxHeartbeats 4000000 in
set_option maxRecDepth 100000 in
theorem x_X6_mirror_IO (l : Launch) {K : KC} {E : GE} {w : Wd} (hfl : l.stackTraces = false) {a0 : Nat} {p : Int} (h_p : -2147483648 ≤ p ∧ p < 2147483648) {q : Int}  (hbad : ¬ ((0 ≤ p ∧ p ≤ 2))) : Tx K E l yX6_mirror cX6_mirror 3 (some .int) 7 (1) (6) [.ref a0, iI p, iI q] w sIO (fun w' => w.1 ≤ w'.1 ∧ w'.2 = w.2) := by
  refine tx_intro [some (.ref a0), some (iI p), some (iI q)] rfl (Nat.le_of_ble_eq_true rfl) pn_X6 ?_
  intro X C hT hH hRm hl hne hX
  obtain ⟨hRf, hRl, hRc, hRs⟩ := hRm
  have hls : (xl X).stackTraces = false := by rw [hl]; exact hfl
  refine g_iload_n C dX6_mirror_0 rfl ?_
  by_cases hc1 : (0 ≤ p ∧ p ≤ 2)
  · refine g_callS C (s_X6_checkThing _ (v := p) hc1) ml_RX6_61 sm_yX6_checkThing in_RX6 co_yX6_checkThing hd_X6_checkThing rfl ⟨by omega, by omega⟩ rfl (Nat.le_of_ble_eq_true rfl) ⟨by omega, by omega⟩ dX6_mirror_1 (fun v1 w1 hp1 => ?_)
    obtain ⟨rfl, hw1⟩ := hp1
    subst w1
    exact (hbad hc1).elim
  · exact x_callS C hT hH hne hX (x_X6_checkThing _ hls (v := p) h_p hc1) ml_RX6_61 sm_yX6_checkThing in_RX6 co_yX6_checkThing hd_X6_checkThing rfl ⟨by omega, by omega⟩ rfl (Nat.le_of_ble_eq_true rfl) ⟨by omega, by omega⟩ ⟨by omega, by omega⟩ dX6_mirror_1 (fun w' h => h)
set_option maxHeartbeats 4000000 in
set_option maxRecDepth 100000 in
theorem x_X6_divideBy_IO (l : Launch) {K : KC} {E : GE} {w : Wd} (hfl : l.stackTraces = false) {a0 : Nat} {p : Int} (h_p : -2147483648 ≤ p ∧ p < 2147483648) {q : Int} (h_q : -2147483648 ≤ q ∧ q < 2147483648)  (hbad : ¬ ((0 ≤ p ∧ p ≤ 2))) : Tx K E l yX6_divideBy cX6_divideBy 6 (some .int) 7 (1) (6) [.ref a0, iI p, iI q] w sIO (fun w' => w.1 ≤ w'.1 ∧ w'.2 = w.2) := by
  refine tx_intro [some (.ref a0), some (iI p), some (iI q), none, none, none] rfl (Nat.le_of_ble_eq_true rfl) pn_X6 ?_
  intro X C hT hH hRm hl hne hX
  obtain ⟨hRf, hRl, hRc, hRs⟩ := hRm
  have hls : (xl X).stackTraces = false := by rw [hl]; exact hfl
  refine g_iload_n C dX6_divideBy_0 rfl ?_
  by_cases hc1 : (0 ≤ p ∧ p ≤ 2)
  · refine g_callS C (s_X6_checkThing _ (v := p) hc1) ml_RX6_61 sm_yX6_checkThing in_RX6 co_yX6_checkThing hd_X6_checkThing rfl ⟨by omega, by omega⟩ rfl (Nat.le_of_ble_eq_true rfl) ⟨by omega, by omega⟩ dX6_divideBy_1 (fun v1 w1 hp1 => ?_)
    obtain ⟨rfl, hw1⟩ := hp1
    subst w1
    exact (hbad hc1).elim
  · exact x_callS C hT hH hne hX (x_X6_checkThing _ hls (v := p) h_p hc1) ml_RX6_61 sm_yX6_checkThing in_RX6 co_yX6_checkThing hd_X6_checkThing rfl ⟨by omega, by omega⟩ rfl (Nat.le_of_ble_eq_true rfl) ⟨by omega, by omega⟩ ⟨by omega, by omega⟩ dX6_divideBy_1 (fun w' h => h)
set_option maxHeartbeats 4000000 in
set_option maxRecDepth 100000 in
theorem x_X6_divideBy_IA (l : Launch) {K : KC} {E : GE} {w : Wd} (hfl : l.stackTraces = false) {a0 : Nat} {p : Int} (h_p : -2147483648 ≤ p ∧ p < 2147483648) {q : Int} (h_q : -2147483648 ≤ q ∧ q < 2147483648) (hg1 : (0 ≤ p ∧ p ≤ 2)) (hbad : ¬ ((-99 ≤ q ∧ q ≤ 99))) : Tx K E l yX6_divideBy cX6_divideBy 6 (some .int) 7 (1) (6) [.ref a0, iI p, iI q] w sIA (fun w' => w.1 ≤ w'.1 ∧ w'.2 = w.2) := by
  refine tx_intro [some (.ref a0), some (iI p), some (iI q), none, none, none] rfl (Nat.le_of_ble_eq_true rfl) pn_X6 ?_
  intro X C hT hH hRm hl hne hX
  obtain ⟨hRf, hRl, hRc, hRs⟩ := hRm
  have hls : (xl X).stackTraces = false := by rw [hl]; exact hfl
  refine g_iload_n C dX6_divideBy_0 rfl ?_
  refine g_callS C (s_X6_checkThing _ (v := p) hg1) ml_RX6_61 sm_yX6_checkThing in_RX6 co_yX6_checkThing hd_X6_checkThing rfl ⟨by omega, by omega⟩ rfl (Nat.le_of_ble_eq_true rfl) ⟨by omega, by omega⟩ dX6_divideBy_1 (fun v1 w1 hp1 => ?_)
  obtain ⟨rfl, hw1⟩ := hp1
  subst w1
  refine g_iload_n C dX6_divideBy_4 rfl ?_
  refine g_bipush C dX6_divideBy_5 (by decide) ?_
  refine g_bipush C dX6_divideBy_7 (by decide) ?_
  by_cases hc9 : (-99 ≤ q ∧ q ≤ 99)
  · refine g_callS C (s_X6_checkRange _ (v := q) (lo := -99) (hi := 99) hc9 (by omega) (by omega)) ml_RX6_82 sm_yX6_checkRange in_RX6 co_yX6_checkRange hd_X6_checkRange rfl ⟨by omega, by omega⟩ rfl (Nat.le_of_ble_eq_true rfl) ⟨by omega, by omega⟩ dX6_divideBy_9 (fun v9 w9 hp9 => ?_)
    obtain ⟨rfl, hw9⟩ := hp9
    subst w9
    exact (hbad hc9).elim
  · exact x_callS C hT hH hne hX (x_X6_checkRange _ hls (v := q) (lo := -99) (hi := 99) h_q (by omega) (by omega) hc9) ml_RX6_82 sm_yX6_checkRange in_RX6 co_yX6_checkRange hd_X6_checkRange rfl ⟨by omega, by omega⟩ rfl (Nat.le_of_ble_eq_true rfl) ⟨by omega, by omega⟩ ⟨by omega, by omega⟩ dX6_divideBy_9 (fun w' h => h)
set_option maxHeartbeats 4000000 in
set_option maxRecDepth 100000 in
theorem x_X6_pairCopy_IO (l : Launch) {K : KC} {E : GE} {w : Wd} (hfl : l.stackTraces = false) {a0 : Nat} {p : Int} (h_p : -2147483648 ≤ p ∧ p < 2147483648) {q : Int} (h_q : -2147483648 ≤ q ∧ q < 2147483648)  (hbad : ¬ ((0 ≤ p ∧ p ≤ 2) ∧ (0 ≤ q ∧ q ≤ 2))) : Tx K E l yX6_pairCopy cX6_pairCopy 3 (some .int) 7 (1) (6) [.ref a0, iI p, iI q] w sIO (fun w' => w.1 ≤ w'.1 ∧ w'.2 = w.2) := by
  refine tx_intro [some (.ref a0), some (iI p), some (iI q)] rfl (Nat.le_of_ble_eq_true rfl) pn_X6 ?_
  intro X C hT hH hRm hl hne hX
  obtain ⟨hRf, hRl, hRc, hRs⟩ := hRm
  have hls : (xl X).stackTraces = false := by rw [hl]; exact hfl
  refine g_iload_n C dX6_pairCopy_0 rfl ?_
  by_cases hc1 : (0 ≤ p ∧ p ≤ 2)
  · refine g_callS C (s_X6_checkThing _ (v := p) hc1) ml_RX6_61 sm_yX6_checkThing in_RX6 co_yX6_checkThing hd_X6_checkThing rfl ⟨by omega, by omega⟩ rfl (Nat.le_of_ble_eq_true rfl) ⟨by omega, by omega⟩ dX6_pairCopy_1 (fun v1 w1 hp1 => ?_)
    obtain ⟨rfl, hw1⟩ := hp1
    subst w1
    refine g_iload_n C dX6_pairCopy_4 rfl ?_
    by_cases hc5 : (0 ≤ q ∧ q ≤ 2)
    · refine g_callS C (s_X6_checkThing _ (v := q) hc5) ml_RX6_61 sm_yX6_checkThing in_RX6 co_yX6_checkThing hd_X6_checkThing rfl ⟨by omega, by omega⟩ rfl (Nat.le_of_ble_eq_true rfl) ⟨by omega, by omega⟩ dX6_pairCopy_5 (fun v5 w5 hp5 => ?_)
      obtain ⟨rfl, hw5⟩ := hp5
      subst w5
      exact (hbad ⟨hc1, hc5⟩).elim
    · exact x_callS C hT hH hne hX (x_X6_checkThing _ hls (v := q) h_q hc5) ml_RX6_61 sm_yX6_checkThing in_RX6 co_yX6_checkThing hd_X6_checkThing rfl ⟨by omega, by omega⟩ rfl (Nat.le_of_ble_eq_true rfl) ⟨by omega, by omega⟩ ⟨by omega, by omega⟩ dX6_pairCopy_5 (fun w' h => h)
  · exact x_callS C hT hH hne hX (x_X6_checkThing _ hls (v := p) h_p hc1) ml_RX6_61 sm_yX6_checkThing in_RX6 co_yX6_checkThing hd_X6_checkThing rfl ⟨by omega, by omega⟩ rfl (Nat.le_of_ble_eq_true rfl) ⟨by omega, by omega⟩ ⟨by omega, by omega⟩ dX6_pairCopy_1 (fun w' h => h)
set_option maxHeartbeats 4000000 in
set_option maxRecDepth 100000 in
theorem x_X6_pairBase_IO (l : Launch) {K : KC} {E : GE} {w : Wd} (hfl : l.stackTraces = false) {a0 : Nat} {p : Int} (h_p : -2147483648 ≤ p ∧ p < 2147483648)  (hbad : ¬ ((0 ≤ p ∧ p ≤ 2))) : Tx K E l yX6_pairBase cX6_pairBase 2 (some .int) 7 (1) (6) [.ref a0, iI p] w sIO (fun w' => w.1 ≤ w'.1 ∧ w'.2 = w.2) := by
  refine tx_intro [some (.ref a0), some (iI p)] rfl (Nat.le_of_ble_eq_true rfl) pn_X6 ?_
  intro X C hT hH hRm hl hne hX
  obtain ⟨hRf, hRl, hRc, hRs⟩ := hRm
  have hls : (xl X).stackTraces = false := by rw [hl]; exact hfl
  refine g_iload_n C dX6_pairBase_0 rfl ?_
  by_cases hc1 : (0 ≤ p ∧ p ≤ 2)
  · refine g_callS C (s_X6_checkThing _ (v := p) hc1) ml_RX6_61 sm_yX6_checkThing in_RX6 co_yX6_checkThing hd_X6_checkThing rfl ⟨by omega, by omega⟩ rfl (Nat.le_of_ble_eq_true rfl) ⟨by omega, by omega⟩ dX6_pairBase_1 (fun v1 w1 hp1 => ?_)
    obtain ⟨rfl, hw1⟩ := hp1
    subst w1
    exact (hbad hc1).elim
  · exact x_callS C hT hH hne hX (x_X6_checkThing _ hls (v := p) h_p hc1) ml_RX6_61 sm_yX6_checkThing in_RX6 co_yX6_checkThing hd_X6_checkThing rfl ⟨by omega, by omega⟩ rfl (Nat.le_of_ble_eq_true rfl) ⟨by omega, by omega⟩ ⟨by omega, by omega⟩ dX6_pairBase_1 (fun w' h => h)
set_option maxHeartbeats 4000000 in
set_option maxRecDepth 100000 in
theorem x_X6_pairText_IO (l : Launch) {K : KC} {E : GE} {w : Wd} (hfl : l.stackTraces = false) {a0 : Nat} {p : Int} (h_p : -2147483648 ≤ p ∧ p < 2147483648) {q : Int}  (hbad : ¬ ((0 ≤ p ∧ p ≤ 2))) : Tx K E l yX6_pairText cX6_pairText 3 (some (.object "java/lang/String")) 7 (1) (6) [.ref a0, iI p, iI q] w sIO (fun w' => w.1 ≤ w'.1 ∧ w'.2 = w.2) := by
  refine tx_intro [some (.ref a0), some (iI p), some (iI q)] rfl (Nat.le_of_ble_eq_true rfl) pn_X6 ?_
  intro X C hT hH hRm hl hne hX
  obtain ⟨hRf, hRl, hRc, hRs⟩ := hRm
  have hls : (xl X).stackTraces = false := by rw [hl]; exact hfl
  refine g_iload_n C dX6_pairText_0 rfl ?_
  by_cases hc1 : (0 ≤ p ∧ p ≤ 2)
  · refine g_callS C (s_X6_checkThing _ (v := p) hc1) ml_RX6_61 sm_yX6_checkThing in_RX6 co_yX6_checkThing hd_X6_checkThing rfl ⟨by omega, by omega⟩ rfl (Nat.le_of_ble_eq_true rfl) ⟨by omega, by omega⟩ dX6_pairText_1 (fun v1 w1 hp1 => ?_)
    obtain ⟨rfl, hw1⟩ := hp1
    subst w1
    exact (hbad hc1).elim
  · exact x_callS C hT hH hne hX (x_X6_checkThing _ hls (v := p) h_p hc1) ml_RX6_61 sm_yX6_checkThing in_RX6 co_yX6_checkThing hd_X6_checkThing rfl ⟨by omega, by omega⟩ rfl (Nat.le_of_ble_eq_true rfl) ⟨by omega, by omega⟩ ⟨by omega, by omega⟩ dX6_pairText_1 (fun w' h => h)
set_option maxHeartbeats 4000000 in
set_option maxRecDepth 100000 in
theorem x_X6_pairNorm_IO (l : Launch) {K : KC} {E : GE} {w : Wd} (hfl : l.stackTraces = false) {a0 : Nat} {p : Int} (h_p : -2147483648 ≤ p ∧ p < 2147483648)  (hbad : ¬ ((0 ≤ p ∧ p ≤ 2))) : Tx K E l yX6_pairNorm cX6_pairNorm 2 (some (.object "java/lang/String")) 7 (1) (6) [.ref a0, iI p] w sIO (fun w' => w.1 ≤ w'.1 ∧ w'.2 = w.2) := by
  refine tx_intro [some (.ref a0), some (iI p)] rfl (Nat.le_of_ble_eq_true rfl) pn_X6 ?_
  intro X C hT hH hRm hl hne hX
  obtain ⟨hRf, hRl, hRc, hRs⟩ := hRm
  have hls : (xl X).stackTraces = false := by rw [hl]; exact hfl
  refine g_iload_n C dX6_pairNorm_0 rfl ?_
  by_cases hc1 : (0 ≤ p ∧ p ≤ 2)
  · refine g_callS C (s_X6_checkThing _ (v := p) hc1) ml_RX6_61 sm_yX6_checkThing in_RX6 co_yX6_checkThing hd_X6_checkThing rfl ⟨by omega, by omega⟩ rfl (Nat.le_of_ble_eq_true rfl) ⟨by omega, by omega⟩ dX6_pairNorm_1 (fun v1 w1 hp1 => ?_)
    obtain ⟨rfl, hw1⟩ := hp1
    subst w1
    exact (hbad hc1).elim
  · exact x_callS C hT hH hne hX (x_X6_checkThing _ hls (v := p) h_p hc1) ml_RX6_61 sm_yX6_checkThing in_RX6 co_yX6_checkThing hd_X6_checkThing rfl ⟨by omega, by omega⟩ rfl (Nat.le_of_ble_eq_true rfl) ⟨by omega, by omega⟩ ⟨by omega, by omega⟩ dX6_pairNorm_1 (fun w' h => h)
set_option maxHeartbeats 4000000 in
set_option maxRecDepth 100000 in
theorem x_X6_pairBits_IO (l : Launch) {K : KC} {E : GE} {w : Wd} (hfl : l.stackTraces = false) {a0 : Nat} {p : Int} (h_p : -2147483648 ≤ p ∧ p < 2147483648) {q : Int} {r : Int} (h_r : -2147483648 ≤ r ∧ r < 2147483648)  (hbad : ¬ ((0 ≤ p ∧ p ≤ 2))) : Tx K E l yX6_pairBits cX6_pairBits 4 (some .int) 7 (1) (6) [.ref a0, iI p, iI q, iI r] w sIO (fun w' => w.1 ≤ w'.1 ∧ w'.2 = w.2) := by
  refine tx_intro [some (.ref a0), some (iI p), some (iI q), some (iI r)] rfl (Nat.le_of_ble_eq_true rfl) pn_X6 ?_
  intro X C hT hH hRm hl hne hX
  obtain ⟨hRf, hRl, hRc, hRs⟩ := hRm
  have hls : (xl X).stackTraces = false := by rw [hl]; exact hfl
  refine g_iload_n C dX6_pairBits_0 rfl ?_
  by_cases hc1 : (0 ≤ p ∧ p ≤ 2)
  · refine g_callS C (s_X6_checkThing _ (v := p) hc1) ml_RX6_61 sm_yX6_checkThing in_RX6 co_yX6_checkThing hd_X6_checkThing rfl ⟨by omega, by omega⟩ rfl (Nat.le_of_ble_eq_true rfl) ⟨by omega, by omega⟩ dX6_pairBits_1 (fun v1 w1 hp1 => ?_)
    obtain ⟨rfl, hw1⟩ := hp1
    subst w1
    exact (hbad hc1).elim
  · exact x_callS C hT hH hne hX (x_X6_checkThing _ hls (v := p) h_p hc1) ml_RX6_61 sm_yX6_checkThing in_RX6 co_yX6_checkThing hd_X6_checkThing rfl ⟨by omega, by omega⟩ rfl (Nat.le_of_ble_eq_true rfl) ⟨by omega, by omega⟩ ⟨by omega, by omega⟩ dX6_pairBits_1 (fun w' h => h)
set_option maxHeartbeats 4000000 in
set_option maxRecDepth 100000 in
theorem x_X6_pairBits_IA (l : Launch) {K : KC} {E : GE} {w : Wd} (hfl : l.stackTraces = false) {a0 : Nat} {p : Int} (h_p : -2147483648 ≤ p ∧ p < 2147483648) {q : Int} {r : Int} (h_r : -2147483648 ≤ r ∧ r < 2147483648) (hg1 : (0 ≤ p ∧ p ≤ 2)) (hbad : ¬ ((0 ≤ r ∧ r ≤ 2))) : Tx K E l yX6_pairBits cX6_pairBits 4 (some .int) 7 (1) (6) [.ref a0, iI p, iI q, iI r] w sIA (fun w' => w.1 ≤ w'.1 ∧ w'.2 = w.2) := by
  refine tx_intro [some (.ref a0), some (iI p), some (iI q), some (iI r)] rfl (Nat.le_of_ble_eq_true rfl) pn_X6 ?_
  intro X C hT hH hRm hl hne hX
  obtain ⟨hRf, hRl, hRc, hRs⟩ := hRm
  have hls : (xl X).stackTraces = false := by rw [hl]; exact hfl
  refine g_iload_n C dX6_pairBits_0 rfl ?_
  refine g_callS C (s_X6_checkThing _ (v := p) hg1) ml_RX6_61 sm_yX6_checkThing in_RX6 co_yX6_checkThing hd_X6_checkThing rfl ⟨by omega, by omega⟩ rfl (Nat.le_of_ble_eq_true rfl) ⟨by omega, by omega⟩ dX6_pairBits_1 (fun v1 w1 hp1 => ?_)
  obtain ⟨rfl, hw1⟩ := hp1
  subst w1
  refine g_iload_n C dX6_pairBits_4 rfl ?_
  refine g_iconst C dX6_pairBits_5 ?_
  refine g_iconst C dX6_pairBits_6 ?_
  by_cases hc7 : (0 ≤ r ∧ r ≤ 2)
  · refine g_callS C (s_X6_checkRange _ (v := r) (lo := 0) (hi := 2) hc7 (by omega) (by omega)) ml_RX6_82 sm_yX6_checkRange in_RX6 co_yX6_checkRange hd_X6_checkRange rfl ⟨by omega, by omega⟩ rfl (Nat.le_of_ble_eq_true rfl) ⟨by omega, by omega⟩ dX6_pairBits_7 (fun v7 w7 hp7 => ?_)
    obtain ⟨rfl, hw7⟩ := hp7
    subst w7
    exact (hbad hc7).elim
  · exact x_callS C hT hH hne hX (x_X6_checkRange _ hls (v := r) (lo := 0) (hi := 2) h_r (by omega) (by omega) hc7) ml_RX6_82 sm_yX6_checkRange in_RX6 co_yX6_checkRange hd_X6_checkRange rfl ⟨by omega, by omega⟩ rfl (Nat.le_of_ble_eq_true rfl) ⟨by omega, by omega⟩ ⟨by omega, by omega⟩ dX6_pairBits_7 (fun w' h => h)
set_option maxHeartbeats 4000000 in
set_option maxRecDepth 100000 in
theorem x_X6_rank_IO (l : Launch) {K : KC} {E : GE} {w : Wd} (hfl : l.stackTraces = false) {a0 : Nat} {p : Int} (h_p : -2147483648 ≤ p ∧ p < 2147483648)  (hbad : ¬ ((0 ≤ p ∧ p ≤ 2))) : Tx K E l yX6_rank cX6_rank 4 (some .int) 7 (1) (6) [.ref a0, iI p] w sIO (fun w' => w.1 ≤ w'.1 ∧ w'.2 = w.2) := by
  refine tx_intro [some (.ref a0), some (iI p), none, none] rfl (Nat.le_of_ble_eq_true rfl) pn_X6 ?_
  intro X C hT hH hRm hl hne hX
  obtain ⟨hRf, hRl, hRc, hRs⟩ := hRm
  have hls : (xl X).stackTraces = false := by rw [hl]; exact hfl
  refine g_iload_n C dX6_rank_0 rfl ?_
  by_cases hc1 : (0 ≤ p ∧ p ≤ 2)
  · refine g_callS C (s_X6_checkThing _ (v := p) hc1) ml_RX6_61 sm_yX6_checkThing in_RX6 co_yX6_checkThing hd_X6_checkThing rfl ⟨by omega, by omega⟩ rfl (Nat.le_of_ble_eq_true rfl) ⟨by omega, by omega⟩ dX6_rank_1 (fun v1 w1 hp1 => ?_)
    obtain ⟨rfl, hw1⟩ := hp1
    subst w1
    exact (hbad hc1).elim
  · exact x_callS C hT hH hne hX (x_X6_checkThing _ hls (v := p) h_p hc1) ml_RX6_61 sm_yX6_checkThing in_RX6 co_yX6_checkThing hd_X6_checkThing rfl ⟨by omega, by omega⟩ rfl (Nat.le_of_ble_eq_true rfl) ⟨by omega, by omega⟩ ⟨by omega, by omega⟩ dX6_rank_1 (fun w' h => h)
set_option maxHeartbeats 4000000 in
set_option maxRecDepth 100000 in
theorem x_X6_order_IO (l : Launch) {K : KC} {E : GE} {w : Wd} (hfl : l.stackTraces = false) {a0 : Nat} {p : Int} (h_p : -2147483648 ≤ p ∧ p < 2147483648) {q : Int} (h_q : -2147483648 ≤ q ∧ q < 2147483648) {r : Int}  (hbad : ¬ ((0 ≤ p ∧ p ≤ 2) ∧ (0 ≤ q ∧ q ≤ 2))) : Tx K E l yX6_order cX6_order 4 (some .int) 7 (1) (6) [.ref a0, iI p, iI q, iI r] w sIO (fun w' => w.1 ≤ w'.1 ∧ w'.2 = w.2) := by
  refine tx_intro [some (.ref a0), some (iI p), some (iI q), some (iI r)] rfl (Nat.le_of_ble_eq_true rfl) pn_X6 ?_
  intro X C hT hH hRm hl hne hX
  obtain ⟨hRf, hRl, hRc, hRs⟩ := hRm
  have hls : (xl X).stackTraces = false := by rw [hl]; exact hfl
  refine g_iload_n C dX6_order_0 rfl ?_
  by_cases hc1 : (0 ≤ p ∧ p ≤ 2)
  · refine g_callS C (s_X6_checkThing _ (v := p) hc1) ml_RX6_61 sm_yX6_checkThing in_RX6 co_yX6_checkThing hd_X6_checkThing rfl ⟨by omega, by omega⟩ rfl (Nat.le_of_ble_eq_true rfl) ⟨by omega, by omega⟩ dX6_order_1 (fun v1 w1 hp1 => ?_)
    obtain ⟨rfl, hw1⟩ := hp1
    subst w1
    refine g_iload_n C dX6_order_4 rfl ?_
    by_cases hc5 : (0 ≤ q ∧ q ≤ 2)
    · refine g_callS C (s_X6_checkThing _ (v := q) hc5) ml_RX6_61 sm_yX6_checkThing in_RX6 co_yX6_checkThing hd_X6_checkThing rfl ⟨by omega, by omega⟩ rfl (Nat.le_of_ble_eq_true rfl) ⟨by omega, by omega⟩ dX6_order_5 (fun v5 w5 hp5 => ?_)
      obtain ⟨rfl, hw5⟩ := hp5
      subst w5
      exact (hbad ⟨hc1, hc5⟩).elim
    · exact x_callS C hT hH hne hX (x_X6_checkThing _ hls (v := q) h_q hc5) ml_RX6_61 sm_yX6_checkThing in_RX6 co_yX6_checkThing hd_X6_checkThing rfl ⟨by omega, by omega⟩ rfl (Nat.le_of_ble_eq_true rfl) ⟨by omega, by omega⟩ ⟨by omega, by omega⟩ dX6_order_5 (fun w' h => h)
  · exact x_callS C hT hH hne hX (x_X6_checkThing _ hls (v := p) h_p hc1) ml_RX6_61 sm_yX6_checkThing in_RX6 co_yX6_checkThing hd_X6_checkThing rfl ⟨by omega, by omega⟩ rfl (Nat.le_of_ble_eq_true rfl) ⟨by omega, by omega⟩ ⟨by omega, by omega⟩ dX6_order_1 (fun w' h => h)
set_option maxHeartbeats 4000000 in
set_option maxRecDepth 100000 in
theorem x_X6_isSame_IO (l : Launch) {K : KC} {E : GE} {w : Wd} (hfl : l.stackTraces = false) {a0 : Nat} {p : Int} (h_p : -2147483648 ≤ p ∧ p < 2147483648) {q : Int} (h_q : -2147483648 ≤ q ∧ q < 2147483648)  (hbad : ¬ ((0 ≤ p ∧ p ≤ 2) ∧ (0 ≤ q ∧ q ≤ 2))) : Tx K E l yX6_isSame cX6_isSame 3 (some .boolean) 7 (1) (6) [.ref a0, iI p, iI q] w sIO (fun w' => w.1 ≤ w'.1 ∧ w'.2 = w.2) := by
  refine tx_intro [some (.ref a0), some (iI p), some (iI q)] rfl (Nat.le_of_ble_eq_true rfl) pn_X6 ?_
  intro X C hT hH hRm hl hne hX
  obtain ⟨hRf, hRl, hRc, hRs⟩ := hRm
  have hls : (xl X).stackTraces = false := by rw [hl]; exact hfl
  refine g_iload_n C dX6_isSame_0 rfl ?_
  by_cases hc1 : (0 ≤ p ∧ p ≤ 2)
  · refine g_callS C (s_X6_checkThing _ (v := p) hc1) ml_RX6_61 sm_yX6_checkThing in_RX6 co_yX6_checkThing hd_X6_checkThing rfl ⟨by omega, by omega⟩ rfl (Nat.le_of_ble_eq_true rfl) ⟨by omega, by omega⟩ dX6_isSame_1 (fun v1 w1 hp1 => ?_)
    obtain ⟨rfl, hw1⟩ := hp1
    subst w1
    refine g_iload_n C dX6_isSame_4 rfl ?_
    by_cases hc5 : (0 ≤ q ∧ q ≤ 2)
    · refine g_callS C (s_X6_checkThing _ (v := q) hc5) ml_RX6_61 sm_yX6_checkThing in_RX6 co_yX6_checkThing hd_X6_checkThing rfl ⟨by omega, by omega⟩ rfl (Nat.le_of_ble_eq_true rfl) ⟨by omega, by omega⟩ dX6_isSame_5 (fun v5 w5 hp5 => ?_)
      obtain ⟨rfl, hw5⟩ := hp5
      subst w5
      exact (hbad ⟨hc1, hc5⟩).elim
    · exact x_callS C hT hH hne hX (x_X6_checkThing _ hls (v := q) h_q hc5) ml_RX6_61 sm_yX6_checkThing in_RX6 co_yX6_checkThing hd_X6_checkThing rfl ⟨by omega, by omega⟩ rfl (Nat.le_of_ble_eq_true rfl) ⟨by omega, by omega⟩ ⟨by omega, by omega⟩ dX6_isSame_5 (fun w' h => h)
  · exact x_callS C hT hH hne hX (x_X6_checkThing _ hls (v := p) h_p hc1) ml_RX6_61 sm_yX6_checkThing in_RX6 co_yX6_checkThing hd_X6_checkThing rfl ⟨by omega, by omega⟩ rfl (Nat.le_of_ble_eq_true rfl) ⟨by omega, by omega⟩ ⟨by omega, by omega⟩ dX6_isSame_1 (fun w' h => h)
set_option maxHeartbeats 4000000 in
set_option maxRecDepth 100000 in
theorem x_X6_split_IO (l : Launch) {K : KC} {E : GE} {w : Wd} (hfl : l.stackTraces = false) {a0 : Nat} {p : Int} (h_p : -2147483648 ≤ p ∧ p < 2147483648) {q : Int} (h_q : -2147483648 ≤ q ∧ q < 2147483648)  (hbad : ¬ ((0 ≤ p ∧ p ≤ 2))) : Tx K E l yX6_split cX6_split 3 (some .int) 7 (1) (6) [.ref a0, iI p, iI q] w sIO (fun w' => w.1 ≤ w'.1 ∧ w'.2 = w.2) := by
  refine tx_intro [some (.ref a0), some (iI p), some (iI q)] rfl (Nat.le_of_ble_eq_true rfl) pn_X6 ?_
  intro X C hT hH hRm hl hne hX
  obtain ⟨hRf, hRl, hRc, hRs⟩ := hRm
  have hls : (xl X).stackTraces = false := by rw [hl]; exact hfl
  refine g_iload_n C dX6_split_0 rfl ?_
  by_cases hc1 : (0 ≤ p ∧ p ≤ 2)
  · refine g_callS C (s_X6_checkThing _ (v := p) hc1) ml_RX6_61 sm_yX6_checkThing in_RX6 co_yX6_checkThing hd_X6_checkThing rfl ⟨by omega, by omega⟩ rfl (Nat.le_of_ble_eq_true rfl) ⟨by omega, by omega⟩ dX6_split_1 (fun v1 w1 hp1 => ?_)
    obtain ⟨rfl, hw1⟩ := hp1
    subst w1
    exact (hbad hc1).elim
  · exact x_callS C hT hH hne hX (x_X6_checkThing _ hls (v := p) h_p hc1) ml_RX6_61 sm_yX6_checkThing in_RX6 co_yX6_checkThing hd_X6_checkThing rfl ⟨by omega, by omega⟩ rfl (Nat.le_of_ble_eq_true rfl) ⟨by omega, by omega⟩ ⟨by omega, by omega⟩ dX6_split_1 (fun w' h => h)
set_option maxHeartbeats 4000000 in
set_option maxRecDepth 100000 in
theorem x_X6_split_IA (l : Launch) {K : KC} {E : GE} {w : Wd} (hfl : l.stackTraces = false) {a0 : Nat} {p : Int} (h_p : -2147483648 ≤ p ∧ p < 2147483648) {q : Int} (h_q : -2147483648 ≤ q ∧ q < 2147483648) (hg1 : (0 ≤ p ∧ p ≤ 2)) (hbad : ¬ ((5 ≤ q ∧ q ≤ 997))) : Tx K E l yX6_split cX6_split 3 (some .int) 7 (1) (6) [.ref a0, iI p, iI q] w sIA (fun w' => w.1 ≤ w'.1 ∧ w'.2 = w.2) := by
  refine tx_intro [some (.ref a0), some (iI p), some (iI q)] rfl (Nat.le_of_ble_eq_true rfl) pn_X6 ?_
  intro X C hT hH hRm hl hne hX
  obtain ⟨hRf, hRl, hRc, hRs⟩ := hRm
  have hls : (xl X).stackTraces = false := by rw [hl]; exact hfl
  refine g_iload_n C dX6_split_0 rfl ?_
  refine g_callS C (s_X6_checkThing _ (v := p) hg1) ml_RX6_61 sm_yX6_checkThing in_RX6 co_yX6_checkThing hd_X6_checkThing rfl ⟨by omega, by omega⟩ rfl (Nat.le_of_ble_eq_true rfl) ⟨by omega, by omega⟩ dX6_split_1 (fun v1 w1 hp1 => ?_)
  obtain ⟨rfl, hw1⟩ := hp1
  subst w1
  refine g_iload_n C dX6_split_4 rfl ?_
  refine g_iconst C dX6_split_5 ?_
  refine g_sipush C dX6_split_6 (by decide) ?_
  by_cases hc9 : (5 ≤ q ∧ q ≤ 997)
  · refine g_callS C (s_X6_checkRange _ (v := q) (lo := 5) (hi := 997) hc9 (by omega) (by omega)) ml_RX6_82 sm_yX6_checkRange in_RX6 co_yX6_checkRange hd_X6_checkRange rfl ⟨by omega, by omega⟩ rfl (Nat.le_of_ble_eq_true rfl) ⟨by omega, by omega⟩ dX6_split_9 (fun v9 w9 hp9 => ?_)
    obtain ⟨rfl, hw9⟩ := hp9
    subst w9
    exact (hbad hc9).elim
  · exact x_callS C hT hH hne hX (x_X6_checkRange _ hls (v := q) (lo := 5) (hi := 997) h_q (by omega) (by omega) hc9) ml_RX6_82 sm_yX6_checkRange in_RX6 co_yX6_checkRange hd_X6_checkRange rfl ⟨by omega, by omega⟩ rfl (Nat.le_of_ble_eq_true rfl) ⟨by omega, by omega⟩ ⟨by omega, by omega⟩ dX6_split_9 (fun w' h => h)
set_option maxHeartbeats 4000000 in
set_option maxRecDepth 100000 in
theorem x_X6_euclid_IO (l : Launch) {K : KC} {E : GE} {w : Wd} (hfl : l.stackTraces = false) {a0 : Nat} {p : Int} (h_p : -2147483648 ≤ p ∧ p < 2147483648)  (hbad : ¬ ((0 ≤ p ∧ p ≤ 2))) : Tx K E l yX6_euclid cX6_euclid 2 (some .int) 7 (1) (6) [.ref a0, iI p] w sIO (fun w' => w.1 ≤ w'.1 ∧ w'.2 = w.2) := by
  refine tx_intro [some (.ref a0), some (iI p)] rfl (Nat.le_of_ble_eq_true rfl) pn_X6 ?_
  intro X C hT hH hRm hl hne hX
  obtain ⟨hRf, hRl, hRc, hRs⟩ := hRm
  have hls : (xl X).stackTraces = false := by rw [hl]; exact hfl
  refine g_iload_n C dX6_euclid_0 rfl ?_
  by_cases hc1 : (0 ≤ p ∧ p ≤ 2)
  · refine g_callS C (s_X6_checkThing _ (v := p) hc1) ml_RX6_61 sm_yX6_checkThing in_RX6 co_yX6_checkThing hd_X6_checkThing rfl ⟨by omega, by omega⟩ rfl (Nat.le_of_ble_eq_true rfl) ⟨by omega, by omega⟩ dX6_euclid_1 (fun v1 w1 hp1 => ?_)
    obtain ⟨rfl, hw1⟩ := hp1
    subst w1
    exact (hbad hc1).elim
  · exact x_callS C hT hH hne hX (x_X6_checkThing _ hls (v := p) h_p hc1) ml_RX6_61 sm_yX6_checkThing in_RX6 co_yX6_checkThing hd_X6_checkThing rfl ⟨by omega, by omega⟩ rfl (Nat.le_of_ble_eq_true rfl) ⟨by omega, by omega⟩ ⟨by omega, by omega⟩ dX6_euclid_1 (fun w' h => h)
set_option maxHeartbeats 4000000 in
set_option maxRecDepth 100000 in
theorem x_X6_settle_IO (l : Launch) {K : KC} {E : GE} {w : Wd} (hfl : l.stackTraces = false) {a0 : Nat} {p : Int} (h_p : -2147483648 ≤ p ∧ p < 2147483648)  (hbad : ¬ ((0 ≤ p ∧ p ≤ 2))) : Tx K E l yX6_settle cX6_settle 2 (some .int) 7 (1) (6) [.ref a0, iI p] w sIO (fun w' => w.1 ≤ w'.1 ∧ w'.2 = w.2) := by
  refine tx_intro [some (.ref a0), some (iI p)] rfl (Nat.le_of_ble_eq_true rfl) pn_X6 ?_
  intro X C hT hH hRm hl hne hX
  obtain ⟨hRf, hRl, hRc, hRs⟩ := hRm
  have hls : (xl X).stackTraces = false := by rw [hl]; exact hfl
  refine g_iload_n C dX6_settle_0 rfl ?_
  by_cases hc1 : (0 ≤ p ∧ p ≤ 2)
  · refine g_callS C (s_X6_checkThing _ (v := p) hc1) ml_RX6_61 sm_yX6_checkThing in_RX6 co_yX6_checkThing hd_X6_checkThing rfl ⟨by omega, by omega⟩ rfl (Nat.le_of_ble_eq_true rfl) ⟨by omega, by omega⟩ dX6_settle_1 (fun v1 w1 hp1 => ?_)
    obtain ⟨rfl, hw1⟩ := hp1
    subst w1
    exact (hbad hc1).elim
  · exact x_callS C hT hH hne hX (x_X6_checkThing _ hls (v := p) h_p hc1) ml_RX6_61 sm_yX6_checkThing in_RX6 co_yX6_checkThing hd_X6_checkThing rfl ⟨by omega, by omega⟩ rfl (Nat.le_of_ble_eq_true rfl) ⟨by omega, by omega⟩ ⟨by omega, by omega⟩ dX6_settle_1 (fun w' h => h)
set_option maxHeartbeats 4000000 in
set_option maxRecDepth 100000 in
theorem x_X6_splitNumber_IO (l : Launch) {K : KC} {E : GE} {w : Wd} (hfl : l.stackTraces = false) {a0 : Nat} {p : Int} (h_p : -2147483648 ≤ p ∧ p < 2147483648) {q : Int} (h_q : -2147483648 ≤ q ∧ q < 2147483648)  (hbad : ¬ ((0 ≤ p ∧ p ≤ 2))) : Tx K E l yX6_splitNumber cX6_splitNumber 3 (some .int) 7 (1) (6) [.ref a0, iI p, iI q] w sIO (fun w' => w.1 ≤ w'.1 ∧ w'.2 = w.2) := by
  refine tx_intro [some (.ref a0), some (iI p), some (iI q)] rfl (Nat.le_of_ble_eq_true rfl) pn_X6 ?_
  intro X C hT hH hRm hl hne hX
  obtain ⟨hRf, hRl, hRc, hRs⟩ := hRm
  have hls : (xl X).stackTraces = false := by rw [hl]; exact hfl
  refine g_iload_n C dX6_splitNumber_0 rfl ?_
  by_cases hc1 : (0 ≤ p ∧ p ≤ 2)
  · refine g_callS C (s_X6_checkThing _ (v := p) hc1) ml_RX6_61 sm_yX6_checkThing in_RX6 co_yX6_checkThing hd_X6_checkThing rfl ⟨by omega, by omega⟩ rfl (Nat.le_of_ble_eq_true rfl) ⟨by omega, by omega⟩ dX6_splitNumber_1 (fun v1 w1 hp1 => ?_)
    obtain ⟨rfl, hw1⟩ := hp1
    subst w1
    exact (hbad hc1).elim
  · exact x_callS C hT hH hne hX (x_X6_checkThing _ hls (v := p) h_p hc1) ml_RX6_61 sm_yX6_checkThing in_RX6 co_yX6_checkThing hd_X6_checkThing rfl ⟨by omega, by omega⟩ rfl (Nat.le_of_ble_eq_true rfl) ⟨by omega, by omega⟩ ⟨by omega, by omega⟩ dX6_splitNumber_1 (fun w' h => h)
set_option maxHeartbeats 4000000 in
set_option maxRecDepth 100000 in
theorem x_X6_splitNumber_IA (l : Launch) {K : KC} {E : GE} {w : Wd} (hfl : l.stackTraces = false) {a0 : Nat} {p : Int} (h_p : -2147483648 ≤ p ∧ p < 2147483648) {q : Int} (h_q : -2147483648 ≤ q ∧ q < 2147483648) (hg1 : (0 ≤ p ∧ p ≤ 2)) (hbad : ¬ ((0 ≤ q ∧ q ≤ 7))) : Tx K E l yX6_splitNumber cX6_splitNumber 3 (some .int) 7 (1) (6) [.ref a0, iI p, iI q] w sIA (fun w' => w.1 ≤ w'.1 ∧ w'.2 = w.2) := by
  refine tx_intro [some (.ref a0), some (iI p), some (iI q)] rfl (Nat.le_of_ble_eq_true rfl) pn_X6 ?_
  intro X C hT hH hRm hl hne hX
  obtain ⟨hRf, hRl, hRc, hRs⟩ := hRm
  have hls : (xl X).stackTraces = false := by rw [hl]; exact hfl
  refine g_iload_n C dX6_splitNumber_0 rfl ?_
  refine g_callS C (s_X6_checkThing _ (v := p) hg1) ml_RX6_61 sm_yX6_checkThing in_RX6 co_yX6_checkThing hd_X6_checkThing rfl ⟨by omega, by omega⟩ rfl (Nat.le_of_ble_eq_true rfl) ⟨by omega, by omega⟩ dX6_splitNumber_1 (fun v1 w1 hp1 => ?_)
  obtain ⟨rfl, hw1⟩ := hp1
  subst w1
  refine g_iload_n C dX6_splitNumber_4 rfl ?_
  refine g_iconst C dX6_splitNumber_5 ?_
  refine g_bipush C dX6_splitNumber_6 (by decide) ?_
  by_cases hc8 : (0 ≤ q ∧ q ≤ 7)
  · refine g_callS C (s_X6_checkRange _ (v := q) (lo := 0) (hi := 7) hc8 (by omega) (by omega)) ml_RX6_82 sm_yX6_checkRange in_RX6 co_yX6_checkRange hd_X6_checkRange rfl ⟨by omega, by omega⟩ rfl (Nat.le_of_ble_eq_true rfl) ⟨by omega, by omega⟩ dX6_splitNumber_8 (fun v8 w8 hp8 => ?_)
    obtain ⟨rfl, hw8⟩ := hp8
    subst w8
    exact (hbad hc8).elim
  · exact x_callS C hT hH hne hX (x_X6_checkRange _ hls (v := q) (lo := 0) (hi := 7) h_q (by omega) (by omega) hc8) ml_RX6_82 sm_yX6_checkRange in_RX6 co_yX6_checkRange hd_X6_checkRange rfl ⟨by omega, by omega⟩ rfl (Nat.le_of_ble_eq_true rfl) ⟨by omega, by omega⟩ ⟨by omega, by omega⟩ dX6_splitNumber_8 (fun w' h => h)
set_option maxHeartbeats 4000000 in
set_option maxRecDepth 100000 in
theorem x_X6_way_IO (l : Launch) {K : KC} {E : GE} {w : Wd} (hfl : l.stackTraces = false) {a0 : Nat} {p : Int} (h_p : -2147483648 ≤ p ∧ p < 2147483648)  (hbad : ¬ ((0 ≤ p ∧ p ≤ 2))) : Tx K E l yX6_way cX6_way 3 (some (.object "java/lang/String")) 7 (1) (6) [.ref a0, iI p] w sIO (fun w' => w.1 ≤ w'.1 ∧ w'.2 = w.2) := by
  refine tx_intro [some (.ref a0), some (iI p), none] rfl (Nat.le_of_ble_eq_true rfl) pn_X6 ?_
  intro X C hT hH hRm hl hne hX
  obtain ⟨hRf, hRl, hRc, hRs⟩ := hRm
  have hls : (xl X).stackTraces = false := by rw [hl]; exact hfl
  refine g_iload_n C dX6_way_0 rfl ?_
  by_cases hc1 : (0 ≤ p ∧ p ≤ 2)
  · refine g_callS C (s_X6_checkThing _ (v := p) hc1) ml_RX6_61 sm_yX6_checkThing in_RX6 co_yX6_checkThing hd_X6_checkThing rfl ⟨by omega, by omega⟩ rfl (Nat.le_of_ble_eq_true rfl) ⟨by omega, by omega⟩ dX6_way_1 (fun v1 w1 hp1 => ?_)
    obtain ⟨rfl, hw1⟩ := hp1
    subst w1
    exact (hbad hc1).elim
  · exact x_callS C hT hH hne hX (x_X6_checkThing _ hls (v := p) h_p hc1) ml_RX6_61 sm_yX6_checkThing in_RX6 co_yX6_checkThing hd_X6_checkThing rfl ⟨by omega, by omega⟩ rfl (Nat.le_of_ble_eq_true rfl) ⟨by omega, by omega⟩ ⟨by omega, by omega⟩ dX6_way_1 (fun w' h => h)
set_option maxHeartbeats 4000000 in
set_option maxRecDepth 100000 in
theorem x_X6_product_IO (l : Launch) {K : KC} {E : GE} {w : Wd} (hfl : l.stackTraces = false) {a0 : Nat} {p : Int} (h_p : -2147483648 ≤ p ∧ p < 2147483648) {q : Int} (h_q : -2147483648 ≤ q ∧ q < 2147483648)  (hbad : ¬ ((0 ≤ p ∧ p ≤ 2) ∧ (0 ≤ q ∧ q ≤ 2))) : Tx K E l yX6_product cX6_product 8 (some (.object "java/lang/String")) 7 (1) (6) [.ref a0, iI p, iI q] w sIO (fun w' => w.1 ≤ w'.1 ∧ w'.2 = w.2) := by
  refine tx_intro [some (.ref a0), some (iI p), some (iI q), none, none, none, none, none] rfl (Nat.le_of_ble_eq_true rfl) pn_X6 ?_
  intro X C hT hH hRm hl hne hX
  obtain ⟨hRf, hRl, hRc, hRs⟩ := hRm
  have hls : (xl X).stackTraces = false := by rw [hl]; exact hfl
  refine g_iload_n C dX6_product_0 rfl ?_
  by_cases hc1 : (0 ≤ p ∧ p ≤ 2)
  · refine g_callS C (s_X6_checkThing _ (v := p) hc1) ml_RX6_61 sm_yX6_checkThing in_RX6 co_yX6_checkThing hd_X6_checkThing rfl ⟨by omega, by omega⟩ rfl (Nat.le_of_ble_eq_true rfl) ⟨by omega, by omega⟩ dX6_product_1 (fun v1 w1 hp1 => ?_)
    obtain ⟨rfl, hw1⟩ := hp1
    subst w1
    refine g_iload_n C dX6_product_4 rfl ?_
    by_cases hc5 : (0 ≤ q ∧ q ≤ 2)
    · refine g_callS C (s_X6_checkThing _ (v := q) hc5) ml_RX6_61 sm_yX6_checkThing in_RX6 co_yX6_checkThing hd_X6_checkThing rfl ⟨by omega, by omega⟩ rfl (Nat.le_of_ble_eq_true rfl) ⟨by omega, by omega⟩ dX6_product_5 (fun v5 w5 hp5 => ?_)
      obtain ⟨rfl, hw5⟩ := hp5
      subst w5
      exact (hbad ⟨hc1, hc5⟩).elim
    · exact x_callS C hT hH hne hX (x_X6_checkThing _ hls (v := q) h_q hc5) ml_RX6_61 sm_yX6_checkThing in_RX6 co_yX6_checkThing hd_X6_checkThing rfl ⟨by omega, by omega⟩ rfl (Nat.le_of_ble_eq_true rfl) ⟨by omega, by omega⟩ ⟨by omega, by omega⟩ dX6_product_5 (fun w' h => h)
  · exact x_callS C hT hH hne hX (x_X6_checkThing _ hls (v := p) h_p hc1) ml_RX6_61 sm_yX6_checkThing in_RX6 co_yX6_checkThing hd_X6_checkThing rfl ⟨by omega, by omega⟩ rfl (Nat.le_of_ble_eq_true rfl) ⟨by omega, by omega⟩ ⟨by omega, by omega⟩ dX6_product_1 (fun w' h => h)
set_option maxHeartbeats 4000000 in
set_option maxRecDepth 100000 in
theorem x_X6_symbol_IO (l : Launch) {K : KC} {E : GE} {w : Wd} (hfl : l.stackTraces = false) {a0 : Nat} {p : Int} (h_p : -2147483648 ≤ p ∧ p < 2147483648) {q : Int} (h_q : -2147483648 ≤ q ∧ q < 2147483648)  (hbad : ¬ ((0 ≤ p ∧ p ≤ 2))) : Tx K E l yX6_symbol cX6_symbol 4 (some .int) 7 (1) (6) [.ref a0, iI p, iI q] w sIO (fun w' => w.1 ≤ w'.1 ∧ w'.2 = w.2) := by
  refine tx_intro [some (.ref a0), some (iI p), some (iI q), none] rfl (Nat.le_of_ble_eq_true rfl) pn_X6 ?_
  intro X C hT hH hRm hl hne hX
  obtain ⟨hRf, hRl, hRc, hRs⟩ := hRm
  have hls : (xl X).stackTraces = false := by rw [hl]; exact hfl
  refine g_iload_n C dX6_symbol_0 rfl ?_
  by_cases hc1 : (0 ≤ p ∧ p ≤ 2)
  · refine g_callS C (s_X6_checkThing _ (v := p) hc1) ml_RX6_61 sm_yX6_checkThing in_RX6 co_yX6_checkThing hd_X6_checkThing rfl ⟨by omega, by omega⟩ rfl (Nat.le_of_ble_eq_true rfl) ⟨by omega, by omega⟩ dX6_symbol_1 (fun v1 w1 hp1 => ?_)
    obtain ⟨rfl, hw1⟩ := hp1
    subst w1
    exact (hbad hc1).elim
  · exact x_callS C hT hH hne hX (x_X6_checkThing _ hls (v := p) h_p hc1) ml_RX6_61 sm_yX6_checkThing in_RX6 co_yX6_checkThing hd_X6_checkThing rfl ⟨by omega, by omega⟩ rfl (Nat.le_of_ble_eq_true rfl) ⟨by omega, by omega⟩ ⟨by omega, by omega⟩ dX6_symbol_1 (fun w' h => h)
set_option maxHeartbeats 4000000 in
set_option maxRecDepth 100000 in
theorem x_X6_symbol_IA (l : Launch) {K : KC} {E : GE} {w : Wd} (hfl : l.stackTraces = false) {a0 : Nat} {p : Int} (h_p : -2147483648 ≤ p ∧ p < 2147483648) {q : Int} (h_q : -2147483648 ≤ q ∧ q < 2147483648) (hg1 : (0 ≤ p ∧ p ≤ 2)) (hbad : ¬ ((-999 ≤ q ∧ q ≤ 999))) : Tx K E l yX6_symbol cX6_symbol 4 (some .int) 7 (1) (6) [.ref a0, iI p, iI q] w sIA (fun w' => w.1 ≤ w'.1 ∧ w'.2 = w.2) := by
  refine tx_intro [some (.ref a0), some (iI p), some (iI q), none] rfl (Nat.le_of_ble_eq_true rfl) pn_X6 ?_
  intro X C hT hH hRm hl hne hX
  obtain ⟨hRf, hRl, hRc, hRs⟩ := hRm
  have hls : (xl X).stackTraces = false := by rw [hl]; exact hfl
  refine g_iload_n C dX6_symbol_0 rfl ?_
  refine g_callS C (s_X6_checkThing _ (v := p) hg1) ml_RX6_61 sm_yX6_checkThing in_RX6 co_yX6_checkThing hd_X6_checkThing rfl ⟨by omega, by omega⟩ rfl (Nat.le_of_ble_eq_true rfl) ⟨by omega, by omega⟩ dX6_symbol_1 (fun v1 w1 hp1 => ?_)
  obtain ⟨rfl, hw1⟩ := hp1
  subst w1
  refine g_iload_n C dX6_symbol_4 rfl ?_
  refine g_sipush C dX6_symbol_5 (by decide) ?_
  refine g_sipush C dX6_symbol_8 (by decide) ?_
  by_cases hc11 : (-999 ≤ q ∧ q ≤ 999)
  · refine g_callS C (s_X6_checkRange _ (v := q) (lo := -999) (hi := 999) hc11 (by omega) (by omega)) ml_RX6_82 sm_yX6_checkRange in_RX6 co_yX6_checkRange hd_X6_checkRange rfl ⟨by omega, by omega⟩ rfl (Nat.le_of_ble_eq_true rfl) ⟨by omega, by omega⟩ dX6_symbol_11 (fun v11 w11 hp11 => ?_)
    obtain ⟨rfl, hw11⟩ := hp11
    subst w11
    exact (hbad hc11).elim
  · exact x_callS C hT hH hne hX (x_X6_checkRange _ hls (v := q) (lo := -999) (hi := 999) h_q (by omega) (by omega) hc11) ml_RX6_82 sm_yX6_checkRange in_RX6 co_yX6_checkRange hd_X6_checkRange rfl ⟨by omega, by omega⟩ rfl (Nat.le_of_ble_eq_true rfl) ⟨by omega, by omega⟩ ⟨by omega, by omega⟩ dX6_symbol_11 (fun w' h => h)
set_option maxHeartbeats 4000000 in
set_option maxRecDepth 100000 in
theorem x_X6_inverse_IO (l : Launch) {K : KC} {E : GE} {w : Wd} (hfl : l.stackTraces = false) {a0 : Nat} {p : Int} (h_p : -2147483648 ≤ p ∧ p < 2147483648) {q : Int} (h_q : -2147483648 ≤ q ∧ q < 2147483648)  (hbad : ¬ ((0 ≤ p ∧ p ≤ 2))) : Tx K E l yX6_inverse cX6_inverse 4 (some .int) 7 (1) (6) [.ref a0, iI p, iI q] w sIO (fun w' => w.1 ≤ w'.1 ∧ w'.2 = w.2) := by
  refine tx_intro [some (.ref a0), some (iI p), some (iI q), none] rfl (Nat.le_of_ble_eq_true rfl) pn_X6 ?_
  intro X C hT hH hRm hl hne hX
  obtain ⟨hRf, hRl, hRc, hRs⟩ := hRm
  have hls : (xl X).stackTraces = false := by rw [hl]; exact hfl
  refine g_iload_n C dX6_inverse_0 rfl ?_
  by_cases hc1 : (0 ≤ p ∧ p ≤ 2)
  · refine g_callS C (s_X6_checkThing _ (v := p) hc1) ml_RX6_61 sm_yX6_checkThing in_RX6 co_yX6_checkThing hd_X6_checkThing rfl ⟨by omega, by omega⟩ rfl (Nat.le_of_ble_eq_true rfl) ⟨by omega, by omega⟩ dX6_inverse_1 (fun v1 w1 hp1 => ?_)
    obtain ⟨rfl, hw1⟩ := hp1
    subst w1
    exact (hbad hc1).elim
  · exact x_callS C hT hH hne hX (x_X6_checkThing _ hls (v := p) h_p hc1) ml_RX6_61 sm_yX6_checkThing in_RX6 co_yX6_checkThing hd_X6_checkThing rfl ⟨by omega, by omega⟩ rfl (Nat.le_of_ble_eq_true rfl) ⟨by omega, by omega⟩ ⟨by omega, by omega⟩ dX6_inverse_1 (fun w' h => h)
set_option maxHeartbeats 4000000 in
set_option maxRecDepth 100000 in
theorem x_X6_inverse_IA (l : Launch) {K : KC} {E : GE} {w : Wd} (hfl : l.stackTraces = false) {a0 : Nat} {p : Int} (h_p : -2147483648 ≤ p ∧ p < 2147483648) {q : Int} (h_q : -2147483648 ≤ q ∧ q < 2147483648) (hg1 : (0 ≤ p ∧ p ≤ 2)) (hbad : ¬ ((-999 ≤ q ∧ q ≤ 999))) : Tx K E l yX6_inverse cX6_inverse 4 (some .int) 7 (1) (6) [.ref a0, iI p, iI q] w sIA (fun w' => w.1 ≤ w'.1 ∧ w'.2 = w.2) := by
  refine tx_intro [some (.ref a0), some (iI p), some (iI q), none] rfl (Nat.le_of_ble_eq_true rfl) pn_X6 ?_
  intro X C hT hH hRm hl hne hX
  obtain ⟨hRf, hRl, hRc, hRs⟩ := hRm
  have hls : (xl X).stackTraces = false := by rw [hl]; exact hfl
  refine g_iload_n C dX6_inverse_0 rfl ?_
  refine g_callS C (s_X6_checkThing _ (v := p) hg1) ml_RX6_61 sm_yX6_checkThing in_RX6 co_yX6_checkThing hd_X6_checkThing rfl ⟨by omega, by omega⟩ rfl (Nat.le_of_ble_eq_true rfl) ⟨by omega, by omega⟩ dX6_inverse_1 (fun v1 w1 hp1 => ?_)
  obtain ⟨rfl, hw1⟩ := hp1
  subst w1
  refine g_iload_n C dX6_inverse_4 rfl ?_
  refine g_sipush C dX6_inverse_5 (by decide) ?_
  refine g_sipush C dX6_inverse_8 (by decide) ?_
  by_cases hc11 : (-999 ≤ q ∧ q ≤ 999)
  · refine g_callS C (s_X6_checkRange _ (v := q) (lo := -999) (hi := 999) hc11 (by omega) (by omega)) ml_RX6_82 sm_yX6_checkRange in_RX6 co_yX6_checkRange hd_X6_checkRange rfl ⟨by omega, by omega⟩ rfl (Nat.le_of_ble_eq_true rfl) ⟨by omega, by omega⟩ dX6_inverse_11 (fun v11 w11 hp11 => ?_)
    obtain ⟨rfl, hw11⟩ := hp11
    subst w11
    exact (hbad hc11).elim
  · exact x_callS C hT hH hne hX (x_X6_checkRange _ hls (v := q) (lo := -999) (hi := 999) h_q (by omega) (by omega) hc11) ml_RX6_82 sm_yX6_checkRange in_RX6 co_yX6_checkRange hd_X6_checkRange rfl ⟨by omega, by omega⟩ rfl (Nat.le_of_ble_eq_true rfl) ⟨by omega, by omega⟩ ⟨by omega, by omega⟩ dX6_inverse_11 (fun w' h => h)
set_option maxHeartbeats 4000000 in
set_option maxRecDepth 100000 in
theorem x_X6_isPrime_IA (l : Launch) {K : KC} {E : GE} {w : Wd} (hfl : l.stackTraces = false) {a0 : Nat} {p : Int} (h_p : -2147483648 ≤ p ∧ p < 2147483648)  (hbad : ¬ ((0 ≤ p ∧ p ≤ 999))) : Tx K E l yX6_isPrime cX6_isPrime 2 (some .boolean) 7 (1) (6) [.ref a0, iI p] w sIA (fun w' => w.1 ≤ w'.1 ∧ w'.2 = w.2) := by
  refine tx_intro [some (.ref a0), some (iI p)] rfl (Nat.le_of_ble_eq_true rfl) pn_X6 ?_
  intro X C hT hH hRm hl hne hX
  obtain ⟨hRf, hRl, hRc, hRs⟩ := hRm
  have hls : (xl X).stackTraces = false := by rw [hl]; exact hfl
  refine g_iload_n C dX6_isPrime_0 rfl ?_
  refine g_iconst C dX6_isPrime_1 ?_
  refine g_sipush C dX6_isPrime_2 (by decide) ?_
  by_cases hc5 : (0 ≤ p ∧ p ≤ 999)
  · refine g_callS C (s_X6_checkRange _ (v := p) (lo := 0) (hi := 999) hc5 (by omega) (by omega)) ml_RX6_82 sm_yX6_checkRange in_RX6 co_yX6_checkRange hd_X6_checkRange rfl ⟨by omega, by omega⟩ rfl (Nat.le_of_ble_eq_true rfl) ⟨by omega, by omega⟩ dX6_isPrime_5 (fun v5 w5 hp5 => ?_)
    obtain ⟨rfl, hw5⟩ := hp5
    subst w5
    exact (hbad hc5).elim
  · exact x_callS C hT hH hne hX (x_X6_checkRange _ hls (v := p) (lo := 0) (hi := 999) h_p (by omega) (by omega) hc5) ml_RX6_82 sm_yX6_checkRange in_RX6 co_yX6_checkRange hd_X6_checkRange rfl ⟨by omega, by omega⟩ rfl (Nat.le_of_ble_eq_true rfl) ⟨by omega, by omega⟩ ⟨by omega, by omega⟩ dX6_isPrime_5 (fun w' h => h)
set_option maxHeartbeats 4000000 in
set_option maxRecDepth 100000 in
theorem x_X6_house_IA (l : Launch) {K : KC} {E : GE} {w : Wd} (hfl : l.stackTraces = false) {a0 : Nat} {p : Int} (h_p : -2147483648 ≤ p ∧ p < 2147483648)  (hbad : ¬ ((0 ≤ p ∧ p ≤ 4))) : Tx K E l yX6_house cX6_house 2 (some .int) 7 (1) (6) [.ref a0, iI p] w sIA (fun w' => w.1 ≤ w'.1 ∧ w'.2 = w.2) := by
  refine tx_intro [some (.ref a0), some (iI p)] rfl (Nat.le_of_ble_eq_true rfl) pn_X6 ?_
  intro X C hT hH hRm hl hne hX
  obtain ⟨hRf, hRl, hRc, hRs⟩ := hRm
  have hls : (xl X).stackTraces = false := by rw [hl]; exact hfl
  refine g_iload_n C dX6_house_0 rfl ?_
  refine g_iconst C dX6_house_1 ?_
  refine g_iconst C dX6_house_2 ?_
  by_cases hc3 : (0 ≤ p ∧ p ≤ 4)
  · refine g_callS C (s_X6_checkRange _ (v := p) (lo := 0) (hi := 4) hc3 (by omega) (by omega)) ml_RX6_82 sm_yX6_checkRange in_RX6 co_yX6_checkRange hd_X6_checkRange rfl ⟨by omega, by omega⟩ rfl (Nat.le_of_ble_eq_true rfl) ⟨by omega, by omega⟩ dX6_house_3 (fun v3 w3 hp3 => ?_)
    obtain ⟨rfl, hw3⟩ := hp3
    subst w3
    exact (hbad hc3).elim
  · exact x_callS C hT hH hne hX (x_X6_checkRange _ hls (v := p) (lo := 0) (hi := 4) h_p (by omega) (by omega) hc3) ml_RX6_82 sm_yX6_checkRange in_RX6 co_yX6_checkRange hd_X6_checkRange rfl ⟨by omega, by omega⟩ rfl (Nat.le_of_ble_eq_true rfl) ⟨by omega, by omega⟩ ⟨by omega, by omega⟩ dX6_house_3 (fun w' h => h)
