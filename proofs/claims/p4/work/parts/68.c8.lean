/-! the class's cells: their addresses by tag -/
def wo (ad : Nat → Nat) (j : Nat) : Nat := ad (200 + 2 * j)
def wr (ad : Nat → Nat) (j : Nat) : Nat := ad (201 + 2 * j)
def NS (τ ad : Nat → Nat) (w : Wd) : Prop := (∀ t, 100 ≤ t → t ≤ 340 → τ (ad t) = t) ∧ (∀ j, j < 70 → WS w (wo ad j) (wr ad j)) ∧ ∃ g, w.2 (ad 340) = some (true, eB 63 g) ∧ bF g
def KN (τ : Nat → Nat) (w w' : Wd) : Prop := w.1 ≤ w'.1 ∧ ∀ a x, τ a < 200 → w.2 a = some x → w'.2 a = some x
theorem KN.rf (τ : Nat → Nat) (w : Wd) : KN τ w w := ⟨Nat.le_refl _, fun _ _ _ h => h⟩
theorem KN.tr {τ : Nat → Nat} {w u v : Wd} (h : KN τ w u) (g : KN τ u v) : KN τ w v := ⟨Nat.le_trans h.1 g.1, fun a x t e => g.2 a x t (h.2 a x t e)⟩
theorem KN.fr {τ : Nat → Nat} {w u : Wd} (h : Fr w u) (hw : wF w) : KN τ w u := ⟨h.1, fun a x _ e => by rw [h.2 a (hw a x e)]; exact e⟩
theorem WS.o {w : Wd} {a r : Nat} (h : WS w a r) : w.2 a = some (true, eO 7 [.ref r, iI (h.choose_spec.choose : Nat), iI h.choose_spec.choose_spec.choose]) := h.choose_spec.choose_spec.choose_spec.1
theorem NS.t {τ ad : Nat → Nat} {w : Wd} (h : NS τ ad w) (t : Nat) (h1 : 100 ≤ t ∧ t ≤ 340) : τ (ad t) = t := h.1 t h1.1 h1.2
theorem NS.to {τ ad : Nat → Nat} {w : Wd} (h : NS τ ad w) {j : Nat} (hj : j < 70) : τ (wo ad j) = 200 + 2 * j := h.1 _ (by omega) (by omega)
theorem NS.tr {τ ad : Nat → Nat} {w : Wd} (h : NS τ ad w) {j : Nat} (hj : j < 70) : τ (wr ad j) = 201 + 2 * j := h.1 _ (by omega) (by omega)
theorem NS.W {τ ad : Nat → Nat} {w : Wd} (h : NS τ ad w) {j : Nat} (hj : j < 70) : WS w (wo ad j) (wr ad j) := h.2.1 j hj
theorem NS.ne {τ ad : Nat → Nat} {w : Wd} (h : NS τ ad w) {j k : Nat} (hj : j < 70) (hk : k < 70) (hjk : j ≠ k) : wr ad j ≠ wr ad k := fun e => by
  have h1 := h.tr hj
  have h2 := h.tr hk
  rw [e] at h1
  omega
theorem NS.inj {τ ad : Nat → Nat} {w : Wd} (h : NS τ ad w) {s t : Nat} (h1 : 100 ≤ s ∧ s ≤ 340) (h2 : 100 ≤ t ∧ t ≤ 340) (hn : s ≠ t) : ad s ≠ ad t := fun e => by
  have e1 := h.t s h1
  have e2 := h.t t h2
  rw [e] at e1
  omega
theorem KN.ob {τ ad : Nat → Nat} {w w' : Wd} (k : KN τ w w') (h : NS τ ad w') {t : Nat} (ht : 100 ≤ t ∧ t < 200) {x : WdE} (e : w.2 (ad t) = some x) : w'.2 (ad t) = some x := k.2 _ _ (by rw [h.t t (by omega)]; exact ht.2) e
theorem NS.step {τ ad : Nat → Nat} {w w' : Wd} (h : NS τ ad w) {j : Nat} (hj : j < 70) (hs : WS w' (wo ad j) (wr ad j)) (hf : FrW w w' (wo ad j) (wr ad j)) : NS τ ad w' ∧ KN τ w w' := by
  obtain ⟨g, hg1, hg2⟩ := h.2.2
  refine ⟨⟨h.1, fun i hi => ?_, g, ?_, hg2⟩, ⟨Nat.le_of_eq hf.1.symm, fun a x ht e => ?_⟩⟩
  · by_cases q : i = j
    · rw [q]; exact hs
    · exact (h.W hi).fr2 (h.W hj) hf (h.ne hj hi (Ne.symm q))
  · rw [hf.2 (ad 340) (fun e => by have q1 := h.t 340 (by omega); have q2 := h.to hj; rw [e] at q1; omega) (fun e => by have q1 := h.t 340 (by omega); have q2 := h.tr hj; rw [e] at q1; omega)]
    exact hg1
  · rw [hf.2 a (fun q => by have := h.to hj; rw [q] at ht; omega) (fun q => by have := h.tr hj; rw [q] at ht; omega)]
    exact e
theorem NS.fr {τ ad : Nat → Nat} {w w' : Wd} (h : NS τ ad w) (hf : Fr w w') (hw : wF w) : NS τ ad w' := by
  obtain ⟨g, hg1, hg2⟩ := h.2.2
  refine ⟨h.1, fun i hi => ?_, g, ?_, hg2⟩
  · obtain ⟨f, u, bl, e1, e2, e3⟩ := h.W hi
    exact ⟨f, u, bl, by rw [hf.2 _ (hw _ _ e1)]; exact e1, by rw [hf.2 _ (hw _ _ e2)]; exact e2, e3⟩
  · rw [hf.2 _ (hw _ _ hg1)]; exact hg1
abbrev oD (ad : Nat → Nat) : Ent := eO 2 [.ref (wo ad 0), .ref (wo ad 1), .ref (wo ad 2), .ref (wo ad 3), .ref (ad 340)]
set_option maxHeartbeats 4000000 in
set_option maxRecDepth 100000 in
theorem s_X0_norm (l : Launch) {E : GE} {w : Wd} {τ ad : Nat → Nat} (hN0 : NS τ ad w) (hD : w.2 (ad 110) = some (true, oD ad)) {b : Int} (hb : 0 ≤ b ∧ b ≤ 1000) {j : Nat} (hj : 4 ≤ j ∧ j < 70) {k : Nat} (hk : 4 ≤ k ∧ k < 70) : Sp E l yX0_norm cX0_norm 4 (some (.object "Rootwalk$Whole")) 3 (0) (0) [.ref (ad 110), iI b, .ref (wo ad j), .ref (wo ad k)] w (fun r' w' => r' = some (.ref (wo ad 1)) ∧ NS τ ad w' ∧ KN τ w w') := by
  refine sp_intro [some (.ref (ad 110)), some (iI b), some (.ref (wo ad j)), some (.ref (wo ad k))] rfl (Nat.le_of_ble_eq_true rfl) pn_X0 ?_
  intro X C hRm hl hnm hQ
  obtain ⟨hRf, hRl, hRc, hRs⟩ := hRm
  refine g_wf (fun hwf => ?_)
  have hN := hN0
  have hK : KN τ w w := KN.rf _ _
  refine g_aload_n C dX0_norm_0 rfl ?_
  refine g_get (ci := 2) C rfl inTX0 0 (by decide) fl_RX0_12 rfl (hK.ob hN (t := 110) (by omega) hD) rfl dX0_norm_1 ?_
  refine g_aload_n C dX0_norm_4 rfl ?_
  refine g_aload_n C dX0_norm_5 rfl ?_
  refine g_callV C (s_X5_setProduct _ (hN.W (j := 0) (by omega)) (hN.W (j := k) (by omega)) (hN.W (j := k) (by omega)) (hN.ne (j := 0) (k := k) (by omega) (by omega) (by omega)) (hN.ne (j := 0) (k := k) (by omega) (by omega) (by omega))) (ci := 7) rfl (hN.W (j := 0) (by omega)).o rfl ml_RX0_31 im_yX5_setProduct se_RX5_yX5_setProduct in_RX5 co_yX5_setProduct hd_X5_setProduct rfl ⟨by omega, by omega⟩ rfl (Nat.le_of_ble_eq_true rfl) ⟨by omega, by omega⟩ dX0_norm_6 (fun v6 w6 hp6 => ?_)
  obtain ⟨rfl, hws6, hfr6⟩ := hp6
  obtain ⟨hN6, hK6⟩ := hN.step (j := 0) (by omega) hws6 hfr6
  replace hK := hK.tr hK6
  replace hN := hN6
  refine g_aload_n C dX0_norm_9 rfl ?_
  refine g_get (ci := 2) C rfl inTX0 0 (by decide) fl_RX0_12 rfl (hK.ob hN (t := 110) (by omega) hD) rfl dX0_norm_10 ?_
  refine g_iload_n C dX0_norm_13 rfl ?_
  refine g_iconst C dX0_norm_14 ?_
  refine g_callV C (s_X5_multiplySmall _ (hN.W (j := 0) (by omega)) (by_ := b) (mo := 0) (by omega) (by omega)) (ci := 7) rfl (hN.W (j := 0) (by omega)).o rfl ml_RX0_35 im_yX5_multiplySmall se_RX5_yX5_multiplySmall in_RX5 co_yX5_multiplySmall hd_X5_multiplySmall rfl ⟨by omega, by omega⟩ rfl (Nat.le_of_ble_eq_true rfl) ⟨by omega, by omega⟩ dX0_norm_15 (fun v15 w15 hp15 => ?_)
  obtain ⟨rfl, hws15, hfr15⟩ := hp15
  obtain ⟨hN15, hK15⟩ := hN.step (j := 0) (by omega) hws15 hfr15
  replace hK := hK.tr hK15
  replace hN := hN15
  refine g_aload_n C dX0_norm_18 rfl ?_
  refine g_get (ci := 2) C rfl inTX0 1 (by decide) fl_RX0_18 rfl (hK.ob hN (t := 110) (by omega) hD) rfl dX0_norm_19 ?_
  refine g_aload_n C dX0_norm_22 rfl ?_
  refine g_aload_n C dX0_norm_23 rfl ?_
  refine g_callV C (s_X5_setProduct _ (hN.W (j := 1) (by omega)) (hN.W (j := j) (by omega)) (hN.W (j := j) (by omega)) (hN.ne (j := 1) (k := j) (by omega) (by omega) (by omega)) (hN.ne (j := 1) (k := j) (by omega) (by omega) (by omega))) (ci := 7) rfl (hN.W (j := 1) (by omega)).o rfl ml_RX0_31 im_yX5_setProduct se_RX5_yX5_setProduct in_RX5 co_yX5_setProduct hd_X5_setProduct rfl ⟨by omega, by omega⟩ rfl (Nat.le_of_ble_eq_true rfl) ⟨by omega, by omega⟩ dX0_norm_24 (fun v24 w24 hp24 => ?_)
  obtain ⟨rfl, hws24, hfr24⟩ := hp24
  obtain ⟨hN24, hK24⟩ := hN.step (j := 1) (by omega) hws24 hfr24
  replace hK := hK.tr hK24
  replace hN := hN24
  refine g_aload_n C dX0_norm_27 rfl ?_
  refine g_get (ci := 2) C rfl inTX0 1 (by decide) fl_RX0_18 rfl (hK.ob hN (t := 110) (by omega) hD) rfl dX0_norm_28 ?_
  refine g_aload_n C dX0_norm_31 rfl ?_
  refine g_get (ci := 2) C rfl inTX0 0 (by decide) fl_RX0_12 rfl (hK.ob hN (t := 110) (by omega) hD) rfl dX0_norm_32 ?_
  refine g_iconst C dX0_norm_35 ?_
  refine g_callV C (s_X5_addOrTake _ (hN.W (j := 1) (by omega)) (hN.W (j := 0) (by omega)) (y := 1) (by omega) (hN.ne (j := 1) (k := 0) (by omega) (by omega) (by omega))) (ci := 7) rfl (hN.W (j := 1) (by omega)).o rfl ml_RX0_39 im_yX5_addOrTake se_RX5_yX5_addOrTake in_RX5 co_yX5_addOrTake hd_X5_addOrTake rfl ⟨by omega, by omega⟩ rfl (Nat.le_of_ble_eq_true rfl) ⟨by omega, by omega⟩ dX0_norm_36 (fun v36 w36 hp36 => ?_)
  obtain ⟨rfl, hws36, hfr36⟩ := hp36
  obtain ⟨hN36, hK36⟩ := hN.step (j := 1) (by omega) hws36 hfr36
  replace hK := hK.tr hK36
  replace hN := hN36
  refine g_aload_n C dX0_norm_39 rfl ?_
  refine g_get (ci := 2) C rfl inTX0 1 (by decide) fl_RX0_18 rfl (hK.ob hN (t := 110) (by omega) hD) rfl dX0_norm_40 ?_
  exact g_areturn C (Or.inl ⟨_, rfl⟩) hQ (Or.inr ⟨_, rfl⟩) dX0_norm_43 (by omega) (by omega) ⟨rfl, hN, hK⟩
set_option maxHeartbeats 4000000 in
set_option maxRecDepth 100000 in
theorem s_X0_cross (l : Launch) {E : GE} {w : Wd} {τ ad : Nat → Nat} (hN0 : NS τ ad w) (hD : w.2 (ad 110) = some (true, oD ad)) {i : Nat} (hi : 4 ≤ i ∧ i < 70) {j : Nat} (hj : 4 ≤ j ∧ j < 70) {k : Nat} (hk : 4 ≤ k ∧ k < 70) {m : Nat} (hm : 4 ≤ m ∧ m < 70) : Sp E l yX0_cross cX0_cross 5 (some (.object "Rootwalk$Whole")) 3 (0) (0) [.ref (ad 110), .ref (wo ad i), .ref (wo ad j), .ref (wo ad k), .ref (wo ad m)] w (fun r' w' => r' = some (.ref (wo ad 0)) ∧ NS τ ad w' ∧ KN τ w w') := by
  refine sp_intro [some (.ref (ad 110)), some (.ref (wo ad i)), some (.ref (wo ad j)), some (.ref (wo ad k)), some (.ref (wo ad m))] rfl (Nat.le_of_ble_eq_true rfl) pn_X0 ?_
  intro X C hRm hl hnm hQ
  obtain ⟨hRf, hRl, hRc, hRs⟩ := hRm
  refine g_wf (fun hwf => ?_)
  have hN := hN0
  have hK : KN τ w w := KN.rf _ _
  refine g_aload_n C dX0_cross_0 rfl ?_
  refine g_get (ci := 2) C rfl inTX0 0 (by decide) fl_RX0_12 rfl (hK.ob hN (t := 110) (by omega) hD) rfl dX0_cross_1 ?_
  refine g_aload_n C dX0_cross_4 rfl ?_
  refine g_aload C dX0_cross_5 rfl ?_
  refine g_callV C (s_X5_setProduct _ (hN.W (j := 0) (by omega)) (hN.W (j := i) (by omega)) (hN.W (j := m) (by omega)) (hN.ne (j := 0) (k := i) (by omega) (by omega) (by omega)) (hN.ne (j := 0) (k := m) (by omega) (by omega) (by omega))) (ci := 7) rfl (hN.W (j := 0) (by omega)).o rfl ml_RX0_31 im_yX5_setProduct se_RX5_yX5_setProduct in_RX5 co_yX5_setProduct hd_X5_setProduct rfl ⟨by omega, by omega⟩ rfl (Nat.le_of_ble_eq_true rfl) ⟨by omega, by omega⟩ dX0_cross_7 (fun v7 w7 hp7 => ?_)
  obtain ⟨rfl, hws7, hfr7⟩ := hp7
  obtain ⟨hN7, hK7⟩ := hN.step (j := 0) (by omega) hws7 hfr7
  replace hK := hK.tr hK7
  replace hN := hN7
  refine g_aload_n C dX0_cross_10 rfl ?_
  refine g_get (ci := 2) C rfl inTX0 1 (by decide) fl_RX0_18 rfl (hK.ob hN (t := 110) (by omega) hD) rfl dX0_cross_11 ?_
  refine g_aload_n C dX0_cross_14 rfl ?_
  refine g_aload_n C dX0_cross_15 rfl ?_
  refine g_callV C (s_X5_setProduct _ (hN.W (j := 1) (by omega)) (hN.W (j := k) (by omega)) (hN.W (j := j) (by omega)) (hN.ne (j := 1) (k := k) (by omega) (by omega) (by omega)) (hN.ne (j := 1) (k := j) (by omega) (by omega) (by omega))) (ci := 7) rfl (hN.W (j := 1) (by omega)).o rfl ml_RX0_31 im_yX5_setProduct se_RX5_yX5_setProduct in_RX5 co_yX5_setProduct hd_X5_setProduct rfl ⟨by omega, by omega⟩ rfl (Nat.le_of_ble_eq_true rfl) ⟨by omega, by omega⟩ dX0_cross_16 (fun v16 w16 hp16 => ?_)
  obtain ⟨rfl, hws16, hfr16⟩ := hp16
  obtain ⟨hN16, hK16⟩ := hN.step (j := 1) (by omega) hws16 hfr16
  replace hK := hK.tr hK16
  replace hN := hN16
  refine g_aload_n C dX0_cross_19 rfl ?_
  refine g_get (ci := 2) C rfl inTX0 0 (by decide) fl_RX0_12 rfl (hK.ob hN (t := 110) (by omega) hD) rfl dX0_cross_20 ?_
  refine g_aload_n C dX0_cross_23 rfl ?_
  refine g_get (ci := 2) C rfl inTX0 1 (by decide) fl_RX0_18 rfl (hK.ob hN (t := 110) (by omega) hD) rfl dX0_cross_24 ?_
  refine g_iconst C dX0_cross_27 ?_
  refine g_callV C (s_X5_addOrTake _ (hN.W (j := 0) (by omega)) (hN.W (j := 1) (by omega)) (y := 1) (by omega) (hN.ne (j := 0) (k := 1) (by omega) (by omega) (by omega))) (ci := 7) rfl (hN.W (j := 0) (by omega)).o rfl ml_RX0_39 im_yX5_addOrTake se_RX5_yX5_addOrTake in_RX5 co_yX5_addOrTake hd_X5_addOrTake rfl ⟨by omega, by omega⟩ rfl (Nat.le_of_ble_eq_true rfl) ⟨by omega, by omega⟩ dX0_cross_28 (fun v28 w28 hp28 => ?_)
  obtain ⟨rfl, hws28, hfr28⟩ := hp28
  obtain ⟨hN28, hK28⟩ := hN.step (j := 0) (by omega) hws28 hfr28
  replace hK := hK.tr hK28
  replace hN := hN28
  refine g_aload_n C dX0_cross_31 rfl ?_
  refine g_get (ci := 2) C rfl inTX0 0 (by decide) fl_RX0_12 rfl (hK.ob hN (t := 110) (by omega) hD) rfl dX0_cross_32 ?_
  exact g_areturn C (Or.inl ⟨_, rfl⟩) hQ (Or.inr ⟨_, rfl⟩) dX0_cross_35 (by omega) (by omega) ⟨rfl, hN, hK⟩
set_option maxHeartbeats 4000000 in
set_option maxRecDepth 100000 in
theorem s_X0_reduce (l : Launch) {E : GE} {w : Wd} {τ ad : Nat → Nat} (hN0 : NS τ ad w) (hD : w.2 (ad 110) = some (true, oD ad)) {j k : Nat} (hj : j < 70 ∧ j ≠ 2) (hk : k < 70 ∧ k ≠ 2) : Sp E l yX0_reduce cX0_reduce 7 (some .long) 2 (0) (0) [.ref (ad 110), .ref (wo ad j), .ref (wo ad k)] w (fun r' w' => (∃ q : Int, r' = some (jJ q)) ∧ NS τ ad w' ∧ KN τ w w') := by
  refine sp_intro [some (.ref (ad 110)), some (.ref (wo ad j)), some (.ref (wo ad k)), none, none, none, none] rfl (Nat.le_of_ble_eq_true rfl) pn_X0 ?_
  intro X C hRm hl hnm hQ
  obtain ⟨hRf, hRl, hRc, hRs⟩ := hRm
  refine g_wf (fun hwf => ?_)
  have hN := hN0
  have hK : KN τ w w := KN.rf _ _
  refine g_aload_n C dX0_reduce_0 rfl ?_
  refine g_callV C (s_X5_bits _ (hN.W (j := j) (by omega)) ) (ci := 7) rfl (hN.W (j := j) (by omega)).o rfl ml_RX0_55 im_yX5_bits se_RX5_yX5_bits in_RX5 co_yX5_bits hd_X5_bits rfl ⟨by omega, by omega⟩ rfl (Nat.le_of_ble_eq_true rfl) ⟨by omega, by omega⟩ dX0_reduce_1 (fun v1 w1 hp1 => ?_)
  obtain ⟨⟨d1, rfl, hd1⟩, hw1⟩ := hp1
  subst w1
  refine g_aload_n C dX0_reduce_4 rfl ?_
  refine g_callV C (s_X5_bits _ (hN.W (j := k) (by omega)) ) (ci := 7) rfl (hN.W (j := k) (by omega)).o rfl ml_RX0_55 im_yX5_bits se_RX5_yX5_bits in_RX5 co_yX5_bits hd_X5_bits rfl ⟨by omega, by omega⟩ rfl (Nat.le_of_ble_eq_true rfl) ⟨by omega, by omega⟩ dX0_reduce_5 (fun v5 w5 hp5 => ?_)
  obtain ⟨⟨d5, rfl, hd5⟩, hw5⟩ := hp5
  subst w5
  refine g_isub C dX0_reduce_8 ?_
  refine g_istore_n C dX0_reduce_9 (by decide) rfl ?_
  refine g_aload_n C dX0_reduce_10 rfl ?_
  refine g_callV C (s_X5_isZero _ (hN.W (j := k) (by omega)) ) (ci := 7) rfl (hN.W (j := k) (by omega)).o rfl ml_RX0_47 im_yX5_isZero se_RX5_yX5_isZero in_RX5 co_yX5_isZero hd_X5_isZero rfl ⟨by omega, by omega⟩ rfl (Nat.le_of_ble_eq_true rfl) ⟨by omega, by omega⟩ dX0_reduce_11 (fun v11 w11 hp11 => ?_)
  obtain ⟨⟨d11, rfl, hd11⟩, hw11⟩ := hp11
  subst w11
  refine g_if_ne (tgt := 21) C dX0_reduce_14 (by decide) (by omega) (fun h14 => ?_) (fun h14 => ?_)
  · refine g_lconst (z := 0) C dX0_reduce_21 (by decide) ?_
    exact g_lreturn C hQ dX0_reduce_22 (Nat.le_refl _) (Nat.le_refl _) ⟨⟨0, rfl⟩, hN, hK⟩
  · refine g_iload_n C dX0_reduce_17 rfl ?_
    refine g_if_ge (tgt := 23) C dX0_reduce_18 (by decide) (by omega) (fun h18 => ?_) (fun h18 => ?_)
    · refine g_lconst (z := 0) C dX0_reduce_23 (by decide) ?_
      refine g_lstore C dX0_reduce_24 (by decide) rfl ?_
      refine g_aload_n C dX0_reduce_26 rfl ?_
      refine g_get (ci := 2) C rfl inTX0 2 (by decide) fl_RX0_21 rfl (hK.ob hN (t := 110) (by omega) hD) rfl dX0_reduce_27 ?_
      refine g_aload_n C dX0_reduce_30 rfl ?_
      refine g_callV C (s_X5_setWhole _ (hN.W (j := 2) (by omega)) (hN.W (j := k) (by omega)) (hN.ne (j := 2) (k := k) (by omega) (by omega) (by omega))) (ci := 7) rfl (hN.W (j := 2) (by omega)).o rfl ml_RX0_43 im_yX5_setWhole se_RX5_yX5_setWhole in_RX5 co_yX5_setWhole hd_X5_setWhole rfl ⟨by omega, by omega⟩ rfl (Nat.le_of_ble_eq_true rfl) ⟨by omega, by omega⟩ dX0_reduce_31 (fun v31 w31 hp31 => ?_)
      obtain ⟨rfl, hws31, hfr31⟩ := hp31
      obtain ⟨hN31, hK31⟩ := hN.step (j := 2) (by omega) hws31 hfr31
      replace hK := hK.tr hK31
      replace hN := hN31
      refine g_aload_n C dX0_reduce_34 rfl ?_
      refine g_get (ci := 2) C rfl inTX0 2 (by decide) fl_RX0_21 rfl (hK.ob hN (t := 110) (by omega) hD) rfl dX0_reduce_35 ?_
      refine g_iload_n C dX0_reduce_38 rfl ?_
      refine g_callV C (s_X5_shiftUp _ (hN.W (j := 2) (by omega)) (mn := d1 - d5) (by omega)) (ci := 7) rfl (hN.W (j := 2) (by omega)).o rfl ml_RX0_59 im_yX5_shiftUp se_RX5_yX5_shiftUp in_RX5 co_yX5_shiftUp hd_X5_shiftUp rfl ⟨by omega, by omega⟩ rfl (Nat.le_of_ble_eq_true rfl) ⟨by omega, by omega⟩ dX0_reduce_39 (fun v39 w39 hp39 => ?_)
      obtain ⟨rfl, hws39, hfr39⟩ := hp39
      obtain ⟨hN39, hK39⟩ := hN.step (j := 2) (by omega) hws39 hfr39
      replace hK := hK.tr hK39
      replace hN := hN39
      refine g_iload_n C dX0_reduce_42 rfl ?_
      refine g_istore C dX0_reduce_43 (by decide) rfl ?_
      clear hN0
      refine g_loop (σ := Int × Int × Wd) (fun s => -1 ≤ s.1 ∧ s.1 ≤ d1 - d5 ∧ NS τ ad s.2.2 ∧ KN τ w s.2.2) (fun s => G E X 7 45 [some (.ref (ad 110)), some (.ref (wo ad j)), some (.ref (wo ad k)), some (iI (d1 - d5)), some (jJ s.2.1), none, some (iI s.1)] [] s.2.2 0 0) (fun s => (s.1 + 1).toNat) ?_ (d1 - d5, 0, w39) ⟨by dsimp only; omega, by dsimp only; omega, hN, hK⟩
      clear hN hK
      rintro ⟨i, q, u⟩ hqq ih
      obtain ⟨hi0, hi1, hN, hK⟩ := hqq
      dsimp only at hi0 hi1 hN hK ⊢
      refine g_iload C dX0_reduce_45 rfl ?_
      refine g_if_lt (tgt := 98) C dX0_reduce_47 (by decide) (by omega) (fun h47 => ?_) (fun h47 => ?_)
      · refine g_lload C dX0_reduce_98 rfl ?_
        exact g_lreturn C hQ dX0_reduce_100 (Nat.le_refl _) (Nat.le_refl _) ⟨⟨q, rfl⟩, hN, hK⟩
      · have J83 : ∀ (q : Int) (u : Wd), NS τ ad u → KN τ w u → G E X 7 83 [some (.ref (ad 110)), some (.ref (wo ad j)), some (.ref (wo ad k)), some (iI (d1 - d5)), some (jJ q), none, some (iI i)] [] u 0 0 := by
          clear hN hK
          intro q u hN hK
          refine g_aload_n C dX0_reduce_83 rfl ?_
          refine g_get (ci := 2) C rfl inTX0 2 (by decide) fl_RX0_21 rfl (hK.ob hN (t := 110) (by omega) hD) rfl dX0_reduce_84 ?_
          refine g_iconst C dX0_reduce_87 ?_
          refine g_callV C (s_X5_divideSmall _ (hN.W (j := 2) (by omega)) (y := 2) (by omega)) (ci := 7) rfl (hN.W (j := 2) (by omega)).o rfl ml_RX0_72 im_yX5_divideSmall se_RX5_yX5_divideSmall in_RX5 co_yX5_divideSmall hd_X5_divideSmall rfl ⟨by omega, by omega⟩ rfl (Nat.le_of_ble_eq_true rfl) ⟨by omega, by omega⟩ dX0_reduce_88 (fun v88 w88 hp88 => ?_)
          obtain ⟨⟨d88, rfl, hd88⟩, hp88⟩ := hp88
          replace hp88 : True ∧ _ := ⟨trivial, hp88⟩
          obtain ⟨-, hws88, hfr88⟩ := hp88
          obtain ⟨hN88, hK88⟩ := hN.step (j := 2) (by omega) hws88 hfr88
          replace hK := hK.tr hK88
          replace hN := hN88
          refine g_pop C dX0_reduce_91 rfl ?_
          refine g_iinc C dX0_reduce_92 rfl (by decide) rfl ?_
          refine g_goto (tgt := 45) C dX0_reduce_95 (by decide) ?_
          exact ih (i + -1, q, w88) ⟨by dsimp only; omega, by dsimp only; omega, hN, hK⟩ (by dsimp only; omega)
        refine g_lload C dX0_reduce_50 rfl ?_
        refine g_ldc2 (z := 2) C kj_RX0_63 (by decide) dX0_reduce_52 ?_
        refine g_lmul C dX0_reduce_55 ?_
        refine g_lstore C dX0_reduce_56 (by decide) rfl ?_
        refine g_aload_n C dX0_reduce_58 rfl ?_
        refine g_aload_n C dX0_reduce_59 rfl ?_
        refine g_get (ci := 2) C rfl inTX0 2 (by decide) fl_RX0_21 rfl (hK.ob hN (t := 110) (by omega) hD) rfl dX0_reduce_60 ?_
        refine g_callV C (s_X5_compareSize _ (hN.W (j := j) (by omega)) (hN.W (j := 2) (by omega))) (ci := 7) rfl (hN.W (j := j) (by omega)).o rfl ml_RX0_65 im_yX5_compareSize se_RX5_yX5_compareSize in_RX5 co_yX5_compareSize hd_X5_compareSize rfl ⟨by omega, by omega⟩ rfl (Nat.le_of_ble_eq_true rfl) ⟨by omega, by omega⟩ dX0_reduce_63 (fun v63 w63 hp63 => ?_)
        obtain ⟨⟨d63, rfl, hd63⟩, hw63⟩ := hp63
        subst w63
        refine g_if_lt (tgt := 83) C dX0_reduce_66 (by decide) (by omega) (fun h66 => ?_) (fun h66 => ?_)
        · exact J83 _ _ hN hK
        · refine g_aload_n C dX0_reduce_69 rfl ?_
          refine g_aload_n C dX0_reduce_70 rfl ?_
          refine g_get (ci := 2) C rfl inTX0 2 (by decide) fl_RX0_21 rfl (hK.ob hN (t := 110) (by omega) hD) rfl dX0_reduce_71 ?_
          refine g_callV C (s_X5_takeSize _ (hN.W (j := j) (by omega)) (hN.W (j := 2) (by omega)) (hN.ne (j := j) (k := 2) (by omega) (by omega) (by omega))) (ci := 7) rfl (hN.W (j := j) (by omega)).o rfl ml_RX0_69 im_yX5_takeSize se_RX5_yX5_takeSize in_RX5 co_yX5_takeSize hd_X5_takeSize rfl ⟨by omega, by omega⟩ rfl (Nat.le_of_ble_eq_true rfl) ⟨by omega, by omega⟩ dX0_reduce_74 (fun v74 w74 hp74 => ?_)
          obtain ⟨rfl, hws74, hfr74⟩ := hp74
          obtain ⟨hN74, hK74⟩ := hN.step (j := j) (by omega) hws74 hfr74
          replace hK := hK.tr hK74
          replace hN := hN74
          refine g_lload C dX0_reduce_77 rfl ?_
          refine g_lconst (z := 1) C dX0_reduce_79 (by decide) ?_
          refine g_ladd C dX0_reduce_80 ?_
          refine g_lstore C dX0_reduce_81 (by decide) rfl ?_
          exact J83 _ _ hN hK
    · refine g_lconst (z := 0) C dX0_reduce_21 (by decide) ?_
      exact g_lreturn C hQ dX0_reduce_22 (Nat.le_refl _) (Nat.le_refl _) ⟨⟨0, rfl⟩, hN, hK⟩
set_option maxHeartbeats 4000000 in
set_option maxRecDepth 100000 in
theorem s_X0_divisor (l : Launch) {E : GE} {w : Wd} {τ ad : Nat → Nat} (hN0 : NS τ ad w) (hD : w.2 (ad 110) = some (true, oD ad)) {j : Nat} (hj : 4 ≤ j ∧ j < 70) {k : Nat} (hk : 4 ≤ k ∧ k < 70) : Sp E l yX0_divisor cX0_divisor 7 (some (.object "Rootwalk$Whole")) 3 (0) (0) [.ref (ad 110), .ref (wo ad j), .ref (wo ad k)] w (fun r' w' => ∃ g, r' = some (.ref (wo ad g)) ∧ g < 2 ∧ NS τ ad w' ∧ KN τ w w') := by
  refine sp_intro [some (.ref (ad 110)), some (.ref (wo ad j)), some (.ref (wo ad k)), none, none, none, none] rfl (Nat.le_of_ble_eq_true rfl) pn_X0 ?_
  intro X C hRm hl hnm hQ
  obtain ⟨hRf, hRl, hRc, hRs⟩ := hRm
  refine g_wf (fun hwf => ?_)
  have hN := hN0
  have hK : KN τ w w := KN.rf _ _
  refine g_aload_n C dX0_divisor_0 rfl ?_
  refine g_get (ci := 2) C rfl inTX0 0 (by decide) fl_RX0_12 rfl (hK.ob hN (t := 110) (by omega) hD) rfl dX0_divisor_1 ?_
  refine g_aload_n C dX0_divisor_4 rfl ?_
  refine g_callV C (s_X5_setWhole _ (hN.W (j := 0) (by omega)) (hN.W (j := j) (by omega)) (hN.ne (j := 0) (k := j) (by omega) (by omega) (by omega))) (ci := 7) rfl (hN.W (j := 0) (by omega)).o rfl ml_RX0_43 im_yX5_setWhole se_RX5_yX5_setWhole in_RX5 co_yX5_setWhole hd_X5_setWhole rfl ⟨by omega, by omega⟩ rfl (Nat.le_of_ble_eq_true rfl) ⟨by omega, by omega⟩ dX0_divisor_5 (fun v5 w5 hp5 => ?_)
  obtain ⟨rfl, hws5, hfr5⟩ := hp5
  obtain ⟨hN5, hK5⟩ := hN.step (j := 0) (by omega) hws5 hfr5
  replace hK := hK.tr hK5
  replace hN := hN5
  refine g_aload_n C dX0_divisor_8 rfl ?_
  refine g_get (ci := 2) C rfl inTX0 1 (by decide) fl_RX0_18 rfl (hK.ob hN (t := 110) (by omega) hD) rfl dX0_divisor_9 ?_
  refine g_aload_n C dX0_divisor_12 rfl ?_
  refine g_callV C (s_X5_setWhole _ (hN.W (j := 1) (by omega)) (hN.W (j := k) (by omega)) (hN.ne (j := 1) (k := k) (by omega) (by omega) (by omega))) (ci := 7) rfl (hN.W (j := 1) (by omega)).o rfl ml_RX0_43 im_yX5_setWhole se_RX5_yX5_setWhole in_RX5 co_yX5_setWhole hd_X5_setWhole rfl ⟨by omega, by omega⟩ rfl (Nat.le_of_ble_eq_true rfl) ⟨by omega, by omega⟩ dX0_divisor_13 (fun v13 w13 hp13 => ?_)
  obtain ⟨rfl, hws13, hfr13⟩ := hp13
  obtain ⟨hN13, hK13⟩ := hN.step (j := 1) (by omega) hws13 hfr13
  replace hK := hK.tr hK13
  replace hN := hN13
  refine g_aload_n C dX0_divisor_16 rfl ?_
  refine g_get (ci := 2) C rfl inTX0 0 (by decide) fl_RX0_12 rfl (hK.ob hN (t := 110) (by omega) hD) rfl dX0_divisor_17 ?_
  refine g_astore_n C dX0_divisor_20 (by decide) rfl ?_
  refine g_aload_n C dX0_divisor_21 rfl ?_
  refine g_get (ci := 2) C rfl inTX0 1 (by decide) fl_RX0_18 rfl (hK.ob hN (t := 110) (by omega) hD) rfl dX0_divisor_22 ?_
  refine g_astore C dX0_divisor_25 (by decide) rfl ?_
  refine g_iconst C dX0_divisor_27 ?_
  refine g_istore C dX0_divisor_28 (by decide) rfl ?_
  clear hN0
  refine g_loop (σ := Nat × Nat × Nat × Wd) (fun s => s.1 ≤ 1008 ∧ s.2.1 < 2 ∧ s.2.2.1 < 2 ∧ NS τ ad s.2.2.2 ∧ KN τ w s.2.2.2) (fun s => G E X 7 30 [some (.ref (ad 110)), some (.ref (wo ad j)), some (.ref (wo ad k)), some (.ref (wo ad s.2.1)), some (.ref (wo ad s.2.2.1)), some (iI (s.1 : Int)), none] [] s.2.2.2 0 0) (fun s => 1008 - s.1) ?_ (0, 0, 1, w13) ⟨by dsimp only; omega, by dsimp only; omega, by dsimp only; omega, hN, hK⟩
  clear hN hK
  rintro ⟨i, g, l, u⟩ hqq ih
  obtain ⟨hi, hg, hl, hN, hK⟩ := hqq
  dsimp only at hi hg hl hN hK ⊢
  refine g_iload C dX0_divisor_30 rfl ?_
  refine g_sipush C dX0_divisor_32 (by decide) ?_
  refine g_icmp_ge (tgt := 70) C dX0_divisor_35 (by decide) (by omega) (by omega) (fun h35 => ?_) (fun h35 => ?_)
  · refine g_aload_n C dX0_divisor_70 rfl ?_
    exact g_areturn C (Or.inl ⟨_, rfl⟩) hQ (Or.inr ⟨_, rfl⟩) dX0_divisor_71 (by omega) (by omega) ⟨g, rfl, hg, hN, hK⟩
  · refine g_aload C dX0_divisor_38 rfl ?_
    refine g_callV C (s_X5_isZero _ (hN.W (j := l) (by omega)) ) (ci := 7) rfl (hN.W (j := l) (by omega)).o rfl ml_RX0_47 im_yX5_isZero se_RX5_yX5_isZero in_RX5 co_yX5_isZero hd_X5_isZero rfl ⟨by omega, by omega⟩ rfl (Nat.le_of_ble_eq_true rfl) ⟨by omega, by omega⟩ dX0_divisor_40 (fun v40 w40 hp40 => ?_)
    obtain ⟨⟨d40, rfl, hd40⟩, hw40⟩ := hp40
    subst w40
    refine g_if_ne (tgt := 70) C dX0_divisor_43 (by decide) (by omega) (fun h43 => ?_) (fun h43 => ?_)
    · refine g_aload_n C dX0_divisor_70 rfl ?_
      exact g_areturn C (Or.inl ⟨_, rfl⟩) hQ (Or.inr ⟨_, rfl⟩) dX0_divisor_71 (by omega) (by omega) ⟨g, rfl, hg, hN, hK⟩
    · refine g_aload_n C dX0_divisor_46 rfl ?_
      refine g_aload_n C dX0_divisor_47 rfl ?_
      refine g_aload C dX0_divisor_48 rfl ?_
      refine g_callV C (s_X0_reduce _ hN (hK.ob hN (t := 110) (by omega) hD) (j := g) (k := l) (by omega) (by omega)) (ci := 2) rfl (hK.ob hN (t := 110) (by omega) hD) rfl ml_RX0_51 im_yX0_reduce se_RX0_yX0_reduce in_RX0 co_yX0_reduce hd_X0_reduce rfl ⟨by omega, by omega⟩ rfl (Nat.le_of_ble_eq_true rfl) ⟨by omega, by omega⟩ dX0_divisor_50 (fun v50 w50 hp50 => ?_)
      obtain ⟨⟨q50, rfl⟩, hN50, hK50⟩ := hp50
      replace hK := hK.tr hK50
      replace hN := hN50
      refine g_pop2L C dX0_divisor_53 rfl ?_
      refine g_aload_n C dX0_divisor_54 rfl ?_
      refine g_astore C dX0_divisor_55 (by decide) rfl ?_
      refine g_aload C dX0_divisor_57 rfl ?_
      refine g_astore_n C dX0_divisor_59 (by decide) rfl ?_
      refine g_aload C dX0_divisor_60 rfl ?_
      refine g_astore C dX0_divisor_62 (by decide) rfl ?_
      refine g_iinc C dX0_divisor_64 rfl (by decide) rfl ?_
      refine g_goto (tgt := 30) C dX0_divisor_67 (by decide) ?_
      refine g_drop 6 ?_
      exact ih (i + 1, l, g, w50) ⟨by dsimp only; omega, hl, hg, hN, hK⟩ (by dsimp only; omega)
set_option maxHeartbeats 4000000 in
set_option maxRecDepth 100000 in
theorem s_X0_quotient (l : Launch) {E : GE} {w : Wd} {τ ad : Nat → Nat} (hN0 : NS τ ad w) (hD : w.2 (ad 110) = some (true, oD ad)) {p : Int} (hp : 0 ≤ p ∧ p ≤ 16) {j : Nat} (hj : 4 ≤ j ∧ j < 70) {k : Nat} (hk : 4 ≤ k ∧ k < 70) : Sp E l yX0_quotient cX0_quotient 5 (some .long) 3 (0) (0) [.ref (ad 110), .ref (wo ad j), .ref (wo ad k), iI p] w (fun r' w' => (∃ q : Int, r' = some (jJ q)) ∧ NS τ ad w' ∧ KN τ w w') := by
  refine sp_intro [some (.ref (ad 110)), some (.ref (wo ad j)), some (.ref (wo ad k)), some (iI p), none] rfl (Nat.le_of_ble_eq_true rfl) pn_X0 ?_
  intro X C hRm hl hnm hQ
  obtain ⟨hRf, hRl, hRc, hRs⟩ := hRm
  refine g_wf (fun hwf => ?_)
  have hN := hN0
  have hK : KN τ w w := KN.rf _ _
  refine g_aload_n C dX0_quotient_0 rfl ?_
  refine g_get (ci := 2) C rfl inTX0 0 (by decide) fl_RX0_12 rfl (hK.ob hN (t := 110) (by omega) hD) rfl dX0_quotient_1 ?_
  refine g_aload_n C dX0_quotient_4 rfl ?_
  refine g_callV C (s_X5_setWhole _ (hN.W (j := 0) (by omega)) (hN.W (j := j) (by omega)) (hN.ne (j := 0) (k := j) (by omega) (by omega) (by omega))) (ci := 7) rfl (hN.W (j := 0) (by omega)).o rfl ml_RX0_43 im_yX5_setWhole se_RX5_yX5_setWhole in_RX5 co_yX5_setWhole hd_X5_setWhole rfl ⟨by omega, by omega⟩ rfl (Nat.le_of_ble_eq_true rfl) ⟨by omega, by omega⟩ dX0_quotient_5 (fun v5 w5 hp5 => ?_)
  obtain ⟨rfl, hws5, hfr5⟩ := hp5
  obtain ⟨hN5, hK5⟩ := hN.step (j := 0) (by omega) hws5 hfr5
  replace hK := hK.tr hK5
  replace hN := hN5
  refine g_iconst C dX0_quotient_8 ?_
  refine g_istore C dX0_quotient_9 (by decide) rfl ?_
  clear hN0
  refine g_loop (σ := Nat × Wd) (fun s => s.1 ≤ 20 ∧ NS τ ad s.2 ∧ KN τ w s.2) (fun s => G E X 5 11 [some (.ref (ad 110)), some (.ref (wo ad j)), some (.ref (wo ad k)), some (iI p), some (iI (s.1 : Int))] [] s.2 0 0) (fun s => 20 - s.1) ?_ (0, w5) ⟨by dsimp only; omega, hN, hK⟩
  clear hN hK
  rintro ⟨i, u⟩ hqq ih
  obtain ⟨hi, hN, hK⟩ := hqq
  dsimp only at hi hN hK ⊢
  refine g_iload C dX0_quotient_11 rfl ?_
  refine g_iload_n C dX0_quotient_13 rfl ?_
  refine g_icmp_ge (tgt := 33) C dX0_quotient_14 (by decide) (by omega) (by omega) (fun h14 => ?_) (fun h14 => ?_)
  · refine g_aload_n C dX0_quotient_33 rfl ?_
    refine g_aload_n C dX0_quotient_34 rfl ?_
    refine g_get (ci := 2) C rfl inTX0 0 (by decide) fl_RX0_12 rfl (hK.ob hN (t := 110) (by omega) hD) rfl dX0_quotient_35 ?_
    refine g_aload_n C dX0_quotient_38 rfl ?_
    refine g_callV C (s_X0_reduce _ hN (hK.ob hN (t := 110) (by omega) hD) (j := 0) (k := k) (by omega) (by omega)) (ci := 2) rfl (hK.ob hN (t := 110) (by omega) hD) rfl ml_RX0_51 im_yX0_reduce se_RX0_yX0_reduce in_RX0 co_yX0_reduce hd_X0_reduce rfl ⟨by omega, by omega⟩ rfl (Nat.le_of_ble_eq_true rfl) ⟨by omega, by omega⟩ dX0_quotient_39 (fun v39 w39 hp39 => ?_)
    obtain ⟨⟨q39, rfl⟩, hN39, hK39⟩ := hp39
    exact g_lreturn C hQ dX0_quotient_42 (Nat.le_refl _) (Nat.le_refl _) ⟨⟨q39, rfl⟩, hN39, hK.tr hK39⟩
  · refine g_aload_n C dX0_quotient_17 rfl ?_
    refine g_get (ci := 2) C rfl inTX0 0 (by decide) fl_RX0_12 rfl (hK.ob hN (t := 110) (by omega) hD) rfl dX0_quotient_18 ?_
    refine g_bipush C dX0_quotient_21 (by decide) ?_
    refine g_iconst C dX0_quotient_23 ?_
    refine g_callV C (s_X5_multiplySmall _ (hN.W (j := 0) (by omega)) (by_ := 10) (mo := 0) (by omega) (by omega)) (ci := 7) rfl (hN.W (j := 0) (by omega)).o rfl ml_RX0_35 im_yX5_multiplySmall se_RX5_yX5_multiplySmall in_RX5 co_yX5_multiplySmall hd_X5_multiplySmall rfl ⟨by omega, by omega⟩ rfl (Nat.le_of_ble_eq_true rfl) ⟨by omega, by omega⟩ dX0_quotient_24 (fun v24 w24 hp24 => ?_)
    obtain ⟨rfl, hws24, hfr24⟩ := hp24
    obtain ⟨hN24, hK24⟩ := hN.step (j := 0) (by omega) hws24 hfr24
    replace hK := hK.tr hK24
    replace hN := hN24
    refine g_iinc C dX0_quotient_27 rfl (by decide) rfl ?_
    refine g_goto (tgt := 11) C dX0_quotient_30 (by decide) ?_
    exact ih (i + 1, w24) ⟨by dsimp only; omega, hN, hK⟩ (by dsimp only; omega)
set_option maxHeartbeats 4000000 in
set_option maxRecDepth 100000 in
theorem s_X0_isWithin (l : Launch) {E : GE} {w : Wd} {τ ad : Nat → Nat} (hN0 : NS τ ad w) (hD : w.2 (ad 110) = some (true, oD ad)) {b n : Int} (hb : 0 ≤ b ∧ b ≤ 1000) (hn : 0 ≤ n ∧ n ≤ 1000) {j : Nat} (hj : 4 ≤ j ∧ j < 70) {k : Nat} (hk : 4 ≤ k ∧ k < 70) {m : Nat} (hm : 4 ≤ m ∧ m < 70) : Sp E l yX0_isWithin cX0_isWithin 7 (some .boolean) 4 (0) (0) [.ref (ad 110), iI b, .ref (wo ad j), .ref (wo ad k), .ref (wo ad m), iI n] w (fun r' w' => (∃ d : Int, r' = some (iI d) ∧ (d = 0 ∨ d = 1)) ∧ NS τ ad w' ∧ KN τ w w') := by
  refine sp_intro [some (.ref (ad 110)), some (iI b), some (.ref (wo ad j)), some (.ref (wo ad k)), some (.ref (wo ad m)), some (iI n), none] rfl (Nat.le_of_ble_eq_true rfl) pn_X0 ?_
  intro X C hRm hl hnm hQ
  obtain ⟨hRf, hRl, hRc, hRs⟩ := hRm
  refine g_wf (fun hwf => ?_)
  have hN := hN0
  have hK : KN τ w w := KN.rf _ _
  refine g_aload_n C dX0_isWithin_0 rfl ?_
  refine g_iload_n C dX0_isWithin_1 rfl ?_
  refine g_aload_n C dX0_isWithin_2 rfl ?_
  refine g_aload_n C dX0_isWithin_3 rfl ?_
  refine g_callV C (s_X0_norm _ hN hD (b := b) hb (j := j) (k := k) hj hk) (ci := 2) rfl hD rfl ml_RX0_76 im_yX0_norm se_RX0_yX0_norm in_RX0 co_yX0_norm hd_X0_norm rfl ⟨by omega, by omega⟩ rfl (Nat.le_of_ble_eq_true rfl) ⟨by omega, by omega⟩ dX0_isWithin_4 (fun v4 w4 hp4 => ?_)
  obtain ⟨rfl, hN4, hK4⟩ := hp4
  replace hK := hK.tr hK4
  replace hN := hN4
  refine g_astore C dX0_isWithin_7 (by decide) rfl ?_
  refine g_aload C dX0_isWithin_9 rfl ?_
  refine g_callV C (s_X5_makeSize _ (hN.W (j := 1) (by omega)) ) (ci := 7) rfl (hN.W (j := 1) (by omega)).o rfl ml_RX0_80 im_yX5_makeSize se_RX5_yX5_makeSize in_RX5 co_yX5_makeSize hd_X5_makeSize rfl ⟨by omega, by omega⟩ rfl (Nat.le_of_ble_eq_true rfl) ⟨by omega, by omega⟩ dX0_isWithin_11 (fun v11 w11 hp11 => ?_)
  obtain ⟨rfl, hws11, hfr11⟩ := hp11
  obtain ⟨hN11, hK11⟩ := hN.step (j := 1) (by omega) hws11 hfr11
  replace hK := hK.tr hK11
  replace hN := hN11
  refine g_aload_n C dX0_isWithin_14 rfl ?_
  refine g_get (ci := 2) C rfl inTX0 0 (by decide) fl_RX0_12 rfl (hK.ob hN (t := 110) (by omega) hD) rfl dX0_isWithin_15 ?_
  refine g_aload C dX0_isWithin_18 rfl ?_
  refine g_aload C dX0_isWithin_20 rfl ?_
  refine g_callV C (s_X5_setProduct _ (hN.W (j := 0) (by omega)) (hN.W (j := 1) (by omega)) (hN.W (j := m) (by omega)) (hN.ne (j := 0) (k := 1) (by omega) (by omega) (by omega)) (hN.ne (j := 0) (k := m) (by omega) (by omega) (by omega))) (ci := 7) rfl (hN.W (j := 0) (by omega)).o rfl ml_RX0_31 im_yX5_setProduct se_RX5_yX5_setProduct in_RX5 co_yX5_setProduct hd_X5_setProduct rfl ⟨by omega, by omega⟩ rfl (Nat.le_of_ble_eq_true rfl) ⟨by omega, by omega⟩ dX0_isWithin_22 (fun v22 w22 hp22 => ?_)
  obtain ⟨rfl, hws22, hfr22⟩ := hp22
  obtain ⟨hN22, hK22⟩ := hN.step (j := 0) (by omega) hws22 hfr22
  replace hK := hK.tr hK22
  replace hN := hN22
  refine g_aload_n C dX0_isWithin_25 rfl ?_
  refine g_get (ci := 2) C rfl inTX0 0 (by decide) fl_RX0_12 rfl (hK.ob hN (t := 110) (by omega) hD) rfl dX0_isWithin_26 ?_
  refine g_iload C dX0_isWithin_29 rfl ?_
  refine g_iconst C dX0_isWithin_31 ?_
  refine g_callV C (s_X5_multiplySmall _ (hN.W (j := 0) (by omega)) (by_ := n) (mo := 0) (by omega) (by omega)) (ci := 7) rfl (hN.W (j := 0) (by omega)).o rfl ml_RX0_35 im_yX5_multiplySmall se_RX5_yX5_multiplySmall in_RX5 co_yX5_multiplySmall hd_X5_multiplySmall rfl ⟨by omega, by omega⟩ rfl (Nat.le_of_ble_eq_true rfl) ⟨by omega, by omega⟩ dX0_isWithin_32 (fun v32 w32 hp32 => ?_)
  obtain ⟨rfl, hws32, hfr32⟩ := hp32
  obtain ⟨hN32, hK32⟩ := hN.step (j := 0) (by omega) hws32 hfr32
  replace hK := hK.tr hK32
  replace hN := hN32
  refine g_aload_n C dX0_isWithin_35 rfl ?_
  refine g_get (ci := 2) C rfl inTX0 0 (by decide) fl_RX0_12 rfl (hK.ob hN (t := 110) (by omega) hD) rfl dX0_isWithin_36 ?_
  refine g_aload_n C dX0_isWithin_39 rfl ?_
  refine g_iconst C dX0_isWithin_40 ?_
  refine g_callV C (s_X5_addOrTake _ (hN.W (j := 0) (by omega)) (hN.W (j := j) (by omega)) (y := 1) (by omega) (hN.ne (j := 0) (k := j) (by omega) (by omega) (by omega))) (ci := 7) rfl (hN.W (j := 0) (by omega)).o rfl ml_RX0_39 im_yX5_addOrTake se_RX5_yX5_addOrTake in_RX5 co_yX5_addOrTake hd_X5_addOrTake rfl ⟨by omega, by omega⟩ rfl (Nat.le_of_ble_eq_true rfl) ⟨by omega, by omega⟩ dX0_isWithin_41 (fun v41 w41 hp41 => ?_)
  obtain ⟨rfl, hws41, hfr41⟩ := hp41
  obtain ⟨hN41, hK41⟩ := hN.step (j := 0) (by omega) hws41 hfr41
  replace hK := hK.tr hK41
  replace hN := hN41
  refine g_aload_n C dX0_isWithin_44 rfl ?_
  refine g_get (ci := 2) C rfl inTX0 0 (by decide) fl_RX0_12 rfl (hK.ob hN (t := 110) (by omega) hD) rfl dX0_isWithin_45 ?_
  refine g_callV C (s_X5_isBelow _ (hN.W (j := 0) (by omega)) ) (ci := 7) rfl (hN.W (j := 0) (by omega)).o rfl ml_RX0_83 im_yX5_isBelow se_RX5_yX5_isBelow in_RX5 co_yX5_isBelow hd_X5_isBelow rfl ⟨by omega, by omega⟩ rfl (Nat.le_of_ble_eq_true rfl) ⟨by omega, by omega⟩ dX0_isWithin_48 (fun v48 w48 hp48 => ?_)
  obtain ⟨⟨d48, rfl, hd48⟩, hw48⟩ := hp48
  subst w48
  refine g_if_eq (tgt := 56) C dX0_isWithin_51 (by decide) (by omega) (fun h51 => ?_) (fun h51 => ?_)
  · refine g_aload_n C dX0_isWithin_56 rfl ?_
    refine g_get (ci := 2) C rfl inTX0 1 (by decide) fl_RX0_18 rfl (hK.ob hN (t := 110) (by omega) hD) rfl dX0_isWithin_57 ?_
    refine g_aload_n C dX0_isWithin_60 rfl ?_
    refine g_get (ci := 2) C rfl inTX0 0 (by decide) fl_RX0_12 rfl (hK.ob hN (t := 110) (by omega) hD) rfl dX0_isWithin_61 ?_
    refine g_aload_n C dX0_isWithin_64 rfl ?_
    refine g_get (ci := 2) C rfl inTX0 0 (by decide) fl_RX0_12 rfl (hK.ob hN (t := 110) (by omega) hD) rfl dX0_isWithin_65 ?_
    refine g_callV C (s_X5_setProduct _ (hN.W (j := 1) (by omega)) (hN.W (j := 0) (by omega)) (hN.W (j := 0) (by omega)) (hN.ne (j := 1) (k := 0) (by omega) (by omega) (by omega)) (hN.ne (j := 1) (k := 0) (by omega) (by omega) (by omega))) (ci := 7) rfl (hN.W (j := 1) (by omega)).o rfl ml_RX0_31 im_yX5_setProduct se_RX5_yX5_setProduct in_RX5 co_yX5_setProduct hd_X5_setProduct rfl ⟨by omega, by omega⟩ rfl (Nat.le_of_ble_eq_true rfl) ⟨by omega, by omega⟩ dX0_isWithin_68 (fun v68 w68 hp68 => ?_)
    obtain ⟨rfl, hws68, hfr68⟩ := hp68
    obtain ⟨hN68, hK68⟩ := hN.step (j := 1) (by omega) hws68 hfr68
    replace hK := hK.tr hK68
    replace hN := hN68
    refine g_aload_n C dX0_isWithin_71 rfl ?_
    refine g_get (ci := 2) C rfl inTX0 2 (by decide) fl_RX0_21 rfl (hK.ob hN (t := 110) (by omega) hD) rfl dX0_isWithin_72 ?_
    refine g_aload_n C dX0_isWithin_75 rfl ?_
    refine g_aload_n C dX0_isWithin_76 rfl ?_
    refine g_callV C (s_X5_setProduct _ (hN.W (j := 2) (by omega)) (hN.W (j := k) (by omega)) (hN.W (j := k) (by omega)) (hN.ne (j := 2) (k := k) (by omega) (by omega) (by omega)) (hN.ne (j := 2) (k := k) (by omega) (by omega) (by omega))) (ci := 7) rfl (hN.W (j := 2) (by omega)).o rfl ml_RX0_31 im_yX5_setProduct se_RX5_yX5_setProduct in_RX5 co_yX5_setProduct hd_X5_setProduct rfl ⟨by omega, by omega⟩ rfl (Nat.le_of_ble_eq_true rfl) ⟨by omega, by omega⟩ dX0_isWithin_77 (fun v77 w77 hp77 => ?_)
    obtain ⟨rfl, hws77, hfr77⟩ := hp77
    obtain ⟨hN77, hK77⟩ := hN.step (j := 2) (by omega) hws77 hfr77
    replace hK := hK.tr hK77
    replace hN := hN77
    refine g_aload_n C dX0_isWithin_80 rfl ?_
    refine g_get (ci := 2) C rfl inTX0 2 (by decide) fl_RX0_21 rfl (hK.ob hN (t := 110) (by omega) hD) rfl dX0_isWithin_81 ?_
    refine g_iload_n C dX0_isWithin_84 rfl ?_
    refine g_iconst C dX0_isWithin_85 ?_
    refine g_callV C (s_X5_multiplySmall _ (hN.W (j := 2) (by omega)) (by_ := b) (mo := 0) (by omega) (by omega)) (ci := 7) rfl (hN.W (j := 2) (by omega)).o rfl ml_RX0_35 im_yX5_multiplySmall se_RX5_yX5_multiplySmall in_RX5 co_yX5_multiplySmall hd_X5_multiplySmall rfl ⟨by omega, by omega⟩ rfl (Nat.le_of_ble_eq_true rfl) ⟨by omega, by omega⟩ dX0_isWithin_86 (fun v86 w86 hp86 => ?_)
    obtain ⟨rfl, hws86, hfr86⟩ := hp86
    obtain ⟨hN86, hK86⟩ := hN.step (j := 2) (by omega) hws86 hfr86
    replace hK := hK.tr hK86
    replace hN := hN86
    refine g_aload_n C dX0_isWithin_89 rfl ?_
    refine g_get (ci := 2) C rfl inTX0 1 (by decide) fl_RX0_18 rfl (hK.ob hN (t := 110) (by omega) hD) rfl dX0_isWithin_90 ?_
    refine g_aload_n C dX0_isWithin_93 rfl ?_
    refine g_get (ci := 2) C rfl inTX0 2 (by decide) fl_RX0_21 rfl (hK.ob hN (t := 110) (by omega) hD) rfl dX0_isWithin_94 ?_
    refine g_callV C (s_X5_compareSize _ (hN.W (j := 1) (by omega)) (hN.W (j := 2) (by omega))) (ci := 7) rfl (hN.W (j := 1) (by omega)).o rfl ml_RX0_65 im_yX5_compareSize se_RX5_yX5_compareSize in_RX5 co_yX5_compareSize hd_X5_compareSize rfl ⟨by omega, by omega⟩ rfl (Nat.le_of_ble_eq_true rfl) ⟨by omega, by omega⟩ dX0_isWithin_97 (fun v97 w97 hp97 => ?_)
    obtain ⟨⟨d97, rfl, hd97⟩, hw97⟩ := hp97
    subst w97
    refine g_if_ge (tgt := 107) C dX0_isWithin_100 (by decide) (by omega) (fun h100 => ?_) (fun h100 => ?_)
    · refine g_iconst C dX0_isWithin_107 ?_
      exact g_zreturn C hQ dX0_isWithin_108 rfl (Nat.le_refl _) (Nat.le_refl _) ⟨⟨_, rfl, by omega⟩, hN, hK⟩
    · refine g_iconst C dX0_isWithin_103 ?_
      refine g_goto (tgt := 108) C dX0_isWithin_104 (by decide) ?_
      exact g_zreturn C hQ dX0_isWithin_108 rfl (Nat.le_refl _) (Nat.le_refl _) ⟨⟨_, rfl, by omega⟩, hN, hK⟩
  · refine g_iconst C dX0_isWithin_54 ?_
    exact g_zreturn C hQ dX0_isWithin_55 rfl (Nat.le_refl _) (Nat.le_refl _) ⟨⟨1, rfl, by omega⟩, hN, hK⟩
