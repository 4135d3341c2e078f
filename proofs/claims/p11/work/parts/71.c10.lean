/-! pairs: their objects and numbers -/
abbrev PT : Type := Int × Int × Int
/-- all cells but numbers stay -/
def KB (τ : Nat → Nat) (w w' : Wd) : Prop := w.1 ≤ w'.1 ∧ ∀ a x, τ a < 200 → w.2 a = some x → w'.2 a = some x
/-- all but pair i, its numbers and the desk's stays -/
def KX (τ : Nat → Nat) (i : Nat) (w w' : Wd) : Prop := w.1 ≤ w'.1 ∧ ∀ a x, τ a < 340 → ¬ (200 ≤ τ a ∧ τ a < 208) → τ a ≠ 140 + i → ¬ (208 + 4 * i ≤ τ a ∧ τ a < 212 + 4 * i) → w.2 a = some x → w'.2 a = some x
theorem KB.rf (τ : Nat → Nat) (w : Wd) : KB τ w w := ⟨Nat.le_refl _, fun _ _ _ h => h⟩
theorem KB.tr {τ : Nat → Nat} {w u v : Wd} (h : KB τ w u) (g : KB τ u v) : KB τ w v := ⟨Nat.le_trans h.1 g.1, fun a x t e => g.2 a x t (h.2 a x t e)⟩
theorem KN.kb {τ : Nat → Nat} {w u : Wd} (h : KN τ w u) : KB τ w u := ⟨h.1, fun a x q e => h.2 a x (Or.inl q) e⟩
theorem KJ.kb {τ : Nat → Nat} {j : Nat} {w u : Wd} (h : KJ τ j w u) : KB τ w u := ⟨h.1, fun a x q e => h.2 a x (by omega) (by omega) e⟩
theorem KB.ob {τ ad : Nat → Nat} {w w' : Wd} (k : KB τ w w') (h : NS τ ad w') {t : Nat} (ht : 100 ≤ t ∧ t < 200) {x : WdE} (e : w.2 (ad t) = some x) : w'.2 (ad t) = some x := k.2 _ _ (by rw [h.t t (by omega)]; exact ht.2) e
theorem KN.kx {τ : Nat → Nat} {w w' : Wd} (h : KN τ w w') (i : Nat) : KX τ i w w' := ⟨h.1, fun a x q1 q2 _ _ e => h.2 a x (by omega) e⟩
theorem KJ.kx {τ : Nat → Nat} {j i : Nat} {w w' : Wd} (h : KJ τ j w w') (hj : j < 4 ∨ j = 4 + 2 * i ∨ j = 5 + 2 * i) : KX τ i w w' := ⟨h.1, fun a x q1 q2 _ q4 e => h.2 a x (by omega) (by omega) e⟩
theorem KX.tr {τ : Nat → Nat} {t : Nat} {w u v : Wd} (h : KX τ t w u) (g : KX τ t u v) : KX τ t w v := ⟨Nat.le_trans h.1 g.1, fun a x q1 q2 q3 q4 e => g.2 a x q1 q2 q3 q4 (h.2 a x q1 q2 q3 q4 e)⟩
theorem KX.set {τ ad : Nat → Nat} {w : Wd} (h : NS τ ad w) {i : Nat} (ht : i < 60) (e : WdE) : KX τ i w (wset w (ad (140 + i)) e) := ⟨Nat.le_refl _, fun a x _ _ n _ q => by rw [wset_n (fun c => n (by rw [c]; exact h.t (140 + i) (by omega)))]; exact q⟩
theorem KX.ob {τ ad : Nat → Nat} {s : Nat} {w w' : Wd} (k : KX τ s w w') (h : NS τ ad w') {t : Nat} (ht : 100 ≤ t ∧ t < 200) (hn : t ≠ 140 + s) {x : WdE} (e : w.2 (ad t) = some x) : w'.2 (ad t) = some x := k.2 _ _ (by rw [h.t t (by omega)]; omega) (by rw [h.t t (by omega)]; omega) (by rw [h.t t (by omega)]; exact hn) (by rw [h.t t (by omega)]; omega) e
theorem KX.nw {τ ad : Nat → Nat} {s : Nat} {w w' : Wd} (k : KX τ s w w') (h : NS τ ad w') {j : Nat} (hj : 4 ≤ j ∧ j < 70) (hn : j ≠ 4 + 2 * s ∧ j ≠ 5 + 2 * s) {z : Int} (hs : s < 6) (e : NW ad w j z) : NW ad w' j z := e.k
  (fun x q => k.2 _ _ (by rw [h.to hj.2]; omega) (by rw [h.to hj.2]; omega) (by rw [h.to hj.2]; omega) (by rw [h.to hj.2]; omega) q)
  (fun x q => k.2 _ _ (by rw [h.tr hj.2]; omega) (by rw [h.tr hj.2]; omega) (by rw [h.tr hj.2]; omega) (by rw [h.tr hj.2]; omega) q)
theorem NS.wst {τ ad : Nat → Nat} {w : Wd} (h : NS τ ad w) {t : Nat} (ht : 100 ≤ t ∧ t < 200) (e : WdE) : NS τ ad (wset w (ad t) e) := by
  obtain ⟨g, hg1, hg2⟩ := h.2.2
  refine ⟨h.1, fun i hi => ?_, g, ?_, hg2⟩
  · obtain ⟨f, uu, bl, e1, e2, e3⟩ := h.W hi
    have n1 : wo ad i ≠ ad t := h.inj (s := 200 + 2 * i) (t := t) (by omega) (by omega) (by omega)
    have n2 : wr ad i ≠ ad t := h.inj (s := 201 + 2 * i) (t := t) (by omega) (by omega) (by omega)
    exact ⟨f, uu, bl, by rw [wset_n n1]; exact e1, by rw [wset_n n2]; exact e2, e3⟩
  · rw [wset_n (h.inj (s := 340) (t := t) (by omega) (by omega) (by omega))]; exact hg1
theorem NW.wst {τ ad : Nat → Nat} {w : Wd} (h : NS τ ad w) {t : Nat} (ht : 100 ≤ t ∧ t < 200) {j : Nat} (hj : j < 70) {z : Int} (g : NW ad w j z) (e : WdE) : NW ad (wset w (ad t) e) j z := g.k
  (fun x q => by rw [wset_n (show wo ad j ≠ ad t from h.inj (s := 200 + 2 * j) (t := t) (by omega) (by omega) (by omega))]; exact q)
  (fun x q => by rw [wset_n (show wr ad j ≠ ad t from h.inj (s := 201 + 2 * j) (t := t) (by omega) (by omega) (by omega))]; exact q)
theorem NS.bytes {τ ad : Nat → Nat} {w : Wd} (h : NS τ ad w) {g : Nat → Int} (hg : bF g) : NS τ ad (wset w (ad 340) (true, eB 63 g)) ∧ KN τ w (wset w (ad 340) (true, eB 63 g)) ∧ ∀ j z, j < 70 → NW ad w j z → NW ad (wset w (ad 340) (true, eB 63 g)) j z := by
  refine ⟨⟨h.1, fun i hi => ?_, g, wset_s, hg⟩, ⟨Nat.le_refl _, fun a x ht e => ?_⟩, fun j z hj q => q.k (fun x q => ?_) (fun x q => ?_)⟩
  · obtain ⟨f, uu, bl, e1, e2, e3⟩ := h.W hi
    have n1 : wo ad i ≠ ad 340 := h.inj (s := 200 + 2 * i) (t := 340) (by omega) (by omega) (by omega)
    have n2 : wr ad i ≠ ad 340 := h.inj (s := 201 + 2 * i) (t := 340) (by omega) (by omega) (by omega)
    exact ⟨f, uu, bl, by rw [wset_n n1]; exact e1, by rw [wset_n n2]; exact e2, e3⟩
  · rw [wset_n (fun q => by have := h.t 340 (by omega); rw [q] at ht; omega)]; exact e
  · rw [wset_n (show wo ad j ≠ ad 340 from h.inj (s := 200 + 2 * j) (t := 340) (by omega) (by omega) (by omega))]; exact q
  · rw [wset_n (show wr ad j ≠ ad 340 from h.inj (s := 201 + 2 * j) (t := 340) (by omega) (by omega) (by omega))]; exact q
def PO (ad : Nat → Nat) (w : Wd) (i : Nat) (b : Int) : Prop := w.2 (ad (140 + i)) = some (true, eO 4 [iI b, .ref (wo ad (4 + 2 * i)), .ref (wo ad (5 + 2 * i))])
theorem PO.kb {τ ad : Nat → Nat} {w w' : Wd} {i : Nat} {b : Int} (h : PO ad w i b) (k : KB τ w w') (hN : NS τ ad w') (hi : i < 6) : PO ad w' i b := k.ob hN (t := 140 + i) (by omega) h
theorem PO.kn {τ ad : Nat → Nat} {w w' : Wd} {i : Nat} {b : Int} (h : PO ad w i b) (k : KN τ w w') (hN : NS τ ad w') (hi : i < 6) : PO ad w' i b := h.kb k.kb hN hi
theorem PO.kx {τ ad : Nat → Nat} {w w' : Wd} {i s : Nat} {b : Int} (h : PO ad w i b) (k : KX τ s w w') (hN : NS τ ad w') (hi : i < 6) (hs : s ≠ i) : PO ad w' i b := k.ob hN (t := 140 + i) (by omega) (by omega) h
/-- a pair: base, left, right -/
def PV (ad : Nat → Nat) (w : Wd) (i : Nat) (p : PT) : Prop := PO ad w i p.1 ∧ NW ad w (4 + 2 * i) p.2.1 ∧ NW ad w (5 + 2 * i) p.2.2
theorem PV.kx {τ ad : Nat → Nat} {w w' : Wd} {i s : Nat} {p : PT} (h : PV ad w i p) (k : KX τ s w w') (hN : NS τ ad w') (hi : i < 6) (hs : s ≠ i) (hs6 : s < 6) : PV ad w' i p := ⟨h.1.kx k hN hi hs, k.nw hN (by omega) (by omega) hs6 h.2.1, k.nw hN (by omega) (by omega) hs6 h.2.2⟩
theorem PV.kn {τ ad : Nat → Nat} {w w' : Wd} {i : Nat} {p : PT} (h : PV ad w i p) (k : KN τ w w') (hN : NS τ ad w') (hi : i < 6) : PV ad w' i p := ⟨h.1.kn k hN hi, k.nw hN (by omega) h.2.1, k.nw hN (by omega) h.2.2⟩
set_option maxHeartbeats 4000000 in
set_option maxRecDepth 100000 in
theorem s_X2_setWholes (l : Launch) {E : GE} {w : Wd} {τ ad : Nat → Nat} (hN0 : NS τ ad w) {i : Nat} {b0 : Int} (hi : i < 6) (hP : PO ad w i b0) {b : Int} {j k : Nat} (hj : j < 70 ∧ j ≠ 4 + 2 * i ∧ j ≠ 5 + 2 * i) (hk : k < 70 ∧ k ≠ 4 + 2 * i ∧ k ≠ 5 + 2 * i) {x y : Int} (fx : NW ad w j x) (fy : NW ad w k y) : Sp E l yX2_setWholes cX2_setWholes 4 none 2 (0) (0) [.ref (ad (140 + i)), iI b, .ref (wo ad j), .ref (wo ad k)] w (fun r' w' => r' = none ∧ NS τ ad w' ∧ PV ad w' i (b, x, y) ∧ KX τ i w w') := by
  refine sp_intro [some (.ref (ad (140 + i))), some (iI b), some (.ref (wo ad j)), some (.ref (wo ad k))] rfl (Nat.le_of_ble_eq_true rfl) pn_X2 ?_
  intro X C hRm hl hnm hQ
  obtain ⟨hRf, hRl, hRc, hRs⟩ := hRm
  refine g_wf (fun hwf => ?_)
  refine g_aload_n C dX2_setWholes_0 rfl ?_
  refine g_iload_n C dX2_setWholes_1 rfl ?_
  refine g_put (ci := 4) C rfl inTX2 tyX2 tyX2_ok nmX2 0 (by decide) fl_RX2_9 rfl rfl hP (Nat.le_of_ble_eq_true rfl) rfl rfl dX2_setWholes_2 ?_
  obtain ⟨u0, hu0⟩ : ∃ u0, u0 = wset w (ad (140 + i)) (true, eO 4 [iI b, .ref (wo ad (4 + 2 * i)), .ref (wo ad (5 + 2 * i))]) := ⟨_, rfl⟩
  refine g_eqw (w' := u0) hu0.symm ?_
  have hN : NS τ ad u0 := by rw [hu0]; exact hN0.wst (by omega) _
  have hQ1 : PO ad u0 i b := by rw [hu0]; exact wset_s
  have hX : KX τ i w u0 := by rw [hu0]; exact KX.set hN0 (by omega) _
  have hK : KB τ u0 u0 := KB.rf _ _
  replace fx : NW ad u0 (j) x := by rw [hu0]; exact fx.wst hN0 (by omega) (by omega) _
  replace fy : NW ad u0 (k) y := by rw [hu0]; exact fy.wst hN0 (by omega) (by omega) _
  refine g_aload_n C dX2_setWholes_5 rfl ?_
  refine g_get (ci := 4) C rfl inTX2 1 (by decide) fl_RX2_18 rfl (hQ1.kb hK hN hi) rfl dX2_setWholes_6 ?_
  refine g_aload_n C dX2_setWholes_9 rfl ?_
  refine g_callV C (v_X5_setWhole _ (hN.W (j := (4 + 2 * i)) (by omega)) fx (hN.ne (j := (4 + 2 * i)) (k := j) (by omega) (by omega) (by omega))) (ci := 7) rfl (hN.W (j := (4 + 2 * i)) (by omega)).o rfl ml_RX2_29 im_yX5_setWhole se_RX5_yX5_setWhole in_RX5 co_yX5_setWhole hd_X5_setWhole rfl ⟨by omega, by omega⟩ rfl (Nat.le_of_ble_eq_true rfl) ⟨by omega, by omega⟩ dX2_setWholes_10 (fun v10 w10 hp10 => ?_)
  obtain ⟨rfl, hws10, hfr10⟩ := hp10
  obtain ⟨hN10, v10w, hkj10⟩ := hN.stepV (j := (4 + 2 * i)) (by omega) hws10 hfr10
  replace fx := hkj10.nw hN (by omega) (by omega) fx
  replace fy := hkj10.nw hN (by omega) (by omega) fy
  replace hK := hK.tr hkj10.kb
  replace hX := hX.tr (hkj10.kx (i := i) (by omega))
  replace hN := hN10
  have gx := v10w
  refine g_aload_n C dX2_setWholes_13 rfl ?_
  refine g_get (ci := 4) C rfl inTX2 2 (by decide) fl_RX2_22 rfl (hQ1.kb hK hN hi) rfl dX2_setWholes_14 ?_
  refine g_aload_n C dX2_setWholes_17 rfl ?_
  refine g_callV C (v_X5_setWhole _ (hN.W (j := (5 + 2 * i)) (by omega)) fy (hN.ne (j := (5 + 2 * i)) (k := k) (by omega) (by omega) (by omega))) (ci := 7) rfl (hN.W (j := (5 + 2 * i)) (by omega)).o rfl ml_RX2_29 im_yX5_setWhole se_RX5_yX5_setWhole in_RX5 co_yX5_setWhole hd_X5_setWhole rfl ⟨by omega, by omega⟩ rfl (Nat.le_of_ble_eq_true rfl) ⟨by omega, by omega⟩ dX2_setWholes_18 (fun v18 w18 hp18 => ?_)
  obtain ⟨rfl, hws18, hfr18⟩ := hp18
  obtain ⟨hN18, v18w, hkj18⟩ := hN.stepV (j := (5 + 2 * i)) (by omega) hws18 hfr18
  replace fx := hkj18.nw hN (by omega) (by omega) fx
  replace fy := hkj18.nw hN (by omega) (by omega) fy
  replace gx := hkj18.nw hN (by omega) (by omega) gx
  replace hK := hK.tr hkj18.kb
  replace hX := hX.tr (hkj18.kx (i := i) (by omega))
  replace hN := hN18
  have gy := v18w
  exact g_return C hQ dX2_setWholes_21 (by omega) (by omega) ⟨rfl, hN, ⟨hQ1.kb hK hN hi, gx, gy⟩, hX⟩
set_option maxHeartbeats 4000000 in
set_option maxRecDepth 100000 in
theorem s_X2_setNumbers (l : Launch) {E : GE} {w : Wd} {τ ad : Nat → Nat} (hN0 : NS τ ad w) {i : Nat} {b0 : Int} (hi : i < 6) (hP : PO ad w i b0) {b x y : Int} (hx : -2147483648 ≤ x ∧ x < 2147483648) (hy : -2147483648 ≤ y ∧ y < 2147483648) : Sp E l yX2_setNumbers cX2_setNumbers 4 none 3 (0) (0) [.ref (ad (140 + i)), iI b, iI x, iI y] w (fun r' w' => r' = none ∧ NS τ ad w' ∧ PV ad w' i (b, x, y) ∧ KX τ i w w') := by
  refine sp_intro [some (.ref (ad (140 + i))), some (iI b), some (iI x), some (iI y)] rfl (Nat.le_of_ble_eq_true rfl) pn_X2 ?_
  intro X C hRm hl hnm hQ
  obtain ⟨hRf, hRl, hRc, hRs⟩ := hRm
  refine g_wf (fun hwf => ?_)
  refine g_aload_n C dX2_setNumbers_0 rfl ?_
  refine g_iload_n C dX2_setNumbers_1 rfl ?_
  refine g_put (ci := 4) C rfl inTX2 tyX2 tyX2_ok nmX2 0 (by decide) fl_RX2_9 rfl rfl hP (Nat.le_of_ble_eq_true rfl) rfl rfl dX2_setNumbers_2 ?_
  obtain ⟨u0, hu0⟩ : ∃ u0, u0 = wset w (ad (140 + i)) (true, eO 4 [iI b, .ref (wo ad (4 + 2 * i)), .ref (wo ad (5 + 2 * i))]) := ⟨_, rfl⟩
  refine g_eqw (w' := u0) hu0.symm ?_
  have hN : NS τ ad u0 := by rw [hu0]; exact hN0.wst (by omega) _
  have hQ1 : PO ad u0 i b := by rw [hu0]; exact wset_s
  have hX : KX τ i w u0 := by rw [hu0]; exact KX.set hN0 (by omega) _
  have hK : KB τ u0 u0 := KB.rf _ _
  refine g_aload_n C dX2_setNumbers_5 rfl ?_
  refine g_get (ci := 4) C rfl inTX2 1 (by decide) fl_RX2_18 rfl (hQ1.kb hK hN hi) rfl dX2_setNumbers_6 ?_
  refine g_iload_n C dX2_setNumbers_9 rfl ?_
  refine g_i2l C dX2_setNumbers_10 (by omega) ?_
  refine g_callV C (v_X5_setNumber _ (hN.W (j := (4 + 2 * i)) (by omega)) (x := x) (by omega)) (ci := 7) rfl (hN.W (j := (4 + 2 * i)) (by omega)).o rfl ml_RX2_25 im_yX5_setNumber se_RX5_yX5_setNumber in_RX5 co_yX5_setNumber hd_X5_setNumber rfl ⟨by omega, by omega⟩ rfl (Nat.le_of_ble_eq_true rfl) ⟨by omega, by omega⟩ dX2_setNumbers_11 (fun v11 w11 hp11 => ?_)
  obtain ⟨rfl, hws11, hfr11⟩ := hp11
  obtain ⟨hN11, v11w, hkj11⟩ := hN.stepV (j := (4 + 2 * i)) (by omega) hws11 hfr11
  replace hK := hK.tr hkj11.kb
  replace hX := hX.tr (hkj11.kx (i := i) (by omega))
  replace hN := hN11
  have gx := v11w
  refine g_aload_n C dX2_setNumbers_14 rfl ?_
  refine g_get (ci := 4) C rfl inTX2 2 (by decide) fl_RX2_22 rfl (hQ1.kb hK hN hi) rfl dX2_setNumbers_15 ?_
  refine g_iload_n C dX2_setNumbers_18 rfl ?_
  refine g_i2l C dX2_setNumbers_19 (by omega) ?_
  refine g_callV C (v_X5_setNumber _ (hN.W (j := (5 + 2 * i)) (by omega)) (x := y) (by omega)) (ci := 7) rfl (hN.W (j := (5 + 2 * i)) (by omega)).o rfl ml_RX2_25 im_yX5_setNumber se_RX5_yX5_setNumber in_RX5 co_yX5_setNumber hd_X5_setNumber rfl ⟨by omega, by omega⟩ rfl (Nat.le_of_ble_eq_true rfl) ⟨by omega, by omega⟩ dX2_setNumbers_20 (fun v20 w20 hp20 => ?_)
  obtain ⟨rfl, hws20, hfr20⟩ := hp20
  obtain ⟨hN20, v20w, hkj20⟩ := hN.stepV (j := (5 + 2 * i)) (by omega) hws20 hfr20
  replace gx := hkj20.nw hN (by omega) (by omega) gx
  replace hK := hK.tr hkj20.kb
  replace hX := hX.tr (hkj20.kx (i := i) (by omega))
  replace hN := hN20
  have gy := v20w
  exact g_return C hQ dX2_setNumbers_23 (by omega) (by omega) ⟨rfl, hN, ⟨hQ1.kb hK hN hi, gx, gy⟩, hX⟩
set_option maxHeartbeats 4000000 in
set_option maxRecDepth 100000 in
theorem s_X2_setPair (l : Launch) {E : GE} {w : Wd} {τ ad : Nat → Nat} (hN0 : NS τ ad w) {i : Nat} {b0 : Int} (hi : i < 6) (hP : PO ad w i b0) {m : Nat} {p : PT} (hm : m < 6 ∧ m ≠ i) (hP2 : PV ad w m p) : Sp E l yX2_setPair cX2_setPair 2 none 3 (0) (0) [.ref (ad (140 + i)), .ref (ad (140 + m))] w (fun r' w' => r' = none ∧ NS τ ad w' ∧ PV ad w' i p ∧ KX τ i w w') := by
  refine sp_intro [some (.ref (ad (140 + i))), some (.ref (ad (140 + m)))] rfl (Nat.le_of_ble_eq_true rfl) pn_X2 ?_
  intro X C hRm hl hnm hQ
  obtain ⟨hRf, hRl, hRc, hRs⟩ := hRm
  refine g_wf (fun hwf => ?_)
  refine g_aload_n C dX2_setPair_0 rfl ?_
  refine g_aload_n C dX2_setPair_1 rfl ?_
  refine g_get (ci := 4) C rfl inTX2 0 (by decide) fl_RX2_9 rfl hP2.1 rfl dX2_setPair_2 ?_
  refine g_aload_n C dX2_setPair_5 rfl ?_
  refine g_get (ci := 4) C rfl inTX2 1 (by decide) fl_RX2_18 rfl hP2.1 rfl dX2_setPair_6 ?_
  refine g_aload_n C dX2_setPair_9 rfl ?_
  refine g_get (ci := 4) C rfl inTX2 2 (by decide) fl_RX2_22 rfl hP2.1 rfl dX2_setPair_10 ?_
  refine g_callV C (s_X2_setWholes _ hN0 hi hP (b := p.1) (j := 4 + 2 * m) (k := 5 + 2 * m) (by omega) (by omega) hP2.2.1 hP2.2.2) (ci := 4) rfl hP rfl ml_RX2_33 im_yX2_setWholes se_RX2_yX2_setWholes in_RX2 co_yX2_setWholes hd_X2_setWholes rfl ⟨by omega, by omega⟩ rfl (Nat.le_of_ble_eq_true rfl) ⟨by omega, by omega⟩ dX2_setPair_13 (fun v13 w13 hp13 => ?_)
  obtain ⟨rfl, hp13⟩ := hp13
  exact g_return C hQ dX2_setPair_16 (by omega) (by omega) ⟨rfl, hp13⟩
set_option maxHeartbeats 4000000 in
set_option maxRecDepth 100000 in
theorem s_X2_side (l : Launch) {E : GE} {w : Wd} {ad : Nat → Nat} {i : Nat} {b0 : Int} (hi : i < 6) (hP : PO ad w i b0) {y : Int} (hy : y = 0 ∨ y = 1) : Sp E l yX2_side cX2_side 2 (some (.object "Rootwalk$Whole")) 0 (0) (0) [.ref (ad (140 + i)), iI y] w (fun r' w' => (∃ j, r' = some (.ref (wo ad j)) ∧ (y = 1 ∧ j = 4 + 2 * i ∨ y = 0 ∧ j = 5 + 2 * i)) ∧ w' = w) := by
  refine sp_intro [some (.ref (ad (140 + i))), some (iI y)] rfl (Nat.le_of_ble_eq_true rfl) pn_X2 ?_
  intro X C hRm hl hnm hQ
  obtain ⟨hRf, hRl, hRc, hRs⟩ := hRm
  refine g_wf (fun hwf => ?_)
  refine g_iload_n C dX2_side_0 rfl ?_
  refine g_if_eq (tgt := 11) C dX2_side_1 (by decide) (by omega) (fun h1 => ?_) (fun h1 => ?_)
  · refine g_aload_n C dX2_side_11 rfl ?_
    refine g_get (ci := 4) C rfl inTX2 2 (by decide) fl_RX2_22 rfl hP rfl dX2_side_12 ?_
    exact g_areturn C (Or.inl ⟨_, rfl⟩) hQ (Or.inr ⟨_, rfl⟩) dX2_side_15 (by omega) (by omega) ⟨⟨_, rfl, by omega⟩, rfl⟩
  · refine g_aload_n C dX2_side_4 rfl ?_
    refine g_get (ci := 4) C rfl inTX2 1 (by decide) fl_RX2_18 rfl hP rfl dX2_side_5 ?_
    refine g_goto (tgt := 15) C dX2_side_8 (by decide) ?_
    exact g_areturn C (Or.inl ⟨_, rfl⟩) hQ (Or.inr ⟨_, rfl⟩) dX2_side_15 (by omega) (by omega) ⟨⟨_, rfl, by omega⟩, rfl⟩
set_option maxHeartbeats 4000000 in
set_option maxRecDepth 100000 in
theorem s_X2_isLike (l : Launch) {E : GE} {w : Wd} {τ ad : Nat → Nat} (hN0 : NS τ ad w) {i : Nat} (hi : i < 6) {p q : PT} (hP : PV ad w i p) {m : Nat} (hb0 : -2147483648 ≤ p.1 ∧ p.1 < 2147483648) (hb : -2147483648 ≤ q.1 ∧ q.1 < 2147483648) (hm : m < 6) (hP2 : PV ad w m q) : Sp E l yX2_isLike cX2_isLike 2 (some .boolean) 3 (0) (0) [.ref (ad (140 + i)), .ref (ad (140 + m))] w (fun r' w' => r' = some (iI (bI (p.1 = q.1 ∧ p.2.1 = q.2.1 ∧ p.2.2 = q.2.2))) ∧ w' = w) := by
  refine sp_intro [some (.ref (ad (140 + i))), some (.ref (ad (140 + m)))] rfl (Nat.le_of_ble_eq_true rfl) pn_X2 ?_
  intro X C hRm hl hnm hQ
  obtain ⟨hRf, hRl, hRc, hRs⟩ := hRm
  refine g_wf (fun hwf => ?_)
  have hN := hN0
  have hK : KN τ w w := KN.rf _ _
  refine g_aload_n C dX2_isLike_0 rfl ?_
  refine g_get (ci := 4) C rfl inTX2 0 (by decide) fl_RX2_9 rfl hP.1 rfl dX2_isLike_1 ?_
  refine g_aload_n C dX2_isLike_4 rfl ?_
  refine g_get (ci := 4) C rfl inTX2 0 (by decide) fl_RX2_9 rfl hP2.1 rfl dX2_isLike_5 ?_
  refine g_icmp_ne (tgt := 43) C dX2_isLike_8 (by decide) (by omega) (by omega) (fun h8 => ?_) (fun h8 => ?_)
  · refine g_iconst C dX2_isLike_43 ?_
    exact g_zreturn C hQ dX2_isLike_44 rfl (by omega) (by omega) ⟨by
      first
      | rw [bI_t (⟨by omega, by omega, by omega⟩ : p.1 = q.1 ∧ p.2.1 = q.2.1 ∧ p.2.2 = q.2.2)]
      | rw [bI_f (fun c => by omega)], rfl⟩
  · refine g_aload_n C dX2_isLike_11 rfl ?_
    refine g_get (ci := 4) C rfl inTX2 1 (by decide) fl_RX2_18 rfl hP.1 rfl dX2_isLike_12 ?_
    refine g_aload_n C dX2_isLike_15 rfl ?_
    refine g_get (ci := 4) C rfl inTX2 1 (by decide) fl_RX2_18 rfl hP2.1 rfl dX2_isLike_16 ?_
    refine g_callV C (c_X5_compareValue _ hP.2.1 hP2.2.1) (ci := 7) rfl (hN.W (j := (4 + 2 * i)) (by omega)).o rfl ml_RX2_37 im_yX5_compareValue se_RX5_yX5_compareValue in_RX5 co_yX5_compareValue hd_X5_compareValue rfl ⟨by omega, by omega⟩ rfl (Nat.le_of_ble_eq_true rfl) ⟨by omega, by omega⟩ dX2_isLike_19 (fun v19 w19 hp19 => ?_)
    obtain ⟨⟨d19, rfl, hd19⟩, hw19⟩ := hp19
    subst w19
    refine g_if_ne (tgt := 43) C dX2_isLike_22 (by decide) (by omega) (fun h22 => ?_) (fun h22 => ?_)
    · refine g_iconst C dX2_isLike_43 ?_
      exact g_zreturn C hQ dX2_isLike_44 rfl (by omega) (by omega) ⟨by
        first
        | rw [bI_t (⟨by omega, by omega, by omega⟩ : p.1 = q.1 ∧ p.2.1 = q.2.1 ∧ p.2.2 = q.2.2)]
        | rw [bI_f (fun c => by omega)], rfl⟩
    · refine g_aload_n C dX2_isLike_25 rfl ?_
      refine g_get (ci := 4) C rfl inTX2 2 (by decide) fl_RX2_22 rfl hP.1 rfl dX2_isLike_26 ?_
      refine g_aload_n C dX2_isLike_29 rfl ?_
      refine g_get (ci := 4) C rfl inTX2 2 (by decide) fl_RX2_22 rfl hP2.1 rfl dX2_isLike_30 ?_
      refine g_callV C (c_X5_compareValue _ hP.2.2 hP2.2.2) (ci := 7) rfl (hN.W (j := (5 + 2 * i)) (by omega)).o rfl ml_RX2_37 im_yX5_compareValue se_RX5_yX5_compareValue in_RX5 co_yX5_compareValue hd_X5_compareValue rfl ⟨by omega, by omega⟩ rfl (Nat.le_of_ble_eq_true rfl) ⟨by omega, by omega⟩ dX2_isLike_33 (fun v33 w33 hp33 => ?_)
      obtain ⟨⟨d33, rfl, hd33⟩, hw33⟩ := hp33
      subst w33
      refine g_if_ne (tgt := 43) C dX2_isLike_36 (by decide) (by omega) (fun h36 => ?_) (fun h36 => ?_)
      · refine g_iconst C dX2_isLike_43 ?_
        exact g_zreturn C hQ dX2_isLike_44 rfl (by omega) (by omega) ⟨by
          first
          | rw [bI_t (⟨by omega, by omega, by omega⟩ : p.1 = q.1 ∧ p.2.1 = q.2.1 ∧ p.2.2 = q.2.2)]
          | rw [bI_f (fun c => by omega)], rfl⟩
      · refine g_iconst C dX2_isLike_39 ?_
        refine g_goto (tgt := 44) C dX2_isLike_40 (by decide) ?_
        exact g_zreturn C hQ dX2_isLike_44 rfl (by omega) (by omega) ⟨by
          first
          | rw [bI_t (⟨by omega, by omega, by omega⟩ : p.1 = q.1 ∧ p.2.1 = q.2.1 ∧ p.2.2 = q.2.2)]
          | rw [bI_f (fun c => by omega)], rfl⟩
set_option maxHeartbeats 4000000 in
set_option maxRecDepth 100000 in
theorem s_X2_isTooLong (l : Launch) {E : GE} {w : Wd} {τ ad : Nat → Nat} (hN0 : NS τ ad w) {i : Nat} (hi : i < 6) {p : PT} (hP : PV ad w i p) : Sp E l yX2_isTooLong cX2_isTooLong 1 (some .boolean) 2 (0) (0) [.ref (ad (140 + i))] w (fun r' w' => r' = some (iI (bI (LGN ≤ aB p.2.1 ∨ LGN ≤ aB p.2.2))) ∧ w' = w) := by
  refine sp_intro [some (.ref (ad (140 + i)))] rfl (Nat.le_of_ble_eq_true rfl) pn_X2 ?_
  intro X C hRm hl hnm hQ
  obtain ⟨hRf, hRl, hRc, hRs⟩ := hRm
  refine g_wf (fun hwf => ?_)
  have hN := hN0
  have hK : KN τ w w := KN.rf _ _
  have r1 := bits_r (z := p.2.1)
  have r2 := bits_r (z := p.2.2)
  have t1 := bits_80 hP.2.1.cap
  have t2 := bits_80 hP.2.2.cap
  refine g_aload_n C dX2_isTooLong_0 rfl ?_
  refine g_get (ci := 4) C rfl inTX2 1 (by decide) fl_RX2_18 rfl hP.1 rfl dX2_isTooLong_1 ?_
  refine g_callV C (u_X5_bits _ hP.2.1 ) (ci := 7) rfl (hN.W (j := (4 + 2 * i)) (by omega)).o rfl ml_RX2_41 im_yX5_bits se_RX5_yX5_bits in_RX5 co_yX5_bits hd_X5_bits rfl ⟨by omega, by omega⟩ rfl (Nat.le_of_ble_eq_true rfl) ⟨by omega, by omega⟩ dX2_isTooLong_4 (fun v4 w4 hp4 => ?_)
  obtain ⟨rfl, hw4⟩ := hp4
  subst w4
  refine g_bipush C dX2_isTooLong_7 (by decide) ?_
  refine g_icmp_gt (tgt := 24) C dX2_isTooLong_9 (by decide) (by omega) (by omega) (fun h9 => ?_) (fun h9 => ?_)
  · refine g_iconst C dX2_isTooLong_24 ?_
    refine g_goto (tgt := 29) C dX2_isTooLong_25 (by decide) ?_
    exact g_zreturn C hQ dX2_isTooLong_29 rfl (by omega) (by omega) ⟨by
      first
      | rw [bI_t (Or.inl (t1.mp (by omega)))]
      | rw [bI_t (Or.inr (t2.mp (by omega)))]
      | rw [bI_f (fun c => by
          rcases c with c | c
          · have := t1.mpr c; omega
          · have := t2.mpr c; omega)], rfl⟩
  · refine g_aload_n C dX2_isTooLong_12 rfl ?_
    refine g_get (ci := 4) C rfl inTX2 2 (by decide) fl_RX2_22 rfl hP.1 rfl dX2_isTooLong_13 ?_
    refine g_callV C (u_X5_bits _ hP.2.2 ) (ci := 7) rfl (hN.W (j := (5 + 2 * i)) (by omega)).o rfl ml_RX2_41 im_yX5_bits se_RX5_yX5_bits in_RX5 co_yX5_bits hd_X5_bits rfl ⟨by omega, by omega⟩ rfl (Nat.le_of_ble_eq_true rfl) ⟨by omega, by omega⟩ dX2_isTooLong_16 (fun v16 w16 hp16 => ?_)
    obtain ⟨rfl, hw16⟩ := hp16
    subst w16
    refine g_bipush C dX2_isTooLong_19 (by decide) ?_
    refine g_icmp_le (tgt := 28) C dX2_isTooLong_21 (by decide) (by omega) (by omega) (fun h21 => ?_) (fun h21 => ?_)
    · refine g_iconst C dX2_isTooLong_28 ?_
      exact g_zreturn C hQ dX2_isTooLong_29 rfl (by omega) (by omega) ⟨by
        first
        | rw [bI_t (Or.inl (t1.mp (by omega)))]
        | rw [bI_t (Or.inr (t2.mp (by omega)))]
        | rw [bI_f (fun c => by
            rcases c with c | c
            · have := t1.mpr c; omega
            · have := t2.mpr c; omega)], rfl⟩
    · refine g_iconst C dX2_isTooLong_24 ?_
      refine g_goto (tgt := 29) C dX2_isTooLong_25 (by decide) ?_
      exact g_zreturn C hQ dX2_isTooLong_29 rfl (by omega) (by omega) ⟨by
        first
        | rw [bI_t (Or.inl (t1.mp (by omega)))]
        | rw [bI_t (Or.inr (t2.mp (by omega)))]
        | rw [bI_f (fun c => by
            rcases c with c | c
            · have := t1.mpr c; omega
            · have := t2.mpr c; omega)], rfl⟩
theorem bd_ml {x v b B1 B2 : Int} (hx : aB x ≤ B1) (hv : aB v ≤ B2) (hb : 0 ≤ b ∧ b ≤ 1000) (hB : B1 * B2 * 2000 < B28 ^ 18) : aB x * aB v ≤ B1 * B2 ∧ aB (x * v) ≤ B1 * B2 ∧ aB (x * v) * b + 0 ≤ B1 * B2 * 1000 ∧ 0 ≤ B1 * B2 := by
  have h0 := aB_0 x
  have h1 := aB_0 v
  have h := Int.mul_le_mul hx hv h1 (by omega)
  have hp := Int.mul_nonneg h0 h1
  refine ⟨h, by rw [aB_mul]; exact h, ?_, by omega⟩
  rw [aB_mul]
  have := Int.mul_le_mul h hb.2 hb.1 (by omega)
  omega
set_option maxHeartbeats 4000000 in
set_option maxRecDepth 100000 in
theorem s_X0_multiply (l : Launch) {E : GE} {w : Wd} {τ ad : Nat → Nat} (hN0 : NS τ ad w) (hD : w.2 (ad 110) = some (true, oD ad)) {i : Nat} {b0 : Int} (hi : i < 6) (hP : PO ad w i b0) {m n : Nat} {b b2 x y u v B1 B2 : Int} (hm : m < 6 ∧ m ≠ i) (hn : n < 6 ∧ n ≠ i) (hb : 0 ≤ b ∧ b ≤ 1000) (hP1 : PV ad w m (b, x, y)) (hP2 : PV ad w n (b2, u, v)) (bx : aB x ≤ B1) (by_ : aB y ≤ B1) (bu : aB u ≤ B2) (bv : aB v ≤ B2) (hB : B1 * B2 * 2000 < B28 ^ 18) : Sp E l yX0_multiply cX0_multiply 4 none 3 (0) (0) [.ref (ad 110), .ref (ad (140 + m)), .ref (ad (140 + n)), .ref (ad (140 + i))] w (fun r' w' => r' = none ∧ NS τ ad w' ∧ PV ad w' i (b, x * u + b * (y * v), x * v + y * u) ∧ KX τ i w w') := by
  refine sp_intro [some (.ref (ad 110)), some (.ref (ad (140 + m))), some (.ref (ad (140 + n))), some (.ref (ad (140 + i)))] rfl (Nat.le_of_ble_eq_true rfl) pn_X0 ?_
  intro X C hRm hl hnm hQ
  obtain ⟨hRf, hRl, hRc, hRs⟩ := hRm
  refine g_wf (fun hwf => ?_)
  refine g_aload_n C dX0_multiply_0 rfl ?_
  refine g_aload_n C dX0_multiply_1 rfl ?_
  refine g_get (ci := 4) C rfl inTX2 0 (by decide) fl_RX0_86 rfl hP1.1 rfl dX0_multiply_2 ?_
  obtain ⟨m1, m2, m3, m4⟩ := bd_ml by_ bv hb hB
  obtain ⟨m5, m6, m7, -⟩ := bd_ml bx bu hb hB
  obtain ⟨m8, m9, -, -⟩ := bd_ml bx bv hb hB
  obtain ⟨m10, m11, -, -⟩ := bd_ml by_ bu hb hB
  refine g_put (ci := 4) C rfl inTX2 tyX2 tyX2_ok nmX2 0 (by decide) fl_RX0_86 rfl rfl hP (Nat.le_of_ble_eq_true rfl) rfl rfl dX0_multiply_5 ?_
  obtain ⟨u0, hu0⟩ : ∃ u0, u0 = wset w (ad (140 + i)) (true, eO 4 [iI b, .ref (wo ad (4 + 2 * i)), .ref (wo ad (5 + 2 * i))]) := ⟨_, rfl⟩
  refine g_eqw (w' := u0) hu0.symm ?_
  have hN : NS τ ad u0 := by rw [hu0]; exact hN0.wst (by omega) _
  have hQ1 : PO ad u0 i b := by rw [hu0]; exact wset_s
  have hX : KX τ i w u0 := by rw [hu0]; exact KX.set hN0 (by omega) _
  have hK : KB τ u0 u0 := KB.rf _ _
  have hP1' : PO ad u0 m b := hP1.1.kx hX hN (by omega) (by omega)
  have hP2' : PO ad u0 n b2 := hP2.1.kx hX hN (by omega) (by omega)
  have hD' : u0.2 (ad 110) = some (true, oD ad) := hX.ob hN (t := 110) (by omega) (by omega) hD
  have fx : NW ad u0 (4 + 2 * m) x := hX.nw hN (by omega) (by omega) hi hP1.2.1
  have fy : NW ad u0 (5 + 2 * m) y := hX.nw hN (by omega) (by omega) hi hP1.2.2
  have fu : NW ad u0 (4 + 2 * n) u := hX.nw hN (by omega) (by omega) hi hP2.2.1
  have fv : NW ad u0 (5 + 2 * n) v := hX.nw hN (by omega) (by omega) hi hP2.2.2
  refine g_aload_n C dX0_multiply_8 rfl ?_
  refine g_get (ci := 4) C rfl inTX2 1 (by decide) fl_RX0_92 rfl (hQ1.kb hK hN hi) rfl dX0_multiply_9 ?_
  refine g_aload_n C dX0_multiply_12 rfl ?_
  refine g_get (ci := 4) C rfl inTX2 2 (by decide) fl_RX0_95 rfl (hP1'.kb hK hN (by omega)) rfl dX0_multiply_13 ?_
  refine g_aload_n C dX0_multiply_16 rfl ?_
  refine g_get (ci := 4) C rfl inTX2 2 (by decide) fl_RX0_95 rfl (hP2'.kb hK hN (by omega)) rfl dX0_multiply_17 ?_
  refine g_callV C (v_X5_setProduct _ (hN.W (j := (4 + 2 * i)) (by omega)) fy fv (hN.ne (j := (4 + 2 * i)) (k := (5 + 2 * m)) (by omega) (by omega) (by omega)) (hN.ne (j := (4 + 2 * i)) (k := (5 + 2 * n)) (by omega) (by omega) (by omega)) (hN.neo (j := (4 + 2 * i)) (k := (5 + 2 * m)) (by omega) (by omega) (by omega)) (hN.neo (j := (4 + 2 * i)) (k := (5 + 2 * n)) (by omega) (by omega) (by omega)) (by omega)) (ci := 7) rfl (hN.W (j := (4 + 2 * i)) (by omega)).o rfl ml_RX0_31 im_yX5_setProduct se_RX5_yX5_setProduct in_RX5 co_yX5_setProduct hd_X5_setProduct rfl ⟨by omega, by omega⟩ rfl (Nat.le_of_ble_eq_true rfl) ⟨by omega, by omega⟩ dX0_multiply_20 (fun v20 w20 hp20 => ?_)
  obtain ⟨rfl, hws20, hfr20⟩ := hp20
  obtain ⟨hN20, v20w, hkj20⟩ := hN.stepV (j := (4 + 2 * i)) (by omega) hws20 hfr20
  replace fx := hkj20.nw hN (by omega) (by omega) fx
  replace fy := hkj20.nw hN (by omega) (by omega) fy
  replace fu := hkj20.nw hN (by omega) (by omega) fu
  replace fv := hkj20.nw hN (by omega) (by omega) fv
  replace hK := hK.tr hkj20.kb
  replace hX := hX.tr (hkj20.kx (i := i) (by omega))
  replace hN := hN20
  have gx := v20w
  refine g_aload_n C dX0_multiply_23 rfl ?_
  refine g_get (ci := 4) C rfl inTX2 1 (by decide) fl_RX0_92 rfl (hQ1.kb hK hN hi) rfl dX0_multiply_24 ?_
  refine g_aload_n C dX0_multiply_27 rfl ?_
  refine g_get (ci := 4) C rfl inTX2 0 (by decide) fl_RX0_86 rfl (hP1'.kb hK hN (by omega)) rfl dX0_multiply_28 ?_
  refine g_iconst C dX0_multiply_31 ?_
  refine g_callV C (u_X5_multiplySmall _ gx (by_ := b) (mo := 0) (by omega) (by omega) (Or.inr rfl) (by omega)) (ci := 7) rfl (hN.W (j := (4 + 2 * i)) (by omega)).o rfl ml_RX0_35 im_yX5_multiplySmall se_RX5_yX5_multiplySmall in_RX5 co_yX5_multiplySmall hd_X5_multiplySmall rfl ⟨by omega, by omega⟩ rfl (Nat.le_of_ble_eq_true rfl) ⟨by omega, by omega⟩ dX0_multiply_32 (fun v32 w32 hp32 => ?_)
  obtain ⟨rfl, hws32, hfr32⟩ := hp32
  obtain ⟨hN32, v32w, hkj32⟩ := hN.stepV (j := (4 + 2 * i)) (by omega) hws32 hfr32
  replace fx := hkj32.nw hN (by omega) (by omega) fx
  replace fy := hkj32.nw hN (by omega) (by omega) fy
  replace fu := hkj32.nw hN (by omega) (by omega) fu
  replace fv := hkj32.nw hN (by omega) (by omega) fv
  replace hK := hK.tr hkj32.kb
  replace hX := hX.tr (hkj32.kx (i := i) (by omega))
  replace hN := hN32
  have gx := v32w
  refine g_aload_n C dX0_multiply_35 rfl ?_
  refine g_get (ci := 2) C rfl inTX0 0 (by decide) fl_RX0_12 rfl (hK.ob hN (t := 110) (by omega) hD') rfl dX0_multiply_36 ?_
  refine g_aload_n C dX0_multiply_39 rfl ?_
  refine g_get (ci := 4) C rfl inTX2 1 (by decide) fl_RX0_92 rfl (hP1'.kb hK hN (by omega)) rfl dX0_multiply_40 ?_
  refine g_aload_n C dX0_multiply_43 rfl ?_
  refine g_get (ci := 4) C rfl inTX2 1 (by decide) fl_RX0_92 rfl (hP2'.kb hK hN (by omega)) rfl dX0_multiply_44 ?_
  refine g_callV C (v_X5_setProduct _ (hN.W (j := 0) (by omega)) fx fu (hN.ne (j := 0) (k := (4 + 2 * m)) (by omega) (by omega) (by omega)) (hN.ne (j := 0) (k := (4 + 2 * n)) (by omega) (by omega) (by omega)) (hN.neo (j := 0) (k := (4 + 2 * m)) (by omega) (by omega) (by omega)) (hN.neo (j := 0) (k := (4 + 2 * n)) (by omega) (by omega) (by omega)) (by omega)) (ci := 7) rfl (hN.W (j := 0) (by omega)).o rfl ml_RX0_31 im_yX5_setProduct se_RX5_yX5_setProduct in_RX5 co_yX5_setProduct hd_X5_setProduct rfl ⟨by omega, by omega⟩ rfl (Nat.le_of_ble_eq_true rfl) ⟨by omega, by omega⟩ dX0_multiply_47 (fun v47 w47 hp47 => ?_)
  obtain ⟨rfl, hws47, hfr47⟩ := hp47
  obtain ⟨hN47, v47w, hkj47⟩ := hN.stepV (j := 0) (by omega) hws47 hfr47
  replace fx := hkj47.nw hN (by omega) (by omega) fx
  replace fy := hkj47.nw hN (by omega) (by omega) fy
  replace fu := hkj47.nw hN (by omega) (by omega) fu
  replace fv := hkj47.nw hN (by omega) (by omega) fv
  replace gx := hkj47.nw hN (by omega) (by omega) gx
  replace hK := hK.tr hkj47.kb
  replace hX := hX.tr (hkj47.kx (i := i) (by omega))
  replace hN := hN47
  have v0 := v47w
  refine g_aload_n C dX0_multiply_50 rfl ?_
  refine g_get (ci := 4) C rfl inTX2 1 (by decide) fl_RX0_92 rfl (hQ1.kb hK hN hi) rfl dX0_multiply_51 ?_
  refine g_aload_n C dX0_multiply_54 rfl ?_
  refine g_get (ci := 2) C rfl inTX0 0 (by decide) fl_RX0_12 rfl (hK.ob hN (t := 110) (by omega) hD') rfl dX0_multiply_55 ?_
  refine g_iconst C dX0_multiply_58 ?_
  refine g_callV C (c_X5_addOrTake _ gx v0 (y := 0) (by omega) (hN.ne (j := (4 + 2 * i)) (k := 0) (by omega) (by omega) (by omega)) (hN.neo (j := (4 + 2 * i)) (k := 0) (by omega) (by omega) (by omega)) (by rw [Int.add_zero, aB_mul, aB_p hb.1]; omega)) (ci := 7) rfl (hN.W (j := (4 + 2 * i)) (by omega)).o rfl ml_RX0_39 im_yX5_addOrTake se_RX5_yX5_addOrTake in_RX5 co_yX5_addOrTake hd_X5_addOrTake rfl ⟨by omega, by omega⟩ rfl (Nat.le_of_ble_eq_true rfl) ⟨by omega, by omega⟩ dX0_multiply_59 (fun v59 w59 hp59 => ?_)
  obtain ⟨rfl, hws59, hfr59⟩ := hp59
  obtain ⟨hN59, v59w, hkj59⟩ := hN.stepV (j := (4 + 2 * i)) (by omega) hws59 hfr59
  replace fx := hkj59.nw hN (by omega) (by omega) fx
  replace fy := hkj59.nw hN (by omega) (by omega) fy
  replace fu := hkj59.nw hN (by omega) (by omega) fu
  replace fv := hkj59.nw hN (by omega) (by omega) fv
  replace v0 := hkj59.nw hN (by omega) (by omega) v0
  replace hK := hK.tr hkj59.kb
  replace hX := hX.tr (hkj59.kx (i := i) (by omega))
  replace hN := hN59
  have gx := v59w
  refine g_aload_n C dX0_multiply_62 rfl ?_
  refine g_get (ci := 4) C rfl inTX2 2 (by decide) fl_RX0_95 rfl (hQ1.kb hK hN hi) rfl dX0_multiply_63 ?_
  refine g_aload_n C dX0_multiply_66 rfl ?_
  refine g_get (ci := 4) C rfl inTX2 1 (by decide) fl_RX0_92 rfl (hP1'.kb hK hN (by omega)) rfl dX0_multiply_67 ?_
  refine g_aload_n C dX0_multiply_70 rfl ?_
  refine g_get (ci := 4) C rfl inTX2 2 (by decide) fl_RX0_95 rfl (hP2'.kb hK hN (by omega)) rfl dX0_multiply_71 ?_
  refine g_callV C (v_X5_setProduct _ (hN.W (j := (5 + 2 * i)) (by omega)) fx fv (hN.ne (j := (5 + 2 * i)) (k := (4 + 2 * m)) (by omega) (by omega) (by omega)) (hN.ne (j := (5 + 2 * i)) (k := (5 + 2 * n)) (by omega) (by omega) (by omega)) (hN.neo (j := (5 + 2 * i)) (k := (4 + 2 * m)) (by omega) (by omega) (by omega)) (hN.neo (j := (5 + 2 * i)) (k := (5 + 2 * n)) (by omega) (by omega) (by omega)) (by omega)) (ci := 7) rfl (hN.W (j := (5 + 2 * i)) (by omega)).o rfl ml_RX0_31 im_yX5_setProduct se_RX5_yX5_setProduct in_RX5 co_yX5_setProduct hd_X5_setProduct rfl ⟨by omega, by omega⟩ rfl (Nat.le_of_ble_eq_true rfl) ⟨by omega, by omega⟩ dX0_multiply_74 (fun v74 w74 hp74 => ?_)
  obtain ⟨rfl, hws74, hfr74⟩ := hp74
  obtain ⟨hN74, v74w, hkj74⟩ := hN.stepV (j := (5 + 2 * i)) (by omega) hws74 hfr74
  replace fx := hkj74.nw hN (by omega) (by omega) fx
  replace fy := hkj74.nw hN (by omega) (by omega) fy
  replace fu := hkj74.nw hN (by omega) (by omega) fu
  replace fv := hkj74.nw hN (by omega) (by omega) fv
  replace v0 := hkj74.nw hN (by omega) (by omega) v0
  replace gx := hkj74.nw hN (by omega) (by omega) gx
  replace hK := hK.tr hkj74.kb
  replace hX := hX.tr (hkj74.kx (i := i) (by omega))
  replace hN := hN74
  have gy := v74w
  refine g_aload_n C dX0_multiply_77 rfl ?_
  refine g_get (ci := 2) C rfl inTX0 0 (by decide) fl_RX0_12 rfl (hK.ob hN (t := 110) (by omega) hD') rfl dX0_multiply_78 ?_
  refine g_aload_n C dX0_multiply_81 rfl ?_
  refine g_get (ci := 4) C rfl inTX2 2 (by decide) fl_RX0_95 rfl (hP1'.kb hK hN (by omega)) rfl dX0_multiply_82 ?_
  refine g_aload_n C dX0_multiply_85 rfl ?_
  refine g_get (ci := 4) C rfl inTX2 1 (by decide) fl_RX0_92 rfl (hP2'.kb hK hN (by omega)) rfl dX0_multiply_86 ?_
  refine g_callV C (v_X5_setProduct _ (hN.W (j := 0) (by omega)) fy fu (hN.ne (j := 0) (k := (5 + 2 * m)) (by omega) (by omega) (by omega)) (hN.ne (j := 0) (k := (4 + 2 * n)) (by omega) (by omega) (by omega)) (hN.neo (j := 0) (k := (5 + 2 * m)) (by omega) (by omega) (by omega)) (hN.neo (j := 0) (k := (4 + 2 * n)) (by omega) (by omega) (by omega)) (by omega)) (ci := 7) rfl (hN.W (j := 0) (by omega)).o rfl ml_RX0_31 im_yX5_setProduct se_RX5_yX5_setProduct in_RX5 co_yX5_setProduct hd_X5_setProduct rfl ⟨by omega, by omega⟩ rfl (Nat.le_of_ble_eq_true rfl) ⟨by omega, by omega⟩ dX0_multiply_89 (fun v89 w89 hp89 => ?_)
  obtain ⟨rfl, hws89, hfr89⟩ := hp89
  obtain ⟨hN89, v89w, hkj89⟩ := hN.stepV (j := 0) (by omega) hws89 hfr89
  replace fx := hkj89.nw hN (by omega) (by omega) fx
  replace fy := hkj89.nw hN (by omega) (by omega) fy
  replace fu := hkj89.nw hN (by omega) (by omega) fu
  replace fv := hkj89.nw hN (by omega) (by omega) fv
  replace gx := hkj89.nw hN (by omega) (by omega) gx
  replace gy := hkj89.nw hN (by omega) (by omega) gy
  replace hK := hK.tr hkj89.kb
  replace hX := hX.tr (hkj89.kx (i := i) (by omega))
  replace hN := hN89
  have v0 := v89w
  refine g_aload_n C dX0_multiply_92 rfl ?_
  refine g_get (ci := 4) C rfl inTX2 2 (by decide) fl_RX0_95 rfl (hQ1.kb hK hN hi) rfl dX0_multiply_93 ?_
  refine g_aload_n C dX0_multiply_96 rfl ?_
  refine g_get (ci := 2) C rfl inTX0 0 (by decide) fl_RX0_12 rfl (hK.ob hN (t := 110) (by omega) hD') rfl dX0_multiply_97 ?_
  refine g_iconst C dX0_multiply_100 ?_
  refine g_callV C (c_X5_addOrTake _ gy v0 (y := 0) (by omega) (hN.ne (j := (5 + 2 * i)) (k := 0) (by omega) (by omega) (by omega)) (hN.neo (j := (5 + 2 * i)) (k := 0) (by omega) (by omega) (by omega)) (by omega)) (ci := 7) rfl (hN.W (j := (5 + 2 * i)) (by omega)).o rfl ml_RX0_39 im_yX5_addOrTake se_RX5_yX5_addOrTake in_RX5 co_yX5_addOrTake hd_X5_addOrTake rfl ⟨by omega, by omega⟩ rfl (Nat.le_of_ble_eq_true rfl) ⟨by omega, by omega⟩ dX0_multiply_101 (fun v101 w101 hp101 => ?_)
  obtain ⟨rfl, hws101, hfr101⟩ := hp101
  obtain ⟨hN101, v101w, hkj101⟩ := hN.stepV (j := (5 + 2 * i)) (by omega) hws101 hfr101
  replace fx := hkj101.nw hN (by omega) (by omega) fx
  replace fy := hkj101.nw hN (by omega) (by omega) fy
  replace fu := hkj101.nw hN (by omega) (by omega) fu
  replace fv := hkj101.nw hN (by omega) (by omega) fv
  replace gx := hkj101.nw hN (by omega) (by omega) gx
  replace v0 := hkj101.nw hN (by omega) (by omega) v0
  replace hK := hK.tr hkj101.kb
  replace hX := hX.tr (hkj101.kx (i := i) (by omega))
  replace hN := hN101
  have gy := v101w
  exact g_return C hQ dX0_multiply_104 (by omega) (by omega) ⟨rfl, hN, ⟨hQ1.kb hK hN hi, gx.eq (by rw [if0, Int.add_zero, Int.mul_comm (y * v) b, Int.add_comm]), gy.eq (if0 _ _)⟩, hX⟩
set_option maxHeartbeats 4000000 in
set_option maxRecDepth 100000 in
theorem s_X0_isReadFromBytes (l : Launch) {E : GE} {w : Wd} {τ ad : Nat → Nat} (hN0 : NS τ ad w) (hD : w.2 (ad 110) = some (true, oD ad)) {j : Nat} (hj : 4 ≤ j ∧ j < 70) : Sp E l yX0_isReadFromBytes cX0_isReadFromBytes 3 (some .boolean) 3 (0) (0) [.ref (ad 110), .ref (wo ad j)] w (fun r' w' => (∃ d : Int, r' = some (iI d) ∧ (d = 0 ∨ d = 1)) ∧ NS τ ad w' ∧ KN τ w w') := by
  refine sp_intro [some (.ref (ad 110)), some (.ref (wo ad j)), none] rfl (Nat.le_of_ble_eq_true rfl) pn_X0 ?_
  intro X C hRm hl hnm hQ
  obtain ⟨hRf, hRl, hRc, hRs⟩ := hRm
  refine g_wf (fun hwf => ?_)
  have hN := hN0
  have hK : KN τ w w := KN.rf _ _
  refine g_aload_n C dX0_isReadFromBytes_0 rfl ?_
  refine g_get (ci := 2) C rfl inTX0 3 (by decide) fl_RX0_24 rfl (hK.ob hN (t := 110) (by omega) hD) rfl dX0_isReadFromBytes_1 ?_
  refine g_aload_n C dX0_isReadFromBytes_4 rfl ?_
  refine g_callV C (s_X5_setWhole _ (hN.W (j := 3) (by omega)) (hN.W (j := j) (by omega)) (hN.ne (j := 3) (k := j) (by omega) (by omega) (by omega))) (ci := 7) rfl (hN.W (j := 3) (by omega)).o rfl ml_RX0_43 im_yX5_setWhole se_RX5_yX5_setWhole in_RX5 co_yX5_setWhole hd_X5_setWhole rfl ⟨by omega, by omega⟩ rfl (Nat.le_of_ble_eq_true rfl) ⟨by omega, by omega⟩ dX0_isReadFromBytes_5 (fun v5 w5 hp5 => ?_)
  obtain ⟨rfl, hws5, hfr5⟩ := hp5
  obtain ⟨hN5, hK5⟩ := hN.step (j := 3) (by omega) hws5 hfr5
  replace hK := hK.tr hK5
  replace hN := hN5
  refine g_iconst C dX0_isReadFromBytes_8 ?_
  refine g_istore_n C dX0_isReadFromBytes_9 (by decide) rfl ?_
  clear hN0
  refine g_loop (σ := Nat × Wd) (fun q => q.1 ≤ 63 ∧ NS τ ad q.2 ∧ KN τ w q.2) (fun q => G E X 3 10 [some (.ref (ad 110)), some (.ref (wo ad j)), some (iI (q.1 : Int))] [] q.2 0 0) (fun q => 63 - q.1) ?_ (0, w5) ⟨by dsimp only; omega, hN, hK⟩
  clear hN hK
  rintro ⟨i, u⟩ hqq ih
  obtain ⟨hi, hN, hK⟩ := hqq
  dsimp only at hi hN hK ⊢
  obtain ⟨g, hg1, hg2⟩ := hN.2.2
  refine g_iload_n C dX0_isReadFromBytes_10 rfl ?_
  refine g_aload_n C dX0_isReadFromBytes_11 rfl ?_
  refine g_get (ci := 2) C rfl inTX0 4 (by decide) fl_RX0_27 rfl (hK.ob hN (t := 110) (by omega) hD) rfl dX0_isReadFromBytes_12 ?_
  refine g_alen C hg1 (Or.inr (Or.inl ⟨_, rfl⟩)) dX0_isReadFromBytes_15 ?_
  refine g_icmp_ge (tgt := 42) C dX0_isReadFromBytes_16 (by decide) (by omega) (by omega) (fun h16 => ?_) (fun h16 => ?_)
  · refine g_aload_n C dX0_isReadFromBytes_42 rfl ?_
    refine g_get (ci := 2) C rfl inTX0 0 (by decide) fl_RX0_12 rfl (hK.ob hN (t := 110) (by omega) hD) rfl dX0_isReadFromBytes_43 ?_
    refine g_lconst (z := 0) C dX0_isReadFromBytes_46 (by decide) ?_
    refine g_callV C (s_X5_setNumber _ (hN.W (j := 0) (by omega)) (x := 0) (by omega)) (ci := 7) rfl (hN.W (j := 0) (by omega)).o rfl ml_RX0_98 im_yX5_setNumber se_RX5_yX5_setNumber in_RX5 co_yX5_setNumber hd_X5_setNumber rfl ⟨by omega, by omega⟩ rfl (Nat.le_of_ble_eq_true rfl) ⟨by omega, by omega⟩ dX0_isReadFromBytes_47 (fun v47 w47 hp47 => ?_)
    obtain ⟨rfl, hws47, hfr47⟩ := hp47
    obtain ⟨hN47, hK47⟩ := hN.step (j := 0) (by omega) hws47 hfr47
    replace hK := hK.tr hK47
    replace hN := hN47
    obtain ⟨g4, hg41, hg42⟩ := hN.2.2
    refine g_aload_n C dX0_isReadFromBytes_50 rfl ?_
    refine g_get (ci := 2) C rfl inTX0 4 (by decide) fl_RX0_27 rfl (hK.ob hN (t := 110) (by omega) hD) rfl dX0_isReadFromBytes_51 ?_
    refine g_alen C hg41 (Or.inr (Or.inl ⟨_, rfl⟩)) dX0_isReadFromBytes_54 ?_
    refine g_iconst C dX0_isReadFromBytes_55 ?_
    refine g_isub C dX0_isReadFromBytes_56 ?_
    refine g_istore_n C dX0_isReadFromBytes_57 (by decide) rfl ?_
    refine g_loop (σ := Int × Wd) (fun q => -1 ≤ q.1 ∧ q.1 ≤ 62 ∧ NS τ ad q.2 ∧ KN τ w q.2) (fun q => G E X 3 58 [some (.ref (ad 110)), some (.ref (wo ad j)), some (iI q.1)] [] q.2 0 0) (fun q => (q.1 + 1).toNat) ?_ (62, w47) ⟨by dsimp only; omega, by dsimp only; omega, hN, hK⟩
    clear hN hK ih
    rintro ⟨z, u5⟩ hqq ih
    obtain ⟨hz0, hz1, hN, hK⟩ := hqq
    dsimp only at hz0 hz1 hN hK ⊢
    obtain ⟨g5, hg51, hg52⟩ := hN.2.2
    refine g_iload_n C dX0_isReadFromBytes_58 rfl ?_
    refine g_if_lt (tgt := 88) C dX0_isReadFromBytes_59 (by decide) (by omega) (fun h59 => ?_) (fun h59 => ?_)
    · refine g_aload_n C dX0_isReadFromBytes_88 rfl ?_
      refine g_get (ci := 2) C rfl inTX0 0 (by decide) fl_RX0_12 rfl (hK.ob hN (t := 110) (by omega) hD) rfl dX0_isReadFromBytes_89 ?_
      refine g_aload_n C dX0_isReadFromBytes_92 rfl ?_
      refine g_callV C (s_X5_compareValue _ (hN.W (j := 0) (by omega)) (hN.W (j := j) (by omega))) (ci := 7) rfl (hN.W (j := 0) (by omega)).o rfl ml_RX0_139 im_yX5_compareValue se_RX5_yX5_compareValue in_RX5 co_yX5_compareValue hd_X5_compareValue rfl ⟨by omega, by omega⟩ rfl (Nat.le_of_ble_eq_true rfl) ⟨by omega, by omega⟩ dX0_isReadFromBytes_93 (fun v93 w93 hp93 => ?_)
      obtain ⟨⟨d93, rfl, hd93⟩, hw93⟩ := hp93
      subst w93
      refine g_if_ne (tgt := 103) C dX0_isReadFromBytes_96 (by decide) (by omega) (fun h96 => ?_) (fun h96 => ?_)
      · refine g_iconst C dX0_isReadFromBytes_103 ?_
        exact g_zreturn C hQ dX0_isReadFromBytes_104 rfl (by omega) (by omega) ⟨⟨_, rfl, by omega⟩, hN, hK⟩
      · refine g_iconst C dX0_isReadFromBytes_99 ?_
        refine g_goto (tgt := 104) C dX0_isReadFromBytes_100 (by decide) ?_
        exact g_zreturn C hQ dX0_isReadFromBytes_104 rfl (by omega) (by omega) ⟨⟨_, rfl, by omega⟩, hN, hK⟩
    · refine g_aload_n C dX0_isReadFromBytes_62 rfl ?_
      refine g_get (ci := 2) C rfl inTX0 0 (by decide) fl_RX0_12 rfl (hK.ob hN (t := 110) (by omega) hD) rfl dX0_isReadFromBytes_63 ?_
      refine g_sipush C dX0_isReadFromBytes_66 (by decide) ?_
      refine g_aload_n C dX0_isReadFromBytes_69 rfl ?_
      refine g_get (ci := 2) C rfl inTX0 4 (by decide) fl_RX0_27 rfl (hK.ob hN (t := 110) (by omega) hD) rfl dX0_isReadFromBytes_70 ?_
      refine g_iload_n C dX0_isReadFromBytes_73 rfl ?_
      refine g_baload C hg51 (by omega) dX0_isReadFromBytes_74 ?_
      refine g_sipush C dX0_isReadFromBytes_75 (by decide) ?_
      refine g_iand (z := g5 z.toNat % 2 ^ 8) C dX0_isReadFromBytes_78 (i_mask 8 (by omega) (by decide)) ?_
      have hm8 : 0 ≤ g5 z.toNat % 2 ^ 8 ∧ g5 z.toNat % 2 ^ 8 < 256 := ⟨Int.emod_nonneg _ (by decide), Int.emod_lt_of_pos _ (by decide)⟩
      refine g_callV C (s_X5_multiplySmall _ (hN.W (j := 0) (by omega)) (by_ := 256) (mo := g5 z.toNat % 2 ^ 8) (by omega) (by omega)) (ci := 7) rfl (hN.W (j := 0) (by omega)).o rfl ml_RX0_35 im_yX5_multiplySmall se_RX5_yX5_multiplySmall in_RX5 co_yX5_multiplySmall hd_X5_multiplySmall rfl ⟨by omega, by omega⟩ rfl (Nat.le_of_ble_eq_true rfl) ⟨by omega, by omega⟩ dX0_isReadFromBytes_79 (fun v79 w79 hp79 => ?_)
      obtain ⟨rfl, hws79, hfr79⟩ := hp79
      obtain ⟨hN79, hK79⟩ := hN.step (j := 0) (by omega) hws79 hfr79
      replace hK := hK.tr hK79
      replace hN := hN79
      refine g_iinc C dX0_isReadFromBytes_82 rfl (by decide) rfl ?_
      refine g_goto (tgt := 58) C dX0_isReadFromBytes_85 (by decide) ?_
      exact ih (z + -1, w79) ⟨by dsimp only; omega, by dsimp only; omega, hN, hK⟩ (by dsimp only; omega)
  · refine g_aload_n C dX0_isReadFromBytes_19 rfl ?_
    refine g_get (ci := 2) C rfl inTX0 4 (by decide) fl_RX0_27 rfl (hK.ob hN (t := 110) (by omega) hD) rfl dX0_isReadFromBytes_20 ?_
    refine g_iload_n C dX0_isReadFromBytes_23 rfl ?_
    refine g_aload_n C dX0_isReadFromBytes_24 rfl ?_
    refine g_get (ci := 2) C rfl inTX0 3 (by decide) fl_RX0_24 rfl (hK.ob hN (t := 110) (by omega) hD) rfl dX0_isReadFromBytes_25 ?_
    refine g_sipush C dX0_isReadFromBytes_28 (by decide) ?_
    refine g_callV C (s_X5_divideSmall _ (hN.W (j := 3) (by omega)) (y := 256) (by omega)) (ci := 7) rfl (hN.W (j := 3) (by omega)).o rfl ml_RX0_72 im_yX5_divideSmall se_RX5_yX5_divideSmall in_RX5 co_yX5_divideSmall hd_X5_divideSmall rfl ⟨by omega, by omega⟩ rfl (Nat.le_of_ble_eq_true rfl) ⟨by omega, by omega⟩ dX0_isReadFromBytes_31 (fun v31 w31 hp31 => ?_)
    obtain ⟨⟨d31, rfl, hd31⟩, hp31⟩ := hp31
    replace hp31 : True ∧ _ := ⟨trivial, hp31⟩
    obtain ⟨-, hws31, hfr31⟩ := hp31
    obtain ⟨hN31, hK31⟩ := hN.step (j := 3) (by omega) hws31 hfr31
    replace hK := hK.tr hK31
    replace hN := hN31
    obtain ⟨g3, hg31, hg32⟩ := hN.2.2
    obtain ⟨z34, hz34, -⟩ := b_nar (Int32.ofInt d31)
    obtain ⟨y35, hy35, hy351, hy352⟩ := b_nar (Int32.ofInt z34)
    refine g_i2b (z := z34) C dX0_isReadFromBytes_34 hz34 ?_
    refine g_bastore C hg31 (by omega) hy35 dX0_isReadFromBytes_35 ?_
    refine g_iinc C dX0_isReadFromBytes_36 rfl (by decide) rfl ?_
    refine g_goto (tgt := 10) C dX0_isReadFromBytes_39 (by decide) ?_
    have hb9 : bF (iup g3 i y35) := fun q => by
      unfold iup
      split
      · exact ⟨hy351, hy352⟩
      · exact hg32 q
    obtain ⟨hN9, hK9, -⟩ := hN.bytes hb9
    exact ih (i + 1, wset w31 (ad 340) (true, eB 63 (iup g3 i y35))) ⟨by dsimp only; omega, hN9, hK.tr hK9⟩ (by dsimp only; omega)
