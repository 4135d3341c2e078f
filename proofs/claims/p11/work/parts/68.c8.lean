/-! the class's cells: their addresses by tag -/
def wo (ad : Nat → Nat) (j : Nat) : Nat := ad (200 + 2 * j)
def wr (ad : Nat → Nat) (j : Nat) : Nat := ad (201 + 2 * j)
def NS (τ ad : Nat → Nat) (w : Wd) : Prop := (∀ t, 100 ≤ t → t ≤ 340 → τ (ad t) = t) ∧ (∀ j, j < 70 → WS w (wo ad j) (wr ad j)) ∧ ∃ g, w.2 (ad 340) = some (true, eB 63 g) ∧ bF g
/-- the number of Whole j -/
def NW (ad : Nat → Nat) (w : Wd) (j : Nat) (z : Int) : Prop := WA w (wo ad j) (wr ad j) z
/-- all but the desk's own numbers and bytes stay -/
def KN (τ : Nat → Nat) (w w' : Wd) : Prop := w.1 ≤ w'.1 ∧ ∀ a x, (τ a < 200 ∨ 208 ≤ τ a ∧ τ a < 340) → w.2 a = some x → w'.2 a = some x
/-- all but Whole j stays -/
def KJ (τ : Nat → Nat) (j : Nat) (w w' : Wd) : Prop := w.1 ≤ w'.1 ∧ ∀ a x, τ a ≠ 200 + 2 * j → τ a ≠ 201 + 2 * j → w.2 a = some x → w'.2 a = some x
theorem KN.rf (τ : Nat → Nat) (w : Wd) : KN τ w w := ⟨Nat.le_refl _, fun _ _ _ h => h⟩
theorem KN.tr {τ : Nat → Nat} {w u v : Wd} (h : KN τ w u) (g : KN τ u v) : KN τ w v := ⟨Nat.le_trans h.1 g.1, fun a x t e => g.2 a x t (h.2 a x t e)⟩
theorem KN.fr {τ : Nat → Nat} {w u : Wd} (h : Fr w u) (hw : wF w) : KN τ w u := ⟨h.1, fun a x _ e => by rw [h.2 a (hw a x e)]; exact e⟩
theorem KJ.kn {τ : Nat → Nat} {j : Nat} {w u : Wd} (h : KJ τ j w u) (hj : j < 4) : KN τ w u := ⟨h.1, fun a x q e => h.2 a x (by omega) (by omega) e⟩
theorem WS.o {w : Wd} {a r : Nat} (h : WS w a r) : w.2 a = some (true, eO 7 [.ref r, iI (h.choose_spec.choose : Nat), iI h.choose_spec.choose_spec.choose]) := h.choose_spec.choose_spec.choose_spec.1
theorem NS.t {τ ad : Nat → Nat} {w : Wd} (h : NS τ ad w) (t : Nat) (h1 : 100 ≤ t ∧ t ≤ 340) : τ (ad t) = t := h.1 t h1.1 h1.2
theorem NS.to {τ ad : Nat → Nat} {w : Wd} (h : NS τ ad w) {j : Nat} (hj : j < 70) : τ (wo ad j) = 200 + 2 * j := h.1 _ (by omega) (by omega)
theorem NS.tr {τ ad : Nat → Nat} {w : Wd} (h : NS τ ad w) {j : Nat} (hj : j < 70) : τ (wr ad j) = 201 + 2 * j := h.1 _ (by omega) (by omega)
theorem NS.W {τ ad : Nat → Nat} {w : Wd} (h : NS τ ad w) {j : Nat} (hj : j < 70) : WS w (wo ad j) (wr ad j) := h.2.1 j hj
theorem NS.ne {τ ad : Nat → Nat} {w : Wd} (h : NS τ ad w) {j k : Nat} (hj : j < 70) (hk : k < 70) (hjk : j ≠ k) : wr ad j ≠ wr ad k := fun e => by
  have h1 := h.tr hj
  have h2 := h.tr hk
  rw [e] at h1
  omega
theorem NS.neo {τ ad : Nat → Nat} {w : Wd} (h : NS τ ad w) {j k : Nat} (hj : j < 70) (hk : k < 70) (hjk : j ≠ k) : wo ad j ≠ wo ad k := fun e => by
  have h1 := h.to hj
  have h2 := h.to hk
  rw [e] at h1
  omega
theorem NS.inj {τ ad : Nat → Nat} {w : Wd} (h : NS τ ad w) {s t : Nat} (h1 : 100 ≤ s ∧ s ≤ 340) (h2 : 100 ≤ t ∧ t ≤ 340) (hn : s ≠ t) : ad s ≠ ad t := fun e => by
  have e1 := h.t s h1
  have e2 := h.t t h2
  rw [e] at e1
  omega
theorem NW.o {ad : Nat → Nat} {w : Wd} {j : Nat} {z : Int} (h : NW ad w j z) : w.2 (wo ad j) = some (true, eO 7 [.ref (wr ad j), iI ((WA.ws h).choose_spec.choose : Nat), iI (WA.ws h).choose_spec.choose_spec.choose]) := (WA.ws h).o
theorem NW.k {ad : Nat → Nat} {w w' : Wd} {j : Nat} {z : Int} (h : NW ad w j z) (h1 : ∀ x, w.2 (wo ad j) = some x → w'.2 (wo ad j) = some x) (h2 : ∀ x, w.2 (wr ad j) = some x → w'.2 (wr ad j) = some x) : NW ad w' j z := by
  obtain ⟨f, u, bl, e1, e2, e3⟩ := h
  exact ⟨f, u, bl, h1 _ e1, h2 _ e2, e3⟩
theorem NW.eq {ad : Nat → Nat} {w : Wd} {j : Nat} {x y : Int} (h : NW ad w j x) (e : x = y) : NW ad w j y := e ▸ h
theorem NW.cap {ad : Nat → Nat} {w : Wd} {j : Nat} {z : Int} (h : NW ad w j z) : aB z < B28 ^ 18 := WA.cap h
theorem KN.ob {τ ad : Nat → Nat} {w w' : Wd} (k : KN τ w w') (h : NS τ ad w') {t : Nat} (ht : 100 ≤ t ∧ t < 200) {x : WdE} (e : w.2 (ad t) = some x) : w'.2 (ad t) = some x := k.2 _ _ (by rw [h.t t (by omega)]; exact Or.inl ht.2) e
theorem KN.nw {τ ad : Nat → Nat} {w w' : Wd} (k : KN τ w w') (h : NS τ ad w') {j : Nat} (hj : 4 ≤ j ∧ j < 70) {z : Int} (e : NW ad w j z) : NW ad w' j z := e.k (fun x q => k.2 _ _ (by rw [h.to hj.2]; omega) q) (fun x q => k.2 _ _ (by rw [h.tr hj.2]; omega) q)
theorem KJ.nw {τ ad : Nat → Nat} {w w' : Wd} {j : Nat} (k : KJ τ j w w') (h : NS τ ad w) {i : Nat} (hi : i < 70) (hij : i ≠ j) {z : Int} (e : NW ad w i z) : NW ad w' i z := e.k (fun x q => k.2 _ _ (by rw [h.to hi]; omega) (by rw [h.to hi]; omega) q) (fun x q => k.2 _ _ (by rw [h.tr hi]; omega) (by rw [h.tr hi]; omega) q)
theorem KJ.ob {τ ad : Nat → Nat} {w w' : Wd} {j : Nat} (k : KJ τ j w w') (h : NS τ ad w) {t : Nat} (ht : 100 ≤ t ∧ t < 200) {x : WdE} (e : w.2 (ad t) = some x) : w'.2 (ad t) = some x := k.2 _ _ (by rw [h.t t (by omega)]; omega) (by rw [h.t t (by omega)]; omega) e
theorem NS.stepS {τ ad : Nat → Nat} {w w' : Wd} (h : NS τ ad w) {j : Nat} (hj : j < 70) (hs : WS w' (wo ad j) (wr ad j)) (hf : FrW w w' (wo ad j) (wr ad j)) : NS τ ad w' ∧ KJ τ j w w' := by
  obtain ⟨g, hg1, hg2⟩ := h.2.2
  refine ⟨⟨h.1, fun i hi => ?_, g, ?_, hg2⟩, ⟨Nat.le_of_eq hf.1.symm, fun a x t1 t2 e => ?_⟩⟩
  · by_cases q : i = j
    · rw [q]; exact hs
    · exact (h.W hi).fr2 (h.W hj) hf (h.ne hj hi (Ne.symm q))
  · rw [hf.2 (ad 340) (fun e => by have q1 := h.t 340 (by omega); have q2 := h.to hj; rw [e] at q1; omega) (fun e => by have q1 := h.t 340 (by omega); have q2 := h.tr hj; rw [e] at q1; omega)]
    exact hg1
  · rw [hf.2 a (fun q => t1 (by rw [q]; exact h.to hj)) (fun q => t2 (by rw [q]; exact h.tr hj))]
    exact e
theorem NS.step {τ ad : Nat → Nat} {w w' : Wd} (h : NS τ ad w) {j : Nat} (hj : j < 4) (hs : WS w' (wo ad j) (wr ad j)) (hf : FrW w w' (wo ad j) (wr ad j)) : NS τ ad w' ∧ KN τ w w' := by
  obtain ⟨h1, h2⟩ := h.stepS (by omega) hs hf
  exact ⟨h1, h2.kn hj⟩
theorem NS.stepV {τ ad : Nat → Nat} {w w' : Wd} (h : NS τ ad w) {j : Nat} (hj : j < 70) {z : Int} (hs : WA w' (wo ad j) (wr ad j) z) (hf : FrW w w' (wo ad j) (wr ad j)) : NS τ ad w' ∧ NW ad w' j z ∧ KJ τ j w w' := by
  obtain ⟨h1, h2⟩ := h.stepS hj hs.ws hf
  exact ⟨h1, hs, h2⟩
theorem NS.fr {τ ad : Nat → Nat} {w w' : Wd} (h : NS τ ad w) (hf : Fr w w') (hw : wF w) : NS τ ad w' := by
  obtain ⟨g, hg1, hg2⟩ := h.2.2
  refine ⟨h.1, fun i hi => ?_, g, ?_, hg2⟩
  · obtain ⟨f, u, bl, e1, e2, e3⟩ := h.W hi
    exact ⟨f, u, bl, by rw [hf.2 _ (hw _ _ e1)]; exact e1, by rw [hf.2 _ (hw _ _ e2)]; exact e2, e3⟩
  · rw [hf.2 _ (hw _ _ hg1)]; exact hg1
abbrev oD (ad : Nat → Nat) : Ent := eO 2 [.ref (wo ad 0), .ref (wo ad 1), .ref (wo ad 2), .ref (wo ad 3), .ref (ad 340)]
/-! bounds -/
def M125 : Int := 42535295865117307932921825928971026432
def M250 : Int := 1809251394333065553493296640760748560207343510400633813116524750123642650624
theorem B18 : B28 ^ 18 = 52374249726338269920211035149241586435466272736689036631732661889538140742474792878132321477214466514414186946040961136147476104734166288853256441430016 := by decide +kernel
theorem bd_m {x y : Int} (hx : aB x < M125) (hy : aB y < M125) : aB (x * y) < M250 ∧ aB x * aB y < M250 := by
  have h : aB x * aB y < M250 := by
    have h1 := Int.mul_le_mul (show aB x ≤ 42535295865117307932921825928971026431 by unfold M125 at hx; omega) (show aB y ≤ 42535295865117307932921825928971026431 by unfold M125 at hy; omega) (aB_0 y) (by decide)
    unfold M250
    omega
  exact ⟨by rw [aB_mul]; exact h, h⟩
theorem bd_p {x y : Int} (hx : aB x < M125) (hy : aB y < M125) : aB x * aB y < B28 ^ 18 := by
  have := (bd_m hx hy).2
  rw [B18]
  unfold M250 at this
  omega
theorem bd_s {z b : Int} (hz : aB z < M250) (hb : 0 ≤ b ∧ b ≤ 1000) : aB z * b < 2000 * M250 := by
  have h := Int.mul_le_mul (show aB z ≤ M250 by omega) hb.2 hb.1 (by decide)
  unfold M250 at h ⊢
  omega
theorem bd_b {z b : Int} (hz : aB z < M250) (hb : 0 ≤ b ∧ b ≤ 1000) : aB z * b + 0 < B28 ^ 18 := by
  have := bd_s hz hb
  rw [B18]
  unfold M250 at this
  omega
theorem aB_add (x y : Int) : aB (x + y) ≤ aB x + aB y := by unfold aB; split <;> split <;> split <;> omega
theorem bd_a {x z b : Int} (hx : aB x < M250) (hz : aB z < M250) (hb : 0 ≤ b ∧ b ≤ 1000) : aB x + aB (z * b + 0) < B28 ^ 18 := by
  have h := bd_s hz hb
  rw [Int.add_zero, aB_mul, aB_p hb.1, B18]
  unfold M250 at *
  omega
theorem bd_a2 {x z : Int} (hx : aB x < M250) (hz : aB z < M250) : aB x + aB z < B28 ^ 18 := by
  rw [B18]
  unfold M250 at *
  omega
set_option maxHeartbeats 4000000 in
set_option maxRecDepth 100000 in
theorem s_X0_norm (l : Launch) {E : GE} {w : Wd} {τ ad : Nat → Nat} (hN0 : NS τ ad w) (hD : w.2 (ad 110) = some (true, oD ad)) {b : Int} (hb : 0 ≤ b ∧ b ≤ 1000) {j : Nat} (hj : 4 ≤ j ∧ j < 70) {k : Nat} (hk : 4 ≤ k ∧ k < 70) {x y : Int} (fx : NW ad w j x) (bx : aB x < M125) (fy : NW ad w k y) (by_ : aB y < M125) : Sp E l yX0_norm cX0_norm 4 (some (.object "Rootwalk$Whole")) 3 (0) (0) [.ref (ad 110), iI b, .ref (wo ad j), .ref (wo ad k)] w (fun r' w' => r' = some (.ref (wo ad 1)) ∧ NW ad w' 1 (x * x - b * (y * y)) ∧ NS τ ad w' ∧ KN τ w w') := by
  refine sp_intro [some (.ref (ad 110)), some (iI b), some (.ref (wo ad j)), some (.ref (wo ad k))] rfl (Nat.le_of_ble_eq_true rfl) pn_X0 ?_
  intro X C hRm hl hnm hQ
  obtain ⟨hRf, hRl, hRc, hRs⟩ := hRm
  refine g_wf (fun hwf => ?_)
  have hN := hN0
  have hK : KN τ w w := KN.rf _ _
  refine g_aload_n C dX0_norm_0 rfl ?_
  refine g_get (ci := 2) C rfl inTX0 0 (by decide) fl_RX0_12 rfl (hK.ob hN (t := 110) (by omega) hD) rfl dX0_norm_1 ?_
  refine g_aload_n C dX0_norm_4 rfl ?_
  refine g_aload_n C dX0_norm_5 rfl ?_
  refine g_callV C (v_X5_setProduct _ (hN.W (j := 0) (by omega)) fy fy (hN.ne (j := 0) (k := k) (by omega) (by omega) (by omega)) (hN.ne (j := 0) (k := k) (by omega) (by omega) (by omega)) (hN.neo (j := 0) (k := k) (by omega) (by omega) (by omega)) (hN.neo (j := 0) (k := k) (by omega) (by omega) (by omega)) (bd_p by_ by_)) (ci := 7) rfl (hN.W (j := 0) (by omega)).o rfl ml_RX0_31 im_yX5_setProduct se_RX5_yX5_setProduct in_RX5 co_yX5_setProduct hd_X5_setProduct rfl ⟨by omega, by omega⟩ rfl (Nat.le_of_ble_eq_true rfl) ⟨by omega, by omega⟩ dX0_norm_6 (fun v6 w6 hp6 => ?_)
  obtain ⟨rfl, hws6, hfr6⟩ := hp6
  obtain ⟨hN6, v6w, hkj6⟩ := hN.stepV (j := 0) (by omega) hws6 hfr6
  replace fx := hkj6.nw hN (by omega) (by omega) fx
  replace fy := hkj6.nw hN (by omega) (by omega) fy
  replace hK := hK.tr (hkj6.kn (by omega))
  replace hN := hN6
  have v0 := v6w
  refine g_aload_n C dX0_norm_9 rfl ?_
  refine g_get (ci := 2) C rfl inTX0 0 (by decide) fl_RX0_12 rfl (hK.ob hN (t := 110) (by omega) hD) rfl dX0_norm_10 ?_
  refine g_iload_n C dX0_norm_13 rfl ?_
  refine g_iconst C dX0_norm_14 ?_
  refine g_callV C (u_X5_multiplySmall _ v0 (by_ := b) (mo := 0) (by omega) (by omega) (Or.inr rfl) (bd_b (bd_m by_ by_).1 hb)) (ci := 7) rfl (hN.W (j := 0) (by omega)).o rfl ml_RX0_35 im_yX5_multiplySmall se_RX5_yX5_multiplySmall in_RX5 co_yX5_multiplySmall hd_X5_multiplySmall rfl ⟨by omega, by omega⟩ rfl (Nat.le_of_ble_eq_true rfl) ⟨by omega, by omega⟩ dX0_norm_15 (fun v15 w15 hp15 => ?_)
  obtain ⟨rfl, hws15, hfr15⟩ := hp15
  obtain ⟨hN15, v15w, hkj15⟩ := hN.stepV (j := 0) (by omega) hws15 hfr15
  replace fx := hkj15.nw hN (by omega) (by omega) fx
  replace fy := hkj15.nw hN (by omega) (by omega) fy
  replace hK := hK.tr (hkj15.kn (by omega))
  replace hN := hN15
  have v0 := v15w
  refine g_aload_n C dX0_norm_18 rfl ?_
  refine g_get (ci := 2) C rfl inTX0 1 (by decide) fl_RX0_18 rfl (hK.ob hN (t := 110) (by omega) hD) rfl dX0_norm_19 ?_
  refine g_aload_n C dX0_norm_22 rfl ?_
  refine g_aload_n C dX0_norm_23 rfl ?_
  refine g_callV C (v_X5_setProduct _ (hN.W (j := 1) (by omega)) fx fx (hN.ne (j := 1) (k := j) (by omega) (by omega) (by omega)) (hN.ne (j := 1) (k := j) (by omega) (by omega) (by omega)) (hN.neo (j := 1) (k := j) (by omega) (by omega) (by omega)) (hN.neo (j := 1) (k := j) (by omega) (by omega) (by omega)) (bd_p bx bx)) (ci := 7) rfl (hN.W (j := 1) (by omega)).o rfl ml_RX0_31 im_yX5_setProduct se_RX5_yX5_setProduct in_RX5 co_yX5_setProduct hd_X5_setProduct rfl ⟨by omega, by omega⟩ rfl (Nat.le_of_ble_eq_true rfl) ⟨by omega, by omega⟩ dX0_norm_24 (fun v24 w24 hp24 => ?_)
  obtain ⟨rfl, hws24, hfr24⟩ := hp24
  obtain ⟨hN24, v24w, hkj24⟩ := hN.stepV (j := 1) (by omega) hws24 hfr24
  replace fx := hkj24.nw hN (by omega) (by omega) fx
  replace fy := hkj24.nw hN (by omega) (by omega) fy
  replace v0 := hkj24.nw hN (by omega) (by omega) v0
  replace hK := hK.tr (hkj24.kn (by omega))
  replace hN := hN24
  have v1 := v24w
  refine g_aload_n C dX0_norm_27 rfl ?_
  refine g_get (ci := 2) C rfl inTX0 1 (by decide) fl_RX0_18 rfl (hK.ob hN (t := 110) (by omega) hD) rfl dX0_norm_28 ?_
  refine g_aload_n C dX0_norm_31 rfl ?_
  refine g_get (ci := 2) C rfl inTX0 0 (by decide) fl_RX0_12 rfl (hK.ob hN (t := 110) (by omega) hD) rfl dX0_norm_32 ?_
  refine g_iconst C dX0_norm_35 ?_
  refine g_callV C (c_X5_addOrTake _ v1 v0 (y := 1) (by omega) (hN.ne (j := 1) (k := 0) (by omega) (by omega) (by omega)) (hN.neo (j := 1) (k := 0) (by omega) (by omega) (by omega)) (bd_a (bd_m bx bx).1 (bd_m by_ by_).1 hb)) (ci := 7) rfl (hN.W (j := 1) (by omega)).o rfl ml_RX0_39 im_yX5_addOrTake se_RX5_yX5_addOrTake in_RX5 co_yX5_addOrTake hd_X5_addOrTake rfl ⟨by omega, by omega⟩ rfl (Nat.le_of_ble_eq_true rfl) ⟨by omega, by omega⟩ dX0_norm_36 (fun v36 w36 hp36 => ?_)
  obtain ⟨rfl, hws36, hfr36⟩ := hp36
  obtain ⟨hN36, v36w, hkj36⟩ := hN.stepV (j := 1) (by omega) hws36 hfr36
  replace fx := hkj36.nw hN (by omega) (by omega) fx
  replace fy := hkj36.nw hN (by omega) (by omega) fy
  replace v0 := hkj36.nw hN (by omega) (by omega) v0
  replace hK := hK.tr (hkj36.kn (by omega))
  replace hN := hN36
  have v1 := v36w
  refine g_aload_n C dX0_norm_39 rfl ?_
  refine g_get (ci := 2) C rfl inTX0 1 (by decide) fl_RX0_18 rfl (hK.ob hN (t := 110) (by omega) hD) rfl dX0_norm_40 ?_
  exact g_areturn C (Or.inl ⟨_, rfl⟩) hQ (Or.inr ⟨_, rfl⟩) dX0_norm_43 (by omega) (by omega) ⟨rfl, v1.eq (by rw [if1, Int.add_zero, Int.mul_comm (y * y)]), hN, hK⟩
set_option maxHeartbeats 4000000 in
set_option maxRecDepth 100000 in
theorem s_X0_cross (l : Launch) {E : GE} {w : Wd} {τ ad : Nat → Nat} (hN0 : NS τ ad w) (hD : w.2 (ad 110) = some (true, oD ad)) {i : Nat} (hi : 4 ≤ i ∧ i < 70) {j : Nat} (hj : 4 ≤ j ∧ j < 70) {k : Nat} (hk : 4 ≤ k ∧ k < 70) {m : Nat} (hm : 4 ≤ m ∧ m < 70) {x y u v : Int} (fx : NW ad w i x) (bx : aB x < M125) (fy : NW ad w j y) (by_ : aB y < M125) (fu : NW ad w k u) (bu : aB u < M125) (fv : NW ad w m v) (bv : aB v < M125) : Sp E l yX0_cross cX0_cross 5 (some (.object "Rootwalk$Whole")) 3 (0) (0) [.ref (ad 110), .ref (wo ad i), .ref (wo ad j), .ref (wo ad k), .ref (wo ad m)] w (fun r' w' => r' = some (.ref (wo ad 0)) ∧ NW ad w' 0 (x * v - u * y) ∧ NS τ ad w' ∧ KN τ w w') := by
  refine sp_intro [some (.ref (ad 110)), some (.ref (wo ad i)), some (.ref (wo ad j)), some (.ref (wo ad k)), some (.ref (wo ad m))] rfl (Nat.le_of_ble_eq_true rfl) pn_X0 ?_
  intro X C hRm hl hnm hQ
  obtain ⟨hRf, hRl, hRc, hRs⟩ := hRm
  refine g_wf (fun hwf => ?_)
  have hN := hN0
  have hK : KN τ w w := KN.rf _ _
  refine g_aload_n C dX0_cross_0 rfl ?_
  refine g_get (ci := 2) C rfl inTX0 0 (by decide) fl_RX0_12 rfl (hK.ob hN (t := 110) (by omega) hD) rfl dX0_cross_1 ?_
  refine g_aload_n C dX0_cross_4 rfl ?_
  refine g_aload C dX0_cross_5 rfl ?_
  refine g_callV C (v_X5_setProduct _ (hN.W (j := 0) (by omega)) fx fv (hN.ne (j := 0) (k := i) (by omega) (by omega) (by omega)) (hN.ne (j := 0) (k := m) (by omega) (by omega) (by omega)) (hN.neo (j := 0) (k := i) (by omega) (by omega) (by omega)) (hN.neo (j := 0) (k := m) (by omega) (by omega) (by omega)) (bd_p bx bv)) (ci := 7) rfl (hN.W (j := 0) (by omega)).o rfl ml_RX0_31 im_yX5_setProduct se_RX5_yX5_setProduct in_RX5 co_yX5_setProduct hd_X5_setProduct rfl ⟨by omega, by omega⟩ rfl (Nat.le_of_ble_eq_true rfl) ⟨by omega, by omega⟩ dX0_cross_7 (fun v7 w7 hp7 => ?_)
  obtain ⟨rfl, hws7, hfr7⟩ := hp7
  obtain ⟨hN7, v7w, hkj7⟩ := hN.stepV (j := 0) (by omega) hws7 hfr7
  replace fx := hkj7.nw hN (by omega) (by omega) fx
  replace fy := hkj7.nw hN (by omega) (by omega) fy
  replace fu := hkj7.nw hN (by omega) (by omega) fu
  replace fv := hkj7.nw hN (by omega) (by omega) fv
  replace hK := hK.tr (hkj7.kn (by omega))
  replace hN := hN7
  have v0 := v7w
  refine g_aload_n C dX0_cross_10 rfl ?_
  refine g_get (ci := 2) C rfl inTX0 1 (by decide) fl_RX0_18 rfl (hK.ob hN (t := 110) (by omega) hD) rfl dX0_cross_11 ?_
  refine g_aload_n C dX0_cross_14 rfl ?_
  refine g_aload_n C dX0_cross_15 rfl ?_
  refine g_callV C (v_X5_setProduct _ (hN.W (j := 1) (by omega)) fu fy (hN.ne (j := 1) (k := k) (by omega) (by omega) (by omega)) (hN.ne (j := 1) (k := j) (by omega) (by omega) (by omega)) (hN.neo (j := 1) (k := k) (by omega) (by omega) (by omega)) (hN.neo (j := 1) (k := j) (by omega) (by omega) (by omega)) (bd_p bu by_)) (ci := 7) rfl (hN.W (j := 1) (by omega)).o rfl ml_RX0_31 im_yX5_setProduct se_RX5_yX5_setProduct in_RX5 co_yX5_setProduct hd_X5_setProduct rfl ⟨by omega, by omega⟩ rfl (Nat.le_of_ble_eq_true rfl) ⟨by omega, by omega⟩ dX0_cross_16 (fun v16 w16 hp16 => ?_)
  obtain ⟨rfl, hws16, hfr16⟩ := hp16
  obtain ⟨hN16, v16w, hkj16⟩ := hN.stepV (j := 1) (by omega) hws16 hfr16
  replace fx := hkj16.nw hN (by omega) (by omega) fx
  replace fy := hkj16.nw hN (by omega) (by omega) fy
  replace fu := hkj16.nw hN (by omega) (by omega) fu
  replace fv := hkj16.nw hN (by omega) (by omega) fv
  replace v0 := hkj16.nw hN (by omega) (by omega) v0
  replace hK := hK.tr (hkj16.kn (by omega))
  replace hN := hN16
  have v1 := v16w
  refine g_aload_n C dX0_cross_19 rfl ?_
  refine g_get (ci := 2) C rfl inTX0 0 (by decide) fl_RX0_12 rfl (hK.ob hN (t := 110) (by omega) hD) rfl dX0_cross_20 ?_
  refine g_aload_n C dX0_cross_23 rfl ?_
  refine g_get (ci := 2) C rfl inTX0 1 (by decide) fl_RX0_18 rfl (hK.ob hN (t := 110) (by omega) hD) rfl dX0_cross_24 ?_
  refine g_iconst C dX0_cross_27 ?_
  refine g_callV C (c_X5_addOrTake _ v0 v1 (y := 1) (by omega) (hN.ne (j := 0) (k := 1) (by omega) (by omega) (by omega)) (hN.neo (j := 0) (k := 1) (by omega) (by omega) (by omega)) (bd_a2 (bd_m bx bv).1 (bd_m bu by_).1)) (ci := 7) rfl (hN.W (j := 0) (by omega)).o rfl ml_RX0_39 im_yX5_addOrTake se_RX5_yX5_addOrTake in_RX5 co_yX5_addOrTake hd_X5_addOrTake rfl ⟨by omega, by omega⟩ rfl (Nat.le_of_ble_eq_true rfl) ⟨by omega, by omega⟩ dX0_cross_28 (fun v28 w28 hp28 => ?_)
  obtain ⟨rfl, hws28, hfr28⟩ := hp28
  obtain ⟨hN28, v28w, hkj28⟩ := hN.stepV (j := 0) (by omega) hws28 hfr28
  replace fx := hkj28.nw hN (by omega) (by omega) fx
  replace fy := hkj28.nw hN (by omega) (by omega) fy
  replace fu := hkj28.nw hN (by omega) (by omega) fu
  replace fv := hkj28.nw hN (by omega) (by omega) fv
  replace v1 := hkj28.nw hN (by omega) (by omega) v1
  replace hK := hK.tr (hkj28.kn (by omega))
  replace hN := hN28
  have v0 := v28w
  refine g_aload_n C dX0_cross_31 rfl ?_
  refine g_get (ci := 2) C rfl inTX0 0 (by decide) fl_RX0_12 rfl (hK.ob hN (t := 110) (by omega) hD) rfl dX0_cross_32 ?_
  exact g_areturn C (Or.inl ⟨_, rfl⟩) hQ (Or.inr ⟨_, rfl⟩) dX0_cross_35 (by omega) (by omega) ⟨rfl, v0.eq (if1 _ _), hN, hK⟩
theorem red_lt {x y : Int} (hx : 0 ≤ x) (hy : 0 < y) (cx : aB x < B28 ^ 18) (cy : aB y < B28 ^ 18) (h : hiB (aB x) 504 + 1 - (hiB (aB y) 504 + 1) < 0) : x < y := by
  have h1 := bits_lt cx
  obtain ⟨q, q1, q2, q3, q4⟩ := bits_ge cy (by rw [aB_p (by omega)]; exact hy)
  have h0 := (bits_r (z := x)).1
  have := p2_le (show (hiB (aB x) 504 + 1).toNat ≤ q by omega)
  rw [aB_p hx] at *
  rw [aB_p (by omega)] at *
  omega
theorem red_b {x y : Int} {G : Nat} (hy : 0 < y) (cx : aB x < B28 ^ 18) (cy : aB y < B28 ^ 18) (h : hiB (aB x) 504 + 1 - (hiB (aB y) 504 + 1) = G) : y * 2 ^ G < B28 ^ 18 ∧ aB x < y * 2 ^ (G + 1) := by
  have h1 := bits_lt cx
  obtain ⟨q, q1, q2, q3, q4⟩ := bits_ge cy (by rw [aB_p (by omega)]; exact hy)
  have h0 := bits_r (z := x)
  rw [aB_p (show 0 ≤ y by omega)] at q1 q3 q4 h
  have hg := p2_pos G
  have e : (hiB (aB x) 504 + 1).toNat = q + 1 + G := by omega
  rw [e] at h1
  constructor
  · have a1 := Int.mul_lt_mul_of_pos_right q4 hg
    rw [← Int.pow_add] at a1
    have := p2_le (show q + 1 + G ≤ 504 by omega)
    rw [← p504]
    omega
  · have a1 := Int.mul_le_mul_of_nonneg_right q3 (Int.le_of_lt (p2_pos (G + 1)))
    rw [← Int.pow_add, show q + (G + 1) = q + 1 + G by omega] at a1
    omega
set_option maxHeartbeats 4000000 in
set_option maxRecDepth 100000 in
theorem s_X0_reduce (l : Launch) {E : GE} {w : Wd} {τ ad : Nat → Nat} (hN0 : NS τ ad w) (hD : w.2 (ad 110) = some (true, oD ad)) {j k : Nat} (hj : j < 4 ∧ j ≠ 2) (hk : k < 70 ∧ k ≠ 2) (hjk : j ≠ k) {x y : Int} (fx : NW ad w j x) (fy : NW ad w k y) (hx : 0 ≤ x) (hy : 0 ≤ y) : Sp E l yX0_reduce cX0_reduce 7 (some .long) 2 (0) (0) [.ref (ad 110), .ref (wo ad j), .ref (wo ad k)] w (fun r' w' => r' = some (jJ (x / y)) ∧ NS τ ad w' ∧ KN τ w w' ∧ NW ad w' j (x % y) ∧ NW ad w' k y) := by
  refine sp_intro [some (.ref (ad 110)), some (.ref (wo ad j)), some (.ref (wo ad k)), none, none, none, none] rfl (Nat.le_of_ble_eq_true rfl) pn_X0 ?_
  intro X C hRm hl hnm hQ
  obtain ⟨hRf, hRl, hRc, hRs⟩ := hRm
  refine g_wf (fun hwf => ?_)
  have hN := hN0
  have hK : KN τ w w := KN.rf _ _
  refine g_aload_n C dX0_reduce_0 rfl ?_
  refine g_callV C (u_X5_bits _ fx ) (ci := 7) rfl (hN.W (j := j) (by omega)).o rfl ml_RX0_55 im_yX5_bits se_RX5_yX5_bits in_RX5 co_yX5_bits hd_X5_bits rfl ⟨by omega, by omega⟩ rfl (Nat.le_of_ble_eq_true rfl) ⟨by omega, by omega⟩ dX0_reduce_1 (fun v1 w1 hp1 => ?_)
  obtain ⟨rfl, hw1⟩ := hp1
  subst w1
  refine g_aload_n C dX0_reduce_4 rfl ?_
  refine g_callV C (u_X5_bits _ fy ) (ci := 7) rfl (hN.W (j := k) (by omega)).o rfl ml_RX0_55 im_yX5_bits se_RX5_yX5_bits in_RX5 co_yX5_bits hd_X5_bits rfl ⟨by omega, by omega⟩ rfl (Nat.le_of_ble_eq_true rfl) ⟨by omega, by omega⟩ dX0_reduce_5 (fun v5 w5 hp5 => ?_)
  obtain ⟨rfl, hw5⟩ := hp5
  subst w5
  refine g_isub C dX0_reduce_8 ?_
  refine g_istore_n C dX0_reduce_9 (by decide) rfl ?_
  refine g_aload_n C dX0_reduce_10 rfl ?_
  refine g_callV C (c_X5_isZero _ fy ) (ci := 7) rfl (hN.W (j := k) (by omega)).o rfl ml_RX0_47 im_yX5_isZero se_RX5_yX5_isZero in_RX5 co_yX5_isZero hd_X5_isZero rfl ⟨by omega, by omega⟩ rfl (Nat.le_of_ble_eq_true rfl) ⟨by omega, by omega⟩ dX0_reduce_11 (fun v11 w11 hp11 => ?_)
  obtain ⟨rfl, hw11⟩ := hp11
  subst w11
  refine g_if_ne (tgt := 21) C dX0_reduce_14 (by decide) (bI_r _) (fun h14 => ?_) (fun h14 => ?_)
  · refine g_lconst (z := 0) C dX0_reduce_21 (by decide) ?_
    exact g_lreturn C hQ dX0_reduce_22 (Nat.le_refl _) (Nat.le_refl _) (by
      first
      | (have hyz := bI_1 h14
         subst hyz
         exact ⟨by rw [Int.ediv_zero], hN, hK, fx.eq (by rw [Int.emod_zero]), fy⟩)
      | (have hyz := bI_0 (Classical.not_not.mp h14)
         have hlt := red_lt hx (show 0 < y by omega) fx.cap fy.cap (by omega)
         exact ⟨by rw [Int.ediv_eq_zero_of_lt hx hlt], hN, hK, fx.eq (by rw [Int.emod_eq_of_lt hx hlt]), fy⟩))
  · refine g_iload_n C dX0_reduce_17 rfl ?_
    refine g_if_ge (tgt := 23) C dX0_reduce_18 (by decide) (by have := bits_r (z := x); have := bits_r (z := y); omega) (fun h18 => ?_) (fun h18 => ?_)
    · have hy1 : 0 < y := by have := bI_0 (Classical.not_not.mp h14); omega
      obtain ⟨Gp, hG⟩ : ∃ Gp : Nat, hiB (aB x) 504 + 1 - (hiB (aB y) 504 + 1) = (((Gp + 1 : Nat) : Int) - 1) := ⟨(hiB (aB x) 504 + 1 - (hiB (aB y) 504 + 1)).toNat, by omega⟩
      obtain ⟨rb1, rb2⟩ := red_b (G := Gp) hy1 fx.cap fy.cap (by omega)
      rw [aB_p hx] at rb2
      have hG9 : Gp ≤ 504 := by have := bits_r (z := x); have := bits_r (z := y); omega
      rw [hG]
      refine g_lconst (z := 0) C dX0_reduce_23 (by decide) ?_
      refine g_lstore C dX0_reduce_24 (by decide) rfl ?_
      refine g_aload_n C dX0_reduce_26 rfl ?_
      refine g_get (ci := 2) C rfl inTX0 2 (by decide) fl_RX0_21 rfl (hK.ob hN (t := 110) (by omega) hD) rfl dX0_reduce_27 ?_
      refine g_aload_n C dX0_reduce_30 rfl ?_
      refine g_callV C (v_X5_setWhole _ (hN.W (j := 2) (by omega)) fy (hN.ne (j := 2) (k := k) (by omega) (by omega) (by omega))) (ci := 7) rfl (hN.W (j := 2) (by omega)).o rfl ml_RX0_43 im_yX5_setWhole se_RX5_yX5_setWhole in_RX5 co_yX5_setWhole hd_X5_setWhole rfl ⟨by omega, by omega⟩ rfl (Nat.le_of_ble_eq_true rfl) ⟨by omega, by omega⟩ dX0_reduce_31 (fun v31 w31 hp31 => ?_)
      obtain ⟨rfl, hws31, hfr31⟩ := hp31
      obtain ⟨hN31, v31w, hkj31⟩ := hN.stepV (j := 2) (by omega) hws31 hfr31
      replace fx := hkj31.nw hN (by omega) (by omega) fx
      replace fy := hkj31.nw hN (by omega) (by omega) fy
      replace hK := hK.tr (hkj31.kn (by omega))
      replace hN := hN31
      have fs := v31w
      refine g_aload_n C dX0_reduce_34 rfl ?_
      refine g_get (ci := 2) C rfl inTX0 2 (by decide) fl_RX0_21 rfl (hK.ob hN (t := 110) (by omega) hD) rfl dX0_reduce_35 ?_
      refine g_iload_n C dX0_reduce_38 rfl ?_
      rw [show (((Gp + 1 : Nat) : Int) - 1) = ((Gp : Nat) : Int) by omega]
      refine g_callV C (u_X5_shiftUp _ fs (mn := Gp) (by omega) hy1 rb1) (ci := 7) rfl (hN.W (j := 2) (by omega)).o rfl ml_RX0_59 im_yX5_shiftUp se_RX5_yX5_shiftUp in_RX5 co_yX5_shiftUp hd_X5_shiftUp rfl ⟨by omega, by omega⟩ rfl (Nat.le_of_ble_eq_true rfl) ⟨by omega, by omega⟩ dX0_reduce_39 (fun v39 w39 hp39 => ?_)
      obtain ⟨rfl, hws39, hfr39⟩ := hp39
      obtain ⟨hN39, v39w, hkj39⟩ := hN.stepV (j := 2) (by omega) hws39 hfr39
      replace fx := hkj39.nw hN (by omega) (by omega) fx
      replace fy := hkj39.nw hN (by omega) (by omega) fy
      replace hK := hK.tr (hkj39.kn (by omega))
      replace hN := hN39
      have fs := v39w
      rw [show ((Gp : Nat) : Int) = (((Gp + 1 : Nat) : Int) - 1) by omega]
      refine g_iload_n C dX0_reduce_42 rfl ?_
      refine g_istore C dX0_reduce_43 (by decide) rfl ?_
      clear hN0
      refine g_loop (σ := Nat × Int × Int × Int × Wd) (fun s => s.1 ≤ Gp + 1 ∧ (1 ≤ s.1 → s.2.2.2.1 = y * 2 ^ (s.1 - 1)) ∧ 0 ≤ s.2.2.1 ∧ s.2.2.1 < y * 2 ^ s.1 ∧ x = s.2.1 * (2 ^ s.1 * y) + s.2.2.1 ∧ NS τ ad s.2.2.2.2 ∧ KN τ w s.2.2.2.2 ∧ NW ad s.2.2.2.2 2 s.2.2.2.1 ∧ NW ad s.2.2.2.2 j s.2.2.1 ∧ NW ad s.2.2.2.2 k y) (fun s => G E X 7 45 [some (.ref (ad 110)), some (.ref (wo ad j)), some (.ref (wo ad k)), some (iI (((Gp + 1 : Nat) : Int) - 1)), some (jJ s.2.1), none, some (iI (((s.1 : Nat) : Int) - 1))] [] s.2.2.2.2 0 0) (fun s => s.1) ?_ (Gp + 1, 0, x, y * 2 ^ Gp, w39) ⟨by dsimp only; omega, fun _ => rfl, hx, rb2, by show x = 0 * _ + x; rw [Int.zero_mul, Int.zero_add], hN, hK, fs, fx, fy⟩
      clear hN hK fs fx fy
      rintro ⟨t, q, n, sv, u⟩ hqq ih
      obtain ⟨ht, hsv, hn0, hn1, hxe, hN, hK, fs, fn, fy⟩ := hqq
      dsimp only at ht hsv hn0 hn1 hxe hN hK fs fn fy ⊢
      refine g_iload C dX0_reduce_45 rfl ?_
      refine g_if_lt (tgt := 98) C dX0_reduce_47 (by decide) (by omega) (fun h47 => ?_) (fun h47 => ?_)
      · refine g_lload C dX0_reduce_98 rfl ?_
        exact g_lreturn C hQ dX0_reduce_100 (Nat.le_refl _) (Nat.le_refl _) (by
          have ht0 : t = 0 := by omega
          subst ht0
          rw [Int.pow_zero, Int.mul_one] at hn1
          rw [Int.pow_zero, Int.one_mul] at hxe
          have hdv : x / y = q ∧ x % y = n := by
            have e1 : x = n + y * q := by rw [hxe, Int.mul_comm]; omega
            constructor
            · rw [e1, Int.add_mul_ediv_left _ _ (by omega), Int.ediv_eq_zero_of_lt hn0 hn1, Int.zero_add]
            · rw [e1, Int.add_mul_emod_self_left, Int.emod_eq_of_lt hn0 hn1]
          rw [hdv.1, hdv.2]
          exact ⟨rfl, hN, hK, fn, fy⟩)
      · obtain ⟨s, rfl⟩ : ∃ s, t = s + 1 := ⟨t - 1, by omega⟩
        have hsv2 := hsv (by omega)
        rw [Nat.add_sub_cancel] at hsv2
        have ps := p2_pos s
        have hys : 0 < y * 2 ^ s := Int.mul_pos hy1 ps
        rw [Int.pow_succ] at hn1 hxe
        have hn2 : y * (2 ^ s * 2) = y * 2 ^ s * 2 := by rw [Int.mul_assoc]
        have J83 : ∀ (q n : Int) (u : Wd), NS τ ad u → KN τ w u → NW ad u 2 sv → NW ad u j n → NW ad u k y → 0 ≤ n → n < sv → x = q * (2 ^ s * y) + n → G E X 7 83 [some (.ref (ad 110)), some (.ref (wo ad j)), some (.ref (wo ad k)), some (iI (((Gp + 1 : Nat) : Int) - 1)), some (jJ q), none, some (iI (((s + 1 : Nat) : Int) - 1))] [] u 0 0 := by
          clear hN hK fs fn fy hn0 hn1 hxe
          intro q n u hN hK fs fn fy hn0 hn1 hxe
          refine g_aload_n C dX0_reduce_83 rfl ?_
          refine g_get (ci := 2) C rfl inTX0 2 (by decide) fl_RX0_21 rfl (hK.ob hN (t := 110) (by omega) hD) rfl dX0_reduce_84 ?_
          refine g_iconst C dX0_reduce_87 ?_
          refine g_callV C (u_X5_divideSmall _ fs (y := 2) (by omega)) (ci := 7) rfl (hN.W (j := 2) (by omega)).o rfl ml_RX0_72 im_yX5_divideSmall se_RX5_yX5_divideSmall in_RX5 co_yX5_divideSmall hd_X5_divideSmall rfl ⟨by omega, by omega⟩ rfl (Nat.le_of_ble_eq_true rfl) ⟨by omega, by omega⟩ dX0_reduce_88 (fun v88 w88 hp88 => ?_)
          obtain ⟨d88, q88, rfl, d88a, d88b, hws88, q88a, q88b, q88c, hfr88⟩ := hp88
          obtain ⟨hN88, v88w, hkj88⟩ := hN.stepV (j := 2) (by omega) hws88 hfr88
          replace fn := hkj88.nw hN (by omega) (by omega) fn
          replace fy := hkj88.nw hN (by omega) (by omega) fy
          replace hK := hK.tr (hkj88.kn (by omega))
          replace hN := hN88
          have fs := v88w
          refine g_pop C dX0_reduce_91 rfl ?_
          refine g_iinc C dX0_reduce_92 rfl (by decide) rfl ?_
          refine g_goto (tgt := 45) C dX0_reduce_95 (by decide) ?_
          have e88 : 1 ≤ s → q88 = y * 2 ^ (s - 1) := fun c => by
            obtain ⟨v, rfl⟩ : ∃ v, s = v + 1 := ⟨s - 1, by omega⟩
            rw [Nat.add_sub_cancel]
            have e1 := q88b (by omega)
            rw [Int.pow_succ] at hsv2
            have e2 : y * (2 ^ v * 2) = y * 2 ^ v * 2 := by rw [Int.mul_assoc]
            rw [aB_p e1, aB_p (show 0 ≤ sv by omega)] at q88a
            omega
          rw [show (((s + 1 : Nat) : Int) - 1 + -1) = ((s : Nat) : Int) - 1 by omega]
          exact ih (s, q, n, q88, w88) ⟨by dsimp only; omega, e88, hn0, by dsimp only; omega, hxe, hN, hK, fs, fn, fy⟩ (by dsimp only; omega)
        refine g_lload C dX0_reduce_50 rfl ?_
        refine g_ldc2 (z := 2) C kj_RX0_63 (by decide) dX0_reduce_52 ?_
        refine g_lmul C dX0_reduce_55 ?_
        refine g_lstore C dX0_reduce_56 (by decide) rfl ?_
        refine g_aload_n C dX0_reduce_58 rfl ?_
        refine g_aload_n C dX0_reduce_59 rfl ?_
        refine g_get (ci := 2) C rfl inTX0 2 (by decide) fl_RX0_21 rfl (hK.ob hN (t := 110) (by omega) hD) rfl dX0_reduce_60 ?_
        refine g_callV C (u_X5_compareSize _ fn fs) (ci := 7) rfl (hN.W (j := j) (by omega)).o rfl ml_RX0_65 im_yX5_compareSize se_RX5_yX5_compareSize in_RX5 co_yX5_compareSize hd_X5_compareSize rfl ⟨by omega, by omega⟩ rfl (Nat.le_of_ble_eq_true rfl) ⟨by omega, by omega⟩ dX0_reduce_63 (fun v63 w63 hp63 => ?_)
        obtain ⟨⟨d63, rfl, hd63⟩, hw63⟩ := hp63
        subst w63
        rw [aB_p hn0, aB_p (show 0 ≤ sv by omega)] at hd63
        refine g_if_lt (tgt := 83) C dX0_reduce_66 (by decide) (by omega) (fun h66 => ?_) (fun h66 => ?_)
        · first
          | exact J83 _ _ _ hN hK fs fn fy (by omega) (by omega) (by rw [hxe, hsv2]; grind)
          | exact J83 _ _ _ hN hK fs fn fy hn0 (by omega) (by rw [hxe]; grind)
        · refine g_aload_n C dX0_reduce_69 rfl ?_
          refine g_aload_n C dX0_reduce_70 rfl ?_
          refine g_get (ci := 2) C rfl inTX0 2 (by decide) fl_RX0_21 rfl (hK.ob hN (t := 110) (by omega) hD) rfl dX0_reduce_71 ?_
          refine g_callV C (u_X5_takeSize _ fn fs (hN.ne (j := j) (k := 2) (by omega) (by omega) (by omega)) (by omega) (by omega)) (ci := 7) rfl (hN.W (j := j) (by omega)).o rfl ml_RX0_69 im_yX5_takeSize se_RX5_yX5_takeSize in_RX5 co_yX5_takeSize hd_X5_takeSize rfl ⟨by omega, by omega⟩ rfl (Nat.le_of_ble_eq_true rfl) ⟨by omega, by omega⟩ dX0_reduce_74 (fun v74 w74 hp74 => ?_)
          obtain ⟨rfl, hws74, hfr74⟩ := hp74
          obtain ⟨hN74, v74w, hkj74⟩ := hN.stepV (j := j) (by omega) hws74 hfr74
          replace fs := hkj74.nw hN (by omega) (by omega) fs
          replace fy := hkj74.nw hN (by omega) (by omega) fy
          have hK74 : KN τ u w74 := hkj74.kn (by omega)
          replace hK := hK.tr hK74
          replace hN := hN74
          have fn := v74w
          refine g_lload C dX0_reduce_77 rfl ?_
          refine g_lconst (z := 1) C dX0_reduce_79 (by decide) ?_
          refine g_ladd C dX0_reduce_80 ?_
          refine g_lstore C dX0_reduce_81 (by decide) rfl ?_
          first
          | exact J83 _ _ _ hN hK fs fn fy (by omega) (by omega) (by rw [hxe, hsv2]; grind)
          | exact J83 _ _ _ hN hK fs fn fy hn0 (by omega) (by rw [hxe]; grind)
    · refine g_lconst (z := 0) C dX0_reduce_21 (by decide) ?_
      exact g_lreturn C hQ dX0_reduce_22 (Nat.le_refl _) (Nat.le_refl _) (by
        first
        | (have hyz := bI_1 h14
           subst hyz
           exact ⟨by rw [Int.ediv_zero], hN, hK, fx.eq (by rw [Int.emod_zero]), fy⟩)
        | (have hyz := bI_0 (Classical.not_not.mp h14)
           have hlt := red_lt hx (show 0 < y by omega) fx.cap fy.cap (by omega)
           exact ⟨by rw [Int.ediv_eq_zero_of_lt hx hlt], hN, hK, fx.eq (by rw [Int.emod_eq_of_lt hx hlt]), fy⟩))
theorem eu_step {X Y z1 z2 : Int} {i : Nat} (hX : 0 < X) (hY : 0 < Y) (h : X * Y * 2 ^ i ≤ 2 * (z1 * z2)) (hi : i = 0 ∧ X = z1 ∧ Y = z2 ∨ Y < X) : Y * (X % Y) * 2 ^ (i + 1) ≤ 2 * (z1 * z2) := by
  have h1 := Int.emod_nonneg X (show Y ≠ 0 by omega)
  have h2 := Int.emod_lt_of_pos X hY
  have e := Int.mul_ediv_add_emod X Y
  have pi := p2_pos i
  rw [Int.pow_succ]
  rcases Int.lt_or_le X Y with c | c
  · rcases hi with ⟨q1, q2, q3⟩ | q
    · subst q1 q2 q3
      rw [Int.emod_eq_of_lt (by omega) c, Int.pow_zero, Int.one_mul, Int.mul_comm Y X, Int.mul_comm 2]
      omega
    · omega
  · have hq : 1 ≤ X / Y := Int.le_ediv_of_mul_le hY (by omega)
    have hq2 : Y * 1 ≤ Y * (X / Y) := Int.mul_le_mul_of_nonneg_left hq (by omega)
    have h3 : X % Y * 2 ≤ X := by omega
    have h4 : Y * (X % Y * 2) ≤ Y * X := Int.mul_le_mul_of_nonneg_left h3 (by omega)
    have h5 := Int.mul_le_mul_of_nonneg_right h4 (Int.le_of_lt pi)
    have e1 : Y * (X % Y) * (2 ^ i * 2) = Y * (X % Y * 2) * 2 ^ i := by grind
    have e2 : Y * X * 2 ^ i = X * Y * 2 ^ i := by grind
    omega
theorem eu_end {X Y z1 z2 : Int} {i : Nat} (hX : 0 < X) (hY : 0 ≤ Y) (h : X * Y * 2 ^ i ≤ 2 * (z1 * z2)) (h1 : aB z1 < M125) (h2 : aB z2 < M125) (p1 : 0 < z1) (p2 : 0 < z2) (hi : 1008 ≤ i) : Y = 0 := by
  rcases Int.lt_or_le 0 Y with c | c
  · exfalso
    have hb := (bd_m h1 h2).2
    rw [aB_p (by omega), aB_p (by omega)] at hb
    have a1 : 1 ≤ X * Y := Int.mul_pos hX c
    have a2 := Int.mul_le_mul_of_nonneg_right a1 (Int.le_of_lt (p2_pos i))
    have a3 := p2_le (show 251 ≤ i by omega)
    have a4 : (2 : Int) ^ 251 = 2 * M250 := by decide +kernel
    omega
  · omega
theorem dv_mod {X Y z1 z2 : Int} (h : dv X Y z1 z2) : dv Y (X % Y) z1 z2 := fun d a b => h d (by
  rw [← Int.mul_ediv_add_emod X Y]
  exact Int.dvd_add (Int.dvd_mul_of_dvd_left a) b) a
set_option maxHeartbeats 4000000 in
set_option maxRecDepth 100000 in
theorem s_X0_divisor (l : Launch) {E : GE} {w : Wd} {τ ad : Nat → Nat} (hN0 : NS τ ad w) (hD : w.2 (ad 110) = some (true, oD ad)) {j : Nat} (hj : 4 ≤ j ∧ j < 70) {k : Nat} (hk : 4 ≤ k ∧ k < 70) {x y : Int} (fx : NW ad w j x) (bx : aB x < M125) (fy : NW ad w k y) (by_ : aB y < M125) (px : 0 < x) (py : 0 < y) : Sp E l yX0_divisor cX0_divisor 7 (some (.object "Rootwalk$Whole")) 3 (0) (0) [.ref (ad 110), .ref (wo ad j), .ref (wo ad k)] w (fun r' w' => ∃ (g : Nat) (z : Int), r' = some (.ref (wo ad g)) ∧ g < 2 ∧ NW ad w' g z ∧ 0 < z ∧ z ∣ x ∧ z ∣ y ∧ NS τ ad w' ∧ KN τ w w') := by
  refine sp_intro [some (.ref (ad 110)), some (.ref (wo ad j)), some (.ref (wo ad k)), none, none, none, none] rfl (Nat.le_of_ble_eq_true rfl) pn_X0 ?_
  intro X C hRm hl hnm hQ
  obtain ⟨hRf, hRl, hRc, hRs⟩ := hRm
  refine g_wf (fun hwf => ?_)
  have hN := hN0
  have hK : KN τ w w := KN.rf _ _
  refine g_aload_n C dX0_divisor_0 rfl ?_
  refine g_get (ci := 2) C rfl inTX0 0 (by decide) fl_RX0_12 rfl (hK.ob hN (t := 110) (by omega) hD) rfl dX0_divisor_1 ?_
  refine g_aload_n C dX0_divisor_4 rfl ?_
  refine g_callV C (v_X5_setWhole _ (hN.W (j := 0) (by omega)) fx (hN.ne (j := 0) (k := j) (by omega) (by omega) (by omega))) (ci := 7) rfl (hN.W (j := 0) (by omega)).o rfl ml_RX0_43 im_yX5_setWhole se_RX5_yX5_setWhole in_RX5 co_yX5_setWhole hd_X5_setWhole rfl ⟨by omega, by omega⟩ rfl (Nat.le_of_ble_eq_true rfl) ⟨by omega, by omega⟩ dX0_divisor_5 (fun v5 w5 hp5 => ?_)
  obtain ⟨rfl, hws5, hfr5⟩ := hp5
  obtain ⟨hN5, v5w, hkj5⟩ := hN.stepV (j := 0) (by omega) hws5 hfr5
  replace fx := hkj5.nw hN (by omega) (by omega) fx
  replace fy := hkj5.nw hN (by omega) (by omega) fy
  replace hK := hK.tr (hkj5.kn (by omega))
  replace hN := hN5
  have v0 := v5w
  refine g_aload_n C dX0_divisor_8 rfl ?_
  refine g_get (ci := 2) C rfl inTX0 1 (by decide) fl_RX0_18 rfl (hK.ob hN (t := 110) (by omega) hD) rfl dX0_divisor_9 ?_
  refine g_aload_n C dX0_divisor_12 rfl ?_
  refine g_callV C (v_X5_setWhole _ (hN.W (j := 1) (by omega)) fy (hN.ne (j := 1) (k := k) (by omega) (by omega) (by omega))) (ci := 7) rfl (hN.W (j := 1) (by omega)).o rfl ml_RX0_43 im_yX5_setWhole se_RX5_yX5_setWhole in_RX5 co_yX5_setWhole hd_X5_setWhole rfl ⟨by omega, by omega⟩ rfl (Nat.le_of_ble_eq_true rfl) ⟨by omega, by omega⟩ dX0_divisor_13 (fun v13 w13 hp13 => ?_)
  obtain ⟨rfl, hws13, hfr13⟩ := hp13
  obtain ⟨hN13, v13w, hkj13⟩ := hN.stepV (j := 1) (by omega) hws13 hfr13
  replace fx := hkj13.nw hN (by omega) (by omega) fx
  replace fy := hkj13.nw hN (by omega) (by omega) fy
  replace v0 := hkj13.nw hN (by omega) (by omega) v0
  replace hK := hK.tr (hkj13.kn (by omega))
  replace hN := hN13
  have v1 := v13w
  refine g_aload_n C dX0_divisor_16 rfl ?_
  refine g_get (ci := 2) C rfl inTX0 0 (by decide) fl_RX0_12 rfl (hK.ob hN (t := 110) (by omega) hD) rfl dX0_divisor_17 ?_
  refine g_astore_n C dX0_divisor_20 (by decide) rfl ?_
  refine g_aload_n C dX0_divisor_21 rfl ?_
  refine g_get (ci := 2) C rfl inTX0 1 (by decide) fl_RX0_18 rfl (hK.ob hN (t := 110) (by omega) hD) rfl dX0_divisor_22 ?_
  refine g_astore C dX0_divisor_25 (by decide) rfl ?_
  refine g_iconst C dX0_divisor_27 ?_
  refine g_istore C dX0_divisor_28 (by decide) rfl ?_
  clear hN0
  refine g_loop (σ := Nat × Nat × Nat × Int × Int × Wd) (fun s => s.1 ≤ 1008 ∧ s.2.1 < 2 ∧ s.2.2.1 < 2 ∧ s.2.1 ≠ s.2.2.1 ∧ NS τ ad s.2.2.2.2.2 ∧ KN τ w s.2.2.2.2.2 ∧ NW ad s.2.2.2.2.2 s.2.1 s.2.2.2.1 ∧ NW ad s.2.2.2.2.2 s.2.2.1 s.2.2.2.2.1 ∧ 0 < s.2.2.2.1 ∧ 0 ≤ s.2.2.2.2.1 ∧ dv s.2.2.2.1 s.2.2.2.2.1 x y ∧ s.2.2.2.1 * s.2.2.2.2.1 * 2 ^ s.1 ≤ 2 * (x * y) ∧ (s.1 = 0 ∧ s.2.2.2.1 = x ∧ s.2.2.2.2.1 = y ∨ s.2.2.2.2.1 < s.2.2.2.1)) (fun s => G E X 7 30 [some (.ref (ad 110)), some (.ref (wo ad j)), some (.ref (wo ad k)), some (.ref (wo ad s.2.1)), some (.ref (wo ad s.2.2.1)), some (iI (s.1 : Int)), none] [] s.2.2.2.2.2 0 0) (fun s => 1008 - s.1) ?_ (0, 0, 1, x, y, w13) ⟨by dsimp only; omega, by dsimp only; omega, by dsimp only; omega, by dsimp only; omega, hN, hK, v0, v1, px, Int.le_of_lt py, fun d a b => ⟨a, b⟩, by
    show x * y * 2 ^ 0 ≤ _
    have := Int.mul_pos px py
    rw [Int.pow_zero]; omega, Or.inl ⟨rfl, rfl, rfl⟩⟩
  clear hN hK v0 v1 fx fy
  rintro ⟨i, g, l, Xv, Yv, u⟩ hqq ih
  obtain ⟨hi, hg, hl, hgl, hN, hK, fX, fY, hX0, hY0, hdv, hpr, hor⟩ := hqq
  dsimp only at hi hg hl hgl hN hK fX fY hX0 hY0 hdv hpr hor ⊢
  refine g_iload C dX0_divisor_30 rfl ?_
  refine g_sipush C dX0_divisor_32 (by decide) ?_
  refine g_icmp_ge (tgt := 70) C dX0_divisor_35 (by decide) (by omega) (by omega) (fun h35 => ?_) (fun h35 => ?_)
  · refine g_aload_n C dX0_divisor_70 rfl ?_
    exact g_areturn C (Or.inl ⟨_, rfl⟩) hQ (Or.inr ⟨_, rfl⟩) dX0_divisor_71 (by omega) (by omega) (by
      have hY9 : Yv = 0 := by
        first
        | exact bI_1 h43
        | exact eu_end hX0 hY0 hpr bx by_ px py (by omega)
      subst hY9
      obtain ⟨e1, e2⟩ := hdv Xv (Int.dvd_refl _) (Int.dvd_zero _)
      exact ⟨g, Xv, rfl, hg, fX, hX0, e1, e2, hN, hK⟩)
  · refine g_aload C dX0_divisor_38 rfl ?_
    refine g_callV C (c_X5_isZero _ fY ) (ci := 7) rfl (hN.W (j := l) (by omega)).o rfl ml_RX0_47 im_yX5_isZero se_RX5_yX5_isZero in_RX5 co_yX5_isZero hd_X5_isZero rfl ⟨by omega, by omega⟩ rfl (Nat.le_of_ble_eq_true rfl) ⟨by omega, by omega⟩ dX0_divisor_40 (fun v40 w40 hp40 => ?_)
    obtain ⟨rfl, hw40⟩ := hp40
    subst w40
    refine g_if_ne (tgt := 70) C dX0_divisor_43 (by decide) (bI_r _) (fun h43 => ?_) (fun h43 => ?_)
    · refine g_aload_n C dX0_divisor_70 rfl ?_
      exact g_areturn C (Or.inl ⟨_, rfl⟩) hQ (Or.inr ⟨_, rfl⟩) dX0_divisor_71 (by omega) (by omega) (by
        have hY9 : Yv = 0 := by
          first
          | exact bI_1 h43
          | exact eu_end hX0 hY0 hpr bx by_ px py (by omega)
        subst hY9
        obtain ⟨e1, e2⟩ := hdv Xv (Int.dvd_refl _) (Int.dvd_zero _)
        exact ⟨g, Xv, rfl, hg, fX, hX0, e1, e2, hN, hK⟩)
    · refine g_aload_n C dX0_divisor_46 rfl ?_
      refine g_aload_n C dX0_divisor_47 rfl ?_
      refine g_aload C dX0_divisor_48 rfl ?_
      refine g_callV C (s_X0_reduce _ hN (hK.ob hN (t := 110) (by omega) hD) (j := g) (k := l) (by omega) (by omega) hgl fX fY (by omega) (by omega)) (ci := 2) rfl (hK.ob hN (t := 110) (by omega) hD) rfl ml_RX0_51 im_yX0_reduce se_RX0_yX0_reduce in_RX0 co_yX0_reduce hd_X0_reduce rfl ⟨by omega, by omega⟩ rfl (Nat.le_of_ble_eq_true rfl) ⟨by omega, by omega⟩ dX0_divisor_50 (fun v50 w50 hp50 => ?_)
      obtain ⟨rfl, hN50, hK50, fX50, fY50⟩ := hp50
      replace hK := hK.tr hK50
      replace hN := hN50
      refine g_pop2L C dX0_divisor_53 rfl ?_
      refine g_aload_n C dX0_divisor_54 rfl ?_
      refine g_astore C dX0_divisor_55 (by decide) rfl ?_
      refine g_aload C dX0_divisor_57 rfl ?_
      refine g_astore_n C dX0_divisor_59 (by decide) rfl ?_
      refine g_aload C dX0_divisor_60 rfl ?_
      refine g_astore C dX0_divisor_62 (by decide) rfl ?_
      refine g_iinc C dX0_divisor_64 rfl (by decide) rfl ?_
      refine g_goto (tgt := 30) C dX0_divisor_67 (by decide) ?_
      refine g_drop 6 ?_
      have hY1 : 0 < Yv := by have := bI_0 (Classical.not_not.mp h43); omega
      rw [show (i : Int) + 1 = ((i + 1 : Nat) : Int) by omega]
      exact ih (i + 1, l, g, Yv, Xv % Yv, w50) ⟨by dsimp only; omega, hl, hg, Ne.symm hgl, hN, hK, fY50, fX50, hY1, Int.emod_nonneg _ (by omega), dv_mod hdv, eu_step hX0 hY1 hpr hor, Or.inr (Int.emod_lt_of_pos _ hY1)⟩ (by dsimp only; omega)
theorem bd_q {x : Int} {i : Nat} (h0 : 0 ≤ x) (hx : aB x < M125) (hi : i ≤ 16) : 0 ≤ x * 10 ^ i ∧ aB (x * 10 ^ i) * 10 + 0 < B28 ^ 18 := by
  rw [aB_p h0] at hx
  have p : (0 : Int) < 10 ^ i := Int.pow_pos (by decide)
  have e : (10 : Int) ^ 16 = 10 ^ i * 10 ^ (16 - i) := by rw [← Int.pow_add]; congr 1; omega
  have p2 : (1 : Int) ≤ 10 ^ (16 - i) := Int.pow_pos (n := 10) (by decide)
  have h1 := Int.mul_le_mul_of_nonneg_left p2 (Int.le_of_lt p)
  rw [← e, show (10 : Int) ^ 16 = 10000000000000000 by decide] at h1
  have h2 := Int.mul_nonneg h0 (Int.le_of_lt p)
  have h3 := Int.mul_le_mul (Int.le_of_lt hx) (show (10 : Int) ^ i ≤ 10000000000000000 by omega) (Int.le_of_lt p) (show 0 ≤ M125 by decide)
  refine ⟨h2, ?_⟩
  rw [aB_p h2, B18]
  unfold M125 at h3
  omega
set_option maxHeartbeats 4000000 in
set_option maxRecDepth 100000 in
theorem s_X0_quotient (l : Launch) {E : GE} {w : Wd} {τ ad : Nat → Nat} (hN0 : NS τ ad w) (hD : w.2 (ad 110) = some (true, oD ad)) {p : Nat} (hp : p ≤ 16) {j : Nat} (hj : 4 ≤ j ∧ j < 70) {k : Nat} (hk : 4 ≤ k ∧ k < 70) {x y : Int} (fx : NW ad w j x) (bx : aB x < M125) (fy : NW ad w k y) (px : 0 ≤ x) (py : 0 ≤ y) : Sp E l yX0_quotient cX0_quotient 5 (some .long) 3 (0) (0) [.ref (ad 110), .ref (wo ad j), .ref (wo ad k), iI (p : Int)] w (fun r' w' => r' = some (jJ (x * 10 ^ p / y)) ∧ NS τ ad w' ∧ KN τ w w') := by
  refine sp_intro [some (.ref (ad 110)), some (.ref (wo ad j)), some (.ref (wo ad k)), some (iI (p : Int)), none] rfl (Nat.le_of_ble_eq_true rfl) pn_X0 ?_
  intro X C hRm hl hnm hQ
  obtain ⟨hRf, hRl, hRc, hRs⟩ := hRm
  refine g_wf (fun hwf => ?_)
  have hN := hN0
  have hK : KN τ w w := KN.rf _ _
  refine g_aload_n C dX0_quotient_0 rfl ?_
  refine g_get (ci := 2) C rfl inTX0 0 (by decide) fl_RX0_12 rfl (hK.ob hN (t := 110) (by omega) hD) rfl dX0_quotient_1 ?_
  refine g_aload_n C dX0_quotient_4 rfl ?_
  refine g_callV C (v_X5_setWhole _ (hN.W (j := 0) (by omega)) fx (hN.ne (j := 0) (k := j) (by omega) (by omega) (by omega))) (ci := 7) rfl (hN.W (j := 0) (by omega)).o rfl ml_RX0_43 im_yX5_setWhole se_RX5_yX5_setWhole in_RX5 co_yX5_setWhole hd_X5_setWhole rfl ⟨by omega, by omega⟩ rfl (Nat.le_of_ble_eq_true rfl) ⟨by omega, by omega⟩ dX0_quotient_5 (fun v5 w5 hp5 => ?_)
  obtain ⟨rfl, hws5, hfr5⟩ := hp5
  obtain ⟨hN5, v5w, hkj5⟩ := hN.stepV (j := 0) (by omega) hws5 hfr5
  replace fx := hkj5.nw hN (by omega) (by omega) fx
  replace fy := hkj5.nw hN (by omega) (by omega) fy
  replace hK := hK.tr (hkj5.kn (by omega))
  replace hN := hN5
  have v0 := v5w
  refine g_iconst C dX0_quotient_8 ?_
  refine g_istore C dX0_quotient_9 (by decide) rfl ?_
  clear hN0
  refine g_loop (σ := Nat × Wd) (fun s => s.1 ≤ p ∧ NS τ ad s.2 ∧ KN τ w s.2 ∧ NW ad s.2 0 (x * 10 ^ s.1) ∧ NW ad s.2 k y) (fun s => G E X 5 11 [some (.ref (ad 110)), some (.ref (wo ad j)), some (.ref (wo ad k)), some (iI (p : Int)), some (iI (s.1 : Int))] [] s.2 0 0) (fun s => p - s.1) ?_ (0, w5) ⟨by dsimp only; omega, hN, hK, v0.eq (by rw [Int.pow_zero, Int.mul_one]), fy⟩
  clear hN hK v0 fx fy
  rintro ⟨i, u⟩ hqq ih
  obtain ⟨hi, hN, hK, v0, fy⟩ := hqq
  dsimp only at hi hN hK v0 fy ⊢
  obtain ⟨bq1, bq2⟩ := bd_q (i := i) px bx (by omega)
  refine g_iload C dX0_quotient_11 rfl ?_
  refine g_iload_n C dX0_quotient_13 rfl ?_
  refine g_icmp_ge (tgt := 33) C dX0_quotient_14 (by decide) (by omega) (by omega) (fun h14 => ?_) (fun h14 => ?_)
  · refine g_aload_n C dX0_quotient_33 rfl ?_
    refine g_aload_n C dX0_quotient_34 rfl ?_
    refine g_get (ci := 2) C rfl inTX0 0 (by decide) fl_RX0_12 rfl (hK.ob hN (t := 110) (by omega) hD) rfl dX0_quotient_35 ?_
    refine g_aload_n C dX0_quotient_38 rfl ?_
    refine g_callV C (s_X0_reduce _ hN (hK.ob hN (t := 110) (by omega) hD) (j := 0) (k := k) (by omega) (by omega) (by omega) v0 fy bq1 py) (ci := 2) rfl (hK.ob hN (t := 110) (by omega) hD) rfl ml_RX0_51 im_yX0_reduce se_RX0_yX0_reduce in_RX0 co_yX0_reduce hd_X0_reduce rfl ⟨by omega, by omega⟩ rfl (Nat.le_of_ble_eq_true rfl) ⟨by omega, by omega⟩ dX0_quotient_39 (fun v39 w39 hp39 => ?_)
    obtain ⟨rfl, hN39, hK39, -, -⟩ := hp39
    exact g_lreturn C hQ dX0_quotient_42 (Nat.le_refl _) (Nat.le_refl _) ⟨by rw [show i = p by omega], hN39, hK.tr hK39⟩
  · refine g_aload_n C dX0_quotient_17 rfl ?_
    refine g_get (ci := 2) C rfl inTX0 0 (by decide) fl_RX0_12 rfl (hK.ob hN (t := 110) (by omega) hD) rfl dX0_quotient_18 ?_
    refine g_bipush C dX0_quotient_21 (by decide) ?_
    refine g_iconst C dX0_quotient_23 ?_
    refine g_callV C (u_X5_multiplySmall _ v0 (by_ := 10) (mo := 0) (by omega) (by omega) (Or.inr rfl) bq2) (ci := 7) rfl (hN.W (j := 0) (by omega)).o rfl ml_RX0_35 im_yX5_multiplySmall se_RX5_yX5_multiplySmall in_RX5 co_yX5_multiplySmall hd_X5_multiplySmall rfl ⟨by omega, by omega⟩ rfl (Nat.le_of_ble_eq_true rfl) ⟨by omega, by omega⟩ dX0_quotient_24 (fun v24 w24 hp24 => ?_)
    obtain ⟨rfl, hws24, hfr24⟩ := hp24
    obtain ⟨hN24, v24w, hkj24⟩ := hN.stepV (j := 0) (by omega) hws24 hfr24
    replace fy := hkj24.nw hN (by omega) (by omega) fy
    replace hK := hK.tr (hkj24.kn (by omega))
    replace hN := hN24
    have v0 := v24w
    refine g_iinc C dX0_quotient_27 rfl (by decide) rfl ?_
    refine g_goto (tgt := 11) C dX0_quotient_30 (by decide) ?_
    rw [show (i : Int) + 1 = ((i + 1 : Nat) : Int) by omega]
    exact ih (i + 1, w24) ⟨by dsimp only; omega, hN, hK, v0.eq (by rw [Int.pow_succ, Int.add_zero, Int.mul_assoc]), fy⟩ (by dsimp only; omega)
def M140 : Int := 1393796574908163946345982392040522594123776
theorem bd_w {N u n : Int} (hN : aB N ≤ 1000) (hu : aB u < M125) (hn : 0 ≤ n ∧ n ≤ 10) : aB (aB N) * aB u < B28 ^ 18 ∧ aB (aB N * u) * n + 0 < B28 ^ 18 ∧ aB (aB N * u * n + 0) ≤ 10000 * M125 := by
  have h0 := aB_0 N
  have h1 := Int.mul_le_mul hN (Int.le_of_lt hu) (aB_0 u) (by decide)
  have h2 := Int.mul_le_mul h1 hn.2 hn.1 (by decide)
  have e : aB (aB N) = aB N := aB_p h0
  refine ⟨?_, ?_, ?_⟩
  · rw [e, B18]; unfold M125 at h1; omega
  · rw [aB_mul, e, B18]; unfold M125 at h2; omega
  · rw [Int.add_zero, aB_mul, aB_mul, e, aB_p hn.1]; omega
theorem bd_w2 {F x : Int} (hF : aB F ≤ 10000 * M125) (hx : aB x < M125) : aB F + aB x < B28 ^ 18 ∧ aB (F - x) < M140 := by
  have := aB_add F (-x)
  rw [aB_neg, ← Int.sub_eq_add_neg] at this
  refine ⟨?_, ?_⟩
  · rw [B18]; unfold M125 at *; omega
  · unfold M140; unfold M125 at *; omega
theorem bd_w3 {F : Int} (hF : aB F < M140) : aB F * aB F < B28 ^ 18 := by
  have h := Int.mul_le_mul (Int.le_of_lt hF) (Int.le_of_lt hF) (aB_0 F) (show 0 ≤ M140 by decide)
  rw [B18]
  unfold M140 at h
  omega
set_option maxHeartbeats 4000000 in
set_option maxRecDepth 100000 in
theorem s_X0_isWithin (l : Launch) {E : GE} {w : Wd} {τ ad : Nat → Nat} (hN0 : NS τ ad w) (hD : w.2 (ad 110) = some (true, oD ad)) {b n : Int} (hb : 0 ≤ b ∧ b ≤ 1000) (hn : 0 ≤ n ∧ n ≤ 10) {j : Nat} (hj : 4 ≤ j ∧ j < 70) {k : Nat} (hk : 4 ≤ k ∧ k < 70) {m : Nat} (hm : 4 ≤ m ∧ m < 70) {x y u : Int} (fx : NW ad w j x) (bx : aB x < M125) (fy : NW ad w k y) (by_ : aB y < M125) (fu : NW ad w m u) (bu : aB u < M125) (bN : aB (x * x - b * (y * y)) ≤ 1000) : Sp E l yX0_isWithin cX0_isWithin 7 (some .boolean) 4 (0) (0) [.ref (ad 110), iI b, .ref (wo ad j), .ref (wo ad k), .ref (wo ad m), iI n] w (fun r' w' => r' = some (iI (bI (aB (x * x - b * (y * y)) * u * n - x < 0 ∨ (aB (x * x - b * (y * y)) * u * n - x) * (aB (x * x - b * (y * y)) * u * n - x) < y * y * b))) ∧ NS τ ad w' ∧ KN τ w w') := by
  refine sp_intro [some (.ref (ad 110)), some (iI b), some (.ref (wo ad j)), some (.ref (wo ad k)), some (.ref (wo ad m)), some (iI n), none] rfl (Nat.le_of_ble_eq_true rfl) pn_X0 ?_
  intro X C hRm hl hnm hQ
  obtain ⟨hRf, hRl, hRc, hRs⟩ := hRm
  refine g_wf (fun hwf => ?_)
  have hN := hN0
  have hK : KN τ w w := KN.rf _ _
  refine g_aload_n C dX0_isWithin_0 rfl ?_
  refine g_iload_n C dX0_isWithin_1 rfl ?_
  refine g_aload_n C dX0_isWithin_2 rfl ?_
  refine g_aload_n C dX0_isWithin_3 rfl ?_
  refine g_callV C (s_X0_norm _ hN hD (b := b) hb (j := j) (k := k) hj hk fx bx fy by_) (ci := 2) rfl hD rfl ml_RX0_76 im_yX0_norm se_RX0_yX0_norm in_RX0 co_yX0_norm hd_X0_norm rfl ⟨by omega, by omega⟩ rfl (Nat.le_of_ble_eq_true rfl) ⟨by omega, by omega⟩ dX0_isWithin_4 (fun v4 w4 hp4 => ?_)
  obtain ⟨rfl, v1, hN4, hK4⟩ := hp4
  replace hK := hK.tr hK4
  replace hN := hN4
  replace fx := hK4.nw hN hj fx
  replace fy := hK4.nw hN hk fy
  replace fu := hK4.nw hN hm fu
  generalize hNv : x * x - b * (y * y) = Nv at v1 bN
  obtain ⟨w1, w2, w3⟩ := bd_w bN bu hn
  obtain ⟨w4, w5⟩ := bd_w2 w3 bx
  refine g_astore C dX0_isWithin_7 (by decide) rfl ?_
  refine g_aload C dX0_isWithin_9 rfl ?_
  refine g_callV C (c_X5_makeSize _ v1 ) (ci := 7) rfl (hN.W (j := 1) (by omega)).o rfl ml_RX0_80 im_yX5_makeSize se_RX5_yX5_makeSize in_RX5 co_yX5_makeSize hd_X5_makeSize rfl ⟨by omega, by omega⟩ rfl (Nat.le_of_ble_eq_true rfl) ⟨by omega, by omega⟩ dX0_isWithin_11 (fun v11 w11 hp11 => ?_)
  obtain ⟨rfl, hws11, hfr11⟩ := hp11
  obtain ⟨hN11, v11w, hkj11⟩ := hN.stepV (j := 1) (by omega) hws11 hfr11
  replace fx := hkj11.nw hN (by omega) (by omega) fx
  replace fy := hkj11.nw hN (by omega) (by omega) fy
  replace fu := hkj11.nw hN (by omega) (by omega) fu
  replace hK := hK.tr (hkj11.kn (by omega))
  replace hN := hN11
  have v1 := v11w
  refine g_aload_n C dX0_isWithin_14 rfl ?_
  refine g_get (ci := 2) C rfl inTX0 0 (by decide) fl_RX0_12 rfl (hK.ob hN (t := 110) (by omega) hD) rfl dX0_isWithin_15 ?_
  refine g_aload C dX0_isWithin_18 rfl ?_
  refine g_aload C dX0_isWithin_20 rfl ?_
  refine g_callV C (v_X5_setProduct _ (hN.W (j := 0) (by omega)) v1 fu (hN.ne (j := 0) (k := 1) (by omega) (by omega) (by omega)) (hN.ne (j := 0) (k := m) (by omega) (by omega) (by omega)) (hN.neo (j := 0) (k := 1) (by omega) (by omega) (by omega)) (hN.neo (j := 0) (k := m) (by omega) (by omega) (by omega)) w1) (ci := 7) rfl (hN.W (j := 0) (by omega)).o rfl ml_RX0_31 im_yX5_setProduct se_RX5_yX5_setProduct in_RX5 co_yX5_setProduct hd_X5_setProduct rfl ⟨by omega, by omega⟩ rfl (Nat.le_of_ble_eq_true rfl) ⟨by omega, by omega⟩ dX0_isWithin_22 (fun v22 w22 hp22 => ?_)
  obtain ⟨rfl, hws22, hfr22⟩ := hp22
  obtain ⟨hN22, v22w, hkj22⟩ := hN.stepV (j := 0) (by omega) hws22 hfr22
  replace fx := hkj22.nw hN (by omega) (by omega) fx
  replace fy := hkj22.nw hN (by omega) (by omega) fy
  replace fu := hkj22.nw hN (by omega) (by omega) fu
  replace v1 := hkj22.nw hN (by omega) (by omega) v1
  replace hK := hK.tr (hkj22.kn (by omega))
  replace hN := hN22
  have v0 := v22w
  refine g_aload_n C dX0_isWithin_25 rfl ?_
  refine g_get (ci := 2) C rfl inTX0 0 (by decide) fl_RX0_12 rfl (hK.ob hN (t := 110) (by omega) hD) rfl dX0_isWithin_26 ?_
  refine g_iload C dX0_isWithin_29 rfl ?_
  refine g_iconst C dX0_isWithin_31 ?_
  refine g_callV C (u_X5_multiplySmall _ v0 (by_ := n) (mo := 0) (by omega) (by omega) (Or.inr rfl) w2) (ci := 7) rfl (hN.W (j := 0) (by omega)).o rfl ml_RX0_35 im_yX5_multiplySmall se_RX5_yX5_multiplySmall in_RX5 co_yX5_multiplySmall hd_X5_multiplySmall rfl ⟨by omega, by omega⟩ rfl (Nat.le_of_ble_eq_true rfl) ⟨by omega, by omega⟩ dX0_isWithin_32 (fun v32 w32 hp32 => ?_)
  obtain ⟨rfl, hws32, hfr32⟩ := hp32
  obtain ⟨hN32, v32w, hkj32⟩ := hN.stepV (j := 0) (by omega) hws32 hfr32
  replace fx := hkj32.nw hN (by omega) (by omega) fx
  replace fy := hkj32.nw hN (by omega) (by omega) fy
  replace fu := hkj32.nw hN (by omega) (by omega) fu
  replace v1 := hkj32.nw hN (by omega) (by omega) v1
  replace hK := hK.tr (hkj32.kn (by omega))
  replace hN := hN32
  have v0 := v32w
  refine g_aload_n C dX0_isWithin_35 rfl ?_
  refine g_get (ci := 2) C rfl inTX0 0 (by decide) fl_RX0_12 rfl (hK.ob hN (t := 110) (by omega) hD) rfl dX0_isWithin_36 ?_
  refine g_aload_n C dX0_isWithin_39 rfl ?_
  refine g_iconst C dX0_isWithin_40 ?_
  refine g_callV C (c_X5_addOrTake _ v0 fx (y := 1) (by omega) (hN.ne (j := 0) (k := j) (by omega) (by omega) (by omega)) (hN.neo (j := 0) (k := j) (by omega) (by omega) (by omega)) w4) (ci := 7) rfl (hN.W (j := 0) (by omega)).o rfl ml_RX0_39 im_yX5_addOrTake se_RX5_yX5_addOrTake in_RX5 co_yX5_addOrTake hd_X5_addOrTake rfl ⟨by omega, by omega⟩ rfl (Nat.le_of_ble_eq_true rfl) ⟨by omega, by omega⟩ dX0_isWithin_41 (fun v41 w41 hp41 => ?_)
  obtain ⟨rfl, hws41, hfr41⟩ := hp41
  obtain ⟨hN41, v41w, hkj41⟩ := hN.stepV (j := 0) (by omega) hws41 hfr41
  replace fx := hkj41.nw hN (by omega) (by omega) fx
  replace fy := hkj41.nw hN (by omega) (by omega) fy
  replace fu := hkj41.nw hN (by omega) (by omega) fu
  replace v1 := hkj41.nw hN (by omega) (by omega) v1
  replace hK := hK.tr (hkj41.kn (by omega))
  replace hN := hN41
  have v0 := v41w
  replace v0 := v0.eq (if1 _ _)
  rw [Int.add_zero] at v0 w5
  refine g_aload_n C dX0_isWithin_44 rfl ?_
  refine g_get (ci := 2) C rfl inTX0 0 (by decide) fl_RX0_12 rfl (hK.ob hN (t := 110) (by omega) hD) rfl dX0_isWithin_45 ?_
  refine g_callV C (c_X5_isBelow _ v0 ) (ci := 7) rfl (hN.W (j := 0) (by omega)).o rfl ml_RX0_83 im_yX5_isBelow se_RX5_yX5_isBelow in_RX5 co_yX5_isBelow hd_X5_isBelow rfl ⟨by omega, by omega⟩ rfl (Nat.le_of_ble_eq_true rfl) ⟨by omega, by omega⟩ dX0_isWithin_48 (fun v48 w48 hp48 => ?_)
  obtain ⟨rfl, hw48⟩ := hp48
  subst w48
  refine g_if_eq (tgt := 56) C dX0_isWithin_51 (by decide) (bI_r _) (fun h51 => ?_) (fun h51 => ?_)
  · refine g_aload_n C dX0_isWithin_56 rfl ?_
    refine g_get (ci := 2) C rfl inTX0 1 (by decide) fl_RX0_18 rfl (hK.ob hN (t := 110) (by omega) hD) rfl dX0_isWithin_57 ?_
    refine g_aload_n C dX0_isWithin_60 rfl ?_
    refine g_get (ci := 2) C rfl inTX0 0 (by decide) fl_RX0_12 rfl (hK.ob hN (t := 110) (by omega) hD) rfl dX0_isWithin_61 ?_
    refine g_aload_n C dX0_isWithin_64 rfl ?_
    refine g_get (ci := 2) C rfl inTX0 0 (by decide) fl_RX0_12 rfl (hK.ob hN (t := 110) (by omega) hD) rfl dX0_isWithin_65 ?_
    refine g_callV C (v_X5_setProduct _ (hN.W (j := 1) (by omega)) v0 v0 (hN.ne (j := 1) (k := 0) (by omega) (by omega) (by omega)) (hN.ne (j := 1) (k := 0) (by omega) (by omega) (by omega)) (hN.neo (j := 1) (k := 0) (by omega) (by omega) (by omega)) (hN.neo (j := 1) (k := 0) (by omega) (by omega) (by omega)) (bd_w3 w5)) (ci := 7) rfl (hN.W (j := 1) (by omega)).o rfl ml_RX0_31 im_yX5_setProduct se_RX5_yX5_setProduct in_RX5 co_yX5_setProduct hd_X5_setProduct rfl ⟨by omega, by omega⟩ rfl (Nat.le_of_ble_eq_true rfl) ⟨by omega, by omega⟩ dX0_isWithin_68 (fun v68 w68 hp68 => ?_)
    obtain ⟨rfl, hws68, hfr68⟩ := hp68
    obtain ⟨hN68, v68w, hkj68⟩ := hN.stepV (j := 1) (by omega) hws68 hfr68
    replace fx := hkj68.nw hN (by omega) (by omega) fx
    replace fy := hkj68.nw hN (by omega) (by omega) fy
    replace fu := hkj68.nw hN (by omega) (by omega) fu
    replace v0 := hkj68.nw hN (by omega) (by omega) v0
    replace hK := hK.tr (hkj68.kn (by omega))
    replace hN := hN68
    have v1 := v68w
    refine g_aload_n C dX0_isWithin_71 rfl ?_
    refine g_get (ci := 2) C rfl inTX0 2 (by decide) fl_RX0_21 rfl (hK.ob hN (t := 110) (by omega) hD) rfl dX0_isWithin_72 ?_
    refine g_aload_n C dX0_isWithin_75 rfl ?_
    refine g_aload_n C dX0_isWithin_76 rfl ?_
    refine g_callV C (v_X5_setProduct _ (hN.W (j := 2) (by omega)) fy fy (hN.ne (j := 2) (k := k) (by omega) (by omega) (by omega)) (hN.ne (j := 2) (k := k) (by omega) (by omega) (by omega)) (hN.neo (j := 2) (k := k) (by omega) (by omega) (by omega)) (hN.neo (j := 2) (k := k) (by omega) (by omega) (by omega)) (bd_p by_ by_)) (ci := 7) rfl (hN.W (j := 2) (by omega)).o rfl ml_RX0_31 im_yX5_setProduct se_RX5_yX5_setProduct in_RX5 co_yX5_setProduct hd_X5_setProduct rfl ⟨by omega, by omega⟩ rfl (Nat.le_of_ble_eq_true rfl) ⟨by omega, by omega⟩ dX0_isWithin_77 (fun v77 w77 hp77 => ?_)
    obtain ⟨rfl, hws77, hfr77⟩ := hp77
    obtain ⟨hN77, v77w, hkj77⟩ := hN.stepV (j := 2) (by omega) hws77 hfr77
    replace fx := hkj77.nw hN (by omega) (by omega) fx
    replace fy := hkj77.nw hN (by omega) (by omega) fy
    replace fu := hkj77.nw hN (by omega) (by omega) fu
    replace v0 := hkj77.nw hN (by omega) (by omega) v0
    replace v1 := hkj77.nw hN (by omega) (by omega) v1
    replace hK := hK.tr (hkj77.kn (by omega))
    replace hN := hN77
    have v2 := v77w
    refine g_aload_n C dX0_isWithin_80 rfl ?_
    refine g_get (ci := 2) C rfl inTX0 2 (by decide) fl_RX0_21 rfl (hK.ob hN (t := 110) (by omega) hD) rfl dX0_isWithin_81 ?_
    refine g_iload_n C dX0_isWithin_84 rfl ?_
    refine g_iconst C dX0_isWithin_85 ?_
    refine g_callV C (u_X5_multiplySmall _ v2 (by_ := b) (mo := 0) (by omega) (by omega) (Or.inr rfl) (bd_b (bd_m by_ by_).1 hb)) (ci := 7) rfl (hN.W (j := 2) (by omega)).o rfl ml_RX0_35 im_yX5_multiplySmall se_RX5_yX5_multiplySmall in_RX5 co_yX5_multiplySmall hd_X5_multiplySmall rfl ⟨by omega, by omega⟩ rfl (Nat.le_of_ble_eq_true rfl) ⟨by omega, by omega⟩ dX0_isWithin_86 (fun v86 w86 hp86 => ?_)
    obtain ⟨rfl, hws86, hfr86⟩ := hp86
    obtain ⟨hN86, v86w, hkj86⟩ := hN.stepV (j := 2) (by omega) hws86 hfr86
    replace fx := hkj86.nw hN (by omega) (by omega) fx
    replace fy := hkj86.nw hN (by omega) (by omega) fy
    replace fu := hkj86.nw hN (by omega) (by omega) fu
    replace v0 := hkj86.nw hN (by omega) (by omega) v0
    replace v1 := hkj86.nw hN (by omega) (by omega) v1
    replace hK := hK.tr (hkj86.kn (by omega))
    replace hN := hN86
    have v2 := v86w
    refine g_aload_n C dX0_isWithin_89 rfl ?_
    refine g_get (ci := 2) C rfl inTX0 1 (by decide) fl_RX0_18 rfl (hK.ob hN (t := 110) (by omega) hD) rfl dX0_isWithin_90 ?_
    refine g_aload_n C dX0_isWithin_93 rfl ?_
    refine g_get (ci := 2) C rfl inTX0 2 (by decide) fl_RX0_21 rfl (hK.ob hN (t := 110) (by omega) hD) rfl dX0_isWithin_94 ?_
    refine g_callV C (u_X5_compareSize _ v1 v2) (ci := 7) rfl (hN.W (j := 1) (by omega)).o rfl ml_RX0_65 im_yX5_compareSize se_RX5_yX5_compareSize in_RX5 co_yX5_compareSize hd_X5_compareSize rfl ⟨by omega, by omega⟩ rfl (Nat.le_of_ble_eq_true rfl) ⟨by omega, by omega⟩ dX0_isWithin_97 (fun v97 w97 hp97 => ?_)
    obtain ⟨⟨d97, rfl, hd97⟩, hw97⟩ := hp97
    subst w97
    rw [Int.add_zero, aB_p (show 0 ≤ y * y * b from Int.mul_nonneg (by have := aB_sq y; have := Int.mul_nonneg (aB_0 y) (aB_0 y); omega) hb.1), aB_p (show 0 ≤ (aB Nv * u * n - x) * (aB Nv * u * n - x) by have := aB_sq (aB Nv * u * n - x); have := Int.mul_nonneg (aB_0 (aB Nv * u * n - x)) (aB_0 (aB Nv * u * n - x)); omega)] at hd97
    refine g_if_ge (tgt := 107) C dX0_isWithin_100 (by decide) (by omega) (fun h100 => ?_) (fun h100 => ?_)
    · refine g_iconst C dX0_isWithin_107 ?_
      exact g_zreturn C hQ dX0_isWithin_108 rfl (Nat.le_refl _) (Nat.le_refl _) ⟨by
        have hlt := bI_0 h51
        rw [hNv]
        first
        | rw [bI_t (Or.inr (by omega))]
        | rw [bI_f (fun q => by rcases q with q | q <;> omega)], hN, hK⟩
    · refine g_iconst C dX0_isWithin_103 ?_
      refine g_goto (tgt := 108) C dX0_isWithin_104 (by decide) ?_
      exact g_zreturn C hQ dX0_isWithin_108 rfl (Nat.le_refl _) (Nat.le_refl _) ⟨by
        have hlt := bI_0 h51
        rw [hNv]
        first
        | rw [bI_t (Or.inr (by omega))]
        | rw [bI_f (fun q => by rcases q with q | q <;> omega)], hN, hK⟩
  · refine g_iconst C dX0_isWithin_54 ?_
    exact g_zreturn C hQ dX0_isWithin_55 rfl (Nat.le_refl _) (Nat.le_refl _) ⟨by rw [hNv, bI_t (Or.inl (bI_1 h51))], hN, hK⟩
