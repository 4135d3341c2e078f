/-! acts on pairs: what they leave -/
def ACTP (τ ad : Nat → Nat) (w' : Wd) (bs ss : Nat → Int) (pb : Nat → PT) (P Q : Nat → Nat) (ct : Nat → Int) (t : Nat) (D : PT) (c : Prop) (r' : Option Value) : Prop :=
  (¬ c ∧ r' = some (iI (-9)) ∧ ∃ pb', (∀ j, j < 3 → pb' j = pb j) ∧ CS τ ad w' bs ss pb' P Q (iup ct 3 (ct 3 + 1))) ∨ (c ∧ r' = some (iI (bI (¬ pb t = D))) ∧ ∃ pb', (∀ j, j < 3 → pb' j = pup pb t D j) ∧ CS τ ad w' bs ss pb' P Q (iup ct 1 (ct 1 + 1)))
theorem act_sm {τ ad : Nat → Nat} {w' : Wd} {bs ss : Nat → Int} {pb px : Nat → PT} {P Q : Nat → Nat} {ct : Nat → Int} {t : Nat} {D : PT} {v : Option Value} (hp : ∀ j, j < 3 → px j = pb j) (h3 : px 3 = D) (ht : t < 3)
    (h : (¬ sm (px 3) ∧ v = some (iI (-9)) ∧ CS τ ad w' (bs) (ss) (px) (P) (Q) (iup ct 3 (ct 3 + 1))) ∨ (sm (px 3) ∧ v = some (iI (bI (¬ px t = px 3))) ∧ CS τ ad w' (bs) (ss) (pup px t (px 3)) (P) (Q) (iup ct 1 (ct 1 + 1)))) {c : Prop} (hc : c ↔ sm D) : ACTP τ ad w' bs ss pb P Q ct t D c v := by
  rw [h3] at h
  rcases h with ⟨h1, h2, h4⟩ | ⟨h1, h2, h4⟩
  · exact Or.inl ⟨fun q => h1 (hc.mp q), h2, px, hp, h4⟩
  · refine Or.inr ⟨hc.mpr h1, ?_, _, fun j hj => ?_, h4⟩
    · rw [h2, hp t ht]
    · by_cases q : j = t
      · subst q; rw [pup_s, pup_s]
      · rw [pup_n q, pup_n q]; exact hp j hj
theorem act_v {τ ad : Nat → Nat} {w' : Wd} {bs ss : Nat → Int} {pb : Nat → PT} {P Q : Nat → Nat} {ct : Nat → Int} {t : Nat} {D : PT} {c : Prop} {v : Option Value} (h : ACTP τ ad w' bs ss pb P Q ct t D c v) : ∃ ans : Int, v = some (iI ans) := by
  rcases h with ⟨-, h, -⟩ | ⟨-, h, -⟩
  · exact ⟨_, h⟩
  · exact ⟨_, h⟩
theorem CS.lft {τ ad : Nat → Nat} {w w' : Wd} {bs ss : Nat → Int} {pb : Nat → PT} {P Q : Nat → Nat} {ct : Nat → Int} (h : CS τ ad w bs ss pb P Q ct) {i : Nat} (hi : i < 6 ∧ 3 ≤ i) {z : Int} (hw : WA w' (wo ad (4 + 2 * i)) (wr ad (4 + 2 * i)) z) (hf : FrW w w' (wo ad (4 + 2 * i)) (wr ad (4 + 2 * i))) : CS τ ad w' bs ss (pup pb i ((pb i).1, z, (pb i).2.2)) P Q ct ∧ KO τ w w' := by
  obtain ⟨h1, h2, h3⟩ := h.N.stepV (by omega) hw hf
  have k := h3.kx (i := i) (by omega)
  have hp := (h.P i hi.1)
  exact ⟨h.kx hi.1 k h1 ⟨h3.ob h.N (t := 140 + i) (by omega) hp.1.1, h2, h3.nw h.N (by omega) (by omega) hp.1.2.2⟩ hp.2.1 (fun q => by omega), k.kc (by omega)⟩
theorem CS.rgt {τ ad : Nat → Nat} {w w' : Wd} {bs ss : Nat → Int} {pb : Nat → PT} {P Q : Nat → Nat} {ct : Nat → Int} (h : CS τ ad w bs ss pb P Q ct) {i : Nat} (hi : i < 6 ∧ 3 ≤ i) {z : Int} (hw : WA w' (wo ad (5 + 2 * i)) (wr ad (5 + 2 * i)) z) (hf : FrW w w' (wo ad (5 + 2 * i)) (wr ad (5 + 2 * i))) : CS τ ad w' bs ss (pup pb i ((pb i).1, (pb i).2.1, z)) P Q ct ∧ KO τ w w' := by
  obtain ⟨h1, h2, h3⟩ := h.N.stepV (by omega) hw hf
  have k := h3.kx (i := i) (by omega)
  have hp := (h.P i hi.1)
  exact ⟨h.kx hi.1 k h1 ⟨h3.ob h.N (t := 140 + i) (by omega) hp.1.1, h3.nw h.N (by omega) (by omega) hp.1.2.1, h2⟩ hp.2.1 (fun q => by omega), k.kc (by omega)⟩
theorem pup_pp {f : Nat → PT} {i : Nat} {x y : PT} : pup (pup f i x) i y = pup f i y := by
  funext j
  unfold pup
  split <;> rfl
def powT (p : PT) (j : Nat) : PT := (p.1, (pw2 p.1 p.2.1 p.2.2 j).1, (pw2 p.1 p.2.1 p.2.2 j).2)
theorem powT_s (p : PT) (j : Nat) : mulP (powT p j) p = powT p (j + 1) := rfl
theorem sm_lg {p : PT} (h : sm p) : aB p.2.1 ≤ LGN ∧ aB p.2.2 ≤ LGN := by
  unfold sm at h
  omega
theorem powT_b {p : PT} (hb : 0 ≤ p.1 ∧ p.1 ≤ 99) (h : sm p) : ∀ j, aB (powT p j).2.1 ≤ 2 ^ (88 * j) ∧ aB (powT p j).2.2 ≤ 2 ^ (88 * j)
  | 0 => ⟨show aB 1 ≤ 2 ^ 0 by decide, show aB 0 ≤ 2 ^ 0 by decide⟩
  | j + 1 => by
    obtain ⟨h1, h2⟩ := powT_b hb h j
    obtain ⟨g1, g2⟩ := sm_lg h
    have e80 : LGN = 2 ^ 80 := p2_80.symm
    rw [e80] at g1 g2
    have pj := p2_pos (88 * j)
    have e : (2 : Int) ^ (88 * (j + 1)) = 2 ^ (88 * j) * 2 ^ 80 * 256 := by rw [show 88 * (j + 1) = 88 * j + 80 + 8 by omega, Int.pow_add, Int.pow_add]; rfl
    have a1 := Int.mul_le_mul h1 g1 (aB_0 _) (Int.le_of_lt pj)
    have a2 := Int.mul_le_mul h2 g2 (aB_0 _) (Int.le_of_lt pj)
    have a3 := Int.mul_le_mul h1 g2 (aB_0 _) (Int.le_of_lt pj)
    have a4 := Int.mul_le_mul h2 g1 (aB_0 _) (Int.le_of_lt pj)
    have pm : 0 ≤ (2 : Int) ^ (88 * j) * 2 ^ 80 := Int.mul_nonneg (Int.le_of_lt pj) (by decide)
    rw [← powT_s]
    generalize hM : (2 : Int) ^ (88 * j) * 2 ^ 80 = Mx at *
    rw [e]
    constructor
    · have s := aB_add ((powT p j).2.1 * p.2.1) (p.1 * ((powT p j).2.2 * p.2.2))
      rw [aB_mul, aB_mul, aB_mul, aB_p hb.1] at s
      have b1 := Int.mul_le_mul hb.2 a2 (Int.mul_nonneg (aB_0 _) (aB_0 _)) (by decide)
      show aB ((powT p j).2.1 * p.2.1 + p.1 * ((powT p j).2.2 * p.2.2)) ≤ Mx * 256
      omega
    · have s := aB_add ((powT p j).2.1 * p.2.2) ((powT p j).2.2 * p.2.1)
      rw [aB_mul, aB_mul] at s
      show aB ((powT p j).2.1 * p.2.2 + (powT p j).2.2 * p.2.1) ≤ Mx * 256
      omega
set_option maxHeartbeats 4000000 in
set_option maxRecDepth 100000 in
theorem s_X6_put (l : Launch) {K : KC} {E : GE} {w : Wd} {τ ad : Nat → Nat} {bs ss : Nat → Int} {pb : Nat → PT} {P Q : Nat → Nat} {ct : Nat → Int} (hC0 : CS τ ad w bs ss pb P Q ct) {i : Nat} (hi : i < 3) {b x y : Int} (hb : GB b) (hx : -1000 ≤ x ∧ x ≤ 1000) (hy : -1000 ≤ y ∧ y ≤ 1000) : St K E l yX6_put cX6_put 5 (some .int) 6 (0) (0) [.ref (ad 100), iI (i : Int), iI b, iI x, iI y] w (fun r' w' => ∃ D : PT, (D = (b, x, y)) ∧ ACTP τ ad w' bs ss pb P Q ct i D (sm D) r' ∧ KO τ w w') := by
  refine st_intro [some (.ref (ad 100)), some (iI (i : Int)), some (iI b), some (iI x), some (iI y)] rfl (Nat.le_of_ble_eq_true rfl) pn_X6 ?_
  intro X C hT hRm hl hnm hQ
  obtain ⟨hRf, hRl, hRc, hRs⟩ := hRm
  refine g_wf (fun hwf => ?_)
  have hC := hC0
  have hK : KO τ w w := KO.rf _ _
  refine g_iload_n C dX6_put_0 rfl ?_
  refine g_callS C (s_X6_checkThing _ (v := (i : Int)) (by omega)) ml_RX6_61 sm_yX6_checkThing in_RX6 co_yX6_checkThing hd_X6_checkThing rfl ⟨by omega, by omega⟩ rfl (Nat.le_of_ble_eq_true rfl) ⟨by omega, by omega⟩ dX6_put_1 (fun v1 w1 hp1 => ?_)
  obtain ⟨rfl, hw1⟩ := hp1
  subst w1
  refine g_iload_n C dX6_put_4 rfl ?_
  refine g_callS C (s_X6_checkBase _ (v := b) hb) ml_RX6_65 sm_yX6_checkBase in_RX6 co_yX6_checkBase hd_X6_checkBase rfl ⟨by omega, by omega⟩ rfl (Nat.le_of_ble_eq_true rfl) ⟨by omega, by omega⟩ dX6_put_5 (fun v5 w5 hp5 => ?_)
  obtain ⟨rfl, hw5⟩ := hp5
  subst w5
  refine g_iload_n C dX6_put_8 rfl ?_
  refine g_sipush C dX6_put_9 (by decide) ?_
  refine g_sipush C dX6_put_12 (by decide) ?_
  refine g_callS C (s_X6_checkRange _ (v := x) (lo := (-1000)) (hi := 1000) (by omega) (by omega) (by omega)) ml_RX6_82 sm_yX6_checkRange in_RX6 co_yX6_checkRange hd_X6_checkRange rfl ⟨by omega, by omega⟩ rfl (Nat.le_of_ble_eq_true rfl) ⟨by omega, by omega⟩ dX6_put_15 (fun v15 w15 hp15 => ?_)
  obtain ⟨rfl, hw15⟩ := hp15
  subst w15
  refine g_iload C dX6_put_18 rfl ?_
  refine g_sipush C dX6_put_20 (by decide) ?_
  refine g_sipush C dX6_put_23 (by decide) ?_
  refine g_callS C (s_X6_checkRange _ (v := y) (lo := (-1000)) (hi := 1000) (by omega) (by omega) (by omega)) ml_RX6_82 sm_yX6_checkRange in_RX6 co_yX6_checkRange hd_X6_checkRange rfl ⟨by omega, by omega⟩ rfl (Nat.le_of_ble_eq_true rfl) ⟨by omega, by omega⟩ dX6_put_26 (fun v26 w26 hp26 => ?_)
  obtain ⟨rfl, hw26⟩ := hp26
  subst w26
  refine g_aload_n C dX6_put_29 rfl ?_
  refine g_get (ci := 8) C rfl inTX6 5 (by decide) fl_RX6_42 rfl hC.o rfl dX6_put_30 ?_
  refine g_iload_n C dX6_put_33 rfl ?_
  refine g_iload_n C dX6_put_34 rfl ?_
  refine g_iload C dX6_put_35 rfl ?_
  refine g_callV C (s_X2_setNumbers _ hC.N (i := 3) (by omega) (hC.P 3 (by omega)).1.1 (b := b) (x := x) (y := y) (by omega) (by omega)) (ci := 4) rfl (hC.P 3 (by omega)).1.1 rfl ml_RX6_190 im_yX2_setNumbers se_RX2_yX2_setNumbers in_RX2 co_yX2_setNumbers hd_X2_setNumbers rfl ⟨by omega, by omega⟩ rfl (Nat.le_of_ble_eq_true rfl) ⟨by omega, by omega⟩ dX6_put_37 (fun v37 w37 hp37 => ?_)
  obtain ⟨rfl, hN37, hP37, hk37⟩ := hp37
  replace hC := hC.kx (i := 3) (p := (b, x, y)) (by omega) hk37 hN37 hP37 hb (fun q => by omega)
  replace hK := hK.tr (hk37.kc (by omega))
  refine g_aload_n C dX6_put_40 rfl ?_
  refine g_aload_n C dX6_put_41 rfl ?_
  refine g_get (ci := 8) C rfl inTX6 1 (by decide) fl_RX6_17 rfl hC.o rfl dX6_put_42 ?_
  refine g_iload_n C dX6_put_45 rfl ?_
  refine g_aaloadN (i) C rfl rfl hC.A.2.1.choose_spec.1 (by omega) (by omega) (hC.A.2.1.choose_spec.2 _ (by omega)) dX6_put_46 ?_
  refine g_callV C (s_X6_becomeDraft _ hC (i := i) (by omega)) (ci := 8) rfl hC.o rfl ml_RX6_193 im_yX6_becomeDraft se_RX6_yX6_becomeDraft in_RX6 co_yX6_becomeDraft hd_X6_becomeDraft rfl ⟨by omega, by omega⟩ rfl (Nat.le_of_ble_eq_true rfl) ⟨by omega, by omega⟩ dX6_put_47 (fun v47 w47 hp47 => ?_)
  obtain ⟨hbd47, hk47⟩ := hp47
  have hact := act_sm (pb := pb) (t := i) (D := (b, x, y)) (fun j hj => pup_n (by omega)) pup_s (by omega) hbd47 (c := sm (b, x, y)) Iff.rfl
  obtain ⟨ans, hans⟩ := act_v hact
  subst hans
  replace hK := hK.tr hk47
  exact g_ireturn C hQ dX6_put_50 (by omega) (by omega) ⟨(b, x, y), rfl, hact, hK⟩
set_option maxHeartbeats 4000000 in
set_option maxRecDepth 100000 in
theorem s_X6_take (l : Launch) {K : KC} {E : GE} {w : Wd} {τ ad : Nat → Nat} {bs ss : Nat → Int} {pb : Nat → PT} {P Q : Nat → Nat} {ct : Nat → Int} (hC0 : CS τ ad w bs ss pb P Q ct) {i : Nat} (hi : i < 3) {k : Nat} (hk : k < 3) : St K E l yX6_take cX6_take 4 (some .int) 6 (0) (0) [.ref (ad 100), iI (i : Int), iI (k : Int)] w (fun r' w' => ∃ D : PT, (∃ r, RT (bs i) r ∧ D = (bs i, (pq (bs i) r 1 r (ss i).toNat).1, (pq (bs i) r 0 1 (ss i).toNat).1)) ∧ ACTP τ ad w' bs ss pb P Q ct k D (sm D) r' ∧ KO τ w w') := by
  refine st_intro [some (.ref (ad 100)), some (iI (i : Int)), some (iI (k : Int)), none] rfl (Nat.le_of_ble_eq_true rfl) pn_X6 ?_
  intro X C hT hRm hl hnm hQ
  obtain ⟨hRf, hRl, hRc, hRs⟩ := hRm
  refine g_wf (fun hwf => ?_)
  have hC := hC0
  have hK : KO τ w w := KO.rf _ _
  refine g_iload_n C dX6_take_0 rfl ?_
  refine g_callS C (s_X6_checkThing _ (v := (i : Int)) (by omega)) ml_RX6_61 sm_yX6_checkThing in_RX6 co_yX6_checkThing hd_X6_checkThing rfl ⟨by omega, by omega⟩ rfl (Nat.le_of_ble_eq_true rfl) ⟨by omega, by omega⟩ dX6_take_1 (fun v1 w1 hp1 => ?_)
  obtain ⟨rfl, hw1⟩ := hp1
  subst w1
  refine g_iload_n C dX6_take_4 rfl ?_
  refine g_callS C (s_X6_checkThing _ (v := (k : Int)) (by omega)) ml_RX6_61 sm_yX6_checkThing in_RX6 co_yX6_checkThing hd_X6_checkThing rfl ⟨by omega, by omega⟩ rfl (Nat.le_of_ble_eq_true rfl) ⟨by omega, by omega⟩ dX6_take_5 (fun v5 w5 hp5 => ?_)
  obtain ⟨rfl, hw5⟩ := hp5
  subst w5
  refine g_aload_n C dX6_take_8 rfl ?_
  refine g_iload_n C dX6_take_9 rfl ?_
  refine t_callV C hT (s_X6_unfold _ hC (i := i) (by omega)) (RcV.ob (ci := 8) C rfl hC.o) rfl ml_RX6_90 im_yX6_unfold se_RX6_yX6_unfold in_RX6 co_yX6_unfold hd_X6_unfold rfl ⟨by omega, by omega⟩ rfl (Nat.le_of_ble_eq_true rfl) ⟨by omega, by omega⟩ dX6_take_10 (fun v10 w10 hp10 => ?_)
  obtain ⟨rfl, ⟨r, m, d, a, hF, hV, hG⟩, hc10, hk10⟩ := hp10
  replace hC := hc10
  replace hK := hK.tr hk10
  have hs := (hC.W i (by omega)).2.2
  have hgb := hV.1
  have hbl := hgb.1
  have hbh := hgb.2.1
  have hr9 := RT_le hV.1 hV.2.1
  have hr0 := hV.2.1.1
  have hw := wk_f hV.1 hV.2.1 (k := (ss i).toNat) (by omega)
  refine g_astore_n C dX6_take_13 (by decide) rfl ?_
  refine g_aload_n C dX6_take_14 rfl ?_
  refine g_get (ci := 8) C rfl inTX6 5 (by decide) fl_RX6_42 rfl hC.o rfl dX6_take_15 ?_
  refine g_aload_n C dX6_take_18 rfl ?_
  refine g_get (ci := 6) C rfl inTX4 0 (by decide) fl_RX6_68 rfl (hC.W i (by omega)).1 rfl dX6_take_19 ?_
  refine g_aload_n C dX6_take_22 rfl ?_
  refine g_get (ci := 8) C rfl inTX6 3 (by decide) fl_RX6_30 rfl hC.o rfl dX6_take_23 ?_
  refine g_aload_n C dX6_take_26 rfl ?_
  refine g_get (ci := 6) C rfl inTX4 1 (by decide) fl_RX6_72 rfl (hC.W i (by omega)).1 rfl dX6_take_27 ?_
  refine g_callV C (s_X1_top _ hF (k := ss i) (by omega)) (ci := 3) rfl hF.1 rfl ml_RX6_119 im_yX1_top se_RX1_yX1_top in_RX1 co_yX1_top hd_X1_top rfl ⟨by omega, by omega⟩ rfl (Nat.le_of_ble_eq_true rfl) ⟨by omega, by omega⟩ dX6_take_30 (fun v30 w30 hp30 => ?_)
  obtain ⟨⟨j30, rfl, hj30a, hj30b, hj30⟩, hw30⟩ := hp30
  subst w30
  have f30 := hG.top (k := ss i) (j := j30) (by omega) (by have := hj30 (by omega); omega)
  refine g_aload_n C dX6_take_33 rfl ?_
  refine g_get (ci := 8) C rfl inTX6 3 (by decide) fl_RX6_30 rfl hC.o rfl dX6_take_34 ?_
  refine g_aload_n C dX6_take_37 rfl ?_
  refine g_get (ci := 6) C rfl inTX4 1 (by decide) fl_RX6_72 rfl (hC.W i (by omega)).1 rfl dX6_take_38 ?_
  refine g_callV C (s_X1_bottom _ hF (k := ss i) (by omega)) (ci := 3) rfl hF.1 rfl ml_RX6_123 im_yX1_bottom se_RX1_yX1_bottom in_RX1 co_yX1_bottom hd_X1_bottom rfl ⟨by omega, by omega⟩ rfl (Nat.le_of_ble_eq_true rfl) ⟨by omega, by omega⟩ dX6_take_41 (fun v41 w41 hp41 => ?_)
  obtain ⟨⟨j41, rfl, hj41a, hj41b, hj41⟩, hw41⟩ := hp41
  subst w41
  have f41 := hG.bot (k := ss i) (j := j41) (by omega) (by have := hj41 (by omega); omega)
  refine g_callV C (s_X2_setWholes _ hC.N (i := 3) (by omega) (hC.P 3 (by omega)).1.1 (b := bs i) (j := j30) (k := j41) (by omega) (by omega) f30 f41) (ci := 4) rfl (hC.P 3 (by omega)).1.1 rfl ml_RX6_197 im_yX2_setWholes se_RX2_yX2_setWholes in_RX2 co_yX2_setWholes hd_X2_setWholes rfl ⟨by omega, by omega⟩ rfl (Nat.le_of_ble_eq_true rfl) ⟨by omega, by omega⟩ dX6_take_44 (fun v44 w44 hp44 => ?_)
  obtain ⟨rfl, hN44, hP44, hk44⟩ := hp44
  replace hC := hC.kx (i := 3) (p := (bs i, (pq (bs i) r 1 r (ss i).toNat).1, (pq (bs i) r 0 1 (ss i).toNat).1)) (by omega) hk44 hN44 hP44 hgb (fun q => by omega)
  replace hK := hK.tr (hk44.kc (by omega))
  refine g_aload_n C dX6_take_47 rfl ?_
  refine g_aload_n C dX6_take_48 rfl ?_
  refine g_get (ci := 8) C rfl inTX6 1 (by decide) fl_RX6_17 rfl hC.o rfl dX6_take_49 ?_
  refine g_iload_n C dX6_take_52 rfl ?_
  refine g_aaloadN (k) C rfl rfl hC.A.2.1.choose_spec.1 (by omega) (by omega) (hC.A.2.1.choose_spec.2 _ (by omega)) dX6_take_53 ?_
  refine g_callV C (s_X6_becomeDraft _ hC (i := k) (by omega)) (ci := 8) rfl hC.o rfl ml_RX6_193 im_yX6_becomeDraft se_RX6_yX6_becomeDraft in_RX6 co_yX6_becomeDraft hd_X6_becomeDraft rfl ⟨by omega, by omega⟩ rfl (Nat.le_of_ble_eq_true rfl) ⟨by omega, by omega⟩ dX6_take_54 (fun v54 w54 hp54 => ?_)
  obtain ⟨hbd54, hk54⟩ := hp54
  have hact := act_sm (pb := pb) (t := k) (D := (bs i, (pq (bs i) r 1 r (ss i).toNat).1, (pq (bs i) r 0 1 (ss i).toNat).1)) (fun j hj => pup_n (by omega)) pup_s (by omega) hbd54 (c := sm (bs i, (pq (bs i) r 1 r (ss i).toNat).1, (pq (bs i) r 0 1 (ss i).toNat).1)) Iff.rfl
  obtain ⟨ans, hans⟩ := act_v hact
  subst hans
  replace hK := hK.tr hk54
  exact g_ireturn C hQ dX6_take_57 (by omega) (by omega) ⟨(bs i, (pq (bs i) r 1 r (ss i).toNat).1, (pq (bs i) r 0 1 (ss i).toNat).1), ⟨r, hV.2.1, rfl⟩, hact, hK⟩
set_option maxHeartbeats 4000000 in
set_option maxRecDepth 100000 in
theorem s_X6_least (l : Launch) {K : KC} {E : GE} {w : Wd} {τ ad : Nat → Nat} {bs ss : Nat → Int} {pb : Nat → PT} {P Q : Nat → Nat} {ct : Nat → Int} (hC0 : CS τ ad w bs ss pb P Q ct) {i : Nat} (hi : i < 3) {b : Int} (hb : GB b) : St K E l yX6_least cX6_least 3 (some .int) 6 (0) (0) [.ref (ad 100), iI (i : Int), iI b] w (fun r' w' => ∃ D : PT, (∃ r, RT b r ∧ D = (b, leaP b r, leaQ b r)) ∧ ACTP τ ad w' bs ss pb P Q ct i D (sm D) r' ∧ KO τ w w') := by
  refine st_intro [some (.ref (ad 100)), some (iI (i : Int)), some (iI b)] rfl (Nat.le_of_ble_eq_true rfl) pn_X6 ?_
  intro X C hT hRm hl hnm hQ
  obtain ⟨hRf, hRl, hRc, hRs⟩ := hRm
  refine g_wf (fun hwf => ?_)
  have hC := hC0
  have hK : KO τ w w := KO.rf _ _
  refine g_iload_n C dX6_least_0 rfl ?_
  refine g_callS C (s_X6_checkThing _ (v := (i : Int)) (by omega)) ml_RX6_61 sm_yX6_checkThing in_RX6 co_yX6_checkThing hd_X6_checkThing rfl ⟨by omega, by omega⟩ rfl (Nat.le_of_ble_eq_true rfl) ⟨by omega, by omega⟩ dX6_least_1 (fun v1 w1 hp1 => ?_)
  obtain ⟨rfl, hw1⟩ := hp1
  subst w1
  refine g_iload_n C dX6_least_4 rfl ?_
  refine g_callS C (s_X6_checkBase _ (v := b) hb) ml_RX6_65 sm_yX6_checkBase in_RX6 co_yX6_checkBase hd_X6_checkBase rfl ⟨by omega, by omega⟩ rfl (Nat.le_of_ble_eq_true rfl) ⟨by omega, by omega⟩ dX6_least_5 (fun v5 w5 hp5 => ?_)
  obtain ⟨rfl, hw5⟩ := hp5
  subst w5
  refine g_aload_n C dX6_least_8 rfl ?_
  refine g_aload_n C dX6_least_9 rfl ?_
  refine g_get (ci := 8) C rfl inTX6 5 (by decide) fl_RX6_42 rfl hC.o rfl dX6_least_10 ?_
  refine g_iload_n C dX6_least_13 rfl ?_
  refine t_callV C hT (s_X6_setSolution _ hC (i := 3) (by omega) hb) (RcV.ob (ci := 8) C rfl hC.o) rfl ml_RX6_201 im_yX6_setSolution se_RX6_yX6_setSolution in_RX6 co_yX6_setSolution hd_X6_setSolution rfl ⟨by omega, by omega⟩ rfl (Nat.le_of_ble_eq_true rfl) ⟨by omega, by omega⟩ dX6_least_14 (fun v14 w14 hp14 => ?_)
  obtain ⟨rfl, r9, hr9, hc14, hk14⟩ := hp14
  replace hC := hc14
  replace hK := hK.tr hk14
  refine g_aload_n C dX6_least_17 rfl ?_
  refine g_aload_n C dX6_least_18 rfl ?_
  refine g_get (ci := 8) C rfl inTX6 1 (by decide) fl_RX6_17 rfl hC.o rfl dX6_least_19 ?_
  refine g_iload_n C dX6_least_22 rfl ?_
  refine g_aaloadN (i) C rfl rfl hC.A.2.1.choose_spec.1 (by omega) (by omega) (hC.A.2.1.choose_spec.2 _ (by omega)) dX6_least_23 ?_
  refine g_callV C (s_X6_becomeDraft _ hC (i := i) (by omega)) (ci := 8) rfl hC.o rfl ml_RX6_193 im_yX6_becomeDraft se_RX6_yX6_becomeDraft in_RX6 co_yX6_becomeDraft hd_X6_becomeDraft rfl ⟨by omega, by omega⟩ rfl (Nat.le_of_ble_eq_true rfl) ⟨by omega, by omega⟩ dX6_least_24 (fun v24 w24 hp24 => ?_)
  obtain ⟨hbd24, hk24⟩ := hp24
  have hact := act_sm (pb := pb) (t := i) (D := (b, leaP b r9, leaQ b r9)) (fun j hj => pup_n (by omega)) pup_s (by omega) hbd24 (c := sm (b, leaP b r9, leaQ b r9)) Iff.rfl
  obtain ⟨ans, hans⟩ := act_v hact
  subst hans
  replace hK := hK.tr hk24
  exact g_ireturn C hQ dX6_least_27 (by omega) (by omega) ⟨(b, leaP b r9, leaQ b r9), ⟨r9, hr9, rfl⟩, hact, hK⟩
set_option maxHeartbeats 4000000 in
set_option maxRecDepth 100000 in
theorem s_X6_compose (l : Launch) {K : KC} {E : GE} {w : Wd} {τ ad : Nat → Nat} {bs ss : Nat → Int} {pb : Nat → PT} {P Q : Nat → Nat} {ct : Nat → Int} (hC0 : CS τ ad w bs ss pb P Q ct) {i : Nat} (hi : i < 3) {k : Nat} (hk : k < 3) {n : Nat} (hn : n < 3) : St K E l yX6_compose cX6_compose 4 (some .int) 6 (0) (0) [.ref (ad 100), iI (i : Int), iI (k : Int), iI (n : Int)] w (fun r' w' => ∃ D : PT, (D = mulP (pb i) (pb k)) ∧ ACTP τ ad w' bs ss pb P Q ct n D ((pb i).1 = (pb k).1 ∧ sm D) r' ∧ KO τ w w') := by
  refine st_intro [some (.ref (ad 100)), some (iI (i : Int)), some (iI (k : Int)), some (iI (n : Int))] rfl (Nat.le_of_ble_eq_true rfl) pn_X6 ?_
  intro X C hT hRm hl hnm hQ
  obtain ⟨hRf, hRl, hRc, hRs⟩ := hRm
  refine g_wf (fun hwf => ?_)
  have hC := hC0
  have hK : KO τ w w := KO.rf _ _
  have g1 := (hC.P i (by omega)).2.1.1
  have g2 := (hC.P i (by omega)).2.1.2.1
  have g3 := (hC.P k (by omega)).2.1.1
  have g4 := (hC.P k (by omega)).2.1.2.1
  have s1 := sm_lg ((hC.P i (by omega)).2.2 hi)
  have s2 := sm_lg ((hC.P k (by omega)).2.2 hk)
  refine g_iload_n C dX6_compose_0 rfl ?_
  refine g_callS C (s_X6_checkThing _ (v := (i : Int)) (by omega)) ml_RX6_61 sm_yX6_checkThing in_RX6 co_yX6_checkThing hd_X6_checkThing rfl ⟨by omega, by omega⟩ rfl (Nat.le_of_ble_eq_true rfl) ⟨by omega, by omega⟩ dX6_compose_1 (fun v1 w1 hp1 => ?_)
  obtain ⟨rfl, hw1⟩ := hp1
  subst w1
  refine g_iload_n C dX6_compose_4 rfl ?_
  refine g_callS C (s_X6_checkThing _ (v := (k : Int)) (by omega)) ml_RX6_61 sm_yX6_checkThing in_RX6 co_yX6_checkThing hd_X6_checkThing rfl ⟨by omega, by omega⟩ rfl (Nat.le_of_ble_eq_true rfl) ⟨by omega, by omega⟩ dX6_compose_5 (fun v5 w5 hp5 => ?_)
  obtain ⟨rfl, hw5⟩ := hp5
  subst w5
  refine g_iload_n C dX6_compose_8 rfl ?_
  refine g_callS C (s_X6_checkThing _ (v := (n : Int)) (by omega)) ml_RX6_61 sm_yX6_checkThing in_RX6 co_yX6_checkThing hd_X6_checkThing rfl ⟨by omega, by omega⟩ rfl (Nat.le_of_ble_eq_true rfl) ⟨by omega, by omega⟩ dX6_compose_9 (fun v9 w9 hp9 => ?_)
  obtain ⟨rfl, hw9⟩ := hp9
  subst w9
  refine g_aload_n C dX6_compose_12 rfl ?_
  refine g_get (ci := 8) C rfl inTX6 1 (by decide) fl_RX6_17 rfl hC.o rfl dX6_compose_13 ?_
  refine g_iload_n C dX6_compose_16 rfl ?_
  refine g_aaloadN (i) C rfl rfl hC.A.2.1.choose_spec.1 (by omega) (by omega) (hC.A.2.1.choose_spec.2 _ (by omega)) dX6_compose_17 ?_
  refine g_get (ci := 4) C rfl inTX2 0 (by decide) fl_RX6_205 rfl (hC.P i (by omega)).1.1 rfl dX6_compose_18 ?_
  refine g_aload_n C dX6_compose_21 rfl ?_
  refine g_get (ci := 8) C rfl inTX6 1 (by decide) fl_RX6_17 rfl hC.o rfl dX6_compose_22 ?_
  refine g_iload_n C dX6_compose_25 rfl ?_
  refine g_aaloadN (k) C rfl rfl hC.A.2.1.choose_spec.1 (by omega) (by omega) (hC.A.2.1.choose_spec.2 _ (by omega)) dX6_compose_26 ?_
  refine g_get (ci := 4) C rfl inTX2 0 (by decide) fl_RX6_205 rfl (hC.P k (by omega)).1.1 rfl dX6_compose_27 ?_
  refine g_icmp_eq (tgt := 38) C dX6_compose_30 (by decide) (by omega) (by omega) (fun h30 => ?_) (fun h30 => ?_)
  · refine g_aload_n C dX6_compose_38 rfl ?_
    refine g_get (ci := 8) C rfl inTX6 4 (by decide) fl_RX6_37 rfl hC.o rfl dX6_compose_39 ?_
    refine g_aload_n C dX6_compose_42 rfl ?_
    refine g_get (ci := 8) C rfl inTX6 1 (by decide) fl_RX6_17 rfl hC.o rfl dX6_compose_43 ?_
    refine g_iload_n C dX6_compose_46 rfl ?_
    refine g_aaloadN (i) C rfl rfl hC.A.2.1.choose_spec.1 (by omega) (by omega) (hC.A.2.1.choose_spec.2 _ (by omega)) dX6_compose_47 ?_
    refine g_aload_n C dX6_compose_48 rfl ?_
    refine g_get (ci := 8) C rfl inTX6 1 (by decide) fl_RX6_17 rfl hC.o rfl dX6_compose_49 ?_
    refine g_iload_n C dX6_compose_52 rfl ?_
    refine g_aaloadN (k) C rfl rfl hC.A.2.1.choose_spec.1 (by omega) (by omega) (hC.A.2.1.choose_spec.2 _ (by omega)) dX6_compose_53 ?_
    refine g_aload_n C dX6_compose_54 rfl ?_
    refine g_get (ci := 8) C rfl inTX6 5 (by decide) fl_RX6_42 rfl hC.o rfl dX6_compose_55 ?_
    refine g_callV C (s_X0_multiply _ hC.N hC.D (i := 3) (by omega) (hC.P 3 (by omega)).1.1 (m := i) (n := k) (b := (pb i).1) (b2 := (pb k).1) (by omega) (by omega) (by omega) (hC.P i (by omega)).1 (hC.P k (by omega)).1 s1.1 s1.2 s2.1 s2.2 (by decide +kernel)) (ci := 2) rfl hC.D rfl ml_RX6_206 im_yX0_multiply se_RX0_yX0_multiply in_RX0 co_yX0_multiply hd_X0_multiply rfl ⟨by omega, by omega⟩ rfl (Nat.le_of_ble_eq_true rfl) ⟨by omega, by omega⟩ dX6_compose_58 (fun v58 w58 hp58 => ?_)
    obtain ⟨rfl, hN58, hP58, hk58⟩ := hp58
    replace hC := hC.kx (i := 3) (p := (mulP (pb i) (pb k))) (by omega) hk58 hN58 hP58 (hC0.P i (by omega)).2.1 (fun q => by omega)
    replace hK := hK.tr (hk58.kc (by omega))
    refine g_aload_n C dX6_compose_61 rfl ?_
    refine g_aload_n C dX6_compose_62 rfl ?_
    refine g_get (ci := 8) C rfl inTX6 1 (by decide) fl_RX6_17 rfl hC.o rfl dX6_compose_63 ?_
    refine g_iload_n C dX6_compose_66 rfl ?_
    refine g_aaloadN (n) C rfl rfl hC.A.2.1.choose_spec.1 (by omega) (by omega) (hC.A.2.1.choose_spec.2 _ (by omega)) dX6_compose_67 ?_
    refine g_callV C (s_X6_becomeDraft _ hC (i := n) (by omega)) (ci := 8) rfl hC.o rfl ml_RX6_193 im_yX6_becomeDraft se_RX6_yX6_becomeDraft in_RX6 co_yX6_becomeDraft hd_X6_becomeDraft rfl ⟨by omega, by omega⟩ rfl (Nat.le_of_ble_eq_true rfl) ⟨by omega, by omega⟩ dX6_compose_68 (fun v68 w68 hp68 => ?_)
    obtain ⟨hbd68, hk68⟩ := hp68
    have hact := act_sm (pb := pb) (t := n) (D := (mulP (pb i) (pb k))) (fun j hj => pup_n (by omega)) pup_s (by omega) hbd68 (c := (pb i).1 = (pb k).1 ∧ sm (mulP (pb i) (pb k))) ⟨fun q => q.2, fun q => ⟨by omega, q⟩⟩
    obtain ⟨ans, hans⟩ := act_v hact
    subst hans
    replace hK := hK.tr hk68
    exact g_ireturn C hQ dX6_compose_71 (by omega) (by omega) ⟨(mulP (pb i) (pb k)), rfl, hact, hK⟩
  · refine g_aload_n C dX6_compose_33 rfl ?_
    refine g_callV C (s_X6_refuse _ hC) (ci := 8) rfl hC.o rfl ml_RX6_86 im_yX6_refuse se_RX6_yX6_refuse in_RX6 co_yX6_refuse hd_X6_refuse rfl ⟨by omega, by omega⟩ rfl (Nat.le_of_ble_eq_true rfl) ⟨by omega, by omega⟩ dX6_compose_34 (fun v34 w34 hp34 => ?_)
    obtain ⟨rfl, hc34, hk34⟩ := hp34
    replace hC := hc34
    replace hK := hK.tr hk34
    exact g_ireturn C hQ dX6_compose_37 (Nat.le_refl _) (Nat.le_refl _) ⟨(mulP (pb i) (pb k)), rfl, Or.inl ⟨fun q => absurd q.1 h30, rfl, _, fun j hj => by first | rfl | exact pup_n (by omega), hC⟩, hK⟩
set_option maxHeartbeats 4000000 in
set_option maxRecDepth 100000 in
theorem s_X6_power (l : Launch) {K : KC} {E : GE} {w : Wd} {τ ad : Nat → Nat} {bs ss : Nat → Int} {pb : Nat → PT} {P Q : Nat → Nat} {ct : Nat → Int} (hC0 : CS τ ad w bs ss pb P Q ct) {i : Nat} (hi : i < 3) {z : Nat} (hz : z ≤ 5) : St K E l yX6_power cX6_power 4 (some .int) 6 (0) (0) [.ref (ad 100), iI (i : Int), iI (z : Int)] w (fun r' w' => ∃ D : PT, (D = powT (pb i) z) ∧ ACTP τ ad w' bs ss pb P Q ct i D (sm D) r' ∧ KO τ w w') := by
  refine st_intro [some (.ref (ad 100)), some (iI (i : Int)), some (iI (z : Int)), none] rfl (Nat.le_of_ble_eq_true rfl) pn_X6 ?_
  intro X C hT hRm hl hnm hQ
  obtain ⟨hRf, hRl, hRc, hRs⟩ := hRm
  refine g_wf (fun hwf => ?_)
  have hC := hC0
  have hK : KO τ w w := KO.rf _ _
  have gb := (hC.P i (by omega)).2.1
  have g1 := gb.1
  have g2 := gb.2.1
  have hsm := (hC.P i (by omega)).2.2 hi
  have s1 := sm_lg hsm
  refine g_iload_n C dX6_power_0 rfl ?_
  refine g_callS C (s_X6_checkThing _ (v := (i : Int)) (by omega)) ml_RX6_61 sm_yX6_checkThing in_RX6 co_yX6_checkThing hd_X6_checkThing rfl ⟨by omega, by omega⟩ rfl (Nat.le_of_ble_eq_true rfl) ⟨by omega, by omega⟩ dX6_power_1 (fun v1 w1 hp1 => ?_)
  obtain ⟨rfl, hw1⟩ := hp1
  subst w1
  refine g_iload_n C dX6_power_4 rfl ?_
  refine g_iconst C dX6_power_5 ?_
  refine g_iconst C dX6_power_6 ?_
  refine g_callS C (s_X6_checkRange _ (v := (z : Int)) (lo := 0) (hi := 5) (by omega) (by omega) (by omega)) ml_RX6_82 sm_yX6_checkRange in_RX6 co_yX6_checkRange hd_X6_checkRange rfl ⟨by omega, by omega⟩ rfl (Nat.le_of_ble_eq_true rfl) ⟨by omega, by omega⟩ dX6_power_7 (fun v7 w7 hp7 => ?_)
  obtain ⟨rfl, hw7⟩ := hp7
  subst w7
  refine g_aload_n C dX6_power_10 rfl ?_
  refine g_get (ci := 8) C rfl inTX6 5 (by decide) fl_RX6_42 rfl hC.o rfl dX6_power_11 ?_
  refine g_aload_n C dX6_power_14 rfl ?_
  refine g_get (ci := 8) C rfl inTX6 1 (by decide) fl_RX6_17 rfl hC.o rfl dX6_power_15 ?_
  refine g_iload_n C dX6_power_18 rfl ?_
  refine g_aaloadN (i) C rfl rfl hC.A.2.1.choose_spec.1 (by omega) (by omega) (hC.A.2.1.choose_spec.2 _ (by omega)) dX6_power_19 ?_
  refine g_get (ci := 4) C rfl inTX2 0 (by decide) fl_RX6_205 rfl (hC.P i (by omega)).1.1 rfl dX6_power_20 ?_
  refine g_iconst C dX6_power_23 ?_
  refine g_iconst C dX6_power_24 ?_
  refine g_callV C (s_X2_setNumbers _ hC.N (i := 3) (by omega) (hC.P 3 (by omega)).1.1 (b := (pb i).1) (x := 1) (y := 0) (by omega) (by omega)) (ci := 4) rfl (hC.P 3 (by omega)).1.1 rfl ml_RX6_190 im_yX2_setNumbers se_RX2_yX2_setNumbers in_RX2 co_yX2_setNumbers hd_X2_setNumbers rfl ⟨by omega, by omega⟩ rfl (Nat.le_of_ble_eq_true rfl) ⟨by omega, by omega⟩ dX6_power_25 (fun v25 w25 hp25 => ?_)
  obtain ⟨rfl, hN25, hP25, hk25⟩ := hp25
  replace hC := hC.kx (i := 3) (p := ((pb i).1, 1, 0)) (by omega) hk25 hN25 hP25 (hC0.P i (by omega)).2.1 (fun q => by omega)
  replace hK := hK.tr (hk25.kc (by omega))
  refine g_iconst C dX6_power_28 ?_
  refine g_istore_n C dX6_power_29 (by decide) rfl ?_
  refine g_loop (σ := Nat × Wd × (Nat → PT)) (fun s => s.1 ≤ z ∧ CS τ ad s.2.1 bs ss s.2.2 P Q ct ∧ KO τ w s.2.1 ∧ (∀ j, j < 3 → s.2.2 j = pb j) ∧ s.2.2 3 = powT (pb i) s.1) (fun s => G E X 4 30 [some (.ref (ad 100)), some (iI (i : Int)), some (iI (z : Int)), some (iI (s.1 : Int))] [] s.2.1 0 0) (fun s => z - s.1) ?_ (0, w25, pup pb 3 ((pb i).1, 1, 0)) ⟨by dsimp only; omega, hC, hK, fun j hj => pup_n (by omega), by dsimp only; exact pup_s.trans rfl⟩
  clear hC hK
  rintro ⟨j, u, pb1⟩ hq ih
  obtain ⟨hj, hC, hK, hpj, hp3⟩ := hq
  dsimp only at hj hC hK hpj hp3 ⊢
  refine g_iload_n C dX6_power_30 rfl ?_
  refine g_iload_n C dX6_power_31 rfl ?_
  refine g_icmp_ge (tgt := 51) C dX6_power_32 (by decide) (by omega) (by omega) (fun h32 => ?_) (fun h32 => ?_)
  · refine g_aload_n C dX6_power_51 rfl ?_
    refine g_aload_n C dX6_power_52 rfl ?_
    refine g_get (ci := 8) C rfl inTX6 1 (by decide) fl_RX6_17 rfl hC.o rfl dX6_power_53 ?_
    refine g_iload_n C dX6_power_56 rfl ?_
    refine g_aaloadN (i) C rfl rfl hC.A.2.1.choose_spec.1 (by omega) (by omega) (hC.A.2.1.choose_spec.2 _ (by omega)) dX6_power_57 ?_
    refine g_callV C (s_X6_becomeDraft _ hC (i := i) (by omega)) (ci := 8) rfl hC.o rfl ml_RX6_193 im_yX6_becomeDraft se_RX6_yX6_becomeDraft in_RX6 co_yX6_becomeDraft hd_X6_becomeDraft rfl ⟨by omega, by omega⟩ rfl (Nat.le_of_ble_eq_true rfl) ⟨by omega, by omega⟩ dX6_power_58 (fun v58 w58 hp58 => ?_)
    obtain ⟨hbd58, hk58⟩ := hp58
    have hact := act_sm (pb := pb) (t := i) (D := (powT (pb i) z)) hpj (by rw [hp3, show j = z by omega]) (by omega) hbd58 (c := sm (powT (pb i) z)) Iff.rfl
    obtain ⟨ans, hans⟩ := act_v hact
    subst hans
    replace hK := hK.tr hk58
    exact g_ireturn C hQ dX6_power_61 (by omega) (by omega) ⟨(powT (pb i) z), rfl, hact, hK⟩
  · have pwb := powT_b ⟨by omega, g2⟩ hsm j
    have hB9 : (2 : Int) ^ (88 * j) * LGN * 2000 < B28 ^ 18 := by
      have h1 := p2_le (show 88 * j ≤ 352 by omega)
      have h2 := Int.mul_le_mul_of_nonneg_right h1 (show 0 ≤ LGN by decide)
      have h3 : (2 : Int) ^ 352 * LGN * 2000 < B28 ^ 18 := by decide +kernel
      omega
    refine g_aload_n C dX6_power_35 rfl ?_
    refine g_aload_n C dX6_power_36 rfl ?_
    refine g_get (ci := 8) C rfl inTX6 1 (by decide) fl_RX6_17 rfl hC.o rfl dX6_power_37 ?_
    refine g_iload_n C dX6_power_40 rfl ?_
    refine g_aaloadN (i) C rfl rfl hC.A.2.1.choose_spec.1 (by omega) (by omega) (hC.A.2.1.choose_spec.2 _ (by omega)) dX6_power_41 ?_
    refine g_callV C (s_X6_multiplyDraft _ hC (i := i) (by omega) (B1 := 2 ^ (88 * j)) (B2 := LGN) (by rw [hp3]; exact pwb.1) (by rw [hp3]; exact pwb.2) (by rw [hpj i hi]; exact s1.1) (by rw [hpj i hi]; exact s1.2) hB9) (ci := 8) rfl hC.o rfl ml_RX6_210 im_yX6_multiplyDraft se_RX6_yX6_multiplyDraft in_RX6 co_yX6_multiplyDraft hd_X6_multiplyDraft rfl ⟨by omega, by omega⟩ rfl (Nat.le_of_ble_eq_true rfl) ⟨by omega, by omega⟩ dX6_power_42 (fun v42 w42 hp42 => ?_)
    obtain ⟨rfl, hc42, hk42⟩ := hp42
    rw [hp3, hpj i hi, powT_s] at hc42
    refine g_iinc C dX6_power_45 rfl (by decide) rfl ?_
    refine g_goto (tgt := 30) C dX6_power_48 (by decide) ?_
    rw [show (j : Int) + 1 = ((j + 1 : Nat) : Int) by omega]
    exact ih (j + 1, w42, pup (pup pb1 4 (powT (pb i) (j + 1))) 3 (powT (pb i) (j + 1))) ⟨by dsimp only; omega, hc42, hK.tr hk42, fun m hm => by dsimp only; rw [pup_n (by omega), pup_n (by omega)]; exact hpj m hm, by dsimp only; exact pup_s.trans rfl⟩ (by dsimp only; omega)
set_option maxHeartbeats 4000000 in
set_option maxRecDepth 100000 in
theorem s_X6_mirror (l : Launch) {K : KC} {E : GE} {w : Wd} {τ ad : Nat → Nat} {bs ss : Nat → Int} {pb : Nat → PT} {P Q : Nat → Nat} {ct : Nat → Int} (hC0 : CS τ ad w bs ss pb P Q ct) {i : Nat} (hi : i < 3) {y : Int} (hy : y = 0 ∨ y = 1) : St K E l yX6_mirror cX6_mirror 3 (some .int) 6 (0) (0) [.ref (ad 100), iI (i : Int), iI y] w (fun r' w' => ∃ D : PT, (∃ v : Int, (y = 1 ∧ v = -(pb i).2.1 ∨ y = 0 ∧ v = (pb i).2.1) ∧ D = ((pb i).1, v, -(pb i).2.2)) ∧ ACTP τ ad w' bs ss pb P Q ct i D (sm D) r' ∧ KO τ w w') := by
  refine st_intro [some (.ref (ad 100)), some (iI (i : Int)), some (iI y)] rfl (Nat.le_of_ble_eq_true rfl) pn_X6 ?_
  intro X C hT hRm hl hnm hQ
  obtain ⟨hRf, hRl, hRc, hRs⟩ := hRm
  refine g_wf (fun hwf => ?_)
  have hC := hC0
  have hK : KO τ w w := KO.rf _ _
  refine g_iload_n C dX6_mirror_0 rfl ?_
  refine g_callS C (s_X6_checkThing _ (v := (i : Int)) (by omega)) ml_RX6_61 sm_yX6_checkThing in_RX6 co_yX6_checkThing hd_X6_checkThing rfl ⟨by omega, by omega⟩ rfl (Nat.le_of_ble_eq_true rfl) ⟨by omega, by omega⟩ dX6_mirror_1 (fun v1 w1 hp1 => ?_)
  obtain ⟨rfl, hw1⟩ := hp1
  subst w1
  refine g_aload_n C dX6_mirror_4 rfl ?_
  refine g_get (ci := 8) C rfl inTX6 5 (by decide) fl_RX6_42 rfl hC.o rfl dX6_mirror_5 ?_
  refine g_aload_n C dX6_mirror_8 rfl ?_
  refine g_get (ci := 8) C rfl inTX6 1 (by decide) fl_RX6_17 rfl hC.o rfl dX6_mirror_9 ?_
  refine g_iload_n C dX6_mirror_12 rfl ?_
  refine g_aaloadN (i) C rfl rfl hC.A.2.1.choose_spec.1 (by omega) (by omega) (hC.A.2.1.choose_spec.2 _ (by omega)) dX6_mirror_13 ?_
  refine g_callV C (s_X2_setPair _ hC.N (i := 3) (by omega) (hC.P 3 (by omega)).1.1 (m := i) (p := pb i) (by omega) (hC.P i (by omega)).1) (ci := 4) rfl (hC.P 3 (by omega)).1.1 rfl ml_RX6_214 im_yX2_setPair se_RX2_yX2_setPair in_RX2 co_yX2_setPair hd_X2_setPair rfl ⟨by omega, by omega⟩ rfl (Nat.le_of_ble_eq_true rfl) ⟨by omega, by omega⟩ dX6_mirror_14 (fun v14 w14 hp14 => ?_)
  obtain ⟨rfl, hN14, hP14, hk14⟩ := hp14
  replace hC := hC.kx (i := 3) (p := (pb i)) (by omega) hk14 hN14 hP14 (hC0.P i (by omega)).2.1 (fun q => by omega)
  replace hK := hK.tr (hk14.kc (by omega))
  refine g_aload_n C dX6_mirror_17 rfl ?_
  refine g_get (ci := 8) C rfl inTX6 5 (by decide) fl_RX6_42 rfl hC.o rfl dX6_mirror_18 ?_
  refine g_get (ci := 4) C rfl inTX2 2 (by decide) fl_RX6_217 rfl (hC.P 3 (by omega)).1.1 rfl dX6_mirror_21 ?_
  refine g_callV C (c_X5_negate _ (hC.P 3 (by omega)).1.2.2) (ci := 7) rfl (hC.N.W (j := 11) (by omega)).o rfl ml_RX6_221 im_yX5_negate se_RX5_yX5_negate in_RX5 co_yX5_negate hd_X5_negate rfl ⟨by omega, by omega⟩ rfl (Nat.le_of_ble_eq_true rfl) ⟨by omega, by omega⟩ dX6_mirror_24 (fun v24 w24 hp24 => ?_)
  obtain ⟨rfl, hws24, hfr24⟩ := hp24
  obtain ⟨hc24, hk24⟩ := hC.rgt (i := 3) (by omega) hws24 hfr24
  replace hC := hc24
  replace hK := hK.tr hk24
  rw [pup_s, pup_pp] at hC
  have J41 : ∀ (u : Wd) (v : Int), (y = 1 ∧ v = -(pb i).2.1 ∨ y = 0 ∧ v = (pb i).2.1) → CS τ ad u bs ss (pup pb 3 ((pb i).1, v, -(pb i).2.2)) P Q ct → KO τ w u → G E X 3 41 [some (.ref (ad 100)), some (iI (i : Int)), some (iI y)] [] u 0 0 := by
    clear hC hK
    intro u v hv hC hK
    refine g_aload_n C dX6_mirror_41 rfl ?_
    refine g_aload_n C dX6_mirror_42 rfl ?_
    refine g_get (ci := 8) C rfl inTX6 1 (by decide) fl_RX6_17 rfl hC.o rfl dX6_mirror_43 ?_
    refine g_iload_n C dX6_mirror_46 rfl ?_
    refine g_aaloadN (i) C rfl rfl hC.A.2.1.choose_spec.1 (by omega) (by omega) (hC.A.2.1.choose_spec.2 _ (by omega)) dX6_mirror_47 ?_
    refine g_callV C (s_X6_becomeDraft _ hC (i := i) (by omega)) (ci := 8) rfl hC.o rfl ml_RX6_193 im_yX6_becomeDraft se_RX6_yX6_becomeDraft in_RX6 co_yX6_becomeDraft hd_X6_becomeDraft rfl ⟨by omega, by omega⟩ rfl (Nat.le_of_ble_eq_true rfl) ⟨by omega, by omega⟩ dX6_mirror_48 (fun v48 w48 hp48 => ?_)
    obtain ⟨hbd48, hk48⟩ := hp48
    have hact := act_sm (pb := pb) (t := i) (D := ((pb i).1, v, -(pb i).2.2)) (fun j hj => pup_n (by omega)) pup_s (by omega) hbd48 (c := sm ((pb i).1, v, -(pb i).2.2)) Iff.rfl
    obtain ⟨ans, hans⟩ := act_v hact
    subst hans
    replace hK := hK.tr hk48
    exact g_ireturn C hQ dX6_mirror_51 (by omega) (by omega) ⟨((pb i).1, v, -(pb i).2.2), ⟨v, hv, rfl⟩, hact, hK⟩
  refine g_iload_n C dX6_mirror_27 rfl ?_
  refine g_if_eq (tgt := 41) C dX6_mirror_28 (by decide) (by omega) (fun h28 => ?_) (fun h28 => ?_)
  · first
    | exact J41 _ _ (Or.inl ⟨by omega, rfl⟩) hC hK
    | exact J41 _ _ (Or.inr ⟨by omega, rfl⟩) hC hK
  · refine g_aload_n C dX6_mirror_31 rfl ?_
    refine g_get (ci := 8) C rfl inTX6 5 (by decide) fl_RX6_42 rfl hC.o rfl dX6_mirror_32 ?_
    refine g_get (ci := 4) C rfl inTX2 1 (by decide) fl_RX6_224 rfl (hC.P 3 (by omega)).1.1 rfl dX6_mirror_35 ?_
    refine g_callV C (c_X5_negate _ (hC.P 3 (by omega)).1.2.1) (ci := 7) rfl (hC.N.W (j := 10) (by omega)).o rfl ml_RX6_221 im_yX5_negate se_RX5_yX5_negate in_RX5 co_yX5_negate hd_X5_negate rfl ⟨by omega, by omega⟩ rfl (Nat.le_of_ble_eq_true rfl) ⟨by omega, by omega⟩ dX6_mirror_38 (fun v38 w38 hp38 => ?_)
    obtain ⟨rfl, hws38, hfr38⟩ := hp38
    obtain ⟨hc38, hk38⟩ := hC.lft (i := 3) (by omega) hws38 hfr38
    replace hC := hc38
    replace hK := hK.tr hk38
    rw [pup_s, pup_pp] at hC
    first
    | exact J41 _ _ (Or.inl ⟨by omega, rfl⟩) hC hK
    | exact J41 _ _ (Or.inr ⟨by omega, rfl⟩) hC hK
def dvC (p : PT) (z : Int) : Prop := ¬ (z = 0 ∨ aB p.2.1 % aB z ≠ 0 ∨ aB p.2.2 % aB z ≠ 0)
theorem dv_md {x q d a : Int} (ha : 0 < a) (h0 : 0 ≤ d ∧ d < a) (h : aB q * a + d = x) : x % a = d := by
  rw [← h, Int.add_comm, Int.mul_comm, Int.add_mul_emod_self_left, Int.emod_eq_of_lt h0.1 h0.2]
theorem dv_ex {x q a : Int} (h : aB q * a + 0 = aB x) (h1 : 0 ≤ x → 0 ≤ q) (h2 : x ≤ 0 → q ≤ 0) : q * a = x := by
  unfold aB at h
  rcases Int.lt_or_le x 0 with c | c
  · have := h2 (by omega)
    rcases Int.lt_or_le q 0 with e | e
    · rw [if_pos e, if_pos c, Int.neg_mul] at h; omega
    · have : q = 0 := by omega
      subst this
      rw [if_neg (by omega), if_pos c, Int.zero_mul] at h
      omega
  · have := h1 c
    rw [if_neg (by omega), if_neg (by omega)] at h
    omega
theorem sm_dv {p : PT} {b x y z : Int} (h : sm p) (hz : z ≠ 0) (hx : x * z = p.2.1) (hy : y * z = p.2.2) : sm (b, x, y) := by
  have key : ∀ {u v : Int}, u * z = v → ¬ LGN ≤ aB v → ¬ LGN ≤ aB u := fun {u v} e hv => by
    have h1 := aB_mul (y := u) (d := z)
    rw [e] at h1
    have h2 := aB_pos hz
    have h4 : aB u * 1 ≤ aB u * aB z := Int.mul_le_mul_of_nonneg_left (by omega) (aB_0 u)
    omega
  exact fun c => c.elim (key hx (fun q => h (Or.inl q))) (key hy (fun q => h (Or.inr q)))
set_option maxHeartbeats 4000000 in
set_option maxRecDepth 100000 in
theorem s_X6_divideBy (l : Launch) {K : KC} {E : GE} {w : Wd} {τ ad : Nat → Nat} {bs ss : Nat → Int} {pb : Nat → PT} {P Q : Nat → Nat} {ct : Nat → Int} (hC0 : CS τ ad w bs ss pb P Q ct) {i : Nat} (hi : i < 3) {z : Int} (hz : -99 ≤ z ∧ z ≤ 99) : St K E l yX6_divideBy cX6_divideBy 6 (some .int) 6 (0) (0) [.ref (ad 100), iI (i : Int), iI z] w (fun r' w' => ∃ D : PT, (dvC (pb i) z → D.1 = (pb i).1 ∧ D.2.1 * z = (pb i).2.1 ∧ D.2.2 * z = (pb i).2.2) ∧ ACTP τ ad w' bs ss pb P Q ct i D (dvC (pb i) z) r' ∧ KO τ w w') := by
  refine st_intro [some (.ref (ad 100)), some (iI (i : Int)), some (iI z), none, none, none] rfl (Nat.le_of_ble_eq_true rfl) pn_X6 ?_
  intro X C hT hRm hl hnm hQ
  obtain ⟨hRf, hRl, hRc, hRs⟩ := hRm
  refine g_wf (fun hwf => ?_)
  have hC := hC0
  have hK : KO τ w w := KO.rf _ _
  refine g_iload_n C dX6_divideBy_0 rfl ?_
  refine g_callS C (s_X6_checkThing _ (v := (i : Int)) (by omega)) ml_RX6_61 sm_yX6_checkThing in_RX6 co_yX6_checkThing hd_X6_checkThing rfl ⟨by omega, by omega⟩ rfl (Nat.le_of_ble_eq_true rfl) ⟨by omega, by omega⟩ dX6_divideBy_1 (fun v1 w1 hp1 => ?_)
  obtain ⟨rfl, hw1⟩ := hp1
  subst w1
  refine g_iload_n C dX6_divideBy_4 rfl ?_
  refine g_bipush C dX6_divideBy_5 (by decide) ?_
  refine g_bipush C dX6_divideBy_7 (by decide) ?_
  refine g_callS C (s_X6_checkRange _ (v := z) (lo := (-99)) (hi := 99) (by omega) (by omega) (by omega)) ml_RX6_82 sm_yX6_checkRange in_RX6 co_yX6_checkRange hd_X6_checkRange rfl ⟨by omega, by omega⟩ rfl (Nat.le_of_ble_eq_true rfl) ⟨by omega, by omega⟩ dX6_divideBy_9 (fun v9 w9 hp9 => ?_)
  obtain ⟨rfl, hw9⟩ := hp9
  subst w9
  refine g_iload_n C dX6_divideBy_12 rfl ?_
  refine g_if_ne (tgt := 21) C dX6_divideBy_13 (by decide) (by omega) (fun h13 => ?_) (fun h13 => ?_)
  · refine g_aload_n C dX6_divideBy_21 rfl ?_
    refine g_get (ci := 8) C rfl inTX6 5 (by decide) fl_RX6_42 rfl hC.o rfl dX6_divideBy_22 ?_
    refine g_aload_n C dX6_divideBy_25 rfl ?_
    refine g_get (ci := 8) C rfl inTX6 1 (by decide) fl_RX6_17 rfl hC.o rfl dX6_divideBy_26 ?_
    refine g_iload_n C dX6_divideBy_29 rfl ?_
    refine g_aaloadN (i) C rfl rfl hC.A.2.1.choose_spec.1 (by omega) (by omega) (hC.A.2.1.choose_spec.2 _ (by omega)) dX6_divideBy_30 ?_
    refine g_callV C (s_X2_setPair _ hC.N (i := 3) (by omega) (hC.P 3 (by omega)).1.1 (m := i) (p := pb i) (by omega) (hC.P i (by omega)).1) (ci := 4) rfl (hC.P 3 (by omega)).1.1 rfl ml_RX6_214 im_yX2_setPair se_RX2_yX2_setPair in_RX2 co_yX2_setPair hd_X2_setPair rfl ⟨by omega, by omega⟩ rfl (Nat.le_of_ble_eq_true rfl) ⟨by omega, by omega⟩ dX6_divideBy_31 (fun v31 w31 hp31 => ?_)
    obtain ⟨rfl, hN31, hP31, hk31⟩ := hp31
    replace hC := hC.kx (i := 3) (p := (pb i)) (by omega) hk31 hN31 hP31 (hC0.P i (by omega)).2.1 (fun q => by omega)
    replace hK := hK.tr (hk31.kc (by omega))
    have hz0 : z ≠ 0 := by omega
    have hsm := (hC0.P i (by omega)).2.2 hi
    have J44 : ∀ x : Int, (1 ≤ x ∧ x ≤ 99) → x = aB z → G E X 6 44 [some (.ref (ad 100)), some (iI (i : Int)), some (iI z), none, none, none] [iI x] w31 0 0 := by
      intro x hx hxz
      refine g_istore_n C dX6_divideBy_44 (by decide) rfl ?_
      refine g_aload_n C dX6_divideBy_45 rfl ?_
      refine g_get (ci := 8) C rfl inTX6 5 (by decide) fl_RX6_42 rfl hC.o rfl dX6_divideBy_46 ?_
      refine g_get (ci := 4) C rfl inTX2 1 (by decide) fl_RX6_224 rfl (hC.P 3 (by omega)).1.1 rfl dX6_divideBy_49 ?_
      refine g_iload_n C dX6_divideBy_52 rfl ?_
      refine g_callV C (u_X5_divideSmall _ (hC.P 3 (by omega)).1.2.1 (y := x) (by omega)) (ci := 7) rfl (hC.N.W (j := 10) (by omega)).o rfl ml_RX6_227 im_yX5_divideSmall se_RX5_yX5_divideSmall in_RX5 co_yX5_divideSmall hd_X5_divideSmall rfl ⟨by omega, by omega⟩ rfl (Nat.le_of_ble_eq_true rfl) ⟨by omega, by omega⟩ dX6_divideBy_53 (fun v53 w53 hp53 => ?_)
      obtain ⟨d53, q53, rfl, d53a, d53b, hws53, q53a, q53b, q53c, hfr53⟩ := hp53
      obtain ⟨hc53, hk53⟩ := hC.lft (i := 3) (by omega) hws53 hfr53
      replace hC := hc53
      replace hK := hK.tr hk53
      rw [pup_s, pup_pp] at hC
      rw [pup_s] at q53a q53b q53c
      try dsimp only at q53a q53b q53c
      try dsimp only at hC
      refine g_istore C dX6_divideBy_56 (by decide) rfl ?_
      refine g_aload_n C dX6_divideBy_58 rfl ?_
      refine g_get (ci := 8) C rfl inTX6 5 (by decide) fl_RX6_42 rfl hC.o rfl dX6_divideBy_59 ?_
      refine g_get (ci := 4) C rfl inTX2 2 (by decide) fl_RX6_217 rfl (hC.P 3 (by omega)).1.1 rfl dX6_divideBy_62 ?_
      refine g_iload_n C dX6_divideBy_65 rfl ?_
      refine g_callV C (u_X5_divideSmall _ (hC.P 3 (by omega)).1.2.2 (y := x) (by omega)) (ci := 7) rfl (hC.N.W (j := 11) (by omega)).o rfl ml_RX6_227 im_yX5_divideSmall se_RX5_yX5_divideSmall in_RX5 co_yX5_divideSmall hd_X5_divideSmall rfl ⟨by omega, by omega⟩ rfl (Nat.le_of_ble_eq_true rfl) ⟨by omega, by omega⟩ dX6_divideBy_66 (fun v66 w66 hp66 => ?_)
      obtain ⟨d66, q66, rfl, d66a, d66b, hws66, q66a, q66b, q66c, hfr66⟩ := hp66
      obtain ⟨hc66, hk66⟩ := hC.rgt (i := 3) (by omega) hws66 hfr66
      replace hC := hc66
      replace hK := hK.tr hk66
      rw [pup_s, pup_pp] at hC
      rw [pup_s] at q66a q66b q66c
      try dsimp only at q66a q66b q66c
      try dsimp only at hC
      have m1 := dv_md (show 0 < x by omega) ⟨d53a, d53b⟩ q53a
      have m2 := dv_md (show 0 < x by omega) ⟨d66a, d66b⟩ q66a
      rw [hxz] at m1 m2
      refine g_istore C dX6_divideBy_69 (by decide) rfl ?_
      refine g_iload C dX6_divideBy_71 rfl ?_
      refine g_if_ne (tgt := 81) C dX6_divideBy_73 (by decide) (by omega) (fun h73 => ?_) (fun h73 => ?_)
      · refine g_aload_n C dX6_divideBy_81 rfl ?_
        refine g_callV C (s_X6_refuse _ hC) (ci := 8) rfl hC.o rfl ml_RX6_86 im_yX6_refuse se_RX6_yX6_refuse in_RX6 co_yX6_refuse hd_X6_refuse rfl ⟨by omega, by omega⟩ rfl (Nat.le_of_ble_eq_true rfl) ⟨by omega, by omega⟩ dX6_divideBy_82 (fun v82 w82 hp82 => ?_)
        obtain ⟨rfl, hc82, hk82⟩ := hp82
        replace hC := hc82
        replace hK := hK.tr hk82
        exact g_ireturn C hQ dX6_divideBy_85 (Nat.le_refl _) (Nat.le_refl _) ⟨(pb i), (fun c => absurd (Or.inr (by omega)) c), Or.inl ⟨fun c => c (Or.inr (by omega)), rfl, _, fun j hj => by first | rfl | exact pup_n (by omega), hC⟩, hK⟩
      · refine g_iload C dX6_divideBy_76 rfl ?_
        refine g_if_eq (tgt := 86) C dX6_divideBy_78 (by decide) (by omega) (fun h78 => ?_) (fun h78 => ?_)
        · have e53 : d53 = 0 := by omega
          have e66 : d66 = 0 := by omega
          subst e53 e66
          have hdc : dvC (pb i) z := fun c => by rcases c with c | c | c <;> omega
          have x1 := dv_ex q53a q53b q53c
          have x2 := dv_ex q66a q66b q66c
          have J110 : ∀ (u : Wd) (v1 v2 : Int), v1 * z = (pb i).2.1 → v2 * z = (pb i).2.2 → CS τ ad u bs ss (pup pb 3 ((pb i).1, v1, v2)) P Q ct → KO τ w u → G E X 6 110 [some (.ref (ad 100)), some (iI (i : Int)), some (iI z), some (iI x), some (iI 0), some (iI 0)] [] u 0 0 := by
            clear hC hK
            intro u v1 v2 hv1 hv2 hC hK
            refine g_aload_n C dX6_divideBy_110 rfl ?_
            refine g_aload_n C dX6_divideBy_111 rfl ?_
            refine g_get (ci := 8) C rfl inTX6 1 (by decide) fl_RX6_17 rfl hC.o rfl dX6_divideBy_112 ?_
            refine g_iload_n C dX6_divideBy_115 rfl ?_
            refine g_aaloadN (i) C rfl rfl hC.A.2.1.choose_spec.1 (by omega) (by omega) (hC.A.2.1.choose_spec.2 _ (by omega)) dX6_divideBy_116 ?_
            refine g_callV C (s_X6_becomeDraft _ hC (i := i) (by omega)) (ci := 8) rfl hC.o rfl ml_RX6_193 im_yX6_becomeDraft se_RX6_yX6_becomeDraft in_RX6 co_yX6_becomeDraft hd_X6_becomeDraft rfl ⟨by omega, by omega⟩ rfl (Nat.le_of_ble_eq_true rfl) ⟨by omega, by omega⟩ dX6_divideBy_117 (fun v117 w117 hp117 => ?_)
            obtain ⟨hbd117, hk117⟩ := hp117
            have hact := act_sm (pb := pb) (t := i) (D := ((pb i).1, v1, v2)) (fun j hj => pup_n (by omega)) pup_s (by omega) hbd117 (c := dvC (pb i) z) ⟨fun _ => sm_dv hsm hz0 hv1 hv2, fun _ => hdc⟩
            obtain ⟨ans, hans⟩ := act_v hact
            subst hans
            replace hK := hK.tr hk117
            exact g_ireturn C hQ dX6_divideBy_120 (by omega) (by omega) ⟨((pb i).1, v1, v2), (fun _ => ⟨rfl, hv1, hv2⟩), hact, hK⟩
          refine g_iload_n C dX6_divideBy_86 rfl ?_
          refine g_if_ge (tgt := 110) C dX6_divideBy_87 (by decide) (by omega) (fun h87 => ?_) (fun h87 => ?_)
          · first
            | exact J110 _ _ _ (by rw [← x1, hxz]; unfold aB; rw [if_pos (by omega), Int.neg_mul_comm]) (by rw [← x2, hxz]; unfold aB; rw [if_pos (by omega), Int.neg_mul_comm]) hC hK
            | exact J110 _ _ _ (by rw [← x1, hxz]; unfold aB; rw [if_neg (by omega)]) (by rw [← x2, hxz]; unfold aB; rw [if_neg (by omega)]) hC hK
          · refine g_aload_n C dX6_divideBy_90 rfl ?_
            refine g_get (ci := 8) C rfl inTX6 5 (by decide) fl_RX6_42 rfl hC.o rfl dX6_divideBy_91 ?_
            refine g_get (ci := 4) C rfl inTX2 1 (by decide) fl_RX6_224 rfl (hC.P 3 (by omega)).1.1 rfl dX6_divideBy_94 ?_
            refine g_callV C (c_X5_negate _ (hC.P 3 (by omega)).1.2.1) (ci := 7) rfl (hC.N.W (j := 10) (by omega)).o rfl ml_RX6_221 im_yX5_negate se_RX5_yX5_negate in_RX5 co_yX5_negate hd_X5_negate rfl ⟨by omega, by omega⟩ rfl (Nat.le_of_ble_eq_true rfl) ⟨by omega, by omega⟩ dX6_divideBy_97 (fun v97 w97 hp97 => ?_)
            obtain ⟨rfl, hws97, hfr97⟩ := hp97
            obtain ⟨hc97, hk97⟩ := hC.lft (i := 3) (by omega) hws97 hfr97
            replace hC := hc97
            replace hK := hK.tr hk97
            rw [pup_s, pup_pp] at hC
            refine g_aload_n C dX6_divideBy_100 rfl ?_
            refine g_get (ci := 8) C rfl inTX6 5 (by decide) fl_RX6_42 rfl hC.o rfl dX6_divideBy_101 ?_
            refine g_get (ci := 4) C rfl inTX2 2 (by decide) fl_RX6_217 rfl (hC.P 3 (by omega)).1.1 rfl dX6_divideBy_104 ?_
            refine g_callV C (c_X5_negate _ (hC.P 3 (by omega)).1.2.2) (ci := 7) rfl (hC.N.W (j := 11) (by omega)).o rfl ml_RX6_221 im_yX5_negate se_RX5_yX5_negate in_RX5 co_yX5_negate hd_X5_negate rfl ⟨by omega, by omega⟩ rfl (Nat.le_of_ble_eq_true rfl) ⟨by omega, by omega⟩ dX6_divideBy_107 (fun v107 w107 hp107 => ?_)
            obtain ⟨rfl, hws107, hfr107⟩ := hp107
            obtain ⟨hc107, hk107⟩ := hC.rgt (i := 3) (by omega) hws107 hfr107
            replace hC := hc107
            replace hK := hK.tr hk107
            rw [pup_s, pup_pp] at hC
            first
            | exact J110 _ _ _ (by rw [← x1, hxz]; unfold aB; rw [if_pos (by omega), Int.neg_mul_comm]) (by rw [← x2, hxz]; unfold aB; rw [if_pos (by omega), Int.neg_mul_comm]) hC hK
            | exact J110 _ _ _ (by rw [← x1, hxz]; unfold aB; rw [if_neg (by omega)]) (by rw [← x2, hxz]; unfold aB; rw [if_neg (by omega)]) hC hK
        · refine g_aload_n C dX6_divideBy_81 rfl ?_
          refine g_callV C (s_X6_refuse _ hC) (ci := 8) rfl hC.o rfl ml_RX6_86 im_yX6_refuse se_RX6_yX6_refuse in_RX6 co_yX6_refuse hd_X6_refuse rfl ⟨by omega, by omega⟩ rfl (Nat.le_of_ble_eq_true rfl) ⟨by omega, by omega⟩ dX6_divideBy_82 (fun v82 w82 hp82 => ?_)
          obtain ⟨rfl, hc82, hk82⟩ := hp82
          replace hC := hc82
          replace hK := hK.tr hk82
          exact g_ireturn C hQ dX6_divideBy_85 (Nat.le_refl _) (Nat.le_refl _) ⟨(pb i), (fun c => absurd (Or.inr (by omega)) c), Or.inl ⟨fun c => c (Or.inr (by omega)), rfl, _, fun j hj => by first | rfl | exact pup_n (by omega), hC⟩, hK⟩
    refine g_iload_n C dX6_divideBy_34 rfl ?_
    refine g_if_ge (tgt := 43) C dX6_divideBy_35 (by decide) (by omega) (fun h35 => ?_) (fun h35 => ?_)
    · refine g_iload_n C dX6_divideBy_43 rfl ?_
      first | exact J44 _ (by omega) (by unfold aB; rw [if_pos (by omega)]) | exact J44 _ (by omega) (by unfold aB; rw [if_neg (by omega)])
    · refine g_iload_n C dX6_divideBy_38 rfl ?_
      refine g_ineg C dX6_divideBy_39 ?_
      refine g_goto (tgt := 44) C dX6_divideBy_40 (by decide) ?_
      first | exact J44 _ (by omega) (by unfold aB; rw [if_pos (by omega)]) | exact J44 _ (by omega) (by unfold aB; rw [if_neg (by omega)])
  · refine g_aload_n C dX6_divideBy_16 rfl ?_
    refine g_callV C (s_X6_refuse _ hC) (ci := 8) rfl hC.o rfl ml_RX6_86 im_yX6_refuse se_RX6_yX6_refuse in_RX6 co_yX6_refuse hd_X6_refuse rfl ⟨by omega, by omega⟩ rfl (Nat.le_of_ble_eq_true rfl) ⟨by omega, by omega⟩ dX6_divideBy_17 (fun v17 w17 hp17 => ?_)
    obtain ⟨rfl, hc17, hk17⟩ := hp17
    replace hC := hc17
    replace hK := hK.tr hk17
    exact g_ireturn C hQ dX6_divideBy_20 (Nat.le_refl _) (Nat.le_refl _) ⟨(pb i), (fun c => absurd (Or.inl (by omega)) c), Or.inl ⟨fun c => c (Or.inl (by omega)), rfl, _, fun j hj => by first | rfl | exact pup_n (by omega), hC⟩, hK⟩
set_option maxHeartbeats 4000000 in
set_option maxRecDepth 100000 in
theorem s_X6_pairCopy (l : Launch) {K : KC} {E : GE} {w : Wd} {τ ad : Nat → Nat} {bs ss : Nat → Int} {pb : Nat → PT} {P Q : Nat → Nat} {ct : Nat → Int} (hC0 : CS τ ad w bs ss pb P Q ct) {i : Nat} (hi : i < 3) {k : Nat} (hk : k < 3) : St K E l yX6_pairCopy cX6_pairCopy 3 (some .int) 6 (0) (0) [.ref (ad 100), iI (i : Int), iI (k : Int)] w (fun r' w' => ∃ D : PT, (D = pb i) ∧ ACTP τ ad w' bs ss pb P Q ct k D (sm D) r' ∧ KO τ w w') := by
  refine st_intro [some (.ref (ad 100)), some (iI (i : Int)), some (iI (k : Int))] rfl (Nat.le_of_ble_eq_true rfl) pn_X6 ?_
  intro X C hT hRm hl hnm hQ
  obtain ⟨hRf, hRl, hRc, hRs⟩ := hRm
  refine g_wf (fun hwf => ?_)
  have hC := hC0
  have hK : KO τ w w := KO.rf _ _
  refine g_iload_n C dX6_pairCopy_0 rfl ?_
  refine g_callS C (s_X6_checkThing _ (v := (i : Int)) (by omega)) ml_RX6_61 sm_yX6_checkThing in_RX6 co_yX6_checkThing hd_X6_checkThing rfl ⟨by omega, by omega⟩ rfl (Nat.le_of_ble_eq_true rfl) ⟨by omega, by omega⟩ dX6_pairCopy_1 (fun v1 w1 hp1 => ?_)
  obtain ⟨rfl, hw1⟩ := hp1
  subst w1
  refine g_iload_n C dX6_pairCopy_4 rfl ?_
  refine g_callS C (s_X6_checkThing _ (v := (k : Int)) (by omega)) ml_RX6_61 sm_yX6_checkThing in_RX6 co_yX6_checkThing hd_X6_checkThing rfl ⟨by omega, by omega⟩ rfl (Nat.le_of_ble_eq_true rfl) ⟨by omega, by omega⟩ dX6_pairCopy_5 (fun v5 w5 hp5 => ?_)
  obtain ⟨rfl, hw5⟩ := hp5
  subst w5
  refine g_aload_n C dX6_pairCopy_8 rfl ?_
  refine g_get (ci := 8) C rfl inTX6 5 (by decide) fl_RX6_42 rfl hC.o rfl dX6_pairCopy_9 ?_
  refine g_aload_n C dX6_pairCopy_12 rfl ?_
  refine g_get (ci := 8) C rfl inTX6 1 (by decide) fl_RX6_17 rfl hC.o rfl dX6_pairCopy_13 ?_
  refine g_iload_n C dX6_pairCopy_16 rfl ?_
  refine g_aaloadN (i) C rfl rfl hC.A.2.1.choose_spec.1 (by omega) (by omega) (hC.A.2.1.choose_spec.2 _ (by omega)) dX6_pairCopy_17 ?_
  refine g_callV C (s_X2_setPair _ hC.N (i := 3) (by omega) (hC.P 3 (by omega)).1.1 (m := i) (p := pb i) (by omega) (hC.P i (by omega)).1) (ci := 4) rfl (hC.P 3 (by omega)).1.1 rfl ml_RX6_214 im_yX2_setPair se_RX2_yX2_setPair in_RX2 co_yX2_setPair hd_X2_setPair rfl ⟨by omega, by omega⟩ rfl (Nat.le_of_ble_eq_true rfl) ⟨by omega, by omega⟩ dX6_pairCopy_18 (fun v18 w18 hp18 => ?_)
  obtain ⟨rfl, hN18, hP18, hk18⟩ := hp18
  replace hC := hC.kx (i := 3) (p := (pb i)) (by omega) hk18 hN18 hP18 (hC0.P i (by omega)).2.1 (fun q => by omega)
  replace hK := hK.tr (hk18.kc (by omega))
  refine g_aload_n C dX6_pairCopy_21 rfl ?_
  refine g_aload_n C dX6_pairCopy_22 rfl ?_
  refine g_get (ci := 8) C rfl inTX6 1 (by decide) fl_RX6_17 rfl hC.o rfl dX6_pairCopy_23 ?_
  refine g_iload_n C dX6_pairCopy_26 rfl ?_
  refine g_aaloadN (k) C rfl rfl hC.A.2.1.choose_spec.1 (by omega) (by omega) (hC.A.2.1.choose_spec.2 _ (by omega)) dX6_pairCopy_27 ?_
  refine g_callV C (s_X6_becomeDraft _ hC (i := k) (by omega)) (ci := 8) rfl hC.o rfl ml_RX6_193 im_yX6_becomeDraft se_RX6_yX6_becomeDraft in_RX6 co_yX6_becomeDraft hd_X6_becomeDraft rfl ⟨by omega, by omega⟩ rfl (Nat.le_of_ble_eq_true rfl) ⟨by omega, by omega⟩ dX6_pairCopy_28 (fun v28 w28 hp28 => ?_)
  obtain ⟨hbd28, hk28⟩ := hp28
  have hact := act_sm (pb := pb) (t := k) (D := (pb i)) (fun j hj => pup_n (by omega)) pup_s (by omega) hbd28 (c := sm (pb i)) Iff.rfl
  obtain ⟨ans, hans⟩ := act_v hact
  subst hans
  replace hK := hK.tr hk28
  exact g_ireturn C hQ dX6_pairCopy_31 (by omega) (by omega) ⟨(pb i), rfl, hact, hK⟩
set_option maxHeartbeats 4000000 in
set_option maxRecDepth 100000 in
theorem s_X6_pairBase (l : Launch) {K : KC} {E : GE} {w : Wd} {τ ad : Nat → Nat} {bs ss : Nat → Int} {pb : Nat → PT} {P Q : Nat → Nat} {ct : Nat → Int} (hC0 : CS τ ad w bs ss pb P Q ct) {i : Nat} (hi : i < 3) : St K E l yX6_pairBase cX6_pairBase 2 (some .int) 6 (0) (0) [.ref (ad 100), iI (i : Int)] w (fun r' w' => r' = some (iI (pb i).1) ∧ CS τ ad w' (bs) (ss) (pb) (P) (Q) (ct) ∧ KO τ w w') := by
  refine st_intro [some (.ref (ad 100)), some (iI (i : Int))] rfl (Nat.le_of_ble_eq_true rfl) pn_X6 ?_
  intro X C hT hRm hl hnm hQ
  obtain ⟨hRf, hRl, hRc, hRs⟩ := hRm
  refine g_wf (fun hwf => ?_)
  have hC := hC0
  have hK : KO τ w w := KO.rf _ _
  refine g_iload_n C dX6_pairBase_0 rfl ?_
  refine g_callS C (s_X6_checkThing _ (v := (i : Int)) (by omega)) ml_RX6_61 sm_yX6_checkThing in_RX6 co_yX6_checkThing hd_X6_checkThing rfl ⟨by omega, by omega⟩ rfl (Nat.le_of_ble_eq_true rfl) ⟨by omega, by omega⟩ dX6_pairBase_1 (fun v1 w1 hp1 => ?_)
  obtain ⟨rfl, hw1⟩ := hp1
  subst w1
  refine g_aload_n C dX6_pairBase_4 rfl ?_
  refine g_get (ci := 8) C rfl inTX6 1 (by decide) fl_RX6_17 rfl hC.o rfl dX6_pairBase_5 ?_
  refine g_iload_n C dX6_pairBase_8 rfl ?_
  refine g_aaloadN (i) C rfl rfl hC.A.2.1.choose_spec.1 (by omega) (by omega) (hC.A.2.1.choose_spec.2 _ (by omega)) dX6_pairBase_9 ?_
  refine g_get (ci := 4) C rfl inTX2 0 (by decide) fl_RX6_205 rfl (hC.P i (by omega)).1.1 rfl dX6_pairBase_10 ?_
  exact g_ireturn C hQ dX6_pairBase_13 (Nat.le_refl _) (Nat.le_refl _) ⟨rfl, hC, hK⟩
def sdV (y : Int) (p : PT) : Int := if y = 1 then p.2.1 else p.2.2
theorem PV.sd {ad : Nat → Nat} {w : Wd} {i j : Nat} {p : PT} {y : Int} (h : PV ad w i p) (hj : y = 1 ∧ j = 4 + 2 * i ∨ y = 0 ∧ j = 5 + 2 * i) : NW ad w j (sdV y p) := by
  unfold sdV
  rcases hj with ⟨q1, q2⟩ | ⟨q1, q2⟩
  · rw [if_pos q1, q2]; exact h.2.1
  · rw [if_neg (by omega), q2]; exact h.2.2
set_option maxHeartbeats 4000000 in
set_option maxRecDepth 100000 in
theorem s_X6_pairText (l : Launch) {K : KC} {E : GE} {w : Wd} {τ ad : Nat → Nat} {bs ss : Nat → Int} {pb : Nat → PT} {P Q : Nat → Nat} {ct : Nat → Int} (hC0 : CS τ ad w bs ss pb P Q ct) {i : Nat} (hi : i < 3) {y : Int} (hy : y = 0 ∨ y = 1) : St K E l yX6_pairText cX6_pairText 3 (some (.object "java/lang/String")) 9 (61) (2600) [.ref (ad 100), iI (i : Int), iI y] w (fun r' w' => (∃ s : Nat, r' = some (.ref s)) ∧ CS τ ad w' (bs) (ss) (pb) (P) (Q) (ct) ∧ KO τ w w') := by
  refine st_intro [some (.ref (ad 100)), some (iI (i : Int)), some (iI y)] rfl (Nat.le_of_ble_eq_true rfl) pn_X6 ?_
  intro X C hT hRm hl hnm hQ
  obtain ⟨hRf, hRl, hRc, hRs⟩ := hRm
  refine g_wf (fun hwf => ?_)
  have hC := hC0
  have hK : KO τ w w := KO.rf _ _
  refine g_iload_n C dX6_pairText_0 rfl ?_
  refine g_callS C (s_X6_checkThing _ (v := (i : Int)) (by omega)) ml_RX6_61 sm_yX6_checkThing in_RX6 co_yX6_checkThing hd_X6_checkThing rfl ⟨by omega, by omega⟩ rfl (Nat.le_of_ble_eq_true rfl) ⟨by omega, by omega⟩ dX6_pairText_1 (fun v1 w1 hp1 => ?_)
  obtain ⟨rfl, hw1⟩ := hp1
  subst w1
  refine g_aload_n C dX6_pairText_4 rfl ?_
  refine g_get (ci := 8) C rfl inTX6 4 (by decide) fl_RX6_37 rfl hC.o rfl dX6_pairText_5 ?_
  refine g_aload_n C dX6_pairText_8 rfl ?_
  refine g_get (ci := 8) C rfl inTX6 1 (by decide) fl_RX6_17 rfl hC.o rfl dX6_pairText_9 ?_
  refine g_iload_n C dX6_pairText_12 rfl ?_
  refine g_aaloadN (i) C rfl rfl hC.A.2.1.choose_spec.1 (by omega) (by omega) (hC.A.2.1.choose_spec.2 _ (by omega)) dX6_pairText_13 ?_
  refine g_iload_n C dX6_pairText_14 rfl ?_
  refine g_callV C (s_X2_side _ (i := i) (by omega) (hC.P i (by omega)).1.1 (y := y) (by omega)) (ci := 4) rfl (hC.P i (by omega)).1.1 rfl ml_RX6_230 im_yX2_side se_RX2_yX2_side in_RX2 co_yX2_side hd_X2_side rfl ⟨by omega, by omega⟩ rfl (Nat.le_of_ble_eq_true rfl) ⟨by omega, by omega⟩ dX6_pairText_15 (fun v15 w15 hp15 => ?_)
  obtain ⟨⟨j15, rfl, hj15⟩, hw15⟩ := hp15
  subst w15
  refine g_bipush C dX6_pairText_18 (by decide) ?_
  refine t_callV C hT (s_X0_text _ hC.N hC.D (j := j15) (by omega) (rx := 10) (by omega)) (RcV.ob (ci := 2) C rfl hC.D) rfl ml_RX6_102 im_yX0_text se_RX0_yX0_text in_RX0 co_yX0_text hd_X0_text rfl ⟨by omega, by omega⟩ rfl (Nat.le_of_ble_eq_true rfl) ⟨by omega, by omega⟩ dX6_pairText_20 (fun v20 w20 hp20 => ?_)
  obtain ⟨⟨s20, rfl⟩, hN20, hk20⟩ := hp20
  replace hC := hC.kn hk20 hN20
  replace hK := hK.tr hk20.kc
  exact g_areturn C (Or.inl ⟨_, rfl⟩) hQ (Or.inr ⟨_, rfl⟩) dX6_pairText_23 (by omega) (by omega) ⟨⟨s20, rfl⟩, hC, hK⟩
set_option maxHeartbeats 4000000 in
set_option maxRecDepth 100000 in
theorem s_X6_pairNorm (l : Launch) {K : KC} {E : GE} {w : Wd} {τ ad : Nat → Nat} {bs ss : Nat → Int} {pb : Nat → PT} {P Q : Nat → Nat} {ct : Nat → Int} (hC0 : CS τ ad w bs ss pb P Q ct) {i : Nat} (hi : i < 3) : St K E l yX6_pairNorm cX6_pairNorm 2 (some (.object "java/lang/String")) 9 (61) (2600) [.ref (ad 100), iI (i : Int)] w (fun r' w' => (∃ s : Nat, r' = some (.ref s)) ∧ CS τ ad w' (bs) (ss) (pb) (P) (Q) (ct) ∧ KO τ w w') := by
  refine st_intro [some (.ref (ad 100)), some (iI (i : Int))] rfl (Nat.le_of_ble_eq_true rfl) pn_X6 ?_
  intro X C hT hRm hl hnm hQ
  obtain ⟨hRf, hRl, hRc, hRs⟩ := hRm
  refine g_wf (fun hwf => ?_)
  have hC := hC0
  have hK : KO τ w w := KO.rf _ _
  refine g_iload_n C dX6_pairNorm_0 rfl ?_
  refine g_callS C (s_X6_checkThing _ (v := (i : Int)) (by omega)) ml_RX6_61 sm_yX6_checkThing in_RX6 co_yX6_checkThing hd_X6_checkThing rfl ⟨by omega, by omega⟩ rfl (Nat.le_of_ble_eq_true rfl) ⟨by omega, by omega⟩ dX6_pairNorm_1 (fun v1 w1 hp1 => ?_)
  obtain ⟨rfl, hw1⟩ := hp1
  subst w1
  have g1 := (hC.P i (by omega)).2.1.1
  have g2 := (hC.P i (by omega)).2.1.2.1
  obtain ⟨b1, b2⟩ := sm_125 ((hC.P i (by omega)).2.2 hi)
  refine g_aload_n C dX6_pairNorm_4 rfl ?_
  refine g_get (ci := 8) C rfl inTX6 4 (by decide) fl_RX6_37 rfl hC.o rfl dX6_pairNorm_5 ?_
  refine g_aload_n C dX6_pairNorm_8 rfl ?_
  refine g_get (ci := 8) C rfl inTX6 4 (by decide) fl_RX6_37 rfl hC.o rfl dX6_pairNorm_9 ?_
  refine g_aload_n C dX6_pairNorm_12 rfl ?_
  refine g_get (ci := 8) C rfl inTX6 1 (by decide) fl_RX6_17 rfl hC.o rfl dX6_pairNorm_13 ?_
  refine g_iload_n C dX6_pairNorm_16 rfl ?_
  refine g_aaloadN (i) C rfl rfl hC.A.2.1.choose_spec.1 (by omega) (by omega) (hC.A.2.1.choose_spec.2 _ (by omega)) dX6_pairNorm_17 ?_
  refine g_get (ci := 4) C rfl inTX2 0 (by decide) fl_RX6_205 rfl (hC.P i (by omega)).1.1 rfl dX6_pairNorm_18 ?_
  refine g_aload_n C dX6_pairNorm_21 rfl ?_
  refine g_get (ci := 8) C rfl inTX6 1 (by decide) fl_RX6_17 rfl hC.o rfl dX6_pairNorm_22 ?_
  refine g_iload_n C dX6_pairNorm_25 rfl ?_
  refine g_aaloadN (i) C rfl rfl hC.A.2.1.choose_spec.1 (by omega) (by omega) (hC.A.2.1.choose_spec.2 _ (by omega)) dX6_pairNorm_26 ?_
  refine g_get (ci := 4) C rfl inTX2 1 (by decide) fl_RX6_224 rfl (hC.P i (by omega)).1.1 rfl dX6_pairNorm_27 ?_
  refine g_aload_n C dX6_pairNorm_30 rfl ?_
  refine g_get (ci := 8) C rfl inTX6 1 (by decide) fl_RX6_17 rfl hC.o rfl dX6_pairNorm_31 ?_
  refine g_iload_n C dX6_pairNorm_34 rfl ?_
  refine g_aaloadN (i) C rfl rfl hC.A.2.1.choose_spec.1 (by omega) (by omega) (hC.A.2.1.choose_spec.2 _ (by omega)) dX6_pairNorm_35 ?_
  refine g_get (ci := 4) C rfl inTX2 2 (by decide) fl_RX6_217 rfl (hC.P i (by omega)).1.1 rfl dX6_pairNorm_36 ?_
  refine g_callV C (s_X0_norm _ hC.N hC.D (b := (pb i).1) (by omega) (j := 4 + 2 * i) (k := 5 + 2 * i) (by omega) (by omega) (hC.P i (by omega)).1.2.1 b1 (hC.P i (by omega)).1.2.2 b2) (ci := 2) rfl hC.D rfl ml_RX6_234 im_yX0_norm se_RX0_yX0_norm in_RX0 co_yX0_norm hd_X0_norm rfl ⟨by omega, by omega⟩ rfl (Nat.le_of_ble_eq_true rfl) ⟨by omega, by omega⟩ dX6_pairNorm_39 (fun v39 w39 hp39 => ?_)
  obtain ⟨rfl, f39, hN39, hk39⟩ := hp39
  replace hC := hC.kn hk39 hN39
  replace hK := hK.tr hk39.kc
  refine g_bipush C dX6_pairNorm_42 (by decide) ?_
  refine t_callV C hT (s_X0_text _ hC.N hC.D (j := 1) (by omega) (rx := 10) (by omega)) (RcV.ob (ci := 2) C rfl hC.D) rfl ml_RX6_102 im_yX0_text se_RX0_yX0_text in_RX0 co_yX0_text hd_X0_text rfl ⟨by omega, by omega⟩ rfl (Nat.le_of_ble_eq_true rfl) ⟨by omega, by omega⟩ dX6_pairNorm_44 (fun v44 w44 hp44 => ?_)
  obtain ⟨⟨s44, rfl⟩, hN44, hk44⟩ := hp44
  replace hC := hC.kn hk44 hN44
  replace hK := hK.tr hk44.kc
  exact g_areturn C (Or.inl ⟨_, rfl⟩) hQ (Or.inr ⟨_, rfl⟩) dX6_pairNorm_47 (by omega) (by omega) ⟨⟨s44, rfl⟩, hC, hK⟩
set_option maxHeartbeats 4000000 in
set_option maxRecDepth 100000 in
theorem s_X6_pairBits (l : Launch) {K : KC} {E : GE} {w : Wd} {τ ad : Nat → Nat} {bs ss : Nat → Int} {pb : Nat → PT} {P Q : Nat → Nat} {ct : Nat → Int} (hC0 : CS τ ad w bs ss pb P Q ct) {i : Nat} (hi : i < 3) {y z : Int} (hy : y = 0 ∨ y = 1) (hz : 0 ≤ z ∧ z ≤ 2) : St K E l yX6_pairBits cX6_pairBits 4 (some .int) 6 (0) (0) [.ref (ad 100), iI (i : Int), iI y, iI z] w (fun r' w' => r' = some (iI (bitV (sdV y (pb i)) z)) ∧ CS τ ad w' (bs) (ss) (pb) (P) (Q) (ct) ∧ KO τ w w') := by
  refine st_intro [some (.ref (ad 100)), some (iI (i : Int)), some (iI y), some (iI z)] rfl (Nat.le_of_ble_eq_true rfl) pn_X6 ?_
  intro X C hT hRm hl hnm hQ
  obtain ⟨hRf, hRl, hRc, hRs⟩ := hRm
  refine g_wf (fun hwf => ?_)
  have hC := hC0
  have hK : KO τ w w := KO.rf _ _
  refine g_iload_n C dX6_pairBits_0 rfl ?_
  refine g_callS C (s_X6_checkThing _ (v := (i : Int)) (by omega)) ml_RX6_61 sm_yX6_checkThing in_RX6 co_yX6_checkThing hd_X6_checkThing rfl ⟨by omega, by omega⟩ rfl (Nat.le_of_ble_eq_true rfl) ⟨by omega, by omega⟩ dX6_pairBits_1 (fun v1 w1 hp1 => ?_)
  obtain ⟨rfl, hw1⟩ := hp1
  subst w1
  refine g_iload_n C dX6_pairBits_4 rfl ?_
  refine g_iconst C dX6_pairBits_5 ?_
  refine g_iconst C dX6_pairBits_6 ?_
  refine g_callS C (s_X6_checkRange _ (v := z) (lo := 0) (hi := 2) (by omega) (by omega) (by omega)) ml_RX6_82 sm_yX6_checkRange in_RX6 co_yX6_checkRange hd_X6_checkRange rfl ⟨by omega, by omega⟩ rfl (Nat.le_of_ble_eq_true rfl) ⟨by omega, by omega⟩ dX6_pairBits_7 (fun v7 w7 hp7 => ?_)
  obtain ⟨rfl, hw7⟩ := hp7
  subst w7
  refine g_aload_n C dX6_pairBits_10 rfl ?_
  refine g_get (ci := 8) C rfl inTX6 1 (by decide) fl_RX6_17 rfl hC.o rfl dX6_pairBits_11 ?_
  refine g_iload_n C dX6_pairBits_14 rfl ?_
  refine g_aaloadN (i) C rfl rfl hC.A.2.1.choose_spec.1 (by omega) (by omega) (hC.A.2.1.choose_spec.2 _ (by omega)) dX6_pairBits_15 ?_
  refine g_iload_n C dX6_pairBits_16 rfl ?_
  refine g_callV C (s_X2_side _ (i := i) (by omega) (hC.P i (by omega)).1.1 (y := y) (by omega)) (ci := 4) rfl (hC.P i (by omega)).1.1 rfl ml_RX6_230 im_yX2_side se_RX2_yX2_side in_RX2 co_yX2_side hd_X2_side rfl ⟨by omega, by omega⟩ rfl (Nat.le_of_ble_eq_true rfl) ⟨by omega, by omega⟩ dX6_pairBits_17 (fun v17 w17 hp17 => ?_)
  obtain ⟨⟨j17, rfl, hj17⟩, hw17⟩ := hp17
  subst w17
  have f17 := (hC.P i (by omega)).1.sd hj17
  have hsm := (hC.P i (by omega)).2.2 hi
  have h120 : aB (sdV y (pb i)) < 2 ^ 120 := by
    unfold sdV
    split
    · exact lg_120 (fun q => hsm (Or.inl q))
    · exact lg_120 (fun q => hsm (Or.inr q))
  refine g_iload_n C dX6_pairBits_20 rfl ?_
  refine g_callS C (s_X6_countBits _ hC (j := j17) (by omega) f17 h120 (z := z) hz) ml_RX6_109 sm_yX6_countBits in_RX6 co_yX6_countBits hd_X6_countBits rfl ⟨by omega, by omega⟩ rfl (Nat.le_of_ble_eq_true rfl) ⟨by omega, by omega⟩ dX6_pairBits_21 (fun v21 w21 hp21 => ?_)
  obtain ⟨rfl, hw21⟩ := hp21
  subst w21
  exact g_ireturn C hQ dX6_pairBits_24 (Nat.le_refl _) (Nat.le_refl _) ⟨rfl, hC, hK⟩
def rkU : Nat → Int × Int
  | 0 => (1, 0)
  | j + 1 => (2 * (rkU j).1 + (rkU j).2, 3 * (rkU j).1 + 2 * (rkU j).2)
theorem rk_lo {b P Q : Int} (hb : 0 < b) (g : sol b P Q) (hP : 1 < P) : ∀ j, (rkU j).1 ≤ (pw2 b P Q j).1 ∧ (rkU j).2 ≤ b * (Q * (pw2 b P Q j).2) ∧ 0 ≤ (rkU j).1 ∧ 0 ≤ (rkU j).2
  | 0 => ⟨Int.le_refl 1, by show (0 : Int) ≤ b * (Q * 0); rw [Int.mul_zero, Int.mul_zero]; omega, by decide, by decide⟩
  | j + 1 => by
    obtain ⟨h1, h2, h3, h4⟩ := rk_lo hb g hP j
    obtain ⟨g1, g2, g3⟩ := g
    obtain ⟨k1, k2, -⟩ := pw2_sol hb ⟨g1, g2, g3⟩ j
    rw [pw2_s]
    show 2 * (rkU j).1 + (rkU j).2 ≤ _ ∧ 3 * (rkU j).1 + 2 * (rkU j).2 ≤ _ ∧ 0 ≤ 2 * (rkU j).1 + (rkU j).2 ∧ 0 ≤ 3 * (rkU j).1 + 2 * (rkU j).2
    generalize (rkU j).1 = U at *
    generalize (rkU j).2 = V at *
    generalize (pw2 b P Q j).1 = x at *
    generalize (pw2 b P Q j).2 = y at *
    dsimp only
    have e1 : b * (Q * (x * Q + y * P)) = (b * (Q * Q)) * x + P * (b * (Q * y)) := by grind
    have e2 : b * (y * Q) = b * (Q * y) := by rw [Int.mul_comm y]
    have a1 := Int.mul_le_mul (show (2 : Int) ≤ P by omega) h1 h3 (by omega)
    have hPP : 4 ≤ P * P := Int.mul_le_mul (show (2 : Int) ≤ P by omega) (show (2 : Int) ≤ P by omega) (by omega) (by omega)
    have a2 := Int.mul_le_mul (show (3 : Int) ≤ b * (Q * Q) by omega) h1 h3 (by omega)
    have a3 := Int.mul_le_mul (show (2 : Int) ≤ P by omega) h2 h4 (by omega)
    rw [e1, e2, Int.mul_comm x P]
    refine ⟨by omega, by omega, by omega, by omega⟩
theorem rk_42 {b P Q x y : Int} (hb : 0 < b) (g : sol b P Q) (hP : 1 < P) {J : Nat} (h : pw2 b P Q J = (x, y)) (hx : x < LGN) : J ≤ 42 := by
  rcases Nat.lt_or_ge 42 J with c | c
  · exfalso
    obtain ⟨k, rfl⟩ : ∃ k, J = 43 + k := ⟨J - 43, by omega⟩
    have h1 := (rk_lo hb g hP 43).1
    have h2 := (pw2_le hb g (j := 43) k).1
    rw [h] at h2
    have h3 : LGN ≤ (rkU 43).1 := by decide +kernel
    dsimp only at h2
    omega
  · exact c
def rnkP (p : PT) (x : Int) : Prop := x = -1 ∧ ¬ p.2.1 * p.2.1 - p.1 * (p.2.2 * p.2.2) = 1 ∨ p.2.1 * p.2.1 - p.1 * (p.2.2 * p.2.2) = 1 ∧ ∃ (r : Int) (j : Nat), RT p.1 r ∧ x = j ∧ pw2 p.1 (leaP p.1 r) (leaQ p.1 r) j = (aB p.2.1, aB p.2.2)
set_option maxHeartbeats 4000000 in
set_option maxRecDepth 100000 in
theorem s_X6_rank (l : Launch) {K : KC} {E : GE} {w : Wd} {τ ad : Nat → Nat} {bs ss : Nat → Int} {pb : Nat → PT} {P Q : Nat → Nat} {ct : Nat → Int} (hC0 : CS τ ad w bs ss pb P Q ct) {i : Nat} (hi : i < 3) : St K E l yX6_rank cX6_rank 4 (some .int) 6 (0) (0) [.ref (ad 100), iI (i : Int)] w (fun r' w' => (∃ x : Int, r' = some (iI x) ∧ rnkP (pb i) x) ∧ (∃ pb' : Nat → PT, (∀ j, j < 3 → pb' j = pb j) ∧ CS τ ad w' (bs) (ss) (pb') (P) (Q) (ct)) ∧ KO τ w w') := by
  refine st_intro [some (.ref (ad 100)), some (iI (i : Int)), none, none] rfl (Nat.le_of_ble_eq_true rfl) pn_X6 ?_
  intro X C hT hRm hl hnm hQ
  obtain ⟨hRf, hRl, hRc, hRs⟩ := hRm
  refine g_wf (fun hwf => ?_)
  have hC := hC0
  have hK : KO τ w w := KO.rf _ _
  have gb := (hC.P i (by omega)).2.1
  have g1 := gb.1
  have g2 := gb.2.1
  have hsm := (hC.P i (by omega)).2.2 hi
  obtain ⟨b1, b2⟩ := sm_125 hsm
  have s1 := sm_lg hsm
  refine g_iload_n C dX6_rank_0 rfl ?_
  refine g_callS C (s_X6_checkThing _ (v := (i : Int)) (by omega)) ml_RX6_61 sm_yX6_checkThing in_RX6 co_yX6_checkThing hd_X6_checkThing rfl ⟨by omega, by omega⟩ rfl (Nat.le_of_ble_eq_true rfl) ⟨by omega, by omega⟩ dX6_rank_1 (fun v1 w1 hp1 => ?_)
  obtain ⟨rfl, hw1⟩ := hp1
  subst w1
  refine g_aload_n C dX6_rank_4 rfl ?_
  refine g_get (ci := 8) C rfl inTX6 1 (by decide) fl_RX6_17 rfl hC.o rfl dX6_rank_5 ?_
  refine g_iload_n C dX6_rank_8 rfl ?_
  refine g_aaloadN (i) C rfl rfl hC.A.2.1.choose_spec.1 (by omega) (by omega) (hC.A.2.1.choose_spec.2 _ (by omega)) dX6_rank_9 ?_
  refine g_astore_n C dX6_rank_10 (by decide) rfl ?_
  refine g_aload_n C dX6_rank_11 rfl ?_
  refine g_get (ci := 8) C rfl inTX6 4 (by decide) fl_RX6_37 rfl hC.o rfl dX6_rank_12 ?_
  refine g_aload_n C dX6_rank_15 rfl ?_
  refine g_get (ci := 4) C rfl inTX2 0 (by decide) fl_RX6_205 rfl (hC.P i (by omega)).1.1 rfl dX6_rank_16 ?_
  refine g_aload_n C dX6_rank_19 rfl ?_
  refine g_get (ci := 4) C rfl inTX2 1 (by decide) fl_RX6_224 rfl (hC.P i (by omega)).1.1 rfl dX6_rank_20 ?_
  refine g_aload_n C dX6_rank_23 rfl ?_
  refine g_get (ci := 4) C rfl inTX2 2 (by decide) fl_RX6_217 rfl (hC.P i (by omega)).1.1 rfl dX6_rank_24 ?_
  refine g_callV C (s_X0_norm _ hC.N hC.D (b := (pb i).1) (by omega) (j := 4 + 2 * i) (k := 5 + 2 * i) (by omega) (by omega) (hC.P i (by omega)).1.2.1 b1 (hC.P i (by omega)).1.2.2 b2) (ci := 2) rfl hC.D rfl ml_RX6_234 im_yX0_norm se_RX0_yX0_norm in_RX0 co_yX0_norm hd_X0_norm rfl ⟨by omega, by omega⟩ rfl (Nat.le_of_ble_eq_true rfl) ⟨by omega, by omega⟩ dX6_rank_27 (fun v27 w27 hp27 => ?_)
  obtain ⟨rfl, f27, hN27, hk27⟩ := hp27
  replace hC := hC.kn hk27 hN27
  replace hK := hK.tr hk27.kc
  refine g_callV C (c_X5_isOne _ f27 ) (ci := 7) rfl (hC.N.W (j := 1) (by omega)).o rfl ml_RX6_238 im_yX5_isOne se_RX5_yX5_isOne in_RX5 co_yX5_isOne hd_X5_isOne rfl ⟨by omega, by omega⟩ rfl (Nat.le_of_ble_eq_true rfl) ⟨by omega, by omega⟩ dX6_rank_30 (fun v30 w30 hp30 => ?_)
  obtain ⟨rfl, hw30⟩ := hp30
  subst w30
  refine g_if_ne (tgt := 38) C dX6_rank_33 (by decide) (bI_r _) (fun h33 => ?_) (fun h33 => ?_)
  · have hone := bI_1 h33
    refine g_aload_n C dX6_rank_38 rfl ?_
    refine g_aload_n C dX6_rank_39 rfl ?_
    refine g_get (ci := 8) C rfl inTX6 7 (by decide) fl_RX6_49 rfl hC.o rfl dX6_rank_40 ?_
    refine g_aload_n C dX6_rank_43 rfl ?_
    refine g_get (ci := 4) C rfl inTX2 0 (by decide) fl_RX6_205 rfl (hC.P i (by omega)).1.1 rfl dX6_rank_44 ?_
    refine t_callV C hT (s_X6_setSolution _ hC (i := 5) (by omega) (b := (pb i).1) gb) (RcV.ob (ci := 8) C rfl hC.o) rfl ml_RX6_201 im_yX6_setSolution se_RX6_yX6_setSolution in_RX6 co_yX6_setSolution hd_X6_setSolution rfl ⟨by omega, by omega⟩ rfl (Nat.le_of_ble_eq_true rfl) ⟨by omega, by omega⟩ dX6_rank_47 (fun v47 w47 hp47 => ?_)
    obtain ⟨rfl, r9, hr9, hc47, hk47⟩ := hp47
    replace hC := hc47
    replace hK := hK.tr hk47
    have e47 : pup pb 5 ((pb i).1, leaP (pb i).1 r9, leaQ (pb i).1 r9) i = pb i := pup_n (by omega)
    obtain ⟨J, hJ⟩ := rank_ex gb hr9 hone
    obtain ⟨l1, l2, l3, l4, l5⟩ := lea_ok gb hr9
    have hsol : sol (pb i).1 (leaP (pb i).1 r9) (leaQ (pb i).1 r9) := ⟨by omega, by omega, l5⟩
    have hlx : aB (pb i).2.1 < LGN := by
      have hsm' := hsm
      unfold sm at hsm'
      omega
    have hJ42 := rk_42 (by omega) hsol l1 hJ hlx
    have hjl : ∀ j, j ≤ J → (0 < (pw2 (pb i).1 (leaP (pb i).1 r9) (leaQ (pb i).1 r9) j).1 ∧ 0 ≤ (pw2 (pb i).1 (leaP (pb i).1 r9) (leaQ (pb i).1 r9) j).2) ∧ (pw2 (pb i).1 (leaP (pb i).1 r9) (leaQ (pb i).1 r9) j).1 ≤ LGN ∧ (pw2 (pb i).1 (leaP (pb i).1 r9) (leaQ (pb i).1 r9) j).2 ≤ LGN := fun j hj => by
      obtain ⟨k1, k2, -⟩ := pw2_sol (by omega) hsol j
      obtain ⟨m1, m2⟩ := pw2_le (by omega) hsol (j := j) (J - j)
      rw [show j + (J - j) = J by omega, hJ] at m1 m2
      dsimp only at m1 m2
      exact ⟨⟨k1, k2⟩, by omega, by omega⟩
    refine g_aload_n C dX6_rank_50 rfl ?_
    refine g_get (ci := 8) C rfl inTX6 5 (by decide) fl_RX6_42 rfl hC.o rfl dX6_rank_51 ?_
    refine g_aload_n C dX6_rank_54 rfl ?_
    refine g_get (ci := 4) C rfl inTX2 0 (by decide) fl_RX6_205 rfl (hC.P i (by omega)).1.1 rfl dX6_rank_55 ?_
    rw [e47]
    refine g_iconst C dX6_rank_58 ?_
    refine g_iconst C dX6_rank_59 ?_
    refine g_callV C (s_X2_setNumbers _ hC.N (i := 3) (by omega) (hC.P 3 (by omega)).1.1 (b := (pb i).1) (x := 1) (y := 0) (by omega) (by omega)) (ci := 4) rfl (hC.P 3 (by omega)).1.1 rfl ml_RX6_190 im_yX2_setNumbers se_RX2_yX2_setNumbers in_RX2 co_yX2_setNumbers hd_X2_setNumbers rfl ⟨by omega, by omega⟩ rfl (Nat.le_of_ble_eq_true rfl) ⟨by omega, by omega⟩ dX6_rank_60 (fun v60 w60 hp60 => ?_)
    obtain ⟨rfl, hN60, hP60, hk60⟩ := hp60
    replace hC := hC.kx (i := 3) (p := ((pb i).1, 1, 0)) (by omega) hk60 hN60 hP60 gb (fun q => by omega)
    replace hK := hK.tr (hk60.kc (by omega))
    refine g_iconst C dX6_rank_63 ?_
    refine g_istore_n C dX6_rank_64 (by decide) rfl ?_
    refine g_loop (σ := Nat × Wd × (Nat → PT)) (fun s => s.1 ≤ J ∧ CS τ ad s.2.1 bs ss s.2.2 P Q ct ∧ KO τ w s.2.1 ∧ (∀ j, j < 3 → s.2.2 j = pb j) ∧ s.2.2 5 = ((pb i).1, leaP (pb i).1 r9, leaQ (pb i).1 r9) ∧ s.2.2 3 = ((pb i).1, (pw2 (pb i).1 (leaP (pb i).1 r9) (leaQ (pb i).1 r9) s.1).1, (pw2 (pb i).1 (leaP (pb i).1 r9) (leaQ (pb i).1 r9) s.1).2)) (fun s => G E X 4 65 [some (.ref (ad 100)), some (iI (i : Int)), some (.ref (ad (140 + i))), some (iI (s.1 : Int))] [] s.2.1 0 0) (fun s => 43 - s.1) ?_ (0, w60, pup (pup pb 5 ((pb i).1, leaP (pb i).1 r9, leaQ (pb i).1 r9)) 3 ((pb i).1, 1, 0)) ⟨by dsimp only; omega, hC, hK, fun j hj => by dsimp only; rw [pup_n (by omega), pup_n (by omega)], by dsimp only; rw [pup_n (by omega), pup_s], by dsimp only; exact pup_s.trans rfl⟩
    clear hC hK
    rintro ⟨j, u, pb1⟩ hq ih
    obtain ⟨hj, hC, hK, hpj, hp5, hp3⟩ := hq
    dsimp only at hj hC hK hpj hp5 hp3 ⊢
    obtain ⟨⟨z1, z2⟩, z3, z4⟩ := hjl j hj
    have fl := (hC.P 3 (by omega)).1.2.1
    have fr := (hC.P 3 (by omega)).1.2.2
    have gl := (hC.P i (by omega)).1.2.1
    have gr := (hC.P i (by omega)).1.2.2
    rw [hp3] at fl fr
    rw [hpj i hi] at gl gr
    dsimp only at fl fr
    refine g_iload_n C dX6_rank_65 rfl ?_
    refine g_bipush C dX6_rank_66 (by decide) ?_
    refine g_icmp_gt (tgt := 121) C dX6_rank_68 (by decide) (by omega) (by omega) (fun h68 => ?_) (fun h68 => ?_)
    · omega
    · have J107 : j < J → G E X 4 107 [some (.ref (ad 100)), some (iI (i : Int)), some (.ref (ad (140 + i))), some (iI (j : Int))] [] u 0 0 := by
        intro hjJ
        refine g_aload_n C dX6_rank_107 rfl ?_
        refine g_aload_n C dX6_rank_108 rfl ?_
        refine g_get (ci := 8) C rfl inTX6 7 (by decide) fl_RX6_49 rfl hC.o rfl dX6_rank_109 ?_
        refine g_callV C (s_X6_multiplyDraft _ hC (i := 5) (by omega) (B1 := LGN) (B2 := LGN) (by rw [hp3]; dsimp only; rw [aB_p (Int.le_of_lt z1)]; exact z3) (by rw [hp3]; dsimp only; rw [aB_p z2]; exact z4) (by rw [hp5]; dsimp only; rw [aB_p (by omega)]; have e9 : LGN = 1208925819614629174706176 := rfl; omega) (by rw [hp5]; dsimp only; rw [aB_p (by omega)]; have e9 : LGN = 1208925819614629174706176 := rfl; omega) (by decide +kernel)) (ci := 8) rfl hC.o rfl ml_RX6_210 im_yX6_multiplyDraft se_RX6_yX6_multiplyDraft in_RX6 co_yX6_multiplyDraft hd_X6_multiplyDraft rfl ⟨by omega, by omega⟩ rfl (Nat.le_of_ble_eq_true rfl) ⟨by omega, by omega⟩ dX6_rank_112 (fun v112 w112 hp112 => ?_)
        obtain ⟨rfl, hc112, hk112⟩ := hp112
        rw [hp3, hp5] at hc112
        refine g_iinc C dX6_rank_115 rfl (by decide) rfl ?_
        refine g_goto (tgt := 65) C dX6_rank_118 (by decide) ?_
        rw [show (j : Int) + 1 = ((j + 1 : Nat) : Int) by omega]
        exact ih (j + 1, w112, pup (pup pb1 4 (mulP ((pb i).1, (pw2 (pb i).1 (leaP (pb i).1 r9) (leaQ (pb i).1 r9) j).1, (pw2 (pb i).1 (leaP (pb i).1 r9) (leaQ (pb i).1 r9) j).2) ((pb i).1, leaP (pb i).1 r9, leaQ (pb i).1 r9))) 3 (mulP ((pb i).1, (pw2 (pb i).1 (leaP (pb i).1 r9) (leaQ (pb i).1 r9) j).1, (pw2 (pb i).1 (leaP (pb i).1 r9) (leaQ (pb i).1 r9) j).2) ((pb i).1, leaP (pb i).1 r9, leaQ (pb i).1 r9))) ⟨by dsimp only; omega, hc112, hK.tr hk112, fun m hm => by dsimp only; rw [pup_n (by omega), pup_n (by omega)]; exact hpj m hm, by dsimp only; rw [pup_n (by omega), pup_n (by omega)]; exact hp5, by dsimp only; rw [pup_s]; rfl⟩ (by dsimp only; omega)
      refine g_aload_n C dX6_rank_71 rfl ?_
      refine g_get (ci := 8) C rfl inTX6 5 (by decide) fl_RX6_42 rfl hC.o rfl dX6_rank_72 ?_
      refine g_get (ci := 4) C rfl inTX2 1 (by decide) fl_RX6_224 rfl (hC.P 3 (by omega)).1.1 rfl dX6_rank_75 ?_
      refine g_aload_n C dX6_rank_78 rfl ?_
      refine g_get (ci := 4) C rfl inTX2 1 (by decide) fl_RX6_224 rfl (hC.P i (by omega)).1.1 rfl dX6_rank_79 ?_
      refine g_callV C (u_X5_compareSize _ fl gl) (ci := 7) rfl (hC.N.W (j := 10) (by omega)).o rfl ml_RX6_241 im_yX5_compareSize se_RX5_yX5_compareSize in_RX5 co_yX5_compareSize hd_X5_compareSize rfl ⟨by omega, by omega⟩ rfl (Nat.le_of_ble_eq_true rfl) ⟨by omega, by omega⟩ dX6_rank_82 (fun v82 w82 hp82 => ?_)
      obtain ⟨⟨d82, rfl, hd82⟩, hw82⟩ := hp82
      subst w82
      refine g_if_ne (tgt := 107) C dX6_rank_85 (by decide) (by omega) (fun h85 => ?_) (fun h85 => ?_)
      · first
        | exact J107 (by
            refine Nat.lt_of_not_le (fun c => ?_)
            have ejJ : j = J := by omega
            rw [ejJ, hJ] at hd82
            try dsimp only at hd82
            rw [aB_p (aB_0 _)] at hd82
            omega)
        | exact J107 (by
            refine Nat.lt_of_not_le (fun c => ?_)
            have ejJ : j = J := by omega
            rw [ejJ, hJ] at hd99
            try dsimp only at hd99
            rw [aB_p (aB_0 _)] at hd99
            omega)
      · refine g_aload_n C dX6_rank_88 rfl ?_
        refine g_get (ci := 8) C rfl inTX6 5 (by decide) fl_RX6_42 rfl hC.o rfl dX6_rank_89 ?_
        refine g_get (ci := 4) C rfl inTX2 2 (by decide) fl_RX6_217 rfl (hC.P 3 (by omega)).1.1 rfl dX6_rank_92 ?_
        refine g_aload_n C dX6_rank_95 rfl ?_
        refine g_get (ci := 4) C rfl inTX2 2 (by decide) fl_RX6_217 rfl (hC.P i (by omega)).1.1 rfl dX6_rank_96 ?_
        refine g_callV C (u_X5_compareSize _ fr gr) (ci := 7) rfl (hC.N.W (j := 11) (by omega)).o rfl ml_RX6_241 im_yX5_compareSize se_RX5_yX5_compareSize in_RX5 co_yX5_compareSize hd_X5_compareSize rfl ⟨by omega, by omega⟩ rfl (Nat.le_of_ble_eq_true rfl) ⟨by omega, by omega⟩ dX6_rank_99 (fun v99 w99 hp99 => ?_)
        obtain ⟨⟨d99, rfl, hd99⟩, hw99⟩ := hp99
        subst w99
        refine g_if_ne (tgt := 107) C dX6_rank_102 (by decide) (by omega) (fun h102 => ?_) (fun h102 => ?_)
        · first
          | exact J107 (by
              refine Nat.lt_of_not_le (fun c => ?_)
              have ejJ : j = J := by omega
              rw [ejJ, hJ] at hd82
              try dsimp only at hd82
              rw [aB_p (aB_0 _)] at hd82
              omega)
          | exact J107 (by
              refine Nat.lt_of_not_le (fun c => ?_)
              have ejJ : j = J := by omega
              rw [ejJ, hJ] at hd99
              try dsimp only at hd99
              rw [aB_p (aB_0 _)] at hd99
              omega)
        · refine g_iload_n C dX6_rank_105 rfl ?_
          exact g_ireturn C hQ dX6_rank_106 (by omega) (by omega) ⟨⟨_, rfl, Or.inr ⟨hone, r9, j, hr9, rfl, by
            rw [aB_p (Int.le_of_lt z1)] at hd82
            rw [aB_p z2] at hd99
            exact Prod.ext (by show _ = aB (pb i).2.1; omega) (by show _ = aB (pb i).2.2; omega)⟩⟩, ⟨_, hpj, hC⟩, hK⟩
  · refine g_iconst C dX6_rank_36 ?_
    exact g_ireturn C hQ dX6_rank_37 (by omega) (by omega) ⟨⟨_, rfl, Or.inl ⟨rfl, bI_0 (Classical.not_not.mp h33)⟩⟩, ⟨_, fun _ _ => rfl, hC⟩, hK⟩
set_option maxHeartbeats 4000000 in
set_option maxRecDepth 100000 in
theorem s_X6_order (l : Launch) {K : KC} {E : GE} {w : Wd} {τ ad : Nat → Nat} {bs ss : Nat → Int} {pb : Nat → PT} {P Q : Nat → Nat} {ct : Nat → Int} (hC0 : CS τ ad w bs ss pb P Q ct) {i : Nat} (hi : i < 3) {k : Nat} (hk : k < 3) {y : Int} (hy : y = 0 ∨ y = 1) : St K E l yX6_order cX6_order 4 (some .int) 6 (0) (0) [.ref (ad 100), iI (i : Int), iI (k : Int), iI y] w (fun r' w' => (∃ x : Int, r' = some (iI x) ∧ (sdV y (pb i) < sdV y (pb k) ∧ x = -1 ∨ sdV y (pb i) = sdV y (pb k) ∧ x = 0 ∨ sdV y (pb k) < sdV y (pb i) ∧ x = 1)) ∧ CS τ ad w' (bs) (ss) (pb) (P) (Q) (ct) ∧ KO τ w w') := by
  refine st_intro [some (.ref (ad 100)), some (iI (i : Int)), some (iI (k : Int)), some (iI y)] rfl (Nat.le_of_ble_eq_true rfl) pn_X6 ?_
  intro X C hT hRm hl hnm hQ
  obtain ⟨hRf, hRl, hRc, hRs⟩ := hRm
  refine g_wf (fun hwf => ?_)
  have hC := hC0
  have hK : KO τ w w := KO.rf _ _
  refine g_iload_n C dX6_order_0 rfl ?_
  refine g_callS C (s_X6_checkThing _ (v := (i : Int)) (by omega)) ml_RX6_61 sm_yX6_checkThing in_RX6 co_yX6_checkThing hd_X6_checkThing rfl ⟨by omega, by omega⟩ rfl (Nat.le_of_ble_eq_true rfl) ⟨by omega, by omega⟩ dX6_order_1 (fun v1 w1 hp1 => ?_)
  obtain ⟨rfl, hw1⟩ := hp1
  subst w1
  refine g_iload_n C dX6_order_4 rfl ?_
  refine g_callS C (s_X6_checkThing _ (v := (k : Int)) (by omega)) ml_RX6_61 sm_yX6_checkThing in_RX6 co_yX6_checkThing hd_X6_checkThing rfl ⟨by omega, by omega⟩ rfl (Nat.le_of_ble_eq_true rfl) ⟨by omega, by omega⟩ dX6_order_5 (fun v5 w5 hp5 => ?_)
  obtain ⟨rfl, hw5⟩ := hp5
  subst w5
  refine g_aload_n C dX6_order_8 rfl ?_
  refine g_get (ci := 8) C rfl inTX6 1 (by decide) fl_RX6_17 rfl hC.o rfl dX6_order_9 ?_
  refine g_iload_n C dX6_order_12 rfl ?_
  refine g_aaloadN (i) C rfl rfl hC.A.2.1.choose_spec.1 (by omega) (by omega) (hC.A.2.1.choose_spec.2 _ (by omega)) dX6_order_13 ?_
  refine g_iload_n C dX6_order_14 rfl ?_
  refine g_callV C (s_X2_side _ (i := i) (by omega) (hC.P i (by omega)).1.1 (y := y) (by omega)) (ci := 4) rfl (hC.P i (by omega)).1.1 rfl ml_RX6_230 im_yX2_side se_RX2_yX2_side in_RX2 co_yX2_side hd_X2_side rfl ⟨by omega, by omega⟩ rfl (Nat.le_of_ble_eq_true rfl) ⟨by omega, by omega⟩ dX6_order_15 (fun v15 w15 hp15 => ?_)
  obtain ⟨⟨j15, rfl, hj15⟩, hw15⟩ := hp15
  subst w15
  refine g_aload_n C dX6_order_18 rfl ?_
  refine g_get (ci := 8) C rfl inTX6 1 (by decide) fl_RX6_17 rfl hC.o rfl dX6_order_19 ?_
  refine g_iload_n C dX6_order_22 rfl ?_
  refine g_aaloadN (k) C rfl rfl hC.A.2.1.choose_spec.1 (by omega) (by omega) (hC.A.2.1.choose_spec.2 _ (by omega)) dX6_order_23 ?_
  refine g_iload_n C dX6_order_24 rfl ?_
  refine g_callV C (s_X2_side _ (i := k) (by omega) (hC.P k (by omega)).1.1 (y := y) (by omega)) (ci := 4) rfl (hC.P k (by omega)).1.1 rfl ml_RX6_230 im_yX2_side se_RX2_yX2_side in_RX2 co_yX2_side hd_X2_side rfl ⟨by omega, by omega⟩ rfl (Nat.le_of_ble_eq_true rfl) ⟨by omega, by omega⟩ dX6_order_25 (fun v25 w25 hp25 => ?_)
  obtain ⟨⟨j25, rfl, hj25⟩, hw25⟩ := hp25
  subst w25
  refine g_callV C (c_X5_compareValue _ ((hC.P i (by omega)).1.sd hj15) ((hC.P k (by omega)).1.sd hj25)) (ci := 7) rfl (hC.N.W (j := j15) (by omega)).o rfl ml_RX6_245 im_yX5_compareValue se_RX5_yX5_compareValue in_RX5 co_yX5_compareValue hd_X5_compareValue rfl ⟨by omega, by omega⟩ rfl (Nat.le_of_ble_eq_true rfl) ⟨by omega, by omega⟩ dX6_order_28 (fun v28 w28 hp28 => ?_)
  obtain ⟨⟨d28, rfl, hd28⟩, hw28⟩ := hp28
  subst w28
  exact g_ireturn C hQ dX6_order_31 (Nat.le_refl _) (Nat.le_refl _) ⟨⟨_, rfl, hd28⟩, hC, hK⟩
set_option maxHeartbeats 4000000 in
set_option maxRecDepth 100000 in
theorem s_X6_isSame (l : Launch) {K : KC} {E : GE} {w : Wd} {τ ad : Nat → Nat} {bs ss : Nat → Int} {pb : Nat → PT} {P Q : Nat → Nat} {ct : Nat → Int} (hC0 : CS τ ad w bs ss pb P Q ct) {i : Nat} (hi : i < 3) {k : Nat} (hk : k < 3) : St K E l yX6_isSame cX6_isSame 3 (some .boolean) 6 (0) (0) [.ref (ad 100), iI (i : Int), iI (k : Int)] w (fun r' w' => (∃ x : Int, r' = some (iI x) ∧ (x = 0 ∨ x = 1) ∧ x = bI ((pb i).1 = (pb k).1 ∧ (pb i).2.1 = (pb k).2.1 ∧ (pb i).2.2 = (pb k).2.2)) ∧ CS τ ad w' (bs) (ss) (pb) (P) (Q) (ct) ∧ KO τ w w') := by
  refine st_intro [some (.ref (ad 100)), some (iI (i : Int)), some (iI (k : Int))] rfl (Nat.le_of_ble_eq_true rfl) pn_X6 ?_
  intro X C hT hRm hl hnm hQ
  obtain ⟨hRf, hRl, hRc, hRs⟩ := hRm
  refine g_wf (fun hwf => ?_)
  have hC := hC0
  have hK : KO τ w w := KO.rf _ _
  have g1 := (hC.P i (by omega)).2.1.1
  have g2 := (hC.P i (by omega)).2.1.2.1
  have g3 := (hC.P k (by omega)).2.1.1
  have g4 := (hC.P k (by omega)).2.1.2.1
  refine g_iload_n C dX6_isSame_0 rfl ?_
  refine g_callS C (s_X6_checkThing _ (v := (i : Int)) (by omega)) ml_RX6_61 sm_yX6_checkThing in_RX6 co_yX6_checkThing hd_X6_checkThing rfl ⟨by omega, by omega⟩ rfl (Nat.le_of_ble_eq_true rfl) ⟨by omega, by omega⟩ dX6_isSame_1 (fun v1 w1 hp1 => ?_)
  obtain ⟨rfl, hw1⟩ := hp1
  subst w1
  refine g_iload_n C dX6_isSame_4 rfl ?_
  refine g_callS C (s_X6_checkThing _ (v := (k : Int)) (by omega)) ml_RX6_61 sm_yX6_checkThing in_RX6 co_yX6_checkThing hd_X6_checkThing rfl ⟨by omega, by omega⟩ rfl (Nat.le_of_ble_eq_true rfl) ⟨by omega, by omega⟩ dX6_isSame_5 (fun v5 w5 hp5 => ?_)
  obtain ⟨rfl, hw5⟩ := hp5
  subst w5
  refine g_aload_n C dX6_isSame_8 rfl ?_
  refine g_get (ci := 8) C rfl inTX6 1 (by decide) fl_RX6_17 rfl hC.o rfl dX6_isSame_9 ?_
  refine g_iload_n C dX6_isSame_12 rfl ?_
  refine g_aaloadN (i) C rfl rfl hC.A.2.1.choose_spec.1 (by omega) (by omega) (hC.A.2.1.choose_spec.2 _ (by omega)) dX6_isSame_13 ?_
  refine g_aload_n C dX6_isSame_14 rfl ?_
  refine g_get (ci := 8) C rfl inTX6 1 (by decide) fl_RX6_17 rfl hC.o rfl dX6_isSame_15 ?_
  refine g_iload_n C dX6_isSame_18 rfl ?_
  refine g_aaloadN (k) C rfl rfl hC.A.2.1.choose_spec.1 (by omega) (by omega) (hC.A.2.1.choose_spec.2 _ (by omega)) dX6_isSame_19 ?_
  refine g_callV C (s_X2_isLike _ hC.N (i := i) (by omega) (hC.P i (by omega)).1 (by omega) (by omega) (m := k) (by omega) (hC.P k (by omega)).1) (ci := 4) rfl (hC.P i (by omega)).1.1 rfl ml_RX6_248 im_yX2_isLike se_RX2_yX2_isLike in_RX2 co_yX2_isLike hd_X2_isLike rfl ⟨by omega, by omega⟩ rfl (Nat.le_of_ble_eq_true rfl) ⟨by omega, by omega⟩ dX6_isSame_20 (fun v20 w20 hp20 => ?_)
  obtain ⟨rfl, hw20⟩ := hp20
  subst w20
  exact g_zreturn C hQ dX6_isSame_23 (nar01 (bI_01 _)) (Nat.le_refl _) (Nat.le_refl _) ⟨⟨_, rfl, bI_01 _, rfl⟩, hC, hK⟩
set_option maxHeartbeats 4000000 in
set_option maxRecDepth 100000 in
theorem s_X6_extreme (l : Launch) {K : KC} {E : GE} {w : Wd} {τ ad : Nat → Nat} {bs ss : Nat → Int} {pb : Nat → PT} {P Q : Nat → Nat} {ct : Nat → Int} (hC0 : CS τ ad w bs ss pb P Q ct) {y z : Int} (hy : y = 0 ∨ y = 1) (hz : z = 0 ∨ z = 1) : St K E l yX6_extreme cX6_extreme 7 (some (.object "java/lang/String")) 9 (61) (2600) [.ref (ad 100), iI y, iI z] w (fun r' w' => (∃ s : Nat, r' = some (.ref s)) ∧ CS τ ad w' (bs) (ss) (pb) (P) (Q) (ct) ∧ KO τ w w') := by
  refine st_intro [some (.ref (ad 100)), some (iI y), some (iI z), none, none, none, none] rfl (Nat.le_of_ble_eq_true rfl) pn_X6 ?_
  intro X C hT hRm hl hnm hQ
  obtain ⟨hRf, hRl, hRc, hRs⟩ := hRm
  refine g_wf (fun hwf => ?_)
  have hC := hC0
  have hK : KO τ w w := KO.rf _ _
  refine g_aload_n C dX6_extreme_0 rfl ?_
  refine g_get (ci := 8) C rfl inTX6 1 (by decide) fl_RX6_17 rfl hC.o rfl dX6_extreme_1 ?_
  refine g_iconst C dX6_extreme_4 ?_
  refine g_aaloadN (0) C rfl rfl hC.A.2.1.choose_spec.1 (by omega) (by omega) (hC.A.2.1.choose_spec.2 _ (by omega)) dX6_extreme_5 ?_
  refine g_iload_n C dX6_extreme_6 rfl ?_
  refine g_callV C (s_X2_side _ (i := 0) (by omega) (hC.P 0 (by omega)).1.1 (y := y) (by omega)) (ci := 4) rfl (hC.P 0 (by omega)).1.1 rfl ml_RX6_230 im_yX2_side se_RX2_yX2_side in_RX2 co_yX2_side hd_X2_side rfl ⟨by omega, by omega⟩ rfl (Nat.le_of_ble_eq_true rfl) ⟨by omega, by omega⟩ dX6_extreme_7 (fun v7 w7 hp7 => ?_)
  obtain ⟨⟨j7, rfl, hj7⟩, hw7⟩ := hp7
  subst w7
  refine g_astore_n C dX6_extreme_10 (by decide) rfl ?_
  refine g_iconst C dX6_extreme_11 ?_
  refine g_istore C dX6_extreme_12 (by decide) rfl ?_
  refine g_loop (σ := Nat × Nat) (fun s => 1 ≤ s.1 ∧ s.1 ≤ 3 ∧ 4 ≤ s.2 ∧ s.2 < 16) (fun s => G E X 7 14 [some (.ref (ad 100)), some (iI y), some (iI z), some (.ref (wo ad s.2)), some (iI (s.1 : Int)), none, none] [] w 0 0) (fun s => 3 - s.1) ?_ (1, j7) ⟨by dsimp only; omega, by dsimp only; omega, by dsimp only; omega, by dsimp only; omega⟩
  rintro ⟨n, g⟩ ⟨hn1, hn2, hg1, hg2⟩ ih
  dsimp only at hn1 hn2 hg1 hg2 ⊢
  refine g_iload C dX6_extreme_14 rfl ?_
  refine g_iconst C dX6_extreme_16 ?_
  refine g_icmp_ge (tgt := 67) C dX6_extreme_17 (by decide) (by omega) (by omega) (fun h17 => ?_) (fun h17 => ?_)
  · refine g_aload_n C dX6_extreme_67 rfl ?_
    refine g_get (ci := 8) C rfl inTX6 4 (by decide) fl_RX6_37 rfl hC.o rfl dX6_extreme_68 ?_
    refine g_aload_n C dX6_extreme_71 rfl ?_
    refine g_bipush C dX6_extreme_72 (by decide) ?_
    refine t_callV C hT (s_X0_text _ hC.N hC.D (j := g) (by omega) (rx := 10) (by omega)) (RcV.ob (ci := 2) C rfl hC.D) rfl ml_RX6_102 im_yX0_text se_RX0_yX0_text in_RX0 co_yX0_text hd_X0_text rfl ⟨by omega, by omega⟩ rfl (Nat.le_of_ble_eq_true rfl) ⟨by omega, by omega⟩ dX6_extreme_74 (fun v74 w74 hp74 => ?_)
    obtain ⟨⟨s74, rfl⟩, hN74, hk74⟩ := hp74
    replace hC := hC.kn hk74 hN74
    replace hK := hK.tr hk74.kc
    exact g_areturn C (Or.inl ⟨_, rfl⟩) hQ (Or.inr ⟨_, rfl⟩) dX6_extreme_77 (by omega) (by omega) ⟨⟨s74, rfl⟩, hC, hK⟩
  · refine g_aload_n C dX6_extreme_20 rfl ?_
    refine g_get (ci := 8) C rfl inTX6 1 (by decide) fl_RX6_17 rfl hC.o rfl dX6_extreme_21 ?_
    refine g_iload C dX6_extreme_24 rfl ?_
    refine g_aaloadN (n) C rfl rfl hC.A.2.1.choose_spec.1 (by omega) (by omega) (hC.A.2.1.choose_spec.2 _ (by omega)) dX6_extreme_26 ?_
    refine g_iload_n C dX6_extreme_27 rfl ?_
    refine g_callV C (s_X2_side _ (i := n) (by omega) (hC.P n (by omega)).1.1 (y := y) (by omega)) (ci := 4) rfl (hC.P n (by omega)).1.1 rfl ml_RX6_230 im_yX2_side se_RX2_yX2_side in_RX2 co_yX2_side hd_X2_side rfl ⟨by omega, by omega⟩ rfl (Nat.le_of_ble_eq_true rfl) ⟨by omega, by omega⟩ dX6_extreme_28 (fun v28 w28 hp28 => ?_)
    obtain ⟨⟨j28, rfl, hj28⟩, hw28⟩ := hp28
    subst w28
    refine g_astore C dX6_extreme_31 (by decide) rfl ?_
    refine g_aload C dX6_extreme_33 rfl ?_
    refine g_aload_n C dX6_extreme_35 rfl ?_
    refine g_callV C (s_X5_compareValue _ (hC.N.W (j := j28) (by omega)) (hC.N.W (j := g) (by omega))) (ci := 7) rfl (hC.N.W (j := j28) (by omega)).o rfl ml_RX6_245 im_yX5_compareValue se_RX5_yX5_compareValue in_RX5 co_yX5_compareValue hd_X5_compareValue rfl ⟨by omega, by omega⟩ rfl (Nat.le_of_ble_eq_true rfl) ⟨by omega, by omega⟩ dX6_extreme_36 (fun v36 w36 hp36 => ?_)
    obtain ⟨⟨d36, rfl, hd36⟩, hw36⟩ := hp36
    subst w36
    refine g_istore C dX6_extreme_39 (by decide) rfl ?_
    have J61 : ∀ g2 : Nat, (4 ≤ g2 ∧ g2 < 16) → G E X 7 61 [some (.ref (ad 100)), some (iI y), some (iI z), some (.ref (wo ad g2)), some (iI (n : Int)), some (.ref (wo ad j28)), some (iI d36)] [] w 0 0 := by
      intro g2 hgg
      refine g_iinc C dX6_extreme_61 rfl (by decide) rfl ?_
      refine g_goto (tgt := 14) C dX6_extreme_64 (by decide) ?_
      rw [show (n : Int) + 1 = ((n + 1 : Nat) : Int) by omega]
      refine g_drop 5 (g_drop 6 ?_)
      exact ih (n + 1, g2) ⟨by dsimp only; omega, by dsimp only; omega, hgg.1, hgg.2⟩ (by dsimp only; omega)
    refine g_iload_n C dX6_extreme_41 rfl ?_
    refine g_if_eq (tgt := 53) C dX6_extreme_42 (by decide) (by omega) (fun h42 => ?_) (fun h42 => ?_)
    · refine g_iload C dX6_extreme_53 rfl ?_
      refine g_if_ge (tgt := 61) C dX6_extreme_55 (by decide) (by omega) (fun h55 => ?_) (fun h55 => ?_)
      · exact J61 _ (by omega)
      · refine g_aload C dX6_extreme_58 rfl ?_
        refine g_astore_n C dX6_extreme_60 (by decide) rfl ?_
        exact J61 _ (by omega)
    · refine g_iload C dX6_extreme_45 rfl ?_
      refine g_if_le (tgt := 61) C dX6_extreme_47 (by decide) (by omega) (fun h47 => ?_) (fun h47 => ?_)
      · exact J61 _ (by omega)
      · refine g_goto (tgt := 58) C dX6_extreme_50 (by decide) ?_
        refine g_aload C dX6_extreme_58 rfl ?_
        refine g_astore_n C dX6_extreme_60 (by decide) rfl ?_
        exact J61 _ (by omega)
theorem nup_id {f : Nat → Nat} {i : Nat} : nup f i (f i) = f := by
  funext j
  unfold nup
  split
  · rename_i h; rw [h]
  · rfl
def spF (p k : Nat) : Nat → Int := fun j => if j = 0 then p else if j = 1 then (spS p k).1 else if j = 2 then (spS p k).2.1 else if j = 3 then (spS p k).2.2.1 else if j = 4 then (spS p k).2.2.2 else k
theorem spF_R {p k : Nat} (h : SV p k) : SpR (spF p k) p k := ⟨h, rfl, rfl, rfl, rfl, rfl, rfl⟩
theorem szV_b {p k : Nat} (h : SV p k) {z : Int} (hz : 0 ≤ z ∧ z ≤ 7) : -2147483648 ≤ szV (spF p k) z ∧ szV (spF p k) z < 2147483648 := by
  obtain ⟨v1, v2, v3, v4, v5, v6, v7, v8, v9⟩ := h.good
  have hp := h.p
  obtain ⟨u1, u2, u3⟩ := h.wit
  have hi : ima p < p := pmN_lt (by omega) _
  have aU := aB_le v4
  have aV := aB_le v5
  rcases (show z = 0 ∨ z = 1 ∨ z = 2 ∨ z = 3 ∨ z = 4 ∨ z = 5 ∨ z = 6 ∨ z = 7 by omega) with q | q | q | q | q | q | q | q <;> subst q <;> simp [szV, spF] <;> omega
set_option maxHeartbeats 4000000 in
set_option maxRecDepth 100000 in
theorem s_X6_split (l : Launch) {K : KC} {E : GE} {w : Wd} {τ ad : Nat → Nat} {bs ss : Nat → Int} {pb : Nat → PT} {P Q : Nat → Nat} {ct : Nat → Int} (hC0 : CS τ ad w bs ss pb P Q ct) {i : Nat} (hi : i < 3) {n : Nat} (hn : 5 ≤ n ∧ n ≤ 997) : St K E l yX6_split cX6_split 3 (some .int) 6 (0) (0) [.ref (ad 100), iI (i : Int), iI (n : Int)] w (fun r' w' => ((¬ SPb n = true ∧ r' = some (iI (-9)) ∧ CS τ ad w' (bs) (ss) (pb) (P) (Q) (iup ct 3 (ct 3 + 1))) ∨ (SPb n = true ∧ r' = some (iI ((wit n : Nat) : Int)) ∧ CS τ ad w' (bs) (ss) (pb) (nup P i n) (nup Q i 0) (iup ct 2 (ct 2 + 1)))) ∧ KO τ w w') := by
  refine st_intro [some (.ref (ad 100)), some (iI (i : Int)), some (iI (n : Int))] rfl (Nat.le_of_ble_eq_true rfl) pn_X6 ?_
  intro X C hT hRm hl hnm hQ
  obtain ⟨hRf, hRl, hRc, hRs⟩ := hRm
  refine g_wf (fun hwf => ?_)
  have hC := hC0
  have hK : KO τ w w := KO.rf _ _
  refine g_iload_n C dX6_split_0 rfl ?_
  refine g_callS C (s_X6_checkThing _ (v := (i : Int)) (by omega)) ml_RX6_61 sm_yX6_checkThing in_RX6 co_yX6_checkThing hd_X6_checkThing rfl ⟨by omega, by omega⟩ rfl (Nat.le_of_ble_eq_true rfl) ⟨by omega, by omega⟩ dX6_split_1 (fun v1 w1 hp1 => ?_)
  obtain ⟨rfl, hw1⟩ := hp1
  subst w1
  refine g_iload_n C dX6_split_4 rfl ?_
  refine g_iconst C dX6_split_5 ?_
  refine g_sipush C dX6_split_6 (by decide) ?_
  refine g_callS C (s_X6_checkRange _ (v := (n : Int)) (lo := 5) (hi := 997) (by omega) (by omega) (by omega)) ml_RX6_82 sm_yX6_checkRange in_RX6 co_yX6_checkRange hd_X6_checkRange rfl ⟨by omega, by omega⟩ rfl (Nat.le_of_ble_eq_true rfl) ⟨by omega, by omega⟩ dX6_split_9 (fun v9 w9 hp9 => ?_)
  obtain ⟨rfl, hw9⟩ := hp9
  subst w9
  refine g_iload_n C dX6_split_12 rfl ?_
  refine g_callS C (s_X6_isSplittable _ (n := n) (by omega)) ml_RX6_252 sm_yX6_isSplittable in_RX6 co_yX6_isSplittable hd_X6_isSplittable rfl ⟨by omega, by omega⟩ rfl (Nat.le_of_ble_eq_true rfl) ⟨by omega, by omega⟩ dX6_split_13 (fun v13 w13 hp13 => ?_)
  obtain ⟨rfl, hw13⟩ := hp13
  subst w13
  refine g_if_ne (tgt := 24) C dX6_split_16 (by decide) (bI_r _) (fun h16 => ?_) (fun h16 => ?_)
  · have hS : SPb n = true := by
      rcases bI_01 (SPb n = true) with q | q
      · omega
      · exact bI_1 (by omega)
    refine g_aload_n C dX6_split_24 rfl ?_
    refine g_get (ci := 8) C rfl inTX6 2 (by decide) fl_RX6_23 rfl hC.o rfl dX6_split_25 ?_
    refine g_iload_n C dX6_split_28 rfl ?_
    refine g_aaloadN (i) C rfl rfl hC.A.2.2.choose_spec.1 (by omega) (by omega) (hC.A.2.2.choose_spec.2 _ (by omega)) dX6_split_29 ?_
    refine g_iload_n C dX6_split_30 rfl ?_
    refine t_callV C hT (s_X3_begin _ hS (hC.S i (by omega)).1) (RcV.ob (ci := 5) C rfl (hC.S i (by omega)).1) rfl ml_RX6_255 im_yX3_begin se_RX3_yX3_begin in_RX3 co_yX3_begin hd_X3_begin rfl ⟨by omega, by omega⟩ rfl (Nat.le_of_ble_eq_true rfl) ⟨by omega, by omega⟩ dX6_split_31 (fun v31 w31 hp31 => ?_)
    obtain ⟨rfl, hw31⟩ := hp31
    subst w31
    refine g_gen (fun v31 hv31 => ?_)
    have hq31 := hC.sp (i := i) (p := n) (k := 0) (by omega) (SPb_v hS)
    rw [← hv31] at hq31
    replace hC := hq31.1
    replace hK := hK.tr hq31.2
    refine g_aload_n C dX6_split_34 rfl ?_
    refine g_dup C dX6_split_35 rfl ?_
    refine g_get (ci := 8) C rfl inTX6 12 (by decide) fl_RX6_258 rfl hC.o rfl dX6_split_36 ?_
    refine g_iconst C dX6_split_39 ?_
    refine g_iadd C dX6_split_40 ?_
    refine g_put (ci := 8) C rfl inTX6 tyX6 tyX6_ok nmX6 12 (by decide) fl_RX6_258 rfl rfl hC.o (Nat.le_of_ble_eq_true rfl) rfl rfl dX6_split_41 ?_
    refine g_gen (fun v41 hv41 => ?_)
    replace hv41 : v41 = wset _ (ad 100) (true, oX ad (iup ct 2 (ct 2 + 1))) := hv41
    have hq41 := hC.so (iup ct 2 (ct 2 + 1))
    rw [← hv41] at hq41
    replace hC := hq41.1
    replace hK := hK.tr hq41.2
    refine g_aload_n C dX6_split_44 rfl ?_
    refine g_get (ci := 8) C rfl inTX6 2 (by decide) fl_RX6_23 rfl hC.o rfl dX6_split_45 ?_
    refine g_iload_n C dX6_split_48 rfl ?_
    refine g_aaloadN (i) C rfl rfl hC.A.2.2.choose_spec.1 (by omega) (by omega) (hC.A.2.2.choose_spec.2 _ (by omega)) dX6_split_49 ?_
    refine g_get (ci := 5) C rfl inTX3 1 (by decide) fl_RX6_261 rfl (hC.S i (by omega)).1 rfl dX6_split_50 ?_
    rw [nup_s]
    exact g_ireturn C hQ dX6_split_53 (by omega) (by omega) ⟨Or.inr ⟨hS, rfl, hC⟩, hK⟩
  · refine g_aload_n C dX6_split_19 rfl ?_
    refine g_callV C (s_X6_refuse _ hC) (ci := 8) rfl hC.o rfl ml_RX6_86 im_yX6_refuse se_RX6_yX6_refuse in_RX6 co_yX6_refuse hd_X6_refuse rfl ⟨by omega, by omega⟩ rfl (Nat.le_of_ble_eq_true rfl) ⟨by omega, by omega⟩ dX6_split_20 (fun v20 w20 hp20 => ?_)
    obtain ⟨rfl, hc20, hk20⟩ := hp20
    replace hC := hc20
    replace hK := hK.tr hk20
    exact g_ireturn C hQ dX6_split_23 (Nat.le_refl _) (Nat.le_refl _) ⟨Or.inl ⟨fun q => by rw [bI_t q] at h16; omega, rfl, hC⟩, hK⟩
set_option maxHeartbeats 4000000 in
set_option maxRecDepth 100000 in
theorem s_X6_euclid (l : Launch) {K : KC} {E : GE} {w : Wd} {τ ad : Nat → Nat} {bs ss : Nat → Int} {pb : Nat → PT} {P Q : Nat → Nat} {ct : Nat → Int} (hC0 : CS τ ad w bs ss pb P Q ct) {i : Nat} (hi : i < 3) : St K E l yX6_euclid cX6_euclid 2 (some .int) 6 (0) (0) [.ref (ad 100), iI (i : Int)] w (fun r' w' => (((spS (P i) (Q i)).2.1 = 0 ∧ r' = some (iI (-9)) ∧ CS τ ad w' (bs) (ss) (pb) (P) (Q) (iup ct 3 (ct 3 + 1))) ∨ ((spS (P i) (Q i)).2.1 ≠ 0 ∧ r' = some (iI (spS (P i) (Q i + 1)).2.1) ∧ CS τ ad w' (bs) (ss) (pb) (P) (nup Q i (Q i + 1)) (iup ct 2 (ct 2 + 1)))) ∧ KO τ w w') := by
  refine st_intro [some (.ref (ad 100)), some (iI (i : Int))] rfl (Nat.le_of_ble_eq_true rfl) pn_X6 ?_
  intro X C hT hRm hl hnm hQ
  obtain ⟨hRf, hRl, hRc, hRs⟩ := hRm
  refine g_wf (fun hwf => ?_)
  have hC := hC0
  have hK : KO τ w w := KO.rf _ _
  obtain ⟨v1, v2, v3, v4, v5, v6, v7, v8, v9⟩ := (hC.S i (by omega)).2.good
  have hpp := (hC.S i (by omega)).2.p
  refine g_iload_n C dX6_euclid_0 rfl ?_
  refine g_callS C (s_X6_checkThing _ (v := (i : Int)) (by omega)) ml_RX6_61 sm_yX6_checkThing in_RX6 co_yX6_checkThing hd_X6_checkThing rfl ⟨by omega, by omega⟩ rfl (Nat.le_of_ble_eq_true rfl) ⟨by omega, by omega⟩ dX6_euclid_1 (fun v1 w1 hp1 => ?_)
  obtain ⟨rfl, hw1⟩ := hp1
  subst w1
  refine g_aload_n C dX6_euclid_4 rfl ?_
  refine g_get (ci := 8) C rfl inTX6 2 (by decide) fl_RX6_23 rfl hC.o rfl dX6_euclid_5 ?_
  refine g_iload_n C dX6_euclid_8 rfl ?_
  refine g_aaloadN (i) C rfl rfl hC.A.2.2.choose_spec.1 (by omega) (by omega) (hC.A.2.2.choose_spec.2 _ (by omega)) dX6_euclid_9 ?_
  refine g_get (ci := 5) C rfl inTX3 4 (by decide) fl_RX6_264 rfl (hC.S i (by omega)).1 rfl dX6_euclid_10 ?_
  refine g_if_ne (tgt := 21) C dX6_euclid_13 (by decide) (by omega) (fun h13 => ?_) (fun h13 => ?_)
  · refine g_aload_n C dX6_euclid_21 rfl ?_
    refine g_get (ci := 8) C rfl inTX6 2 (by decide) fl_RX6_23 rfl hC.o rfl dX6_euclid_22 ?_
    refine g_iload_n C dX6_euclid_25 rfl ?_
    refine g_aaloadN (i) C rfl rfl hC.A.2.2.choose_spec.1 (by omega) (by omega) (hC.A.2.2.choose_spec.2 _ (by omega)) dX6_euclid_26 ?_
    refine g_callV C (s_X3_goOn _ (hC.S i (by omega)).2 (by omega) (hC.S i (by omega)).1) (ci := 5) rfl (hC.S i (by omega)).1 rfl ml_RX6_267 im_yX3_goOn se_RX3_yX3_goOn in_RX3 co_yX3_goOn hd_X3_goOn rfl ⟨by omega, by omega⟩ rfl (Nat.le_of_ble_eq_true rfl) ⟨by omega, by omega⟩ dX6_euclid_27 (fun v27 w27 hp27 => ?_)
    obtain ⟨rfl, hw27⟩ := hp27
    subst w27
    refine g_gen (fun v27 hv27 => ?_)
    have hq27 := hC.sp (i := i) (p := P i) (k := Q i + 1) (by omega) ((hC.S i (by omega)).2.next (by omega))
    rw [← hv27] at hq27
    replace hC := hq27.1
    replace hK := hK.tr hq27.2
    rw [nup_id] at hC
    refine g_aload_n C dX6_euclid_30 rfl ?_
    refine g_dup C dX6_euclid_31 rfl ?_
    refine g_get (ci := 8) C rfl inTX6 12 (by decide) fl_RX6_258 rfl hC.o rfl dX6_euclid_32 ?_
    refine g_iconst C dX6_euclid_35 ?_
    refine g_iadd C dX6_euclid_36 ?_
    refine g_put (ci := 8) C rfl inTX6 tyX6 tyX6_ok nmX6 12 (by decide) fl_RX6_258 rfl rfl hC.o (Nat.le_of_ble_eq_true rfl) rfl rfl dX6_euclid_37 ?_
    refine g_gen (fun v37 hv37 => ?_)
    replace hv37 : v37 = wset _ (ad 100) (true, oX ad (iup ct 2 (ct 2 + 1))) := hv37
    have hq37 := hC.so (iup ct 2 (ct 2 + 1))
    rw [← hv37] at hq37
    replace hC := hq37.1
    replace hK := hK.tr hq37.2
    refine g_aload_n C dX6_euclid_40 rfl ?_
    refine g_get (ci := 8) C rfl inTX6 2 (by decide) fl_RX6_23 rfl hC.o rfl dX6_euclid_41 ?_
    refine g_iload_n C dX6_euclid_44 rfl ?_
    refine g_aaloadN (i) C rfl rfl hC.A.2.2.choose_spec.1 (by omega) (by omega) (hC.A.2.2.choose_spec.2 _ (by omega)) dX6_euclid_45 ?_
    refine g_get (ci := 5) C rfl inTX3 4 (by decide) fl_RX6_264 rfl (hC.S i (by omega)).1 rfl dX6_euclid_46 ?_
    rw [nup_s]
    exact g_ireturn C hQ dX6_euclid_49 (Nat.le_refl _) (Nat.le_refl _) ⟨Or.inr ⟨by omega, rfl, hC⟩, hK⟩
  · refine g_aload_n C dX6_euclid_16 rfl ?_
    refine g_callV C (s_X6_refuse _ hC) (ci := 8) rfl hC.o rfl ml_RX6_86 im_yX6_refuse se_RX6_yX6_refuse in_RX6 co_yX6_refuse hd_X6_refuse rfl ⟨by omega, by omega⟩ rfl (Nat.le_of_ble_eq_true rfl) ⟨by omega, by omega⟩ dX6_euclid_17 (fun v17 w17 hp17 => ?_)
    obtain ⟨rfl, hc17, hk17⟩ := hp17
    replace hC := hc17
    replace hK := hK.tr hk17
    exact g_ireturn C hQ dX6_euclid_20 (Nat.le_refl _) (Nat.le_refl _) ⟨Or.inl ⟨by omega, rfl, hC⟩, hK⟩
set_option maxHeartbeats 4000000 in
set_option maxRecDepth 100000 in
theorem s_X6_settle (l : Launch) {K : KC} {E : GE} {w : Wd} {τ ad : Nat → Nat} {bs ss : Nat → Int} {pb : Nat → PT} {P Q : Nat → Nat} {ct : Nat → Int} (hC0 : CS τ ad w bs ss pb P Q ct) {i : Nat} (hi : i < 3) : St K E l yX6_settle cX6_settle 2 (some .int) 6 (0) (0) [.ref (ad 100), iI (i : Int)] w (fun r' w' => ∃ t, Q i ≤ t ∧ SV (P i) t ∧ (∀ j, Q i ≤ j → j < t → (spS (P i) j).2.1 ≠ 0 ∧ ((P i : Nat) : Int) ≤ (spS (P i) j).1 * (spS (P i) j).1) ∧ ((spS (P i) t).2.1 = 0 ∨ (spS (P i) t).1 * (spS (P i) t).1 < ((P i : Nat) : Int)) ∧ r' = some (iI ((t - Q i : Nat) : Int)) ∧ CS τ ad w' (bs) (ss) (pb) (P) (nup Q i t) (iup ct 2 (ct 2 + 1)) ∧ KO τ w w') := by
  refine st_intro [some (.ref (ad 100)), some (iI (i : Int))] rfl (Nat.le_of_ble_eq_true rfl) pn_X6 ?_
  intro X C hT hRm hl hnm hQ
  obtain ⟨hRf, hRl, hRc, hRs⟩ := hRm
  refine g_wf (fun hwf => ?_)
  have hC := hC0
  have hK : KO τ w w := KO.rf _ _
  refine g_iload_n C dX6_settle_0 rfl ?_
  refine g_callS C (s_X6_checkThing _ (v := (i : Int)) (by omega)) ml_RX6_61 sm_yX6_checkThing in_RX6 co_yX6_checkThing hd_X6_checkThing rfl ⟨by omega, by omega⟩ rfl (Nat.le_of_ble_eq_true rfl) ⟨by omega, by omega⟩ dX6_settle_1 (fun v1 w1 hp1 => ?_)
  obtain ⟨rfl, hw1⟩ := hp1
  subst w1
  refine g_aload_n C dX6_settle_4 rfl ?_
  refine g_dup C dX6_settle_5 rfl ?_
  refine g_get (ci := 8) C rfl inTX6 12 (by decide) fl_RX6_258 rfl hC.o rfl dX6_settle_6 ?_
  refine g_iconst C dX6_settle_9 ?_
  refine g_iadd C dX6_settle_10 ?_
  refine g_put (ci := 8) C rfl inTX6 tyX6 tyX6_ok nmX6 12 (by decide) fl_RX6_258 rfl rfl hC.o (Nat.le_of_ble_eq_true rfl) rfl rfl dX6_settle_11 ?_
  refine g_gen (fun v11 hv11 => ?_)
  replace hv11 : v11 = wset _ (ad 100) (true, oX ad (iup ct 2 (ct 2 + 1))) := hv11
  have hq11 := hC.so (iup ct 2 (ct 2 + 1))
  rw [← hv11] at hq11
  replace hC := hq11.1
  replace hK := hK.tr hq11.2
  refine g_aload_n C dX6_settle_14 rfl ?_
  refine g_get (ci := 8) C rfl inTX6 2 (by decide) fl_RX6_23 rfl hC.o rfl dX6_settle_15 ?_
  refine g_iload_n C dX6_settle_18 rfl ?_
  refine g_aaloadN (i) C rfl rfl hC.A.2.2.choose_spec.1 (by omega) (by omega) (hC.A.2.2.choose_spec.2 _ (by omega)) dX6_settle_19 ?_
  refine g_callV C (s_X3_goOnToSettled _ (hC.S i (by omega)).2 (hC.S i (by omega)).1) (ci := 5) rfl (hC.S i (by omega)).1 rfl ml_RX6_270 im_yX3_goOnToSettled se_RX3_yX3_goOnToSettled in_RX3 co_yX3_goOnToSettled hd_X3_goOnToSettled rfl ⟨by omega, by omega⟩ rfl (Nat.le_of_ble_eq_true rfl) ⟨by omega, by omega⟩ dX6_settle_20 (fun v20 w20 hp20 => ?_)
  obtain ⟨t, ht1, ht2, ht3, ht4, rfl, hw20⟩ := hp20
  subst w20
  refine g_gen (fun v20 hv20 => ?_)
  have hq20 := hC.sp (i := i) (p := P i) (k := t) (by omega) ht2
  rw [← hv20] at hq20
  replace hC := hq20.1
  replace hK := hK.tr hq20.2
  rw [nup_id] at hC
  exact g_ireturn C hQ dX6_settle_23 (Nat.le_refl _) (Nat.le_refl _) ⟨t, ht1, ht2, ht3, ht4, rfl, hC, hK⟩
set_option maxHeartbeats 4000000 in
set_option maxRecDepth 100000 in
theorem s_X6_splitNumber (l : Launch) {K : KC} {E : GE} {w : Wd} {τ ad : Nat → Nat} {bs ss : Nat → Int} {pb : Nat → PT} {P Q : Nat → Nat} {ct : Nat → Int} (hC0 : CS τ ad w bs ss pb P Q ct) {i : Nat} (hi : i < 3) {z : Int} (hz : 0 ≤ z ∧ z ≤ 7) : St K E l yX6_splitNumber cX6_splitNumber 3 (some .int) 6 (0) (0) [.ref (ad 100), iI (i : Int), iI z] w (fun r' w' => r' = some (iI (szV (spF (P i) (Q i)) z)) ∧ CS τ ad w' (bs) (ss) (pb) (P) (Q) (ct) ∧ KO τ w w') := by
  refine st_intro [some (.ref (ad 100)), some (iI (i : Int)), some (iI z)] rfl (Nat.le_of_ble_eq_true rfl) pn_X6 ?_
  intro X C hT hRm hl hnm hQ
  obtain ⟨hRf, hRl, hRc, hRs⟩ := hRm
  refine g_wf (fun hwf => ?_)
  have hC := hC0
  have hK : KO τ w w := KO.rf _ _
  refine g_iload_n C dX6_splitNumber_0 rfl ?_
  refine g_callS C (s_X6_checkThing _ (v := (i : Int)) (by omega)) ml_RX6_61 sm_yX6_checkThing in_RX6 co_yX6_checkThing hd_X6_checkThing rfl ⟨by omega, by omega⟩ rfl (Nat.le_of_ble_eq_true rfl) ⟨by omega, by omega⟩ dX6_splitNumber_1 (fun v1 w1 hp1 => ?_)
  obtain ⟨rfl, hw1⟩ := hp1
  subst w1
  refine g_iload_n C dX6_splitNumber_4 rfl ?_
  refine g_iconst C dX6_splitNumber_5 ?_
  refine g_bipush C dX6_splitNumber_6 (by decide) ?_
  refine g_callS C (s_X6_checkRange _ (v := z) (lo := 0) (hi := 7) (by omega) (by omega) (by omega)) ml_RX6_82 sm_yX6_checkRange in_RX6 co_yX6_checkRange hd_X6_checkRange rfl ⟨by omega, by omega⟩ rfl (Nat.le_of_ble_eq_true rfl) ⟨by omega, by omega⟩ dX6_splitNumber_8 (fun v8 w8 hp8 => ?_)
  obtain ⟨rfl, hw8⟩ := hp8
  subst w8
  refine g_aload_n C dX6_splitNumber_11 rfl ?_
  refine g_get (ci := 8) C rfl inTX6 2 (by decide) fl_RX6_23 rfl hC.o rfl dX6_splitNumber_12 ?_
  refine g_iload_n C dX6_splitNumber_15 rfl ?_
  refine g_aaloadN (i) C rfl rfl hC.A.2.2.choose_spec.1 (by omega) (by omega) (hC.A.2.2.choose_spec.2 _ (by omega)) dX6_splitNumber_16 ?_
  refine g_iload_n C dX6_splitNumber_17 rfl ?_
  refine g_callV C (s_X3_number _ (spF_R (hC.S i (by omega)).2) (hC.S i (by omega)).1 (z := z) hz) (ci := 5) rfl (hC.S i (by omega)).1 rfl ml_RX6_273 im_yX3_number se_RX3_yX3_number in_RX3 co_yX3_number hd_X3_number rfl ⟨by omega, by omega⟩ rfl (Nat.le_of_ble_eq_true rfl) ⟨by omega, by omega⟩ dX6_splitNumber_18 (fun v18 w18 hp18 => ?_)
  obtain ⟨rfl, hw18⟩ := hp18
  subst w18
  exact g_ireturn C hQ dX6_splitNumber_21 (Nat.le_refl _) (Nat.le_refl _) ⟨rfl, hC, hK⟩
set_option maxHeartbeats 4000000 in
set_option maxRecDepth 100000 in
theorem s_X6_way (l : Launch) {K : KC} {E : GE} {w : Wd} {τ ad : Nat → Nat} {bs ss : Nat → Int} {pb : Nat → PT} {P Q : Nat → Nat} {ct : Nat → Int} (hC0 : CS τ ad w bs ss pb P Q ct) {i : Nat} (hi : i < 3) : St K E l yX6_way cX6_way 3 (some (.object "java/lang/String")) 7 (20) (1000) [.ref (ad 100), iI (i : Int)] w (fun r' w' => (∃ s : Nat, r' = some (.ref s)) ∧ (∃ P' Q' : Nat → Nat, (∀ j, j < 3 → P' j = P j ∧ Q' j = Q j) ∧ CS τ ad w' (bs) (ss) (pb) (P') (Q') (ct)) ∧ KO τ w w') := by
  refine st_intro [some (.ref (ad 100)), some (iI (i : Int)), none] rfl (Nat.le_of_ble_eq_true rfl) pn_X6 ?_
  intro X C hT hRm hl hnm hQ
  obtain ⟨hRf, hRl, hRc, hRs⟩ := hRm
  refine g_wf (fun hwf => ?_)
  have hC := hC0
  have hK : KO τ w w := KO.rf _ _
  refine g_iload_n C dX6_way_0 rfl ?_
  refine g_callS C (s_X6_checkThing _ (v := (i : Int)) (by omega)) ml_RX6_61 sm_yX6_checkThing in_RX6 co_yX6_checkThing hd_X6_checkThing rfl ⟨by omega, by omega⟩ rfl (Nat.le_of_ble_eq_true rfl) ⟨by omega, by omega⟩ dX6_way_1 (fun v1 w1 hp1 => ?_)
  obtain ⟨rfl, hw1⟩ := hp1
  subst w1
  refine g_aload_n C dX6_way_4 rfl ?_
  refine g_get (ci := 8) C rfl inTX6 8 (by decide) fl_RX6_53 rfl hC.o rfl dX6_way_5 ?_
  refine g_aload_n C dX6_way_8 rfl ?_
  refine g_get (ci := 8) C rfl inTX6 2 (by decide) fl_RX6_23 rfl hC.o rfl dX6_way_9 ?_
  refine g_iload_n C dX6_way_12 rfl ?_
  refine g_aaloadN (i) C rfl rfl hC.A.2.2.choose_spec.1 (by omega) (by omega) (hC.A.2.2.choose_spec.2 _ (by omega)) dX6_way_13 ?_
  refine t_callS C hT (s_X6_runWay _ (hC.S 3 (by omega)).1 (hC.S i (by omega)).2 (hC.S i (by omega)).1) ml_RX6_276 sm_yX6_runWay in_RX6 co_yX6_runWay hd_X6_runWay rfl ⟨by omega, by omega⟩ rfl (Nat.le_of_ble_eq_true rfl) ⟨by omega, by omega⟩ dX6_way_14 (fun v14 w14 hp14 => ?_)
  obtain ⟨rfl, ta, hta, hw14⟩ := hp14
  subst w14
  refine g_gen (fun v14 hv14 => ?_)
  have hq14 := hC.sp (i := 3) (p := _) (k := ta) (by omega) hta
  rw [← hv14] at hq14
  replace hC := hq14.1
  replace hK := hK.tr hq14.2
  have hX := hC.S 3 (by omega)
  rw [nup_s, nup_s] at hX
  obtain ⟨v1, v2, v3, -⟩ := hX.2.good
  have hpp := hX.2.p
  refine g_wf (fun hwq => ?_)
  refine g_new (ci := 1) C rfl inTJ4 tyJ4 tyJ4_ok kl_RX6_158 ib_RJ4 in_RJ4 (fs := [.null, iI 0, iI 0, iI 0]) (by intro j hj; repeat (first | rfl | (cases j; rfl) | (rename_i j; cases j; rfl) | omega)) (by omega) dX6_way_17 ?_
  refine g_dup C dX6_way_20 rfl ?_
  refine t_callI C hT (c_J4_init_da8c8 _ wpush_s) ml_RX6_160 im_yJ4_init_da8c8 in_RJ4 co_yJ4_init_da8c8 rfl hd_J4_init_da8c8 rfl ⟨by omega, by omega⟩ rfl (Nat.le_of_ble_eq_true rfl) ⟨by omega, by omega⟩ dX6_way_21 (fun v21 w21 hp21 => ?_)
  obtain ⟨rfl, hq0⟩ := hp21
  have hq := SBq.new hwq hq0
  have hqb := hwq
  have gC := fun (N : Nat) (z : Wd) (hz : SBq v14 z v14.1 N) => hC.fr hz.f hqb
  refine g_astore_n C dX6_way_24 (by decide) rfl ?_
  refine g_aload_n C dX6_way_25 rfl ?_
  refine g_aload_n C dX6_way_26 rfl ?_
  refine g_get (ci := 8) C rfl inTX6 8 (by decide) fl_RX6_53 rfl (gC _ _ hq).o rfl dX6_way_27 ?_
  refine g_get (ci := 5) C rfl inTX3 3 (by decide) fl_RX6_280 rfl ((gC _ _ hq).S 3 (by omega)).1 rfl dX6_way_30 ?_
  rw [nup_s, nup_s]
  obtain ⟨v33, n33, m33, hS33, hn33, hm33, hv33, ha33, hf33⟩ := hq
  refine t_callV C hT (c_J4_append_bf812 _ hS33 (by omega) (by omega) (by omega)) (RcV.sb C hS33) rfl ml_RX6_164 im_yJ4_append_bf812 se_RJ4_yJ4_append_bf812 in_RJ4 co_yJ4_append_bf812 hd_J4_append_bf812 rfl ⟨by omega, by omega⟩ rfl (Nat.le_of_ble_eq_true rfl) ⟨by omega, by omega⟩ dX6_way_33 (fun v33 w33 hp33 => ?_)
  obtain ⟨rfl, x33⟩ := hp33
  replace hq := SBq.int hn33 hm33 hv33 ha33 hf33 x33
  refine g_bipush C dX6_way_36 (by decide) ?_
  obtain ⟨v38, n38, m38, hS38, hn38, hm38, hv38, ha38, hf38⟩ := hq
  have hg38 := grow1c hm38
  refine t_callV C hT (c_J4_append_cf468 _ hS38 (x := 32) (by omega) (by omega) (by omega)) (RcV.sb C hS38) rfl ml_RX6_168 im_yJ4_append_cf468 se_RJ4_yJ4_append_cf468 in_RJ4 co_yJ4_append_cf468 hd_J4_append_cf468 rfl ⟨by omega, by omega⟩ rfl (Nat.le_of_ble_eq_true rfl) ⟨by omega, by omega⟩ dX6_way_38 (fun v38 w38 hp38 => ?_)
  obtain ⟨rfl, x38⟩ := hp38
  replace hq := SBq.chr hn38 hm38 hv38 ha38 hf38 x38
  refine g_aload_n C dX6_way_41 rfl ?_
  refine g_get (ci := 8) C rfl inTX6 8 (by decide) fl_RX6_53 rfl (gC _ _ hq).o rfl dX6_way_42 ?_
  refine g_get (ci := 5) C rfl inTX3 4 (by decide) fl_RX6_264 rfl ((gC _ _ hq).S 3 (by omega)).1 rfl dX6_way_45 ?_
  rw [nup_s, nup_s]
  obtain ⟨v48, n48, m48, hS48, hn48, hm48, hv48, ha48, hf48⟩ := hq
  refine t_callV C hT (c_J4_append_bf812 _ hS48 (by omega) (by omega) (by omega)) (RcV.sb C hS48) rfl ml_RX6_164 im_yJ4_append_bf812 se_RJ4_yJ4_append_bf812 in_RJ4 co_yJ4_append_bf812 hd_J4_append_bf812 rfl ⟨by omega, by omega⟩ rfl (Nat.le_of_ble_eq_true rfl) ⟨by omega, by omega⟩ dX6_way_48 (fun v48 w48 hp48 => ?_)
  obtain ⟨rfl, x48⟩ := hp48
  replace hq := SBq.int hn48 hm48 hv48 ha48 hf48 x48
  refine g_pop C dX6_way_51 rfl ?_
  refine g_aload_n C dX6_way_52 rfl ?_
  obtain ⟨v53, n53, m53, hS53, hn53, hm53, hv53, ha53, hf53⟩ := hq
  refine t_callV C hT (c_J4_toString_0e30d _ hS53 (by omega)) (RcV.sb C hS53) rfl ml_RX6_171 im_yJ4_toString_0e30d se_RJ4_yJ4_toString_0e30d in_RJ4 co_yJ4_toString_0e30d hd_J4_toString_0e30d rfl ⟨by omega, by omega⟩ rfl (Nat.le_of_ble_eq_true rfl) ⟨by omega, by omega⟩ dX6_way_53 (fun v53 w53 hp53 => ?_)
  obtain ⟨rfl, hfr53⟩ := hp53
  have hfx := hf53.tr hfr53
  exact g_areturn C (Or.inl ⟨_, rfl⟩) hQ (Or.inr ⟨_, rfl⟩) dX6_way_56 (by omega) (by omega) ⟨⟨_, rfl⟩, ⟨_, _, fun j hj => ⟨nup_n (by omega), nup_n (by omega)⟩, hC.fr hfx hqb⟩, hK.tr (KO.fr hfx hqb)⟩
set_option maxHeartbeats 4000000 in
set_option maxRecDepth 100000 in
theorem s_X6_product (l : Launch) {K : KC} {E : GE} {w : Wd} {τ ad : Nat → Nat} {bs ss : Nat → Int} {pb : Nat → PT} {P Q : Nat → Nat} {ct : Nat → Int} (hC0 : CS τ ad w bs ss pb P Q ct) {i : Nat} (hi : i < 3) {k : Nat} (hk : k < 3) : St K E l yX6_product cX6_product 8 (some (.object "java/lang/String")) 7 (20) (2000) [.ref (ad 100), iI (i : Int), iI (k : Int)] w (fun r' w' => (∃ s : Nat, r' = some (.ref s)) ∧ (∃ P' Q' : Nat → Nat, (∀ j, j < 3 → P' j = P j ∧ Q' j = Q j) ∧ CS τ ad w' (bs) (ss) (pb) (P') (Q') (ct)) ∧ KO τ w w') := by
  refine st_intro [some (.ref (ad 100)), some (iI (i : Int)), some (iI (k : Int)), none, none, none, none, none] rfl (Nat.le_of_ble_eq_true rfl) pn_X6 ?_
  intro X C hT hRm hl hnm hQ
  obtain ⟨hRf, hRl, hRc, hRs⟩ := hRm
  refine g_wf (fun hwf => ?_)
  have hC := hC0
  have hK : KO τ w w := KO.rf _ _
  refine g_iload_n C dX6_product_0 rfl ?_
  refine g_callS C (s_X6_checkThing _ (v := (i : Int)) (by omega)) ml_RX6_61 sm_yX6_checkThing in_RX6 co_yX6_checkThing hd_X6_checkThing rfl ⟨by omega, by omega⟩ rfl (Nat.le_of_ble_eq_true rfl) ⟨by omega, by omega⟩ dX6_product_1 (fun v1 w1 hp1 => ?_)
  obtain ⟨rfl, hw1⟩ := hp1
  subst w1
  refine g_iload_n C dX6_product_4 rfl ?_
  refine g_callS C (s_X6_checkThing _ (v := (k : Int)) (by omega)) ml_RX6_61 sm_yX6_checkThing in_RX6 co_yX6_checkThing hd_X6_checkThing rfl ⟨by omega, by omega⟩ rfl (Nat.le_of_ble_eq_true rfl) ⟨by omega, by omega⟩ dX6_product_5 (fun v5 w5 hp5 => ?_)
  obtain ⟨rfl, hw5⟩ := hp5
  subst w5
  refine g_aload_n C dX6_product_8 rfl ?_
  refine g_get (ci := 8) C rfl inTX6 8 (by decide) fl_RX6_53 rfl hC.o rfl dX6_product_9 ?_
  refine g_aload_n C dX6_product_12 rfl ?_
  refine g_get (ci := 8) C rfl inTX6 2 (by decide) fl_RX6_23 rfl hC.o rfl dX6_product_13 ?_
  refine g_iload_n C dX6_product_16 rfl ?_
  refine g_aaloadN (i) C rfl rfl hC.A.2.2.choose_spec.1 (by omega) (by omega) (hC.A.2.2.choose_spec.2 _ (by omega)) dX6_product_17 ?_
  refine t_callS C hT (s_X6_runWay _ (hC.S 3 (by omega)).1 (hC.S i (by omega)).2 (hC.S i (by omega)).1) ml_RX6_276 sm_yX6_runWay in_RX6 co_yX6_runWay hd_X6_runWay rfl ⟨by omega, by omega⟩ rfl (Nat.le_of_ble_eq_true rfl) ⟨by omega, by omega⟩ dX6_product_18 (fun v18 w18 hp18 => ?_)
  obtain ⟨rfl, ta, hta, hw18⟩ := hp18
  subst w18
  refine g_gen (fun v18 hv18 => ?_)
  have hq18 := hC.sp (i := 3) (p := _) (k := ta) (by omega) hta
  rw [← hv18] at hq18
  replace hC := hq18.1
  replace hK := hK.tr hq18.2
  refine g_aload_n C dX6_product_21 rfl ?_
  refine g_get (ci := 8) C rfl inTX6 9 (by decide) fl_RX6_57 rfl hC.o rfl dX6_product_22 ?_
  refine g_aload_n C dX6_product_25 rfl ?_
  refine g_get (ci := 8) C rfl inTX6 2 (by decide) fl_RX6_23 rfl hC.o rfl dX6_product_26 ?_
  refine g_iload_n C dX6_product_29 rfl ?_
  refine g_aaloadN (k) C rfl rfl hC.A.2.2.choose_spec.1 (by omega) (by omega) (hC.A.2.2.choose_spec.2 _ (by omega)) dX6_product_30 ?_
  refine t_callS C hT (s_X6_runWay _ (hC.S 4 (by omega)).1 (hC.S k (by omega)).2 (hC.S k (by omega)).1) ml_RX6_276 sm_yX6_runWay in_RX6 co_yX6_runWay hd_X6_runWay rfl ⟨by omega, by omega⟩ rfl (Nat.le_of_ble_eq_true rfl) ⟨by omega, by omega⟩ dX6_product_31 (fun v31 w31 hp31 => ?_)
  obtain ⟨rfl, tb, htb, hw31⟩ := hp31
  subst w31
  refine g_gen (fun v31 hv31 => ?_)
  have hq31 := hC.sp (i := 4) (p := _) (k := tb) (by omega) htb
  rw [← hv31] at hq31
  replace hC := hq31.1
  replace hK := hK.tr hq31.2
  have hX := hC.S 3 (by omega)
  have hY := hC.S 4 (by omega)
  obtain ⟨v1, v2, v3, -⟩ := hX.2.good
  have hpp := hX.2.p
  obtain ⟨y1, y2, y3, -⟩ := hY.2.good
  have hqq := hY.2.p
  refine g_aload_n C dX6_product_34 rfl ?_
  refine g_get (ci := 8) C rfl inTX6 8 (by decide) fl_RX6_53 rfl hC.o rfl dX6_product_35 ?_
  refine g_get (ci := 5) C rfl inTX3 3 (by decide) fl_RX6_280 rfl (hC.S 3 (by omega)).1 rfl dX6_product_38 ?_
  refine g_istore_n C dX6_product_41 (by decide) rfl ?_
  refine g_aload_n C dX6_product_42 rfl ?_
  refine g_get (ci := 8) C rfl inTX6 8 (by decide) fl_RX6_53 rfl hC.o rfl dX6_product_43 ?_
  refine g_get (ci := 5) C rfl inTX3 4 (by decide) fl_RX6_264 rfl (hC.S 3 (by omega)).1 rfl dX6_product_46 ?_
  refine g_istore C dX6_product_49 (by decide) rfl ?_
  refine g_aload_n C dX6_product_51 rfl ?_
  refine g_get (ci := 8) C rfl inTX6 9 (by decide) fl_RX6_57 rfl hC.o rfl dX6_product_52 ?_
  refine g_get (ci := 5) C rfl inTX3 3 (by decide) fl_RX6_280 rfl (hC.S 4 (by omega)).1 rfl dX6_product_55 ?_
  refine g_istore C dX6_product_58 (by decide) rfl ?_
  refine g_aload_n C dX6_product_60 rfl ?_
  refine g_get (ci := 8) C rfl inTX6 9 (by decide) fl_RX6_57 rfl hC.o rfl dX6_product_61 ?_
  refine g_get (ci := 5) C rfl inTX3 4 (by decide) fl_RX6_264 rfl (hC.S 4 (by omega)).1 rfl dX6_product_64 ?_
  refine g_istore C dX6_product_67 (by decide) rfl ?_
  have hv : ∃ a b c d : Int, (spS (nup (nup P 3 (P i)) 4 (nup P 3 (P i) k) 3) (nup (nup Q 3 ta) 4 tb 3)).1 = a ∧ (spS (nup (nup P 3 (P i)) 4 (nup P 3 (P i) k) 3) (nup (nup Q 3 ta) 4 tb 3)).2.1 = b ∧ (spS (nup (nup P 3 (P i)) 4 (nup P 3 (P i) k) 4) (nup (nup Q 3 ta) 4 tb 4)).1 = c ∧ (spS (nup (nup P 3 (P i)) 4 (nup P 3 (P i) k) 4) (nup (nup Q 3 ta) 4 tb 4)).2.1 = d ∧ (0 ≤ a ∧ a ≤ 997) ∧ (0 ≤ b ∧ b ≤ 997) ∧ (0 ≤ c ∧ c ≤ 997) ∧ (0 ≤ d ∧ d ≤ 997) := ⟨_, _, _, _, rfl, rfl, rfl, rfl, by omega, by omega, by omega, by omega⟩
  obtain ⟨a, b, c, d, ea, eb, ec, ed, ha, hb, hc, hd⟩ := hv
  rw [ea, eb, ec, ed]
  clear ea eb ec ed v1 v2 v3 y1 y2 y3
  have m1 := mulb ha hc
  have m2 := mulb hb hd
  have m3 := mulb ha hd
  have m4 := mulb hb hc
  refine g_wf (fun hwq => ?_)
  refine g_new (ci := 1) C rfl inTJ4 tyJ4 tyJ4_ok kl_RX6_158 ib_RJ4 in_RJ4 (fs := [.null, iI 0, iI 0, iI 0]) (by intro j hj; repeat (first | rfl | (cases j; rfl) | (rename_i j; cases j; rfl) | omega)) (by omega) dX6_product_69 ?_
  refine g_dup C dX6_product_72 rfl ?_
  refine t_callI C hT (c_J4_init_da8c8 _ wpush_s) ml_RX6_160 im_yJ4_init_da8c8 in_RJ4 co_yJ4_init_da8c8 rfl hd_J4_init_da8c8 rfl ⟨by omega, by omega⟩ rfl (Nat.le_of_ble_eq_true rfl) ⟨by omega, by omega⟩ dX6_product_73 (fun v73 w73 hp73 => ?_)
  obtain ⟨rfl, hq0⟩ := hp73
  have hq := SBq.new hwq hq0
  have hqb := hwq
  refine g_astore C dX6_product_76 (by decide) rfl ?_
  refine g_aload C dX6_product_78 rfl ?_
  refine g_iload_n C dX6_product_80 rfl ?_
  refine g_iload C dX6_product_81 rfl ?_
  refine g_imul C dX6_product_83 ?_
  refine g_iload C dX6_product_84 rfl ?_
  refine g_iload C dX6_product_86 rfl ?_
  refine g_imul C dX6_product_88 ?_
  refine g_iadd C dX6_product_89 ?_
  obtain ⟨v90, n90, m90, hS90, hn90, hm90, hv90, ha90, hf90⟩ := hq
  refine t_callV C hT (c_J4_append_bf812 _ hS90 (by omega) (by omega) (by omega)) (RcV.sb C hS90) rfl ml_RX6_164 im_yJ4_append_bf812 se_RJ4_yJ4_append_bf812 in_RJ4 co_yJ4_append_bf812 hd_J4_append_bf812 rfl ⟨by omega, by omega⟩ rfl (Nat.le_of_ble_eq_true rfl) ⟨by omega, by omega⟩ dX6_product_90 (fun v90 w90 hp90 => ?_)
  obtain ⟨rfl, x90⟩ := hp90
  replace hq := SBq.int hn90 hm90 hv90 ha90 hf90 x90
  refine g_bipush C dX6_product_93 (by decide) ?_
  obtain ⟨v95, n95, m95, hS95, hn95, hm95, hv95, ha95, hf95⟩ := hq
  have hg95 := grow1c hm95
  refine t_callV C hT (c_J4_append_cf468 _ hS95 (x := 32) (by omega) (by omega) (by omega)) (RcV.sb C hS95) rfl ml_RX6_168 im_yJ4_append_cf468 se_RJ4_yJ4_append_cf468 in_RJ4 co_yJ4_append_cf468 hd_J4_append_cf468 rfl ⟨by omega, by omega⟩ rfl (Nat.le_of_ble_eq_true rfl) ⟨by omega, by omega⟩ dX6_product_95 (fun v95 w95 hp95 => ?_)
  obtain ⟨rfl, x95⟩ := hp95
  replace hq := SBq.chr hn95 hm95 hv95 ha95 hf95 x95
  refine g_iload_n C dX6_product_98 rfl ?_
  refine g_iload C dX6_product_99 rfl ?_
  refine g_imul C dX6_product_101 ?_
  refine g_iload C dX6_product_102 rfl ?_
  refine g_iload C dX6_product_104 rfl ?_
  refine g_imul C dX6_product_106 ?_
  refine g_isub C dX6_product_107 ?_
  refine g_abs C ml_RX6_283 (by omega) (by omega) (by omega) (Nat.le_of_ble_eq_true rfl) (by omega) dX6_product_108 ?_
  obtain ⟨v111, n111, m111, hS111, hn111, hm111, hv111, ha111, hf111⟩ := hq
  refine t_callV C hT (c_J4_append_bf812 _ hS111 (by split <;> omega) (by omega) (by omega)) (RcV.sb C hS111) rfl ml_RX6_164 im_yJ4_append_bf812 se_RJ4_yJ4_append_bf812 in_RJ4 co_yJ4_append_bf812 hd_J4_append_bf812 rfl ⟨by omega, by omega⟩ rfl (Nat.le_of_ble_eq_true rfl) ⟨by omega, by omega⟩ dX6_product_111 (fun v111 w111 hp111 => ?_)
  obtain ⟨rfl, x111⟩ := hp111
  replace hq := SBq.int hn111 hm111 hv111 ha111 hf111 x111
  refine g_pop C dX6_product_114 rfl ?_
  refine g_aload C dX6_product_115 rfl ?_
  refine g_bipush C dX6_product_117 (by decide) ?_
  obtain ⟨v119, n119, m119, hS119, hn119, hm119, hv119, ha119, hf119⟩ := hq
  have hg119 := grow1c hm119
  refine t_callV C hT (c_J4_append_cf468 _ hS119 (x := 32) (by omega) (by omega) (by omega)) (RcV.sb C hS119) rfl ml_RX6_168 im_yJ4_append_cf468 se_RJ4_yJ4_append_cf468 in_RJ4 co_yJ4_append_cf468 hd_J4_append_cf468 rfl ⟨by omega, by omega⟩ rfl (Nat.le_of_ble_eq_true rfl) ⟨by omega, by omega⟩ dX6_product_119 (fun v119 w119 hp119 => ?_)
  obtain ⟨rfl, x119⟩ := hp119
  replace hq := SBq.chr hn119 hm119 hv119 ha119 hf119 x119
  refine g_iload_n C dX6_product_122 rfl ?_
  refine g_iload C dX6_product_123 rfl ?_
  refine g_imul C dX6_product_125 ?_
  refine g_iload C dX6_product_126 rfl ?_
  refine g_iload C dX6_product_128 rfl ?_
  refine g_imul C dX6_product_130 ?_
  refine g_isub C dX6_product_131 ?_
  refine g_abs C ml_RX6_283 (by omega) (by omega) (by omega) (Nat.le_of_ble_eq_true rfl) (by omega) dX6_product_132 ?_
  obtain ⟨v135, n135, m135, hS135, hn135, hm135, hv135, ha135, hf135⟩ := hq
  refine t_callV C hT (c_J4_append_bf812 _ hS135 (by split <;> omega) (by omega) (by omega)) (RcV.sb C hS135) rfl ml_RX6_164 im_yJ4_append_bf812 se_RJ4_yJ4_append_bf812 in_RJ4 co_yJ4_append_bf812 hd_J4_append_bf812 rfl ⟨by omega, by omega⟩ rfl (Nat.le_of_ble_eq_true rfl) ⟨by omega, by omega⟩ dX6_product_135 (fun v135 w135 hp135 => ?_)
  obtain ⟨rfl, x135⟩ := hp135
  replace hq := SBq.int hn135 hm135 hv135 ha135 hf135 x135
  refine g_bipush C dX6_product_138 (by decide) ?_
  obtain ⟨v140, n140, m140, hS140, hn140, hm140, hv140, ha140, hf140⟩ := hq
  have hg140 := grow1c hm140
  refine t_callV C hT (c_J4_append_cf468 _ hS140 (x := 32) (by omega) (by omega) (by omega)) (RcV.sb C hS140) rfl ml_RX6_168 im_yJ4_append_cf468 se_RJ4_yJ4_append_cf468 in_RJ4 co_yJ4_append_cf468 hd_J4_append_cf468 rfl ⟨by omega, by omega⟩ rfl (Nat.le_of_ble_eq_true rfl) ⟨by omega, by omega⟩ dX6_product_140 (fun v140 w140 hp140 => ?_)
  obtain ⟨rfl, x140⟩ := hp140
  replace hq := SBq.chr hn140 hm140 hv140 ha140 hf140 x140
  refine g_iload_n C dX6_product_143 rfl ?_
  refine g_iload C dX6_product_144 rfl ?_
  refine g_imul C dX6_product_146 ?_
  refine g_iload C dX6_product_147 rfl ?_
  refine g_iload C dX6_product_149 rfl ?_
  refine g_imul C dX6_product_151 ?_
  refine g_iadd C dX6_product_152 ?_
  obtain ⟨v153, n153, m153, hS153, hn153, hm153, hv153, ha153, hf153⟩ := hq
  refine t_callV C hT (c_J4_append_bf812 _ hS153 (by omega) (by omega) (by omega)) (RcV.sb C hS153) rfl ml_RX6_164 im_yJ4_append_bf812 se_RJ4_yJ4_append_bf812 in_RJ4 co_yJ4_append_bf812 hd_J4_append_bf812 rfl ⟨by omega, by omega⟩ rfl (Nat.le_of_ble_eq_true rfl) ⟨by omega, by omega⟩ dX6_product_153 (fun v153 w153 hp153 => ?_)
  obtain ⟨rfl, x153⟩ := hp153
  replace hq := SBq.int hn153 hm153 hv153 ha153 hf153 x153
  refine g_pop C dX6_product_156 rfl ?_
  refine g_aload C dX6_product_157 rfl ?_
  obtain ⟨v159, n159, m159, hS159, hn159, hm159, hv159, ha159, hf159⟩ := hq
  refine t_callV C hT (c_J4_toString_0e30d _ hS159 (by omega)) (RcV.sb C hS159) rfl ml_RX6_171 im_yJ4_toString_0e30d se_RJ4_yJ4_toString_0e30d in_RJ4 co_yJ4_toString_0e30d hd_J4_toString_0e30d rfl ⟨by omega, by omega⟩ rfl (Nat.le_of_ble_eq_true rfl) ⟨by omega, by omega⟩ dX6_product_159 (fun v159 w159 hp159 => ?_)
  obtain ⟨rfl, hfr159⟩ := hp159
  have hfx := hf159.tr hfr159
  exact g_areturn C (Or.inl ⟨_, rfl⟩) hQ (Or.inr ⟨_, rfl⟩) dX6_product_162 (by omega) (by omega) ⟨⟨_, rfl⟩, ⟨_, _, fun j hj => ⟨by rw [nup_n (by omega), nup_n (by omega)], by rw [nup_n (by omega), nup_n (by omega)]⟩, hC.fr hfx hqb⟩, hK.tr (KO.fr hfx hqb)⟩
set_option maxHeartbeats 4000000 in
set_option maxRecDepth 100000 in
theorem s_X6_symbol (l : Launch) {K : KC} {E : GE} {w : Wd} {τ ad : Nat → Nat} {bs ss : Nat → Int} {pb : Nat → PT} {P Q : Nat → Nat} {ct : Nat → Int} (hC0 : CS τ ad w bs ss pb P Q ct) {i : Nat} (hi : i < 3) {x : Int} (hx : -999 ≤ x ∧ x ≤ 999) : St K E l yX6_symbol cX6_symbol 4 (some .int) 6 (0) (0) [.ref (ad 100), iI (i : Int), iI x] w (fun r' w' => r' = some (iI (if x % ((P i : Nat) : Int) = 0 then 0 else if pmN (x % ((P i : Nat) : Int)).toNat (P i) ((P i - 1) / 2) = 1 then 1 else -1)) ∧ CS τ ad w' (bs) (ss) (pb) (P) (Q) (ct) ∧ KO τ w w') := by
  refine st_intro [some (.ref (ad 100)), some (iI (i : Int)), some (iI x), none] rfl (Nat.le_of_ble_eq_true rfl) pn_X6 ?_
  intro X C hT hRm hl hnm hQ
  obtain ⟨hRf, hRl, hRc, hRs⟩ := hRm
  refine g_wf (fun hwf => ?_)
  have hC := hC0
  have hK : KO τ w w := KO.rf _ _
  have hpp := (hC.S i (by omega)).2.p
  refine g_iload_n C dX6_symbol_0 rfl ?_
  refine g_callS C (s_X6_checkThing _ (v := (i : Int)) (by omega)) ml_RX6_61 sm_yX6_checkThing in_RX6 co_yX6_checkThing hd_X6_checkThing rfl ⟨by omega, by omega⟩ rfl (Nat.le_of_ble_eq_true rfl) ⟨by omega, by omega⟩ dX6_symbol_1 (fun v1 w1 hp1 => ?_)
  obtain ⟨rfl, hw1⟩ := hp1
  subst w1
  refine g_iload_n C dX6_symbol_4 rfl ?_
  refine g_sipush C dX6_symbol_5 (by decide) ?_
  refine g_sipush C dX6_symbol_8 (by decide) ?_
  refine g_callS C (s_X6_checkRange _ (v := x) (lo := (-999)) (hi := 999) (by omega) (by omega) (by omega)) ml_RX6_82 sm_yX6_checkRange in_RX6 co_yX6_checkRange hd_X6_checkRange rfl ⟨by omega, by omega⟩ rfl (Nat.le_of_ble_eq_true rfl) ⟨by omega, by omega⟩ dX6_symbol_11 (fun v11 w11 hp11 => ?_)
  obtain ⟨rfl, hw11⟩ := hp11
  subst w11
  refine g_aload_n C dX6_symbol_14 rfl ?_
  refine g_get (ci := 8) C rfl inTX6 2 (by decide) fl_RX6_23 rfl hC.o rfl dX6_symbol_15 ?_
  refine g_iload_n C dX6_symbol_18 rfl ?_
  refine g_aaloadN (i) C rfl rfl hC.A.2.2.choose_spec.1 (by omega) (by omega) (hC.A.2.2.choose_spec.2 _ (by omega)) dX6_symbol_19 ?_
  refine g_get (ci := 5) C rfl inTX3 0 (by decide) fl_RX6_288 rfl (hC.S i (by omega)).1 rfl dX6_symbol_20 ?_
  refine g_istore_n C dX6_symbol_23 (by decide) rfl ?_
  refine g_iload_n C dX6_symbol_24 rfl ?_
  refine g_i2l C dX6_symbol_25 (by omega) ?_
  refine g_iload_n C dX6_symbol_26 rfl ?_
  refine g_callS C (s_X6_rest _ (x := x) (y := ((P i : Nat) : Int)) (by omega) (by omega)) ml_RX6_291 sm_yX6_rest in_RX6 co_yX6_rest hd_X6_rest rfl ⟨by omega, by omega⟩ rfl (Nat.le_of_ble_eq_true rfl) ⟨by omega, by omega⟩ dX6_symbol_27 (fun v27 w27 hp27 => ?_)
  obtain ⟨rfl, hw27⟩ := hp27
  subst w27
  have he0 := Int.emod_nonneg x (show ((P i : Nat) : Int) ≠ 0 by omega)
  have he1 := Int.emod_lt_of_pos x (show (0 : Int) < ((P i : Nat) : Int) by omega)
  refine g_if_ne (tgt := 35) C dX6_symbol_30 (by decide) (by omega) (fun h30 => ?_) (fun h30 => ?_)
  · refine g_iload_n C dX6_symbol_35 rfl ?_
    refine g_iload_n C dX6_symbol_36 rfl ?_
    refine g_iconst C dX6_symbol_37 ?_
    refine g_isub C dX6_symbol_38 ?_
    refine g_iconst C dX6_symbol_39 ?_
    refine g_idivN C dX6_symbol_40 (by omega) (by omega) ?_
    rw [show (((P i : Nat) : Int) - 1) / 2 = (((P i - 1) / 2 : Nat) : Int) by omega]
    refine g_iload_n C dX6_symbol_41 rfl ?_
    refine g_callS C ((s_X6_restOfPower _ (x := x) (a := (x % ((P i : Nat) : Int)).toNat) (p := P i) (K := (P i - 1) / 2) (by omega) (by omega) (by rw [Nat.mod_eq_of_lt (by omega)]; omega) (by omega))) ml_RX6_295 sm_yX6_restOfPower in_RX6 co_yX6_restOfPower hd_X6_restOfPower rfl ⟨by omega, by omega⟩ rfl (Nat.le_of_ble_eq_true rfl) ⟨by omega, by omega⟩ dX6_symbol_42 (fun v42 w42 hp42 => ?_)
    obtain ⟨rfl, hw42⟩ := hp42
    subst w42
    have hpm := pmN_lt (a := (x % ((P i : Nat) : Int)).toNat) (p := P i) (by omega) ((P i - 1) / 2)
    refine g_iconst C dX6_symbol_45 ?_
    refine g_icmp_ne (tgt := 53) C dX6_symbol_46 (by decide) (by omega) (by omega) (fun h46 => ?_) (fun h46 => ?_)
    · refine g_iconst C dX6_symbol_53 ?_
      exact g_ireturn C hQ dX6_symbol_54 (Nat.le_refl _) (Nat.le_refl _) ⟨by rw [if_neg (by omega)]; first | rw [if_pos (by omega)] | rw [if_neg (by omega)], hC, hK⟩
    · refine g_iconst C dX6_symbol_49 ?_
      refine g_goto (tgt := 54) C dX6_symbol_50 (by decide) ?_
      exact g_ireturn C hQ dX6_symbol_54 (Nat.le_refl _) (Nat.le_refl _) ⟨by rw [if_neg (by omega)]; first | rw [if_pos (by omega)] | rw [if_neg (by omega)], hC, hK⟩
  · refine g_iconst C dX6_symbol_33 ?_
    exact g_ireturn C hQ dX6_symbol_34 (Nat.le_refl _) (Nat.le_refl _) ⟨by rw [if_pos (by omega)], hC, hK⟩
set_option maxHeartbeats 4000000 in
set_option maxRecDepth 100000 in
theorem s_X6_inverse (l : Launch) {K : KC} {E : GE} {w : Wd} {τ ad : Nat → Nat} {bs ss : Nat → Int} {pb : Nat → PT} {P Q : Nat → Nat} {ct : Nat → Int} (hC0 : CS τ ad w bs ss pb P Q ct) {i : Nat} (hi : i < 3) {x : Int} (hx : -999 ≤ x ∧ x ≤ 999) : St K E l yX6_inverse cX6_inverse 4 (some .int) 6 (0) (0) [.ref (ad 100), iI (i : Int), iI x] w (fun r' w' => r' = some (iI ((pmN (x % ((P i : Nat) : Int)).toNat (P i) (P i - 2) : Nat) : Int)) ∧ CS τ ad w' (bs) (ss) (pb) (P) (Q) (ct) ∧ KO τ w w') := by
  refine st_intro [some (.ref (ad 100)), some (iI (i : Int)), some (iI x), none] rfl (Nat.le_of_ble_eq_true rfl) pn_X6 ?_
  intro X C hT hRm hl hnm hQ
  obtain ⟨hRf, hRl, hRc, hRs⟩ := hRm
  refine g_wf (fun hwf => ?_)
  have hC := hC0
  have hK : KO τ w w := KO.rf _ _
  have hpp := (hC.S i (by omega)).2.p
  have he0 := Int.emod_nonneg x (show ((P i : Nat) : Int) ≠ 0 by omega)
  have he1 := Int.emod_lt_of_pos x (show (0 : Int) < ((P i : Nat) : Int) by omega)
  refine g_iload_n C dX6_inverse_0 rfl ?_
  refine g_callS C (s_X6_checkThing _ (v := (i : Int)) (by omega)) ml_RX6_61 sm_yX6_checkThing in_RX6 co_yX6_checkThing hd_X6_checkThing rfl ⟨by omega, by omega⟩ rfl (Nat.le_of_ble_eq_true rfl) ⟨by omega, by omega⟩ dX6_inverse_1 (fun v1 w1 hp1 => ?_)
  obtain ⟨rfl, hw1⟩ := hp1
  subst w1
  refine g_iload_n C dX6_inverse_4 rfl ?_
  refine g_sipush C dX6_inverse_5 (by decide) ?_
  refine g_sipush C dX6_inverse_8 (by decide) ?_
  refine g_callS C (s_X6_checkRange _ (v := x) (lo := (-999)) (hi := 999) (by omega) (by omega) (by omega)) ml_RX6_82 sm_yX6_checkRange in_RX6 co_yX6_checkRange hd_X6_checkRange rfl ⟨by omega, by omega⟩ rfl (Nat.le_of_ble_eq_true rfl) ⟨by omega, by omega⟩ dX6_inverse_11 (fun v11 w11 hp11 => ?_)
  obtain ⟨rfl, hw11⟩ := hp11
  subst w11
  refine g_aload_n C dX6_inverse_14 rfl ?_
  refine g_get (ci := 8) C rfl inTX6 2 (by decide) fl_RX6_23 rfl hC.o rfl dX6_inverse_15 ?_
  refine g_iload_n C dX6_inverse_18 rfl ?_
  refine g_aaloadN (i) C rfl rfl hC.A.2.2.choose_spec.1 (by omega) (by omega) (hC.A.2.2.choose_spec.2 _ (by omega)) dX6_inverse_19 ?_
  refine g_get (ci := 5) C rfl inTX3 0 (by decide) fl_RX6_288 rfl (hC.S i (by omega)).1 rfl dX6_inverse_20 ?_
  refine g_istore_n C dX6_inverse_23 (by decide) rfl ?_
  refine g_iload_n C dX6_inverse_24 rfl ?_
  refine g_iload_n C dX6_inverse_25 rfl ?_
  refine g_iconst C dX6_inverse_26 ?_
  refine g_isub C dX6_inverse_27 ?_
  rw [show ((P i : Nat) : Int) - 2 = ((P i - 2 : Nat) : Int) by omega]
  refine g_iload_n C dX6_inverse_28 rfl ?_
  refine g_callS C ((s_X6_restOfPower _ (x := x) (a := (x % ((P i : Nat) : Int)).toNat) (p := P i) (K := P i - 2) (by omega) (by omega) (by rw [Nat.mod_eq_of_lt (by omega)]; omega) (by omega))) ml_RX6_295 sm_yX6_restOfPower in_RX6 co_yX6_restOfPower hd_X6_restOfPower rfl ⟨by omega, by omega⟩ rfl (Nat.le_of_ble_eq_true rfl) ⟨by omega, by omega⟩ dX6_inverse_29 (fun v29 w29 hp29 => ?_)
  obtain ⟨rfl, hw29⟩ := hp29
  subst w29
  exact g_ireturn C hQ dX6_inverse_32 (Nat.le_refl _) (Nat.le_refl _) ⟨rfl, hC, hK⟩
set_option maxHeartbeats 4000000 in
set_option maxRecDepth 100000 in
theorem s_X6_isPrime (l : Launch) {K : KC} {E : GE} {w : Wd} {τ ad : Nat → Nat} {bs ss : Nat → Int} {pb : Nat → PT} {P Q : Nat → Nat} {ct : Nat → Int} (hC0 : CS τ ad w bs ss pb P Q ct) {n : Nat} (hn : n ≤ 999) : St K E l yX6_isPrime cX6_isPrime 2 (some .boolean) 6 (0) (0) [.ref (ad 100), iI (n : Int)] w (fun r' w' => r' = some (iI (bI (2 ≤ n ∧ prB n = true))) ∧ CS τ ad w' (bs) (ss) (pb) (P) (Q) (ct) ∧ KO τ w w') := by
  refine st_intro [some (.ref (ad 100)), some (iI (n : Int))] rfl (Nat.le_of_ble_eq_true rfl) pn_X6 ?_
  intro X C hT hRm hl hnm hQ
  obtain ⟨hRf, hRl, hRc, hRs⟩ := hRm
  refine g_wf (fun hwf => ?_)
  have hC := hC0
  have hK : KO τ w w := KO.rf _ _
  refine g_iload_n C dX6_isPrime_0 rfl ?_
  refine g_iconst C dX6_isPrime_1 ?_
  refine g_sipush C dX6_isPrime_2 (by decide) ?_
  refine g_callS C (s_X6_checkRange _ (v := (n : Int)) (lo := 0) (hi := 999) (by omega) (by omega) (by omega)) ml_RX6_82 sm_yX6_checkRange in_RX6 co_yX6_checkRange hd_X6_checkRange rfl ⟨by omega, by omega⟩ rfl (Nat.le_of_ble_eq_true rfl) ⟨by omega, by omega⟩ dX6_isPrime_5 (fun v5 w5 hp5 => ?_)
  obtain ⟨rfl, hw5⟩ := hp5
  subst w5
  refine g_iload_n C dX6_isPrime_8 rfl ?_
  refine g_callS C (s_X6_hasTwoDivisors _ (n := n) (by omega)) ml_RX6_299 sm_yX6_hasTwoDivisors in_RX6 co_yX6_hasTwoDivisors hd_X6_hasTwoDivisors rfl ⟨by omega, by omega⟩ rfl (Nat.le_of_ble_eq_true rfl) ⟨by omega, by omega⟩ dX6_isPrime_9 (fun v9 w9 hp9 => ?_)
  obtain ⟨rfl, hw9⟩ := hp9
  subst w9
  exact g_zreturn C hQ dX6_isPrime_12 (nar01 (bI_01 _)) (Nat.le_refl _) (Nat.le_refl _) ⟨rfl, hC, hK⟩
set_option maxHeartbeats 4000000 in
set_option maxRecDepth 100000 in
theorem s_X6_house (l : Launch) {K : KC} {E : GE} {w : Wd} {τ ad : Nat → Nat} {bs ss : Nat → Int} {pb : Nat → PT} {P Q : Nat → Nat} {ct : Nat → Int} (hC0 : CS τ ad w bs ss pb P Q ct) {z : Int} (hz : 0 ≤ z ∧ z ≤ 4) : St K E l yX6_house cX6_house 2 (some .int) 6 (0) (0) [.ref (ad 100), iI z] w (fun r' w' => r' = some (iI (ct z.toNat)) ∧ CS τ ad w' (bs) (ss) (pb) (P) (Q) (ct) ∧ KO τ w w') := by
  refine st_intro [some (.ref (ad 100)), some (iI z)] rfl (Nat.le_of_ble_eq_true rfl) pn_X6 ?_
  intro X C hT hRm hl hnm hQ
  obtain ⟨hRf, hRl, hRc, hRs⟩ := hRm
  refine g_wf (fun hwf => ?_)
  have hC := hC0
  have hK : KO τ w w := KO.rf _ _
  refine g_iload_n C dX6_house_0 rfl ?_
  refine g_iconst C dX6_house_1 ?_
  refine g_iconst C dX6_house_2 ?_
  refine g_callS C (s_X6_checkRange _ (v := z) (lo := 0) (hi := 4) (by omega) (by omega) (by omega)) ml_RX6_82 sm_yX6_checkRange in_RX6 co_yX6_checkRange hd_X6_checkRange rfl ⟨by omega, by omega⟩ rfl (Nat.le_of_ble_eq_true rfl) ⟨by omega, by omega⟩ dX6_house_3 (fun v3 w3 hp3 => ?_)
  obtain ⟨rfl, hw3⟩ := hp3
  subst w3
  refine g_iload_n C dX6_house_6 rfl ?_
  rcases (show z = 0 ∨ z = 1 ∨ z = 2 ∨ z = 3 ∨ z = 4 by omega) with q | q | q | q | q <;> subst q
  · refine g_tin (tgt := 36) C dX6_house_7 (by omega) (by omega) rfl rfl ?_
    refine g_aload_n C dX6_house_36 rfl ?_
    refine g_get (ci := 8) C rfl inTX6 10 (by decide) fl_RX6_75 rfl hC.o rfl dX6_house_37 ?_
    exact g_ireturn C hQ dX6_house_40 (Nat.le_refl _) (Nat.le_refl _) ⟨rfl, hC, hK⟩
  · refine g_tin (tgt := 41) C dX6_house_7 (by omega) (by omega) rfl rfl ?_
    refine g_aload_n C dX6_house_41 rfl ?_
    refine g_get (ci := 8) C rfl inTX6 11 (by decide) fl_RX6_302 rfl hC.o rfl dX6_house_42 ?_
    exact g_ireturn C hQ dX6_house_45 (Nat.le_refl _) (Nat.le_refl _) ⟨rfl, hC, hK⟩
  · refine g_tin (tgt := 46) C dX6_house_7 (by omega) (by omega) rfl rfl ?_
    refine g_aload_n C dX6_house_46 rfl ?_
    refine g_get (ci := 8) C rfl inTX6 12 (by decide) fl_RX6_258 rfl hC.o rfl dX6_house_47 ?_
    exact g_ireturn C hQ dX6_house_50 (Nat.le_refl _) (Nat.le_refl _) ⟨rfl, hC, hK⟩
  · refine g_tin (tgt := 51) C dX6_house_7 (by omega) (by omega) rfl rfl ?_
    refine g_aload_n C dX6_house_51 rfl ?_
    refine g_get (ci := 8) C rfl inTX6 13 (by decide) fl_RX6_305 rfl hC.o rfl dX6_house_52 ?_
    exact g_ireturn C hQ dX6_house_55 (Nat.le_refl _) (Nat.le_refl _) ⟨rfl, hC, hK⟩
  · refine g_tout (tgt := 56) C dX6_house_7 (by omega) (by omega) rfl ?_
    refine g_aload_n C dX6_house_56 rfl ?_
    refine g_get (ci := 8) C rfl inTX6 14 (by decide) fl_RX6_308 rfl hC.o rfl dX6_house_57 ?_
    exact g_ireturn C hQ dX6_house_60 (Nat.le_refl _) (Nat.le_refl _) ⟨rfl, hC, hK⟩
set_option maxHeartbeats 4000000 in
set_option maxRecDepth 100000 in
theorem s_X6_knock (l : Launch) {K : KC} {E : GE} {w : Wd} {τ ad : Nat → Nat} {bs ss : Nat → Int} {pb : Nat → PT} {P Q : Nat → Nat} {ct : Nat → Int} (hC0 : CS τ ad w bs ss pb P Q ct) : St K E l yX6_knock cX6_knock 1 (some .int) 6 (0) (0) [.ref (ad 100)] w (fun r' w' => r' = some (iI (ct 4 + 1)) ∧ CS τ ad w' (bs) (ss) (pb) (P) (Q) (iup ct 4 (ct 4 + 1)) ∧ KO τ w w') := by
  refine st_intro [some (.ref (ad 100))] rfl (Nat.le_of_ble_eq_true rfl) pn_X6 ?_
  intro X C hT hRm hl hnm hQ
  obtain ⟨hRf, hRl, hRc, hRs⟩ := hRm
  refine g_wf (fun hwf => ?_)
  have hC := hC0
  have hK : KO τ w w := KO.rf _ _
  refine g_aload_n C dX6_knock_0 rfl ?_
  refine g_dup C dX6_knock_1 rfl ?_
  refine g_get (ci := 8) C rfl inTX6 14 (by decide) fl_RX6_308 rfl hC.o rfl dX6_knock_2 ?_
  refine g_iconst C dX6_knock_5 ?_
  refine g_iadd C dX6_knock_6 ?_
  refine g_put (ci := 8) C rfl inTX6 tyX6 tyX6_ok nmX6 14 (by decide) fl_RX6_308 rfl rfl hC.o (Nat.le_of_ble_eq_true rfl) rfl rfl dX6_knock_7 ?_
  refine g_gen (fun v7 hv7 => ?_)
  replace hv7 : v7 = wset _ (ad 100) (true, oX ad (iup ct 4 (ct 4 + 1))) := hv7
  have hq7 := hC.so (iup ct 4 (ct 4 + 1))
  rw [← hv7] at hq7
  replace hC := hq7.1
  replace hK := hK.tr hq7.2
  refine g_aload_n C dX6_knock_10 rfl ?_
  refine g_get (ci := 8) C rfl inTX6 14 (by decide) fl_RX6_308 rfl hC.o rfl dX6_knock_11 ?_
  rw [iup_s]
  exact g_ireturn C hQ dX6_knock_14 (Nat.le_refl _) (Nat.le_refl _) ⟨rfl, hC, hK⟩
set_option maxHeartbeats 4000000 in
set_option maxRecDepth 100000 in
theorem s_X6_isSound (l : Launch) {K : KC} {E : GE} {w : Wd} {τ ad : Nat → Nat} {bs ss : Nat → Int} {pb : Nat → PT} {P Q : Nat → Nat} {ct : Nat → Int} (hC0 : CS τ ad w bs ss pb P Q ct) : St K E l yX6_isSound cX6_isSound 2 (some .boolean) 6 (0) (0) [.ref (ad 100)] w (fun r' w' => r' = some (iI 1) ∧ CS τ ad w' (bs) (ss) (pb) (P) (Q) (ct) ∧ KO τ w w') := by
  refine st_intro [some (.ref (ad 100)), none] rfl (Nat.le_of_ble_eq_true rfl) pn_X6 ?_
  intro X C hT hRm hl hnm hQ
  obtain ⟨hRf, hRl, hRc, hRs⟩ := hRm
  refine g_wf (fun hwf => ?_)
  have hC := hC0
  have hK : KO τ w w := KO.rf _ _
  refine g_iconst C dX6_isSound_0 ?_
  refine g_istore_n C dX6_isSound_1 (by decide) rfl ?_
  refine g_loop (σ := Nat × Wd) (fun s => s.1 ≤ 3 ∧ CS τ ad s.2 bs ss pb P Q ct ∧ KO τ w s.2) (fun s => G E X 2 2 [some (.ref (ad 100)), some (iI (s.1 : Int))] [] s.2 0 0) (fun s => 3 - s.1) ?_ (0, w) ⟨by dsimp only; omega, hC, hK⟩
  clear hC hK
  rintro ⟨i, u⟩ hq ih
  obtain ⟨hi, hC, hK⟩ := hq
  dsimp only at hi hC hK ⊢
  refine g_iload_n C dX6_isSound_2 rfl ?_
  refine g_iconst C dX6_isSound_3 ?_
  refine g_icmp_ge (tgt := 52) C dX6_isSound_4 (by decide) (by omega) (by omega) (fun h4 => ?_) (fun h4 => ?_)
  · refine g_iconst C dX6_isSound_52 ?_
    exact g_zreturn C hQ dX6_isSound_53 rfl (by omega) (by omega) ⟨rfl, hC, hK⟩
  · refine g_aload_n C dX6_isSound_7 rfl ?_
    refine g_aload_n C dX6_isSound_8 rfl ?_
    refine g_iload_n C dX6_isSound_9 rfl ?_
    refine t_callV C hT (s_X6_unfold _ hC (i := i) (by omega)) (RcV.ob (ci := 8) C rfl hC.o) rfl ml_RX6_90 im_yX6_unfold se_RX6_yX6_unfold in_RX6 co_yX6_unfold hd_X6_unfold rfl ⟨by omega, by omega⟩ rfl (Nat.le_of_ble_eq_true rfl) ⟨by omega, by omega⟩ dX6_isSound_10 (fun v10 w10 hp10 => ?_)
    obtain ⟨rfl, ⟨r, m, d, a, hF, hV, hG⟩, hc10, hk10⟩ := hp10
    replace hC := hc10
    replace hK := hK.tr hk10
    have hs := (hC.W i (by omega)).2.2
    have hgb := hV.1
    have hbl := hgb.1
    have hbh := hgb.2.1
    have hr9 := RT_le hV.1 hV.2.1
    have hr0 := hV.2.1.1
    have hw := wk_f hV.1 hV.2.1 (k := (ss i).toNat) (by omega)
    refine g_callV C (s_X6_isWalkSound _ hC (i := i) (by omega) hF hV hG) (ci := 8) rfl hC.o rfl ml_RX6_311 im_yX6_isWalkSound se_RX6_yX6_isWalkSound in_RX6 co_yX6_isWalkSound hd_X6_isWalkSound rfl ⟨by omega, by omega⟩ rfl (Nat.le_of_ble_eq_true rfl) ⟨by omega, by omega⟩ dX6_isSound_13 (fun v13 w13 hp13 => ?_)
    obtain ⟨rfl, hc13, hk13⟩ := hp13
    replace hC := hc13
    replace hK := hK.tr hk13
    refine g_if_eq (tgt := 44) C dX6_isSound_16 (by decide) (by omega) (fun h16 => ?_) (fun h16 => ?_)
    · omega
    · refine g_aload_n C dX6_isSound_19 rfl ?_
      refine g_aload_n C dX6_isSound_20 rfl ?_
      refine g_get (ci := 8) C rfl inTX6 1 (by decide) fl_RX6_17 rfl hC.o rfl dX6_isSound_21 ?_
      refine g_iload_n C dX6_isSound_24 rfl ?_
      refine g_aaloadN (i) C rfl rfl hC.A.2.1.choose_spec.1 (by omega) (by omega) (hC.A.2.1.choose_spec.2 _ (by omega)) dX6_isSound_25 ?_
      refine g_callV C (s_X6_isPairSound _ hC (i := i) (by omega)) (ci := 8) rfl hC.o rfl ml_RX6_315 im_yX6_isPairSound se_RX6_yX6_isPairSound in_RX6 co_yX6_isPairSound hd_X6_isPairSound rfl ⟨by omega, by omega⟩ rfl (Nat.le_of_ble_eq_true rfl) ⟨by omega, by omega⟩ dX6_isSound_26 (fun v26 w26 hp26 => ?_)
      obtain ⟨rfl, hc26, hk26⟩ := hp26
      replace hC := hc26
      replace hK := hK.tr hk26
      refine g_if_eq (tgt := 44) C dX6_isSound_29 (by decide) (by omega) (fun h29 => ?_) (fun h29 => ?_)
      · omega
      · refine g_aload_n C dX6_isSound_32 rfl ?_
        refine g_get (ci := 8) C rfl inTX6 2 (by decide) fl_RX6_23 rfl hC.o rfl dX6_isSound_33 ?_
        refine g_iload_n C dX6_isSound_36 rfl ?_
        refine g_aaloadN (i) C rfl rfl hC.A.2.2.choose_spec.1 (by omega) (by omega) (hC.A.2.2.choose_spec.2 _ (by omega)) dX6_isSound_37 ?_
        refine t_callV C hT (s_X3_isSoundSplit _ (hC.S i (by omega)).2 (hC.S i (by omega)).1) (RcV.ob (ci := 5) C rfl (hC.S i (by omega)).1) rfl ml_RX6_318 im_yX3_isSoundSplit se_RX3_yX3_isSoundSplit in_RX3 co_yX3_isSoundSplit hd_X3_isSoundSplit rfl ⟨by omega, by omega⟩ rfl (Nat.le_of_ble_eq_true rfl) ⟨by omega, by omega⟩ dX6_isSound_38 (fun v38 w38 hp38 => ?_)
        obtain ⟨rfl, hw38⟩ := hp38
        subst w38
        refine g_if_ne (tgt := 46) C dX6_isSound_41 (by decide) (by omega) (fun h41 => ?_) (fun h41 => ?_)
        · refine g_iinc C dX6_isSound_46 rfl (by decide) rfl ?_
          refine g_goto (tgt := 2) C dX6_isSound_49 (by decide) ?_
          rw [show (i : Int) + 1 = ((i + 1 : Nat) : Int) by omega]
          exact ih (i + 1, _) ⟨by dsimp only; omega, hC, hK⟩ (by dsimp only; omega)
        · omega
theorem mx6_eq {b r s : Int} : ∀ (k : Nat) (x : Int), mx6 b r s k x = dm6 b r s x k
  | 0, _ => rfl
  | k + 1, x => by
    show mx6 b r s k x * 31 + prV b r s (k : Int) = dm6 b r s x k * 31 + prV b r s (k : Int)
    rw [mx6_eq k x]
theorem mx4_eq {b r s x : Int} : mx4 b r s 4 x = dm4 b r s x 4 := rfl
theorem mxW_eq {b r s x : Int} : mxW b r s x = dmW b r s x := by
  unfold mxW dmW
  rw [mx6_eq, mx4_eq]
theorem mxP_eq {x : Int} {p : PT} (h : sm p) : mxP x p = dmP x p.1 p.2.1 p.2.2 := by
  have e : ∀ z : Int, aB z < 2 ^ 120 → hiB (aB z) 504 + 1 = bitV z 0 := fun z hz => by
    unfold bitV
    rw [if_pos rfl, hiB_ext (aB_0 z) hz (show 120 ≤ 504 by omega)]
  unfold mxP dmP
  rw [e _ (lg_120 (fun q => h (Or.inl q))), e _ (lg_120 (fun q => h (Or.inr q)))]
set_option maxHeartbeats 4000000 in
set_option maxRecDepth 100000 in
theorem s_X6_digest (l : Launch) {K : KC} {E : GE} {w : Wd} {τ ad : Nat → Nat} {bs ss : Nat → Int} {pb : Nat → PT} {P Q : Nat → Nat} {ct : Nat → Int} (hC0 : CS τ ad w bs ss pb P Q ct) (hct : ∀ i, i < 5 → -2147483648 ≤ ct i ∧ ct i < 2147483648) : St K E l yX6_digest cX6_digest 5 (some .long) 7 (0) (0) [.ref (ad 100)] w (fun r' w' => (∃ rt : Nat → Int, (∀ i, i < 3 → RT (bs i) (rt i)) ∧ r' = some (jJ (dgV bs ss rt (fun j => (pb j).1) (fun j => (pb j).2.1) (fun j => (pb j).2.2) (fun j => spF (P j) (Q j)) ct))) ∧ CS τ ad w' (bs) (ss) (pb) (P) (Q) (ct) ∧ KO τ w w') := by
  refine st_intro [some (.ref (ad 100)), none, none, none, none] rfl (Nat.le_of_ble_eq_true rfl) pn_X6 ?_
  intro X C hT hRm hl hnm hQ
  obtain ⟨hRf, hRl, hRc, hRs⟩ := hRm
  refine g_wf (fun hwf => ?_)
  have hC := hC0
  have hK : KO τ w w := KO.rf _ _
  refine g_ldc2 (z := 7685) C kj_RX6_321 (by decide) dX6_digest_0 ?_
  refine g_lstore_n C dX6_digest_3 (by decide) rfl ?_
  refine g_iconst C dX6_digest_4 ?_
  refine g_istore_n C dX6_digest_5 (by decide) rfl ?_
  obtain ⟨rt, hrt⟩ := rt3 (fun i hi => (hC.W i hi).2.1)
  refine g_loop (σ := Nat × Int × Wd) (fun s => s.1 ≤ 3 ∧ s.2.1 = dm1 bs ss rt s.1 ∧ CS τ ad s.2.2 bs ss pb P Q ct ∧ KO τ w s.2.2) (fun s => G E X 5 6 [some (.ref (ad 100)), some (jJ s.2.1), none, some (iI (s.1 : Int)), none] [] s.2.2 0 0) (fun s => 3 - s.1) ?_ (0, 7685, w) ⟨by dsimp only; omega, rfl, hC, hK⟩
  clear hC hK
  rintro ⟨i, z, u⟩ hq ih
  obtain ⟨hi, hz, hC, hK⟩ := hq
  dsimp only at hi hz hC hK ⊢
  refine g_iload_n C dX6_digest_6 rfl ?_
  refine g_iconst C dX6_digest_7 ?_
  refine g_icmp_ge (tgt := 28) C dX6_digest_8 (by decide) (by omega) (by omega) (fun h8 => ?_) (fun h8 => ?_)
  · refine g_iconst C dX6_digest_28 ?_
    refine g_istore_n C dX6_digest_29 (by decide) rfl ?_
    refine g_loop (σ := Nat × Int × Wd) (fun s => s.1 ≤ 3 ∧ s.2.1 = dm2 (fun j => (pb j).1) (fun j => (pb j).2.1) (fun j => (pb j).2.2) (dm1 bs ss rt 3) s.1 ∧ CS τ ad s.2.2 bs ss pb P Q ct ∧ KO τ w s.2.2) (fun s => G E X 5 30 [some (.ref (ad 100)), some (jJ s.2.1), none, some (iI (s.1 : Int)), none] [] s.2.2 0 0) (fun s => 3 - s.1) ?_ (0, z, u) ⟨by dsimp only; omega, by show z = dm1 bs ss rt 3; rw [hz, show i = 3 by omega], hC, hK⟩
    clear hC hK ih hi h8 hz
    rintro ⟨i, z, u⟩ hq ih
    obtain ⟨hi, hz, hC, hK⟩ := hq
    dsimp only at hi hz hC hK ⊢
    refine g_iload_n C dX6_digest_30 rfl ?_
    refine g_iconst C dX6_digest_31 ?_
    refine g_icmp_ge (tgt := 52) C dX6_digest_32 (by decide) (by omega) (by omega) (fun h32 => ?_) (fun h32 => ?_)
    · refine g_iconst C dX6_digest_52 ?_
      refine g_istore_n C dX6_digest_53 (by decide) rfl ?_
      refine g_loop (σ := Nat × Int × Wd) (fun s => s.1 ≤ 3 ∧ s.2.1 = dm3 (fun j => spF (P j) (Q j)) (dm2 (fun j => (pb j).1) (fun j => (pb j).2.1) (fun j => (pb j).2.2) (dm1 bs ss rt 3) 3) s.1 ∧ CS τ ad s.2.2 bs ss pb P Q ct ∧ KO τ w s.2.2) (fun s => G E X 5 54 [some (.ref (ad 100)), some (jJ s.2.1), none, some (iI (s.1 : Int)), none] [] s.2.2 0 0) (fun s => 3 - s.1) ?_ (0, z, u) ⟨by dsimp only; omega, by show z = dm2 (fun j => (pb j).1) (fun j => (pb j).2.1) (fun j => (pb j).2.2) (dm1 bs ss rt 3) 3; rw [hz, show i = 3 by omega], hC, hK⟩
      clear hC hK ih hi h32 hz
      rintro ⟨i, z, u⟩ hq ih
      obtain ⟨hi, hz, hC, hK⟩ := hq
      dsimp only at hi hz hC hK ⊢
      refine g_iload_n C dX6_digest_54 rfl ?_
      refine g_iconst C dX6_digest_55 ?_
      refine g_icmp_ge (tgt := 98) C dX6_digest_56 (by decide) (by omega) (by omega) (fun h56 => ?_) (fun h56 => ?_)
      · refine g_iconst C dX6_digest_98 ?_
        refine g_istore_n C dX6_digest_99 (by decide) rfl ?_
        refine g_loop (σ := Nat × Int × Wd) (fun s => s.1 ≤ 5 ∧ s.2.1 = dm5 ct (dm3 (fun j => spF (P j) (Q j)) (dm2 (fun j => (pb j).1) (fun j => (pb j).2.1) (fun j => (pb j).2.2) (dm1 bs ss rt 3) 3) 3) s.1 ∧ CS τ ad s.2.2 bs ss pb P Q ct ∧ KO τ w s.2.2) (fun s => G E X 5 100 [some (.ref (ad 100)), some (jJ s.2.1), none, some (iI (s.1 : Int)), none] [] s.2.2 0 0) (fun s => 5 - s.1) ?_ (0, z, u) ⟨by dsimp only; omega, by show z = dm3 (fun j => spF (P j) (Q j)) (dm2 (fun j => (pb j).1) (fun j => (pb j).2.1) (fun j => (pb j).2.2) (dm1 bs ss rt 3) 3) 3; rw [hz, show i = 3 by omega], hC, hK⟩
        clear hC hK ih hi h56 hz
        rintro ⟨i, z, u⟩ hq ih
        obtain ⟨hi, hz, hC, hK⟩ := hq
        dsimp only at hi hz hC hK ⊢
        refine g_iload_n C dX6_digest_100 rfl ?_
        refine g_iconst C dX6_digest_101 ?_
        refine g_icmp_gt (tgt := 122) C dX6_digest_102 (by decide) (by omega) (by omega) (fun h102 => ?_) (fun h102 => ?_)
        · refine g_lload_n C dX6_digest_122 rfl ?_
          refine g_aload_n C dX6_digest_123 rfl ?_
          refine t_callV C hT (s_X6_isSound _ hC) (RcV.ob (ci := 8) C rfl hC.o) rfl ml_RX6_338 im_yX6_isSound se_RX6_yX6_isSound in_RX6 co_yX6_isSound hd_X6_isSound rfl ⟨by omega, by omega⟩ rfl (Nat.le_of_ble_eq_true rfl) ⟨by omega, by omega⟩ dX6_digest_124 (fun v124 w124 hp124 => ?_)
          obtain ⟨rfl, hc124, hk124⟩ := hp124
          replace hC := hc124
          replace hK := hK.tr hk124
          refine g_if_eq (tgt := 134) C dX6_digest_127 (by decide) (by omega) (fun h127 => ?_) (fun h127 => ?_)
          · omega
          · refine g_lconst (z := 1) C dX6_digest_130 (by decide) ?_
            refine g_goto (tgt := 135) C dX6_digest_131 (by decide) ?_
            refine g_callS C (s_X6_mix _) ml_RX6_331 sm_yX6_mix in_RX6 co_yX6_mix hd_X6_mix rfl ⟨by omega, by omega⟩ rfl (Nat.le_of_ble_eq_true rfl) ⟨by omega, by omega⟩ dX6_digest_135 (fun v135 w135 hp135 => ?_)
            obtain ⟨rfl, hw135⟩ := hp135
            subst w135
            exact g_lreturn C hQ dX6_digest_138 (by omega) (by omega) ⟨⟨rt, hrt, by rw [hz, show i = 5 by omega]; rfl⟩, hC, hK⟩
        · refine g_lload_n C dX6_digest_105 rfl ?_
          refine g_aload_n C dX6_digest_106 rfl ?_
          refine g_iload_n C dX6_digest_107 rfl ?_
          refine t_callV C hT (s_X6_house _ hC (z := (i : Int)) (by omega)) (RcV.ob (ci := 8) C rfl hC.o) rfl ml_RX6_335 im_yX6_house se_RX6_yX6_house in_RX6 co_yX6_house hd_X6_house rfl ⟨by omega, by omega⟩ rfl (Nat.le_of_ble_eq_true rfl) ⟨by omega, by omega⟩ dX6_digest_108 (fun v108 w108 hp108 => ?_)
          obtain ⟨rfl, hc108, hk108⟩ := hp108
          replace hC := hc108
          replace hK := hK.tr hk108
          rw [show ((i : Int)).toNat = i from Int.toNat_natCast i]
          have hc9 := hct i (by omega)
          refine g_i2l C dX6_digest_111 (by omega) ?_
          refine g_callS C (s_X6_mix _) ml_RX6_331 sm_yX6_mix in_RX6 co_yX6_mix hd_X6_mix rfl ⟨by omega, by omega⟩ rfl (Nat.le_of_ble_eq_true rfl) ⟨by omega, by omega⟩ dX6_digest_112 (fun v112 w112 hp112 => ?_)
          obtain ⟨rfl, hw112⟩ := hp112
          subst w112
          refine g_lstore_n C dX6_digest_115 (by decide) rfl ?_
          refine g_iinc C dX6_digest_116 rfl (by decide) rfl ?_
          refine g_goto (tgt := 100) C dX6_digest_119 (by decide) ?_
          rw [show (i : Int) + 1 = ((i + 1 : Nat) : Int) by omega]
          exact ih (i + 1, _, _) ⟨by dsimp only; omega, by dsimp only; rw [hz]; rfl, hC, hK⟩ (by dsimp only; omega)
      · refine g_iconst C dX6_digest_59 ?_
        refine g_istore C dX6_digest_60 (by decide) rfl ?_
        refine g_loop (σ := Nat × Int) (fun s => s.1 ≤ 8 ∧ s.2 = dmS (spF (P i) (Q i)) z s.1) (fun s => G E X 5 62 [some (.ref (ad 100)), some (jJ s.2), none, some (iI (i : Int)), some (iI (s.1 : Int))] [] u 0 0) (fun s => 8 - s.1) ?_ (0, z) ⟨by dsimp only; omega, rfl⟩
        skip
        rintro ⟨n, y⟩ ⟨hn, hy⟩ ih2
        dsimp only at hn hy ⊢
        refine g_iload C dX6_digest_62 rfl ?_
        refine g_bipush C dX6_digest_64 (by decide) ?_
        refine g_icmp_gt (tgt := 92) C dX6_digest_66 (by decide) (by omega) (by omega) (fun h66 => ?_) (fun h66 => ?_)
        · refine g_iinc C dX6_digest_92 rfl (by decide) rfl ?_
          refine g_goto (tgt := 54) C dX6_digest_95 (by decide) ?_
          refine g_drop 4 ?_
          rw [show (i : Int) + 1 = ((i + 1 : Nat) : Int) by omega]
          exact ih (i + 1, _, _) ⟨by dsimp only; omega, by dsimp only; rw [hy, show n = 8 by omega, hz]; rfl, hC, hK⟩ (by dsimp only; omega)
        · refine g_lload_n C dX6_digest_69 rfl ?_
          refine g_aload_n C dX6_digest_70 rfl ?_
          refine g_get (ci := 8) C rfl inTX6 2 (by decide) fl_RX6_23 rfl hC.o rfl dX6_digest_71 ?_
          refine g_iload_n C dX6_digest_74 rfl ?_
          refine g_aaloadN (i) C rfl rfl hC.A.2.2.choose_spec.1 (by omega) (by omega) (hC.A.2.2.choose_spec.2 _ (by omega)) dX6_digest_75 ?_
          refine g_iload C dX6_digest_76 rfl ?_
          refine g_callV C (s_X3_number _ (spF_R (hC.S i (by omega)).2) (hC.S i (by omega)).1 (z := (n : Int)) (by omega)) (ci := 5) rfl (hC.S i (by omega)).1 rfl ml_RX6_273 im_yX3_number se_RX3_yX3_number in_RX3 co_yX3_number hd_X3_number rfl ⟨by omega, by omega⟩ rfl (Nat.le_of_ble_eq_true rfl) ⟨by omega, by omega⟩ dX6_digest_78 (fun v78 w78 hp78 => ?_)
          obtain ⟨rfl, hw78⟩ := hp78
          subst w78
          have hsz := szV_b (hC.S i (by omega)).2 (z := (n : Int)) (by omega)
          refine g_i2l C dX6_digest_81 (by omega) ?_
          refine g_callS C (s_X6_mix _) ml_RX6_331 sm_yX6_mix in_RX6 co_yX6_mix hd_X6_mix rfl ⟨by omega, by omega⟩ rfl (Nat.le_of_ble_eq_true rfl) ⟨by omega, by omega⟩ dX6_digest_82 (fun v82 w82 hp82 => ?_)
          obtain ⟨rfl, hw82⟩ := hp82
          subst w82
          refine g_lstore_n C dX6_digest_85 (by decide) rfl ?_
          refine g_iinc C dX6_digest_86 rfl (by decide) rfl ?_
          refine g_goto (tgt := 62) C dX6_digest_89 (by decide) ?_
          rw [show (n : Int) + 1 = ((n + 1 : Nat) : Int) by omega]
          exact ih2 (n + 1, _) ⟨by dsimp only; omega, by dsimp only; rw [hy]; rfl⟩ (by dsimp only; omega)
    · refine g_lload_n C dX6_digest_35 rfl ?_
      refine g_aload_n C dX6_digest_36 rfl ?_
      refine g_get (ci := 8) C rfl inTX6 1 (by decide) fl_RX6_17 rfl hC.o rfl dX6_digest_37 ?_
      refine g_iload_n C dX6_digest_40 rfl ?_
      refine g_aaloadN (i) C rfl rfl hC.A.2.1.choose_spec.1 (by omega) (by omega) (hC.A.2.1.choose_spec.2 _ (by omega)) dX6_digest_41 ?_
      refine g_callS C (s_X6_mixPair _ hC (i := i) (by omega) (x := z)) ml_RX6_327 sm_yX6_mixPair in_RX6 co_yX6_mixPair hd_X6_mixPair rfl ⟨by omega, by omega⟩ rfl (Nat.le_of_ble_eq_true rfl) ⟨by omega, by omega⟩ dX6_digest_42 (fun v42 w42 hp42 => ?_)
      obtain ⟨rfl, hw42⟩ := hp42
      subst w42
      refine g_lstore_n C dX6_digest_45 (by decide) rfl ?_
      refine g_iinc C dX6_digest_46 rfl (by decide) rfl ?_
      refine g_goto (tgt := 30) C dX6_digest_49 (by decide) ?_
      rw [show (i : Int) + 1 = ((i + 1 : Nat) : Int) by omega]
      exact ih (i + 1, mxP z (pb i), _) ⟨by dsimp only; omega, by dsimp only; rw [mxP_eq ((hC.P i (by omega)).2.2 (by omega)), hz]; rfl, hC, hK⟩ (by dsimp only; omega)
  · refine g_aload_n C dX6_digest_11 rfl ?_
    refine g_lload_n C dX6_digest_12 rfl ?_
    refine g_aload_n C dX6_digest_13 rfl ?_
    refine g_iload_n C dX6_digest_14 rfl ?_
    refine t_callV C hT (s_X6_unfold _ hC (i := i) (by omega)) (RcV.ob (ci := 8) C rfl hC.o) rfl ml_RX6_90 im_yX6_unfold se_RX6_yX6_unfold in_RX6 co_yX6_unfold hd_X6_unfold rfl ⟨by omega, by omega⟩ rfl (Nat.le_of_ble_eq_true rfl) ⟨by omega, by omega⟩ dX6_digest_15 (fun v15 w15 hp15 => ?_)
    obtain ⟨rfl, ⟨r, m, d, a, hF, hV, hG⟩, hc15, hk15⟩ := hp15
    replace hC := hc15
    replace hK := hK.tr hk15
    have hs := (hC.W i (by omega)).2.2
    have hgb := hV.1
    have hbl := hgb.1
    have hbh := hgb.2.1
    have hr9 := RT_le hV.1 hV.2.1
    have hr0 := hV.2.1.1
    have hw := wk_f hV.1 hV.2.1 (k := (ss i).toNat) (by omega)
    refine g_callV C (s_X6_mixWalk _ hC (i := i) (by omega) hF hV hG (x := z)) (ci := 8) rfl hC.o rfl ml_RX6_323 im_yX6_mixWalk se_RX6_yX6_mixWalk in_RX6 co_yX6_mixWalk hd_X6_mixWalk rfl ⟨by omega, by omega⟩ rfl (Nat.le_of_ble_eq_true rfl) ⟨by omega, by omega⟩ dX6_digest_18 (fun v18 w18 hp18 => ?_)
    obtain ⟨rfl, hc18, hk18⟩ := hp18
    replace hC := hc18
    replace hK := hK.tr hk18
    refine g_lstore_n C dX6_digest_21 (by decide) rfl ?_
    refine g_iinc C dX6_digest_22 rfl (by decide) rfl ?_
    refine g_goto (tgt := 6) C dX6_digest_25 (by decide) ?_
    rw [show (i : Int) + 1 = ((i + 1 : Nat) : Int) by omega]
    exact ih (i + 1, mxW (bs i) r (ss i) z, _) ⟨by dsimp only; omega, by dsimp only; rw [mxW_eq, hz, RT_uniq hV.2.1 (hrt i (by omega))]; rfl, hC, hK⟩ (by dsimp only; omega)
/-! what is thrown -/
set_option maxRecDepth 20000 in
theorem hatIO1 : ∀ w ∈ (vx_atS RX6 345 sIO nEx).filter goodWord, w ∈ GT := gt_in [51, 579, 588, 593, 596, 598, 580, 581, 75, 76, 582, 587, 594, 619, 569, 620, 571, 621, 573, 583, 585, 575, 615, 616, 618, 575, 655, 656, 657, 609, 609, 610, 611, 612, 612, 613, 614, 615, 1001, 992, 994, 591, 995, 996, 997, 998, 578, 577, 999] (by decide +kernel) (by decide +kernel)
set_option maxRecDepth 20000 in
theorem hatIA1 : ∀ w ∈ (vx_atS RX6 352 sIA nEx).filter goodWord, w ∈ GT := gt_in [51, 579, 588, 593, 596, 598, 580, 581, 75, 76, 582, 587, 594, 619, 569, 620, 571, 621, 573, 583, 585, 575, 615, 616, 618, 575, 606, 607, 608, 609, 609, 610, 611, 612, 612, 613, 614, 615, 964, 558, 566, 567, 568, 570, 572, 574, 578, 577, 576] (by decide +kernel) (by decide +kernel)
theorem hatIO2 : ∀ w ∈ (vx_atS RX6 345 sIO nEx).filter (fun w => !goodWord w), w ∈ xB sIO := by decide +kernel
theorem hatIA2 : ∀ w ∈ (vx_atS RX6 352 sIA nEx).filter (fun w => !goodWord w), w ∈ xB sIA := by decide +kernel
theorem hgIO : ∀ w ∈ Cond.classLink RX6 341 sIO :: Cond.initialized sIO :: vx_atS RX6 345 sIO nEx, vx_ot w = true := by decide +kernel
theorem hgIA : ∀ w ∈ Cond.classLink RX6 348 sIA :: Cond.initialized sIA :: vx_atS RX6 352 sIA nEx, vx_ot w = true := by decide +kernel
theorem fitIO : Bundle.fit sIO = true := by decide +kernel
theorem fitIA : Bundle.fit sIA = true := by decide +kernel
theorem fitEx : ∀ n ∈ nEx, Bundle.fit n = true := by decide +kernel
set_option maxHeartbeats 4000000 in
set_option maxRecDepth 100000 in
theorem x_X6_checkThing (l : Launch) {K : KC} {E : GE} {w : Wd} (hfl : l.stackTraces = false) {v : Int} (h_v : -2147483648 ≤ v ∧ v < 2147483648) (hv : ¬ (0 ≤ v ∧ v ≤ 2)) : Tx K E l yX6_checkThing cX6_checkThing 1 none 6 (1) (6) [iI v] w sIO (fun w' => w.1 ≤ w'.1 ∧ w'.2 = w.2) := by
  refine tx_intro [some (iI v)] rfl (Nat.le_of_ble_eq_true rfl) pn_X6 ?_
  intro X C hT hH hRm hl hne hX
  obtain ⟨hRf, hRl, hRc, hRs⟩ := hRm
  have hls : (xl X).stackTraces = false := by rw [hl]; exact hfl
  refine g_iload_n C dX6_checkThing_0 rfl ?_
  refine g_if_lt (tgt := 9) C dX6_checkThing_1 (by decide) (by omega) (fun h1 => ?_) (fun h1 => ?_)
  · exact x_throw C hT hne hX hls fitIO fitEx kl_RX6_341 gw_initialized_java_lang_IndexOutOfBoundsException (hT.1 5 ("Rootwalk", 343, "not 0 to 2") rfl) hatIO1 hatIO2 hH.1 hH hgIO dX6_checkThing_9 dX6_checkThing_12 dX6_checkThing_13 dX6_checkThing_16 dX6_checkThing_19 ⟨by omega, by omega⟩ ⟨by omega, by omega, by omega, by omega⟩ (fun w' h1 h2 => ⟨h1, h2⟩)
  · refine g_iload_n C dX6_checkThing_4 rfl ?_
    refine g_iconst C dX6_checkThing_5 ?_
    refine g_icmp_lt (tgt := 20) C dX6_checkThing_6 (by decide) (by omega) (by omega) (fun h6 => ?_) (fun h6 => ?_)
    · omega
    · exact x_throw C hT hne hX hls fitIO fitEx kl_RX6_341 gw_initialized_java_lang_IndexOutOfBoundsException (hT.1 5 ("Rootwalk", 343, "not 0 to 2") rfl) hatIO1 hatIO2 hH.1 hH hgIO dX6_checkThing_9 dX6_checkThing_12 dX6_checkThing_13 dX6_checkThing_16 dX6_checkThing_19 ⟨by omega, by omega⟩ ⟨by omega, by omega, by omega, by omega⟩ (fun w' h1 h2 => ⟨h1, h2⟩)
set_option maxHeartbeats 4000000 in
set_option maxRecDepth 100000 in
theorem x_X6_checkRange (l : Launch) {K : KC} {E : GE} {w : Wd} (hfl : l.stackTraces = false) {v lo hi : Int} (h_v : -2147483648 ≤ v ∧ v < 2147483648) (hl1 : -2147483648 ≤ lo ∧ lo < 2147483648) (hh1 : -2147483648 ≤ hi ∧ hi < 2147483648) (hv : ¬ (lo ≤ v ∧ v ≤ hi)) : Tx K E l yX6_checkRange cX6_checkRange 3 none 6 (1) (6) [iI v, iI lo, iI hi] w sIA (fun w' => w.1 ≤ w'.1 ∧ w'.2 = w.2) := by
  refine tx_intro [some (iI v), some (iI lo), some (iI hi)] rfl (Nat.le_of_ble_eq_true rfl) pn_X6 ?_
  intro X C hT hH hRm hl hne hX
  obtain ⟨hRf, hRl, hRc, hRs⟩ := hRm
  have hls : (xl X).stackTraces = false := by rw [hl]; exact hfl
  refine g_iload_n C dX6_checkRange_0 rfl ?_
  refine g_iload_n C dX6_checkRange_1 rfl ?_
  refine g_icmp_lt (tgt := 10) C dX6_checkRange_2 (by decide) (by omega) (by omega) (fun h2 => ?_) (fun h2 => ?_)
  · exact x_throw C hT hne hX hls fitIA fitEx kl_RX6_348 gw_initialized_java_lang_IllegalArgumentException (hT.1 6 ("Rootwalk", 350, "out of its range") rfl) hatIA1 hatIA2 hH.2.1 hH hgIA dX6_checkRange_10 dX6_checkRange_13 dX6_checkRange_14 dX6_checkRange_17 dX6_checkRange_20 ⟨by omega, by omega⟩ ⟨by omega, by omega, by omega, by omega⟩ (fun w' h1 h2 => ⟨h1, h2⟩)
  · refine g_iload_n C dX6_checkRange_5 rfl ?_
    refine g_iload_n C dX6_checkRange_6 rfl ?_
    refine g_icmp_le (tgt := 21) C dX6_checkRange_7 (by decide) (by omega) (by omega) (fun h7 => ?_) (fun h7 => ?_)
    · omega
    · exact x_throw C hT hne hX hls fitIA fitEx kl_RX6_348 gw_initialized_java_lang_IllegalArgumentException (hT.1 6 ("Rootwalk", 350, "out of its range") rfl) hatIA1 hatIA2 hH.2.1 hH hgIA dX6_checkRange_10 dX6_checkRange_13 dX6_checkRange_14 dX6_checkRange_17 dX6_checkRange_20 ⟨by omega, by omega⟩ ⟨by omega, by omega, by omega, by omega⟩ (fun w' h1 h2 => ⟨h1, h2⟩)
set_option maxHeartbeats 4000000 in
set_option maxRecDepth 100000 in
theorem x_X6_checkBase (l : Launch) {K : KC} {E : GE} {w : Wd} (hfl : l.stackTraces = false) {v : Int} (h_v : -2147483648 ≤ v ∧ v < 2147483648) (hv : ¬ GB v) : Tx K E l yX6_checkBase cX6_checkBase 2 none 7 (1) (6) [iI v] w sIA (fun w' => w.1 ≤ w'.1 ∧ w'.2 = w.2) := by
  refine tx_intro [some (iI v), none] rfl (Nat.le_of_ble_eq_true rfl) pn_X6 ?_
  intro X C hT hH hRm hl hne hX
  obtain ⟨hRf, hRl, hRc, hRs⟩ := hRm
  have hls : (xl X).stackTraces = false := by rw [hl]; exact hfl
  refine g_iload_n C dX6_checkBase_0 rfl ?_
  refine g_iconst C dX6_checkBase_1 ?_
  refine g_bipush C dX6_checkBase_2 (by decide) ?_
  by_cases hc4 : 2 ≤ v ∧ v ≤ 99
  · refine g_callS C (s_X6_checkRange _ (v := v) (lo := 2) (hi := 99) hc4 (by omega) (by omega)) ml_RX6_82 sm_yX6_checkRange in_RX6 co_yX6_checkRange hd_X6_checkRange rfl ⟨by omega, by omega⟩ rfl (Nat.le_of_ble_eq_true rfl) ⟨by omega, by omega⟩ dX6_checkBase_4 (fun v4 w4 hp4 => ?_)
    obtain ⟨rfl, hw4⟩ := hp4
    subst w4
    refine g_iload_n C dX6_checkBase_7 rfl ?_
    refine g_callS C (s_X6_rootOf _ (b := v) (by omega)) ml_RX6_78 sm_yX6_rootOf in_RX6 co_yX6_rootOf hd_X6_rootOf rfl ⟨by omega, by omega⟩ rfl (Nat.le_of_ble_eq_true rfl) ⟨by omega, by omega⟩ dX6_checkBase_8 (fun v8 w8 hp8 => ?_)
    obtain ⟨⟨r8, rfl, hr8⟩, hw8⟩ := hp8
    subst w8
    refine g_istore_n C dX6_checkBase_11 (by decide) rfl ?_
    refine g_iload_n C dX6_checkBase_12 rfl ?_
    refine g_iload_n C dX6_checkBase_13 rfl ?_
    refine g_imul C dX6_checkBase_14 ?_
    refine g_iload_n C dX6_checkBase_15 rfl ?_
    refine g_icmp_ne (tgt := 30) C dX6_checkBase_16 (by decide) (by have := hr8.2.1; have := Int.mul_nonneg hr8.1 hr8.1; omega) (by omega) (fun h16 => ?_) (fun h16 => ?_)
    · refine (hv ⟨hc4.1, hc4.2, fun m hm => ?_⟩).elim
      have e1 := hr8.1
      have e2 := hr8.2.1
      have e3 := hr8.2.2
      have hz : ∃ x : Int, 0 ≤ x ∧ x * x = v := by
        rcases Int.lt_or_le m 0 with q | q
        · exact ⟨-m, by omega, by rw [Int.neg_mul_neg]; exact hm⟩
        · exact ⟨m, q, hm⟩
      obtain ⟨x, x0, x1⟩ := hz
      rcases Int.lt_or_le x r8 with q | q
      · have := Int.mul_le_mul (show x + 1 ≤ r8 by omega) (show x + 1 ≤ r8 by omega) (by omega) (by omega)
        have g : (x + 1) * (x + 1) = x * x + 2 * x + 1 := by grind
        omega
      · rcases Int.lt_or_le r8 x with c | c
        · have := Int.mul_le_mul (show r8 + 1 ≤ x by omega) (show r8 + 1 ≤ x by omega) (by omega) (by omega)
          omega
        · have : x = r8 := by omega
          subst this
          exact h16 x1
    · exact x_throw C hT hne hX hls fitIA fitEx kl_RX6_348 gw_initialized_java_lang_IllegalArgumentException (hT.1 7 ("Rootwalk", 353, "a square is not a BASE") rfl) hatIA1 hatIA2 hH.2.1 hH hgIA dX6_checkBase_19 dX6_checkBase_22 dX6_checkBase_23 dX6_checkBase_26 dX6_checkBase_29 ⟨by omega, by omega⟩ ⟨by omega, by omega, by omega, by omega⟩ (fun w' h1 h2 => ⟨h1, h2⟩)
  · exact x_callS C hT hH hne hX (x_X6_checkRange _ hls (v := v) (lo := 2) (hi := 99) h_v (by omega) (by omega) hc4) ml_RX6_82 sm_yX6_checkRange in_RX6 co_yX6_checkRange hd_X6_checkRange rfl ⟨by omega, by omega⟩ rfl (Nat.le_of_ble_eq_true rfl) ⟨by omega, by omega⟩ ⟨by omega, by omega⟩ dX6_checkBase_4 (fun w' h => h)
set_option maxHeartbeats 4000000 in
set_option maxRecDepth 100000 in
theorem x_X6_open_IO (l : Launch) {K : KC} {E : GE} {w : Wd} (hfl : l.stackTraces = false) {a0 : Nat} {p : Int} (h_p : -2147483648 ≤ p ∧ p < 2147483648) {q : Int} (h_q : -2147483648 ≤ q ∧ q < 2147483648)  (hbad : ¬ ((0 ≤ p ∧ p ≤ 2))) : Tx K E l yX6_open cX6_open 3 (some .int) 7 (1) (6) [.ref a0, iI p, iI q] w sIO (fun w' => w.1 ≤ w'.1 ∧ w'.2 = w.2) := by
  refine tx_intro [some (.ref a0), some (iI p), some (iI q)] rfl (Nat.le_of_ble_eq_true rfl) pn_X6 ?_
  intro X C hT hH hRm hl hne hX
  obtain ⟨hRf, hRl, hRc, hRs⟩ := hRm
  have hls : (xl X).stackTraces = false := by rw [hl]; exact hfl
  refine g_iload_n C dX6_open_0 rfl ?_
  by_cases hc1 : (0 ≤ p ∧ p ≤ 2)
  · refine g_callS C (s_X6_checkThing _ (v := p) hc1) ml_RX6_61 sm_yX6_checkThing in_RX6 co_yX6_checkThing hd_X6_checkThing rfl ⟨by omega, by omega⟩ rfl (Nat.le_of_ble_eq_true rfl) ⟨by omega, by omega⟩ dX6_open_1 (fun v1 w1 hp1 => ?_)
    obtain ⟨rfl, hw1⟩ := hp1
    subst w1
    exact (hbad hc1).elim
  · exact x_callS C hT hH hne hX (x_X6_checkThing _ hls (v := p) h_p hc1) ml_RX6_61 sm_yX6_checkThing in_RX6 co_yX6_checkThing hd_X6_checkThing rfl ⟨by omega, by omega⟩ rfl (Nat.le_of_ble_eq_true rfl) ⟨by omega, by omega⟩ ⟨by omega, by omega⟩ dX6_open_1 (fun w' h => h)
set_option maxHeartbeats 4000000 in
set_option maxRecDepth 100000 in
theorem x_X6_open_IA (l : Launch) {K : KC} {E : GE} {w : Wd} (hfl : l.stackTraces = false) {a0 : Nat} {p : Int} (h_p : -2147483648 ≤ p ∧ p < 2147483648) {q : Int} (h_q : -2147483648 ≤ q ∧ q < 2147483648) (hg1 : (0 ≤ p ∧ p ≤ 2)) (hbad : ¬ (GB q)) : Tx K E l yX6_open cX6_open 3 (some .int) 8 (1) (6) [.ref a0, iI p, iI q] w sIA (fun w' => w.1 ≤ w'.1 ∧ w'.2 = w.2) := by
  refine tx_intro [some (.ref a0), some (iI p), some (iI q)] rfl (Nat.le_of_ble_eq_true rfl) pn_X6 ?_
  intro X C hT hH hRm hl hne hX
  obtain ⟨hRf, hRl, hRc, hRs⟩ := hRm
  have hls : (xl X).stackTraces = false := by rw [hl]; exact hfl
  refine g_iload_n C dX6_open_0 rfl ?_
  refine g_callS C (s_X6_checkThing _ (v := p) hg1) ml_RX6_61 sm_yX6_checkThing in_RX6 co_yX6_checkThing hd_X6_checkThing rfl ⟨by omega, by omega⟩ rfl (Nat.le_of_ble_eq_true rfl) ⟨by omega, by omega⟩ dX6_open_1 (fun v1 w1 hp1 => ?_)
  obtain ⟨rfl, hw1⟩ := hp1
  subst w1
  refine g_iload_n C dX6_open_4 rfl ?_
  by_cases hc5 : GB q
  · refine g_callS C (s_X6_checkBase _ (v := q) hc5) ml_RX6_65 sm_yX6_checkBase in_RX6 co_yX6_checkBase hd_X6_checkBase rfl ⟨by omega, by omega⟩ rfl (Nat.le_of_ble_eq_true rfl) ⟨by omega, by omega⟩ dX6_open_5 (fun v5 w5 hp5 => ?_)
    obtain ⟨rfl, hw5⟩ := hp5
    subst w5
    exact (hbad hc5).elim
  · exact x_callS C hT hH hne hX (x_X6_checkBase _ hls (v := q) h_q hc5) ml_RX6_65 sm_yX6_checkBase in_RX6 co_yX6_checkBase hd_X6_checkBase rfl ⟨by omega, by omega⟩ rfl (Nat.le_of_ble_eq_true rfl) ⟨by omega, by omega⟩ ⟨by omega, by omega⟩ dX6_open_5 (fun w' h => h)
set_option maxHeartbeats 4000000 in
set_option maxRecDepth 100000 in
theorem x_X6_forth_IO (l : Launch) {K : KC} {E : GE} {w : Wd} (hfl : l.stackTraces = false) {a0 : Nat} {p : Int} (h_p : -2147483648 ≤ p ∧ p < 2147483648) {q : Int} (h_q : -2147483648 ≤ q ∧ q < 2147483648)  (hbad : ¬ ((0 ≤ p ∧ p ≤ 2))) : Tx K E l yX6_forth cX6_forth 4 (some .int) 7 (1) (6) [.ref a0, iI p, iI q] w sIO (fun w' => w.1 ≤ w'.1 ∧ w'.2 = w.2) := by
  refine tx_intro [some (.ref a0), some (iI p), some (iI q), none] rfl (Nat.le_of_ble_eq_true rfl) pn_X6 ?_
  intro X C hT hH hRm hl hne hX
  obtain ⟨hRf, hRl, hRc, hRs⟩ := hRm
  have hls : (xl X).stackTraces = false := by rw [hl]; exact hfl
  refine g_iload_n C dX6_forth_0 rfl ?_
  by_cases hc1 : (0 ≤ p ∧ p ≤ 2)
  · refine g_callS C (s_X6_checkThing _ (v := p) hc1) ml_RX6_61 sm_yX6_checkThing in_RX6 co_yX6_checkThing hd_X6_checkThing rfl ⟨by omega, by omega⟩ rfl (Nat.le_of_ble_eq_true rfl) ⟨by omega, by omega⟩ dX6_forth_1 (fun v1 w1 hp1 => ?_)
    obtain ⟨rfl, hw1⟩ := hp1
    subst w1
    exact (hbad hc1).elim
  · exact x_callS C hT hH hne hX (x_X6_checkThing _ hls (v := p) h_p hc1) ml_RX6_61 sm_yX6_checkThing in_RX6 co_yX6_checkThing hd_X6_checkThing rfl ⟨by omega, by omega⟩ rfl (Nat.le_of_ble_eq_true rfl) ⟨by omega, by omega⟩ ⟨by omega, by omega⟩ dX6_forth_1 (fun w' h => h)
set_option maxHeartbeats 4000000 in
set_option maxRecDepth 100000 in
theorem x_X6_forth_IA (l : Launch) {K : KC} {E : GE} {w : Wd} (hfl : l.stackTraces = false) {a0 : Nat} {p : Int} (h_p : -2147483648 ≤ p ∧ p < 2147483648) {q : Int} (h_q : -2147483648 ≤ q ∧ q < 2147483648) (hg1 : (0 ≤ p ∧ p ≤ 2)) (hbad : ¬ ((1 ≤ q ∧ q ≤ 6))) : Tx K E l yX6_forth cX6_forth 4 (some .int) 7 (1) (6) [.ref a0, iI p, iI q] w sIA (fun w' => w.1 ≤ w'.1 ∧ w'.2 = w.2) := by
  refine tx_intro [some (.ref a0), some (iI p), some (iI q), none] rfl (Nat.le_of_ble_eq_true rfl) pn_X6 ?_
  intro X C hT hH hRm hl hne hX
  obtain ⟨hRf, hRl, hRc, hRs⟩ := hRm
  have hls : (xl X).stackTraces = false := by rw [hl]; exact hfl
  refine g_iload_n C dX6_forth_0 rfl ?_
  refine g_callS C (s_X6_checkThing _ (v := p) hg1) ml_RX6_61 sm_yX6_checkThing in_RX6 co_yX6_checkThing hd_X6_checkThing rfl ⟨by omega, by omega⟩ rfl (Nat.le_of_ble_eq_true rfl) ⟨by omega, by omega⟩ dX6_forth_1 (fun v1 w1 hp1 => ?_)
  obtain ⟨rfl, hw1⟩ := hp1
  subst w1
  refine g_iload_n C dX6_forth_4 rfl ?_
  refine g_iconst C dX6_forth_5 ?_
  refine g_bipush C dX6_forth_6 (by decide) ?_
  by_cases hc8 : (1 ≤ q ∧ q ≤ 6)
  · refine g_callS C (s_X6_checkRange _ (v := q) (lo := 1) (hi := 6) hc8 (by omega) (by omega)) ml_RX6_82 sm_yX6_checkRange in_RX6 co_yX6_checkRange hd_X6_checkRange rfl ⟨by omega, by omega⟩ rfl (Nat.le_of_ble_eq_true rfl) ⟨by omega, by omega⟩ dX6_forth_8 (fun v8 w8 hp8 => ?_)
    obtain ⟨rfl, hw8⟩ := hp8
    subst w8
    exact (hbad hc8).elim
  · exact x_callS C hT hH hne hX (x_X6_checkRange _ hls (v := q) (lo := 1) (hi := 6) h_q (by omega) (by omega) hc8) ml_RX6_82 sm_yX6_checkRange in_RX6 co_yX6_checkRange hd_X6_checkRange rfl ⟨by omega, by omega⟩ rfl (Nat.le_of_ble_eq_true rfl) ⟨by omega, by omega⟩ ⟨by omega, by omega⟩ dX6_forth_8 (fun w' h => h)
set_option maxHeartbeats 4000000 in
set_option maxRecDepth 100000 in
theorem x_X6_back_IO (l : Launch) {K : KC} {E : GE} {w : Wd} (hfl : l.stackTraces = false) {a0 : Nat} {p : Int} (h_p : -2147483648 ≤ p ∧ p < 2147483648)  (hbad : ¬ ((0 ≤ p ∧ p ≤ 2))) : Tx K E l yX6_back cX6_back 3 (some .int) 7 (1) (6) [.ref a0, iI p] w sIO (fun w' => w.1 ≤ w'.1 ∧ w'.2 = w.2) := by
  refine tx_intro [some (.ref a0), some (iI p), none] rfl (Nat.le_of_ble_eq_true rfl) pn_X6 ?_
  intro X C hT hH hRm hl hne hX
  obtain ⟨hRf, hRl, hRc, hRs⟩ := hRm
  have hls : (xl X).stackTraces = false := by rw [hl]; exact hfl
  refine g_iload_n C dX6_back_0 rfl ?_
  by_cases hc1 : (0 ≤ p ∧ p ≤ 2)
  · refine g_callS C (s_X6_checkThing _ (v := p) hc1) ml_RX6_61 sm_yX6_checkThing in_RX6 co_yX6_checkThing hd_X6_checkThing rfl ⟨by omega, by omega⟩ rfl (Nat.le_of_ble_eq_true rfl) ⟨by omega, by omega⟩ dX6_back_1 (fun v1 w1 hp1 => ?_)
    obtain ⟨rfl, hw1⟩ := hp1
    subst w1
    exact (hbad hc1).elim
  · exact x_callS C hT hH hne hX (x_X6_checkThing _ hls (v := p) h_p hc1) ml_RX6_61 sm_yX6_checkThing in_RX6 co_yX6_checkThing hd_X6_checkThing rfl ⟨by omega, by omega⟩ rfl (Nat.le_of_ble_eq_true rfl) ⟨by omega, by omega⟩ ⟨by omega, by omega⟩ dX6_back_1 (fun w' h => h)
set_option maxHeartbeats 4000000 in
set_option maxRecDepth 100000 in
theorem x_X6_walkCopy_IO (l : Launch) {K : KC} {E : GE} {w : Wd} (hfl : l.stackTraces = false) {a0 : Nat} {p : Int} (h_p : -2147483648 ≤ p ∧ p < 2147483648) {q : Int} (h_q : -2147483648 ≤ q ∧ q < 2147483648)  (hbad : ¬ ((0 ≤ p ∧ p ≤ 2) ∧ (0 ≤ q ∧ q ≤ 2))) : Tx K E l yX6_walkCopy cX6_walkCopy 6 (some .int) 7 (1) (6) [.ref a0, iI p, iI q] w sIO (fun w' => w.1 ≤ w'.1 ∧ w'.2 = w.2) := by
  refine tx_intro [some (.ref a0), some (iI p), some (iI q), none, none, none] rfl (Nat.le_of_ble_eq_true rfl) pn_X6 ?_
  intro X C hT hH hRm hl hne hX
  obtain ⟨hRf, hRl, hRc, hRs⟩ := hRm
  have hls : (xl X).stackTraces = false := by rw [hl]; exact hfl
  refine g_iload_n C dX6_walkCopy_0 rfl ?_
  by_cases hc1 : (0 ≤ p ∧ p ≤ 2)
  · refine g_callS C (s_X6_checkThing _ (v := p) hc1) ml_RX6_61 sm_yX6_checkThing in_RX6 co_yX6_checkThing hd_X6_checkThing rfl ⟨by omega, by omega⟩ rfl (Nat.le_of_ble_eq_true rfl) ⟨by omega, by omega⟩ dX6_walkCopy_1 (fun v1 w1 hp1 => ?_)
    obtain ⟨rfl, hw1⟩ := hp1
    subst w1
    refine g_iload_n C dX6_walkCopy_4 rfl ?_
    by_cases hc5 : (0 ≤ q ∧ q ≤ 2)
    · refine g_callS C (s_X6_checkThing _ (v := q) hc5) ml_RX6_61 sm_yX6_checkThing in_RX6 co_yX6_checkThing hd_X6_checkThing rfl ⟨by omega, by omega⟩ rfl (Nat.le_of_ble_eq_true rfl) ⟨by omega, by omega⟩ dX6_walkCopy_5 (fun v5 w5 hp5 => ?_)
      obtain ⟨rfl, hw5⟩ := hp5
      subst w5
      exact (hbad ⟨hc1, hc5⟩).elim
    · exact x_callS C hT hH hne hX (x_X6_checkThing _ hls (v := q) h_q hc5) ml_RX6_61 sm_yX6_checkThing in_RX6 co_yX6_checkThing hd_X6_checkThing rfl ⟨by omega, by omega⟩ rfl (Nat.le_of_ble_eq_true rfl) ⟨by omega, by omega⟩ ⟨by omega, by omega⟩ dX6_walkCopy_5 (fun w' h => h)
  · exact x_callS C hT hH hne hX (x_X6_checkThing _ hls (v := p) h_p hc1) ml_RX6_61 sm_yX6_checkThing in_RX6 co_yX6_checkThing hd_X6_checkThing rfl ⟨by omega, by omega⟩ rfl (Nat.le_of_ble_eq_true rfl) ⟨by omega, by omega⟩ ⟨by omega, by omega⟩ dX6_walkCopy_1 (fun w' h => h)
set_option maxHeartbeats 4000000 in
set_option maxRecDepth 100000 in
theorem x_X6_part_IO (l : Launch) {K : KC} {E : GE} {w : Wd} (hfl : l.stackTraces = false) {a0 : Nat} {p : Int} (h_p : -2147483648 ≤ p ∧ p < 2147483648) {q : Int} (h_q : -2147483648 ≤ q ∧ q < 2147483648)  (hbad : ¬ ((0 ≤ p ∧ p ≤ 2))) : Tx K E l yX6_part cX6_part 3 (some .int) 7 (1) (6) [.ref a0, iI p, iI q] w sIO (fun w' => w.1 ≤ w'.1 ∧ w'.2 = w.2) := by
  refine tx_intro [some (.ref a0), some (iI p), some (iI q)] rfl (Nat.le_of_ble_eq_true rfl) pn_X6 ?_
  intro X C hT hH hRm hl hne hX
  obtain ⟨hRf, hRl, hRc, hRs⟩ := hRm
  have hls : (xl X).stackTraces = false := by rw [hl]; exact hfl
  refine g_iload_n C dX6_part_0 rfl ?_
  by_cases hc1 : (0 ≤ p ∧ p ≤ 2)
  · refine g_callS C (s_X6_checkThing _ (v := p) hc1) ml_RX6_61 sm_yX6_checkThing in_RX6 co_yX6_checkThing hd_X6_checkThing rfl ⟨by omega, by omega⟩ rfl (Nat.le_of_ble_eq_true rfl) ⟨by omega, by omega⟩ dX6_part_1 (fun v1 w1 hp1 => ?_)
    obtain ⟨rfl, hw1⟩ := hp1
    subst w1
    exact (hbad hc1).elim
  · exact x_callS C hT hH hne hX (x_X6_checkThing _ hls (v := p) h_p hc1) ml_RX6_61 sm_yX6_checkThing in_RX6 co_yX6_checkThing hd_X6_checkThing rfl ⟨by omega, by omega⟩ rfl (Nat.le_of_ble_eq_true rfl) ⟨by omega, by omega⟩ ⟨by omega, by omega⟩ dX6_part_1 (fun w' h => h)
set_option maxHeartbeats 4000000 in
set_option maxRecDepth 100000 in
theorem x_X6_part_IA (l : Launch) {K : KC} {E : GE} {w : Wd} (hfl : l.stackTraces = false) {a0 : Nat} {p : Int} (h_p : -2147483648 ≤ p ∧ p < 2147483648) {q : Int} (h_q : -2147483648 ≤ q ∧ q < 2147483648) (hg1 : (0 ≤ p ∧ p ≤ 2)) (hbad : ¬ ((0 ≤ q ∧ q ≤ 5))) : Tx K E l yX6_part cX6_part 3 (some .int) 7 (1) (6) [.ref a0, iI p, iI q] w sIA (fun w' => w.1 ≤ w'.1 ∧ w'.2 = w.2) := by
  refine tx_intro [some (.ref a0), some (iI p), some (iI q)] rfl (Nat.le_of_ble_eq_true rfl) pn_X6 ?_
  intro X C hT hH hRm hl hne hX
  obtain ⟨hRf, hRl, hRc, hRs⟩ := hRm
  have hls : (xl X).stackTraces = false := by rw [hl]; exact hfl
  refine g_iload_n C dX6_part_0 rfl ?_
  refine g_callS C (s_X6_checkThing _ (v := p) hg1) ml_RX6_61 sm_yX6_checkThing in_RX6 co_yX6_checkThing hd_X6_checkThing rfl ⟨by omega, by omega⟩ rfl (Nat.le_of_ble_eq_true rfl) ⟨by omega, by omega⟩ dX6_part_1 (fun v1 w1 hp1 => ?_)
  obtain ⟨rfl, hw1⟩ := hp1
  subst w1
  refine g_iload_n C dX6_part_4 rfl ?_
  refine g_iconst C dX6_part_5 ?_
  refine g_iconst C dX6_part_6 ?_
  by_cases hc7 : (0 ≤ q ∧ q ≤ 5)
  · refine g_callS C (s_X6_checkRange _ (v := q) (lo := 0) (hi := 5) hc7 (by omega) (by omega)) ml_RX6_82 sm_yX6_checkRange in_RX6 co_yX6_checkRange hd_X6_checkRange rfl ⟨by omega, by omega⟩ rfl (Nat.le_of_ble_eq_true rfl) ⟨by omega, by omega⟩ dX6_part_7 (fun v7 w7 hp7 => ?_)
    obtain ⟨rfl, hw7⟩ := hp7
    subst w7
    exact (hbad hc7).elim
  · exact x_callS C hT hH hne hX (x_X6_checkRange _ hls (v := q) (lo := 0) (hi := 5) h_q (by omega) (by omega) hc7) ml_RX6_82 sm_yX6_checkRange in_RX6 co_yX6_checkRange hd_X6_checkRange rfl ⟨by omega, by omega⟩ rfl (Nat.le_of_ble_eq_true rfl) ⟨by omega, by omega⟩ ⟨by omega, by omega⟩ dX6_part_7 (fun w' h => h)
set_option maxHeartbeats 4000000 in
set_option maxRecDepth 100000 in
theorem x_X6_walkText_IO (l : Launch) {K : KC} {E : GE} {w : Wd} (hfl : l.stackTraces = false) {a0 : Nat} {p : Int} (h_p : -2147483648 ≤ p ∧ p < 2147483648) {q : Int} (h_q : -2147483648 ≤ q ∧ q < 2147483648) {r : Int} (h_r : -2147483648 ≤ r ∧ r < 2147483648)  (hbad : ¬ ((0 ≤ p ∧ p ≤ 2))) : Tx K E l yX6_walkText cX6_walkText 4 (some (.object "java/lang/String")) 7 (1) (6) [.ref a0, iI p, iI q, iI r] w sIO (fun w' => w.1 ≤ w'.1 ∧ w'.2 = w.2) := by
  refine tx_intro [some (.ref a0), some (iI p), some (iI q), some (iI r)] rfl (Nat.le_of_ble_eq_true rfl) pn_X6 ?_
  intro X C hT hH hRm hl hne hX
  obtain ⟨hRf, hRl, hRc, hRs⟩ := hRm
  have hls : (xl X).stackTraces = false := by rw [hl]; exact hfl
  refine g_iload_n C dX6_walkText_0 rfl ?_
  by_cases hc1 : (0 ≤ p ∧ p ≤ 2)
  · refine g_callS C (s_X6_checkThing _ (v := p) hc1) ml_RX6_61 sm_yX6_checkThing in_RX6 co_yX6_checkThing hd_X6_checkThing rfl ⟨by omega, by omega⟩ rfl (Nat.le_of_ble_eq_true rfl) ⟨by omega, by omega⟩ dX6_walkText_1 (fun v1 w1 hp1 => ?_)
    obtain ⟨rfl, hw1⟩ := hp1
    subst w1
    exact (hbad hc1).elim
  · exact x_callS C hT hH hne hX (x_X6_checkThing _ hls (v := p) h_p hc1) ml_RX6_61 sm_yX6_checkThing in_RX6 co_yX6_checkThing hd_X6_checkThing rfl ⟨by omega, by omega⟩ rfl (Nat.le_of_ble_eq_true rfl) ⟨by omega, by omega⟩ ⟨by omega, by omega⟩ dX6_walkText_1 (fun w' h => h)
set_option maxHeartbeats 4000000 in
set_option maxRecDepth 100000 in
theorem x_X6_walkText_IA (l : Launch) {K : KC} {E : GE} {w : Wd} (hfl : l.stackTraces = false) {a0 : Nat} {p : Int} (h_p : -2147483648 ≤ p ∧ p < 2147483648) {q : Int} (h_q : -2147483648 ≤ q ∧ q < 2147483648) {r : Int} (h_r : -2147483648 ≤ r ∧ r < 2147483648) (hg1 : (0 ≤ p ∧ p ≤ 2)) (hbad : ¬ ((0 ≤ q ∧ q ≤ 3) ∧ (2 ≤ r ∧ r ≤ 16))) : Tx K E l yX6_walkText cX6_walkText 4 (some (.object "java/lang/String")) 7 (1) (6) [.ref a0, iI p, iI q, iI r] w sIA (fun w' => w.1 ≤ w'.1 ∧ w'.2 = w.2) := by
  refine tx_intro [some (.ref a0), some (iI p), some (iI q), some (iI r)] rfl (Nat.le_of_ble_eq_true rfl) pn_X6 ?_
  intro X C hT hH hRm hl hne hX
  obtain ⟨hRf, hRl, hRc, hRs⟩ := hRm
  have hls : (xl X).stackTraces = false := by rw [hl]; exact hfl
  refine g_iload_n C dX6_walkText_0 rfl ?_
  refine g_callS C (s_X6_checkThing _ (v := p) hg1) ml_RX6_61 sm_yX6_checkThing in_RX6 co_yX6_checkThing hd_X6_checkThing rfl ⟨by omega, by omega⟩ rfl (Nat.le_of_ble_eq_true rfl) ⟨by omega, by omega⟩ dX6_walkText_1 (fun v1 w1 hp1 => ?_)
  obtain ⟨rfl, hw1⟩ := hp1
  subst w1
  refine g_iload_n C dX6_walkText_4 rfl ?_
  refine g_iconst C dX6_walkText_5 ?_
  refine g_iconst C dX6_walkText_6 ?_
  by_cases hc7 : (0 ≤ q ∧ q ≤ 3)
  · refine g_callS C (s_X6_checkRange _ (v := q) (lo := 0) (hi := 3) hc7 (by omega) (by omega)) ml_RX6_82 sm_yX6_checkRange in_RX6 co_yX6_checkRange hd_X6_checkRange rfl ⟨by omega, by omega⟩ rfl (Nat.le_of_ble_eq_true rfl) ⟨by omega, by omega⟩ dX6_walkText_7 (fun v7 w7 hp7 => ?_)
    obtain ⟨rfl, hw7⟩ := hp7
    subst w7
    refine g_iload_n C dX6_walkText_10 rfl ?_
    refine g_iconst C dX6_walkText_11 ?_
    refine g_bipush C dX6_walkText_12 (by decide) ?_
    by_cases hc14 : (2 ≤ r ∧ r ≤ 16)
    · refine g_callS C (s_X6_checkRange _ (v := r) (lo := 2) (hi := 16) hc14 (by omega) (by omega)) ml_RX6_82 sm_yX6_checkRange in_RX6 co_yX6_checkRange hd_X6_checkRange rfl ⟨by omega, by omega⟩ rfl (Nat.le_of_ble_eq_true rfl) ⟨by omega, by omega⟩ dX6_walkText_14 (fun v14 w14 hp14 => ?_)
      obtain ⟨rfl, hw14⟩ := hp14
      subst w14
      exact (hbad ⟨hc7, hc14⟩).elim
    · exact x_callS C hT hH hne hX (x_X6_checkRange _ hls (v := r) (lo := 2) (hi := 16) h_r (by omega) (by omega) hc14) ml_RX6_82 sm_yX6_checkRange in_RX6 co_yX6_checkRange hd_X6_checkRange rfl ⟨by omega, by omega⟩ rfl (Nat.le_of_ble_eq_true rfl) ⟨by omega, by omega⟩ ⟨by omega, by omega⟩ dX6_walkText_14 (fun w' h => h)
  · exact x_callS C hT hH hne hX (x_X6_checkRange _ hls (v := q) (lo := 0) (hi := 3) h_q (by omega) (by omega) hc7) ml_RX6_82 sm_yX6_checkRange in_RX6 co_yX6_checkRange hd_X6_checkRange rfl ⟨by omega, by omega⟩ rfl (Nat.le_of_ble_eq_true rfl) ⟨by omega, by omega⟩ ⟨by omega, by omega⟩ dX6_walkText_7 (fun w' h => h)
set_option maxHeartbeats 4000000 in
set_option maxRecDepth 100000 in
theorem x_X6_test_IO (l : Launch) {K : KC} {E : GE} {w : Wd} (hfl : l.stackTraces = false) {a0 : Nat} {p : Int} (h_p : -2147483648 ≤ p ∧ p < 2147483648) {q : Int} (h_q : -2147483648 ≤ q ∧ q < 2147483648)  (hbad : ¬ ((0 ≤ p ∧ p ≤ 2))) : Tx K E l yX6_test cX6_test 3 (some .int) 7 (1) (6) [.ref a0, iI p, iI q] w sIO (fun w' => w.1 ≤ w'.1 ∧ w'.2 = w.2) := by
  refine tx_intro [some (.ref a0), some (iI p), some (iI q)] rfl (Nat.le_of_ble_eq_true rfl) pn_X6 ?_
  intro X C hT hH hRm hl hne hX
  obtain ⟨hRf, hRl, hRc, hRs⟩ := hRm
  have hls : (xl X).stackTraces = false := by rw [hl]; exact hfl
  refine g_iload_n C dX6_test_0 rfl ?_
  by_cases hc1 : (0 ≤ p ∧ p ≤ 2)
  · refine g_callS C (s_X6_checkThing _ (v := p) hc1) ml_RX6_61 sm_yX6_checkThing in_RX6 co_yX6_checkThing hd_X6_checkThing rfl ⟨by omega, by omega⟩ rfl (Nat.le_of_ble_eq_true rfl) ⟨by omega, by omega⟩ dX6_test_1 (fun v1 w1 hp1 => ?_)
    obtain ⟨rfl, hw1⟩ := hp1
    subst w1
    exact (hbad hc1).elim
  · exact x_callS C hT hH hne hX (x_X6_checkThing _ hls (v := p) h_p hc1) ml_RX6_61 sm_yX6_checkThing in_RX6 co_yX6_checkThing hd_X6_checkThing rfl ⟨by omega, by omega⟩ rfl (Nat.le_of_ble_eq_true rfl) ⟨by omega, by omega⟩ ⟨by omega, by omega⟩ dX6_test_1 (fun w' h => h)
set_option maxHeartbeats 4000000 in
set_option maxRecDepth 100000 in
theorem x_X6_test_IA (l : Launch) {K : KC} {E : GE} {w : Wd} (hfl : l.stackTraces = false) {a0 : Nat} {p : Int} (h_p : -2147483648 ≤ p ∧ p < 2147483648) {q : Int} (h_q : -2147483648 ≤ q ∧ q < 2147483648) (hg1 : (0 ≤ p ∧ p ≤ 2)) (hbad : ¬ ((0 ≤ q ∧ q ≤ 2))) : Tx K E l yX6_test cX6_test 3 (some .int) 7 (1) (6) [.ref a0, iI p, iI q] w sIA (fun w' => w.1 ≤ w'.1 ∧ w'.2 = w.2) := by
  refine tx_intro [some (.ref a0), some (iI p), some (iI q)] rfl (Nat.le_of_ble_eq_true rfl) pn_X6 ?_
  intro X C hT hH hRm hl hne hX
  obtain ⟨hRf, hRl, hRc, hRs⟩ := hRm
  have hls : (xl X).stackTraces = false := by rw [hl]; exact hfl
  refine g_iload_n C dX6_test_0 rfl ?_
  refine g_callS C (s_X6_checkThing _ (v := p) hg1) ml_RX6_61 sm_yX6_checkThing in_RX6 co_yX6_checkThing hd_X6_checkThing rfl ⟨by omega, by omega⟩ rfl (Nat.le_of_ble_eq_true rfl) ⟨by omega, by omega⟩ dX6_test_1 (fun v1 w1 hp1 => ?_)
  obtain ⟨rfl, hw1⟩ := hp1
  subst w1
  refine g_iload_n C dX6_test_4 rfl ?_
  refine g_iconst C dX6_test_5 ?_
  refine g_iconst C dX6_test_6 ?_
  by_cases hc7 : (0 ≤ q ∧ q ≤ 2)
  · refine g_callS C (s_X6_checkRange _ (v := q) (lo := 0) (hi := 2) hc7 (by omega) (by omega)) ml_RX6_82 sm_yX6_checkRange in_RX6 co_yX6_checkRange hd_X6_checkRange rfl ⟨by omega, by omega⟩ rfl (Nat.le_of_ble_eq_true rfl) ⟨by omega, by omega⟩ dX6_test_7 (fun v7 w7 hp7 => ?_)
    obtain ⟨rfl, hw7⟩ := hp7
    subst w7
    exact (hbad hc7).elim
  · exact x_callS C hT hH hne hX (x_X6_checkRange _ hls (v := q) (lo := 0) (hi := 2) h_q (by omega) (by omega) hc7) ml_RX6_82 sm_yX6_checkRange in_RX6 co_yX6_checkRange hd_X6_checkRange rfl ⟨by omega, by omega⟩ rfl (Nat.le_of_ble_eq_true rfl) ⟨by omega, by omega⟩ ⟨by omega, by omega⟩ dX6_test_7 (fun w' h => h)
set_option maxHeartbeats 4000000 in
set_option maxRecDepth 100000 in
theorem x_X6_walkBits_IO (l : Launch) {K : KC} {E : GE} {w : Wd} (hfl : l.stackTraces = false) {a0 : Nat} {p : Int} (h_p : -2147483648 ≤ p ∧ p < 2147483648) {q : Int} {r : Int} (h_r : -2147483648 ≤ r ∧ r < 2147483648)  (hbad : ¬ ((0 ≤ p ∧ p ≤ 2))) : Tx K E l yX6_walkBits cX6_walkBits 4 (some .int) 7 (1) (6) [.ref a0, iI p, iI q, iI r] w sIO (fun w' => w.1 ≤ w'.1 ∧ w'.2 = w.2) := by
  refine tx_intro [some (.ref a0), some (iI p), some (iI q), some (iI r)] rfl (Nat.le_of_ble_eq_true rfl) pn_X6 ?_
  intro X C hT hH hRm hl hne hX
  obtain ⟨hRf, hRl, hRc, hRs⟩ := hRm
  have hls : (xl X).stackTraces = false := by rw [hl]; exact hfl
  refine g_iload_n C dX6_walkBits_0 rfl ?_
  by_cases hc1 : (0 ≤ p ∧ p ≤ 2)
  · refine g_callS C (s_X6_checkThing _ (v := p) hc1) ml_RX6_61 sm_yX6_checkThing in_RX6 co_yX6_checkThing hd_X6_checkThing rfl ⟨by omega, by omega⟩ rfl (Nat.le_of_ble_eq_true rfl) ⟨by omega, by omega⟩ dX6_walkBits_1 (fun v1 w1 hp1 => ?_)
    obtain ⟨rfl, hw1⟩ := hp1
    subst w1
    exact (hbad hc1).elim
  · exact x_callS C hT hH hne hX (x_X6_checkThing _ hls (v := p) h_p hc1) ml_RX6_61 sm_yX6_checkThing in_RX6 co_yX6_checkThing hd_X6_checkThing rfl ⟨by omega, by omega⟩ rfl (Nat.le_of_ble_eq_true rfl) ⟨by omega, by omega⟩ ⟨by omega, by omega⟩ dX6_walkBits_1 (fun w' h => h)
set_option maxHeartbeats 4000000 in
set_option maxRecDepth 100000 in
theorem x_X6_walkBits_IA (l : Launch) {K : KC} {E : GE} {w : Wd} (hfl : l.stackTraces = false) {a0 : Nat} {p : Int} (h_p : -2147483648 ≤ p ∧ p < 2147483648) {q : Int} {r : Int} (h_r : -2147483648 ≤ r ∧ r < 2147483648) (hg1 : (0 ≤ p ∧ p ≤ 2)) (hbad : ¬ ((0 ≤ r ∧ r ≤ 2))) : Tx K E l yX6_walkBits cX6_walkBits 4 (some .int) 7 (1) (6) [.ref a0, iI p, iI q, iI r] w sIA (fun w' => w.1 ≤ w'.1 ∧ w'.2 = w.2) := by
  refine tx_intro [some (.ref a0), some (iI p), some (iI q), some (iI r)] rfl (Nat.le_of_ble_eq_true rfl) pn_X6 ?_
  intro X C hT hH hRm hl hne hX
  obtain ⟨hRf, hRl, hRc, hRs⟩ := hRm
  have hls : (xl X).stackTraces = false := by rw [hl]; exact hfl
  refine g_iload_n C dX6_walkBits_0 rfl ?_
  refine g_callS C (s_X6_checkThing _ (v := p) hg1) ml_RX6_61 sm_yX6_checkThing in_RX6 co_yX6_checkThing hd_X6_checkThing rfl ⟨by omega, by omega⟩ rfl (Nat.le_of_ble_eq_true rfl) ⟨by omega, by omega⟩ dX6_walkBits_1 (fun v1 w1 hp1 => ?_)
  obtain ⟨rfl, hw1⟩ := hp1
  subst w1
  refine g_iload_n C dX6_walkBits_4 rfl ?_
  refine g_iconst C dX6_walkBits_5 ?_
  refine g_iconst C dX6_walkBits_6 ?_
  by_cases hc7 : (0 ≤ r ∧ r ≤ 2)
  · refine g_callS C (s_X6_checkRange _ (v := r) (lo := 0) (hi := 2) hc7 (by omega) (by omega)) ml_RX6_82 sm_yX6_checkRange in_RX6 co_yX6_checkRange hd_X6_checkRange rfl ⟨by omega, by omega⟩ rfl (Nat.le_of_ble_eq_true rfl) ⟨by omega, by omega⟩ dX6_walkBits_7 (fun v7 w7 hp7 => ?_)
    obtain ⟨rfl, hw7⟩ := hp7
    subst w7
    exact (hbad hc7).elim
  · exact x_callS C hT hH hne hX (x_X6_checkRange _ hls (v := r) (lo := 0) (hi := 2) h_r (by omega) (by omega) hc7) ml_RX6_82 sm_yX6_checkRange in_RX6 co_yX6_checkRange hd_X6_checkRange rfl ⟨by omega, by omega⟩ rfl (Nat.le_of_ble_eq_true rfl) ⟨by omega, by omega⟩ ⟨by omega, by omega⟩ dX6_walkBits_7 (fun w' h => h)
set_option maxHeartbeats 4000000 in
set_option maxRecDepth 100000 in
theorem x_X6_bit_IO (l : Launch) {K : KC} {E : GE} {w : Wd} (hfl : l.stackTraces = false) {a0 : Nat} {p : Int} (h_p : -2147483648 ≤ p ∧ p < 2147483648) {q : Int} {r : Int} (h_r : -2147483648 ≤ r ∧ r < 2147483648)  (hbad : ¬ ((0 ≤ p ∧ p ≤ 2))) : Tx K E l yX6_bit cX6_bit 4 (some .boolean) 7 (1) (6) [.ref a0, iI p, iI q, iI r] w sIO (fun w' => w.1 ≤ w'.1 ∧ w'.2 = w.2) := by
  refine tx_intro [some (.ref a0), some (iI p), some (iI q), some (iI r)] rfl (Nat.le_of_ble_eq_true rfl) pn_X6 ?_
  intro X C hT hH hRm hl hne hX
  obtain ⟨hRf, hRl, hRc, hRs⟩ := hRm
  have hls : (xl X).stackTraces = false := by rw [hl]; exact hfl
  refine g_iload_n C dX6_bit_0 rfl ?_
  by_cases hc1 : (0 ≤ p ∧ p ≤ 2)
  · refine g_callS C (s_X6_checkThing _ (v := p) hc1) ml_RX6_61 sm_yX6_checkThing in_RX6 co_yX6_checkThing hd_X6_checkThing rfl ⟨by omega, by omega⟩ rfl (Nat.le_of_ble_eq_true rfl) ⟨by omega, by omega⟩ dX6_bit_1 (fun v1 w1 hp1 => ?_)
    obtain ⟨rfl, hw1⟩ := hp1
    subst w1
    exact (hbad hc1).elim
  · exact x_callS C hT hH hne hX (x_X6_checkThing _ hls (v := p) h_p hc1) ml_RX6_61 sm_yX6_checkThing in_RX6 co_yX6_checkThing hd_X6_checkThing rfl ⟨by omega, by omega⟩ rfl (Nat.le_of_ble_eq_true rfl) ⟨by omega, by omega⟩ ⟨by omega, by omega⟩ dX6_bit_1 (fun w' h => h)
set_option maxHeartbeats 4000000 in
set_option maxRecDepth 100000 in
theorem x_X6_bit_IA (l : Launch) {K : KC} {E : GE} {w : Wd} (hfl : l.stackTraces = false) {a0 : Nat} {p : Int} (h_p : -2147483648 ≤ p ∧ p < 2147483648) {q : Int} {r : Int} (h_r : -2147483648 ≤ r ∧ r < 2147483648) (hg1 : (0 ≤ p ∧ p ≤ 2)) (hbad : ¬ ((0 ≤ r ∧ r ≤ 119))) : Tx K E l yX6_bit cX6_bit 4 (some .boolean) 7 (1) (6) [.ref a0, iI p, iI q, iI r] w sIA (fun w' => w.1 ≤ w'.1 ∧ w'.2 = w.2) := by
  refine tx_intro [some (.ref a0), some (iI p), some (iI q), some (iI r)] rfl (Nat.le_of_ble_eq_true rfl) pn_X6 ?_
  intro X C hT hH hRm hl hne hX
  obtain ⟨hRf, hRl, hRc, hRs⟩ := hRm
  have hls : (xl X).stackTraces = false := by rw [hl]; exact hfl
  refine g_iload_n C dX6_bit_0 rfl ?_
  refine g_callS C (s_X6_checkThing _ (v := p) hg1) ml_RX6_61 sm_yX6_checkThing in_RX6 co_yX6_checkThing hd_X6_checkThing rfl ⟨by omega, by omega⟩ rfl (Nat.le_of_ble_eq_true rfl) ⟨by omega, by omega⟩ dX6_bit_1 (fun v1 w1 hp1 => ?_)
  obtain ⟨rfl, hw1⟩ := hp1
  subst w1
  refine g_iload_n C dX6_bit_4 rfl ?_
  refine g_iconst C dX6_bit_5 ?_
  refine g_bipush C dX6_bit_6 (by decide) ?_
  by_cases hc8 : (0 ≤ r ∧ r ≤ 119)
  · refine g_callS C (s_X6_checkRange _ (v := r) (lo := 0) (hi := 119) hc8 (by omega) (by omega)) ml_RX6_82 sm_yX6_checkRange in_RX6 co_yX6_checkRange hd_X6_checkRange rfl ⟨by omega, by omega⟩ rfl (Nat.le_of_ble_eq_true rfl) ⟨by omega, by omega⟩ dX6_bit_8 (fun v8 w8 hp8 => ?_)
    obtain ⟨rfl, hw8⟩ := hp8
    subst w8
    exact (hbad hc8).elim
  · exact x_callS C hT hH hne hX (x_X6_checkRange _ hls (v := r) (lo := 0) (hi := 119) h_r (by omega) (by omega) hc8) ml_RX6_82 sm_yX6_checkRange in_RX6 co_yX6_checkRange hd_X6_checkRange rfl ⟨by omega, by omega⟩ rfl (Nat.le_of_ble_eq_true rfl) ⟨by omega, by omega⟩ ⟨by omega, by omega⟩ dX6_bit_8 (fun w' h => h)
set_option maxHeartbeats 4000000 in
set_option maxRecDepth 100000 in
theorem x_X6_isRead_IO (l : Launch) {K : KC} {E : GE} {w : Wd} (hfl : l.stackTraces = false) {a0 : Nat} {p : Int} (h_p : -2147483648 ≤ p ∧ p < 2147483648) {q : Int} (h_q : -2147483648 ≤ q ∧ q < 2147483648)  (hbad : ¬ ((0 ≤ p ∧ p ≤ 2))) : Tx K E l yX6_isRead cX6_isRead 6 (some .boolean) 7 (1) (6) [.ref a0, iI p, iI q] w sIO (fun w' => w.1 ≤ w'.1 ∧ w'.2 = w.2) := by
  refine tx_intro [some (.ref a0), some (iI p), some (iI q), none, none, none] rfl (Nat.le_of_ble_eq_true rfl) pn_X6 ?_
  intro X C hT hH hRm hl hne hX
  obtain ⟨hRf, hRl, hRc, hRs⟩ := hRm
  have hls : (xl X).stackTraces = false := by rw [hl]; exact hfl
  refine g_iload_n C dX6_isRead_0 rfl ?_
  by_cases hc1 : (0 ≤ p ∧ p ≤ 2)
  · refine g_callS C (s_X6_checkThing _ (v := p) hc1) ml_RX6_61 sm_yX6_checkThing in_RX6 co_yX6_checkThing hd_X6_checkThing rfl ⟨by omega, by omega⟩ rfl (Nat.le_of_ble_eq_true rfl) ⟨by omega, by omega⟩ dX6_isRead_1 (fun v1 w1 hp1 => ?_)
    obtain ⟨rfl, hw1⟩ := hp1
    subst w1
    exact (hbad hc1).elim
  · exact x_callS C hT hH hne hX (x_X6_checkThing _ hls (v := p) h_p hc1) ml_RX6_61 sm_yX6_checkThing in_RX6 co_yX6_checkThing hd_X6_checkThing rfl ⟨by omega, by omega⟩ rfl (Nat.le_of_ble_eq_true rfl) ⟨by omega, by omega⟩ ⟨by omega, by omega⟩ dX6_isRead_1 (fun w' h => h)
set_option maxHeartbeats 4000000 in
set_option maxRecDepth 100000 in
theorem x_X6_isRead_IA (l : Launch) {K : KC} {E : GE} {w : Wd} (hfl : l.stackTraces = false) {a0 : Nat} {p : Int} (h_p : -2147483648 ≤ p ∧ p < 2147483648) {q : Int} (h_q : -2147483648 ≤ q ∧ q < 2147483648) (hg1 : (0 ≤ p ∧ p ≤ 2)) (hz0 : ¬ q = 0) (hbad : ¬ ((2 ≤ q ∧ q ≤ 16))) : Tx K E l yX6_isRead cX6_isRead 6 (some .boolean) 7 (1) (6) [.ref a0, iI p, iI q] w sIA (fun w' => w.1 ≤ w'.1 ∧ w'.2 = w.2) := by
  refine tx_intro [some (.ref a0), some (iI p), some (iI q), none, none, none] rfl (Nat.le_of_ble_eq_true rfl) pn_X6 ?_
  intro X C hT hH hRm hl hne hX
  obtain ⟨hRf, hRl, hRc, hRs⟩ := hRm
  have hls : (xl X).stackTraces = false := by rw [hl]; exact hfl
  refine g_iload_n C dX6_isRead_0 rfl ?_
  refine g_callS C (s_X6_checkThing _ (v := p) hg1) ml_RX6_61 sm_yX6_checkThing in_RX6 co_yX6_checkThing hd_X6_checkThing rfl ⟨by omega, by omega⟩ rfl (Nat.le_of_ble_eq_true rfl) ⟨by omega, by omega⟩ dX6_isRead_1 (fun v1 w1 hp1 => ?_)
  obtain ⟨rfl, hw1⟩ := hp1
  subst w1
  refine g_iload_n C dX6_isRead_4 rfl ?_
  refine g_if_eq (tgt := 15) C dX6_isRead_5 (by decide) (by omega) (fun h5 => ?_) (fun h5 => ?_)
  · exact (hz0 h5).elim
  · refine g_iload_n C dX6_isRead_8 rfl ?_
    refine g_iconst C dX6_isRead_9 ?_
    refine g_bipush C dX6_isRead_10 (by decide) ?_
    by_cases hc12 : (2 ≤ q ∧ q ≤ 16)
    · refine g_callS C (s_X6_checkRange _ (v := q) (lo := 2) (hi := 16) hc12 (by omega) (by omega)) ml_RX6_82 sm_yX6_checkRange in_RX6 co_yX6_checkRange hd_X6_checkRange rfl ⟨by omega, by omega⟩ rfl (Nat.le_of_ble_eq_true rfl) ⟨by omega, by omega⟩ dX6_isRead_12 (fun v12 w12 hp12 => ?_)
      obtain ⟨rfl, hw12⟩ := hp12
      subst w12
      exact (hbad hc12).elim
    · exact x_callS C hT hH hne hX (x_X6_checkRange _ hls (v := q) (lo := 2) (hi := 16) h_q (by omega) (by omega) hc12) ml_RX6_82 sm_yX6_checkRange in_RX6 co_yX6_checkRange hd_X6_checkRange rfl ⟨by omega, by omega⟩ rfl (Nat.le_of_ble_eq_true rfl) ⟨by omega, by omega⟩ ⟨by omega, by omega⟩ dX6_isRead_12 (fun w' h => h)
set_option maxHeartbeats 4000000 in
set_option maxRecDepth 100000 in
theorem x_X6_isNear_IO (l : Launch) {K : KC} {E : GE} {w : Wd} (hfl : l.stackTraces = false) {a0 : Nat} {p : Int} (h_p : -2147483648 ≤ p ∧ p < 2147483648) {q : Int} (h_q : -2147483648 ≤ q ∧ q < 2147483648)  (hbad : ¬ ((0 ≤ p ∧ p ≤ 2))) : Tx K E l yX6_isNear cX6_isNear 5 (some .boolean) 7 (1) (6) [.ref a0, iI p, iI q] w sIO (fun w' => w.1 ≤ w'.1 ∧ w'.2 = w.2) := by
  refine tx_intro [some (.ref a0), some (iI p), some (iI q), none, none] rfl (Nat.le_of_ble_eq_true rfl) pn_X6 ?_
  intro X C hT hH hRm hl hne hX
  obtain ⟨hRf, hRl, hRc, hRs⟩ := hRm
  have hls : (xl X).stackTraces = false := by rw [hl]; exact hfl
  refine g_iload_n C dX6_isNear_0 rfl ?_
  by_cases hc1 : (0 ≤ p ∧ p ≤ 2)
  · refine g_callS C (s_X6_checkThing _ (v := p) hc1) ml_RX6_61 sm_yX6_checkThing in_RX6 co_yX6_checkThing hd_X6_checkThing rfl ⟨by omega, by omega⟩ rfl (Nat.le_of_ble_eq_true rfl) ⟨by omega, by omega⟩ dX6_isNear_1 (fun v1 w1 hp1 => ?_)
    obtain ⟨rfl, hw1⟩ := hp1
    subst w1
    exact (hbad hc1).elim
  · exact x_callS C hT hH hne hX (x_X6_checkThing _ hls (v := p) h_p hc1) ml_RX6_61 sm_yX6_checkThing in_RX6 co_yX6_checkThing hd_X6_checkThing rfl ⟨by omega, by omega⟩ rfl (Nat.le_of_ble_eq_true rfl) ⟨by omega, by omega⟩ ⟨by omega, by omega⟩ dX6_isNear_1 (fun w' h => h)
set_option maxHeartbeats 4000000 in
set_option maxRecDepth 100000 in
theorem x_X6_isNear_IA (l : Launch) {K : KC} {E : GE} {w : Wd} (hfl : l.stackTraces = false) {a0 : Nat} {p : Int} (h_p : -2147483648 ≤ p ∧ p < 2147483648) {q : Int} (h_q : -2147483648 ≤ q ∧ q < 2147483648) (hg1 : (0 ≤ p ∧ p ≤ 2)) (hbad : ¬ ((1 ≤ q ∧ q ≤ 3))) : Tx K E l yX6_isNear cX6_isNear 5 (some .boolean) 7 (1) (6) [.ref a0, iI p, iI q] w sIA (fun w' => w.1 ≤ w'.1 ∧ w'.2 = w.2) := by
  refine tx_intro [some (.ref a0), some (iI p), some (iI q), none, none] rfl (Nat.le_of_ble_eq_true rfl) pn_X6 ?_
  intro X C hT hH hRm hl hne hX
  obtain ⟨hRf, hRl, hRc, hRs⟩ := hRm
  have hls : (xl X).stackTraces = false := by rw [hl]; exact hfl
  refine g_iload_n C dX6_isNear_0 rfl ?_
  refine g_callS C (s_X6_checkThing _ (v := p) hg1) ml_RX6_61 sm_yX6_checkThing in_RX6 co_yX6_checkThing hd_X6_checkThing rfl ⟨by omega, by omega⟩ rfl (Nat.le_of_ble_eq_true rfl) ⟨by omega, by omega⟩ dX6_isNear_1 (fun v1 w1 hp1 => ?_)
  obtain ⟨rfl, hw1⟩ := hp1
  subst w1
  refine g_iload_n C dX6_isNear_4 rfl ?_
  refine g_iconst C dX6_isNear_5 ?_
  refine g_iconst C dX6_isNear_6 ?_
  by_cases hc7 : (1 ≤ q ∧ q ≤ 3)
  · refine g_callS C (s_X6_checkRange _ (v := q) (lo := 1) (hi := 3) hc7 (by omega) (by omega)) ml_RX6_82 sm_yX6_checkRange in_RX6 co_yX6_checkRange hd_X6_checkRange rfl ⟨by omega, by omega⟩ rfl (Nat.le_of_ble_eq_true rfl) ⟨by omega, by omega⟩ dX6_isNear_7 (fun v7 w7 hp7 => ?_)
    obtain ⟨rfl, hw7⟩ := hp7
    subst w7
    exact (hbad hc7).elim
  · exact x_callS C hT hH hne hX (x_X6_checkRange _ hls (v := q) (lo := 1) (hi := 3) h_q (by omega) (by omega) hc7) ml_RX6_82 sm_yX6_checkRange in_RX6 co_yX6_checkRange hd_X6_checkRange rfl ⟨by omega, by omega⟩ rfl (Nat.le_of_ble_eq_true rfl) ⟨by omega, by omega⟩ ⟨by omega, by omega⟩ dX6_isNear_7 (fun w' h => h)
set_option maxHeartbeats 4000000 in
set_option maxRecDepth 100000 in
theorem x_X6_decimals_IO (l : Launch) {K : KC} {E : GE} {w : Wd} (hfl : l.stackTraces = false) {a0 : Nat} {p : Int} (h_p : -2147483648 ≤ p ∧ p < 2147483648) {q : Int} (h_q : -2147483648 ≤ q ∧ q < 2147483648)  (hbad : ¬ ((0 ≤ p ∧ p ≤ 2))) : Tx K E l yX6_decimals cX6_decimals 3 (some (.object "java/lang/String")) 7 (1) (6) [.ref a0, iI p, iI q] w sIO (fun w' => w.1 ≤ w'.1 ∧ w'.2 = w.2) := by
  refine tx_intro [some (.ref a0), some (iI p), some (iI q)] rfl (Nat.le_of_ble_eq_true rfl) pn_X6 ?_
  intro X C hT hH hRm hl hne hX
  obtain ⟨hRf, hRl, hRc, hRs⟩ := hRm
  have hls : (xl X).stackTraces = false := by rw [hl]; exact hfl
  refine g_iload_n C dX6_decimals_0 rfl ?_
  by_cases hc1 : (0 ≤ p ∧ p ≤ 2)
  · refine g_callS C (s_X6_checkThing _ (v := p) hc1) ml_RX6_61 sm_yX6_checkThing in_RX6 co_yX6_checkThing hd_X6_checkThing rfl ⟨by omega, by omega⟩ rfl (Nat.le_of_ble_eq_true rfl) ⟨by omega, by omega⟩ dX6_decimals_1 (fun v1 w1 hp1 => ?_)
    obtain ⟨rfl, hw1⟩ := hp1
    subst w1
    exact (hbad hc1).elim
  · exact x_callS C hT hH hne hX (x_X6_checkThing _ hls (v := p) h_p hc1) ml_RX6_61 sm_yX6_checkThing in_RX6 co_yX6_checkThing hd_X6_checkThing rfl ⟨by omega, by omega⟩ rfl (Nat.le_of_ble_eq_true rfl) ⟨by omega, by omega⟩ ⟨by omega, by omega⟩ dX6_decimals_1 (fun w' h => h)
set_option maxHeartbeats 4000000 in
set_option maxRecDepth 100000 in
theorem x_X6_decimals_IA (l : Launch) {K : KC} {E : GE} {w : Wd} (hfl : l.stackTraces = false) {a0 : Nat} {p : Int} (h_p : -2147483648 ≤ p ∧ p < 2147483648) {q : Int} (h_q : -2147483648 ≤ q ∧ q < 2147483648) (hg1 : (0 ≤ p ∧ p ≤ 2)) (hbad : ¬ ((0 ≤ q ∧ q ≤ 16))) : Tx K E l yX6_decimals cX6_decimals 3 (some (.object "java/lang/String")) 7 (1) (6) [.ref a0, iI p, iI q] w sIA (fun w' => w.1 ≤ w'.1 ∧ w'.2 = w.2) := by
  refine tx_intro [some (.ref a0), some (iI p), some (iI q)] rfl (Nat.le_of_ble_eq_true rfl) pn_X6 ?_
  intro X C hT hH hRm hl hne hX
  obtain ⟨hRf, hRl, hRc, hRs⟩ := hRm
  have hls : (xl X).stackTraces = false := by rw [hl]; exact hfl
  refine g_iload_n C dX6_decimals_0 rfl ?_
  refine g_callS C (s_X6_checkThing _ (v := p) hg1) ml_RX6_61 sm_yX6_checkThing in_RX6 co_yX6_checkThing hd_X6_checkThing rfl ⟨by omega, by omega⟩ rfl (Nat.le_of_ble_eq_true rfl) ⟨by omega, by omega⟩ dX6_decimals_1 (fun v1 w1 hp1 => ?_)
  obtain ⟨rfl, hw1⟩ := hp1
  subst w1
  refine g_iload_n C dX6_decimals_4 rfl ?_
  refine g_iconst C dX6_decimals_5 ?_
  refine g_bipush C dX6_decimals_6 (by decide) ?_
  by_cases hc8 : (0 ≤ q ∧ q ≤ 16)
  · refine g_callS C (s_X6_checkRange _ (v := q) (lo := 0) (hi := 16) hc8 (by omega) (by omega)) ml_RX6_82 sm_yX6_checkRange in_RX6 co_yX6_checkRange hd_X6_checkRange rfl ⟨by omega, by omega⟩ rfl (Nat.le_of_ble_eq_true rfl) ⟨by omega, by omega⟩ dX6_decimals_8 (fun v8 w8 hp8 => ?_)
    obtain ⟨rfl, hw8⟩ := hp8
    subst w8
    exact (hbad hc8).elim
  · exact x_callS C hT hH hne hX (x_X6_checkRange _ hls (v := q) (lo := 0) (hi := 16) h_q (by omega) (by omega) hc8) ml_RX6_82 sm_yX6_checkRange in_RX6 co_yX6_checkRange hd_X6_checkRange rfl ⟨by omega, by omega⟩ rfl (Nat.le_of_ble_eq_true rfl) ⟨by omega, by omega⟩ ⟨by omega, by omega⟩ dX6_decimals_8 (fun w' h => h)
set_option maxHeartbeats 4000000 in
set_option maxRecDepth 100000 in
theorem x_X6_alike_IO (l : Launch) {K : KC} {E : GE} {w : Wd} (hfl : l.stackTraces = false) {a0 : Nat} {p : Int} (h_p : -2147483648 ≤ p ∧ p < 2147483648)  (hbad : ¬ ((0 ≤ p ∧ p ≤ 2))) : Tx K E l yX6_alike cX6_alike 8 (some .int) 7 (1) (6) [.ref a0, iI p] w sIO (fun w' => w.1 ≤ w'.1 ∧ w'.2 = w.2) := by
  refine tx_intro [some (.ref a0), some (iI p), none, none, none, none, none, none] rfl (Nat.le_of_ble_eq_true rfl) pn_X6 ?_
  intro X C hT hH hRm hl hne hX
  obtain ⟨hRf, hRl, hRc, hRs⟩ := hRm
  have hls : (xl X).stackTraces = false := by rw [hl]; exact hfl
  refine g_iload_n C dX6_alike_0 rfl ?_
  by_cases hc1 : (0 ≤ p ∧ p ≤ 2)
  · refine g_callS C (s_X6_checkThing _ (v := p) hc1) ml_RX6_61 sm_yX6_checkThing in_RX6 co_yX6_checkThing hd_X6_checkThing rfl ⟨by omega, by omega⟩ rfl (Nat.le_of_ble_eq_true rfl) ⟨by omega, by omega⟩ dX6_alike_1 (fun v1 w1 hp1 => ?_)
    obtain ⟨rfl, hw1⟩ := hp1
    subst w1
    exact (hbad hc1).elim
  · exact x_callS C hT hH hne hX (x_X6_checkThing _ hls (v := p) h_p hc1) ml_RX6_61 sm_yX6_checkThing in_RX6 co_yX6_checkThing hd_X6_checkThing rfl ⟨by omega, by omega⟩ rfl (Nat.le_of_ble_eq_true rfl) ⟨by omega, by omega⟩ ⟨by omega, by omega⟩ dX6_alike_1 (fun w' h => h)
set_option maxHeartbeats 4000000 in
set_option maxRecDepth 100000 in
theorem x_X6_rootText_IA (l : Launch) {K : KC} {E : GE} {w : Wd} (hfl : l.stackTraces = false) {a0 : Nat} {p : Int} (h_p : -2147483648 ≤ p ∧ p < 2147483648) {q : Int} (h_q : -2147483648 ≤ q ∧ q < 2147483648)  (hbad : ¬ ((1 ≤ p ∧ p ≤ 99) ∧ (0 ≤ q ∧ q ≤ 16))) : Tx K E l yX6_rootText cX6_rootText 3 (some (.object "java/lang/String")) 7 (1) (6) [.ref a0, iI p, iI q] w sIA (fun w' => w.1 ≤ w'.1 ∧ w'.2 = w.2) := by
  refine tx_intro [some (.ref a0), some (iI p), some (iI q)] rfl (Nat.le_of_ble_eq_true rfl) pn_X6 ?_
  intro X C hT hH hRm hl hne hX
  obtain ⟨hRf, hRl, hRc, hRs⟩ := hRm
  have hls : (xl X).stackTraces = false := by rw [hl]; exact hfl
  refine g_iload_n C dX6_rootText_0 rfl ?_
  refine g_iconst C dX6_rootText_1 ?_
  refine g_bipush C dX6_rootText_2 (by decide) ?_
  by_cases hc4 : (1 ≤ p ∧ p ≤ 99)
  · refine g_callS C (s_X6_checkRange _ (v := p) (lo := 1) (hi := 99) hc4 (by omega) (by omega)) ml_RX6_82 sm_yX6_checkRange in_RX6 co_yX6_checkRange hd_X6_checkRange rfl ⟨by omega, by omega⟩ rfl (Nat.le_of_ble_eq_true rfl) ⟨by omega, by omega⟩ dX6_rootText_4 (fun v4 w4 hp4 => ?_)
    obtain ⟨rfl, hw4⟩ := hp4
    subst w4
    refine g_iload_n C dX6_rootText_7 rfl ?_
    refine g_iconst C dX6_rootText_8 ?_
    refine g_bipush C dX6_rootText_9 (by decide) ?_
    by_cases hc11 : (0 ≤ q ∧ q ≤ 16)
    · refine g_callS C (s_X6_checkRange _ (v := q) (lo := 0) (hi := 16) hc11 (by omega) (by omega)) ml_RX6_82 sm_yX6_checkRange in_RX6 co_yX6_checkRange hd_X6_checkRange rfl ⟨by omega, by omega⟩ rfl (Nat.le_of_ble_eq_true rfl) ⟨by omega, by omega⟩ dX6_rootText_11 (fun v11 w11 hp11 => ?_)
      obtain ⟨rfl, hw11⟩ := hp11
      subst w11
      exact (hbad ⟨hc4, hc11⟩).elim
    · exact x_callS C hT hH hne hX (x_X6_checkRange _ hls (v := q) (lo := 0) (hi := 16) h_q (by omega) (by omega) hc11) ml_RX6_82 sm_yX6_checkRange in_RX6 co_yX6_checkRange hd_X6_checkRange rfl ⟨by omega, by omega⟩ rfl (Nat.le_of_ble_eq_true rfl) ⟨by omega, by omega⟩ ⟨by omega, by omega⟩ dX6_rootText_11 (fun w' h => h)
  · exact x_callS C hT hH hne hX (x_X6_checkRange _ hls (v := p) (lo := 1) (hi := 99) h_p (by omega) (by omega) hc4) ml_RX6_82 sm_yX6_checkRange in_RX6 co_yX6_checkRange hd_X6_checkRange rfl ⟨by omega, by omega⟩ rfl (Nat.le_of_ble_eq_true rfl) ⟨by omega, by omega⟩ ⟨by omega, by omega⟩ dX6_rootText_4 (fun w' h => h)
set_option maxHeartbeats 4000000 in
set_option maxRecDepth 100000 in
theorem x_X6_period_IA (l : Launch) {K : KC} {E : GE} {w : Wd} (hfl : l.stackTraces = false) {a0 : Nat} {p : Int} (h_p : -2147483648 ≤ p ∧ p < 2147483648)  (hbad : ¬ (GB p)) : Tx K E l yX6_period cX6_period 2 (some .int) 8 (1) (6) [.ref a0, iI p] w sIA (fun w' => w.1 ≤ w'.1 ∧ w'.2 = w.2) := by
  refine tx_intro [some (.ref a0), some (iI p)] rfl (Nat.le_of_ble_eq_true rfl) pn_X6 ?_
  intro X C hT hH hRm hl hne hX
  obtain ⟨hRf, hRl, hRc, hRs⟩ := hRm
  have hls : (xl X).stackTraces = false := by rw [hl]; exact hfl
  refine g_iload_n C dX6_period_0 rfl ?_
  by_cases hc1 : GB p
  · refine g_callS C (s_X6_checkBase _ (v := p) hc1) ml_RX6_65 sm_yX6_checkBase in_RX6 co_yX6_checkBase hd_X6_checkBase rfl ⟨by omega, by omega⟩ rfl (Nat.le_of_ble_eq_true rfl) ⟨by omega, by omega⟩ dX6_period_1 (fun v1 w1 hp1 => ?_)
    obtain ⟨rfl, hw1⟩ := hp1
    subst w1
    exact (hbad hc1).elim
  · exact x_callS C hT hH hne hX (x_X6_checkBase _ hls (v := p) h_p hc1) ml_RX6_65 sm_yX6_checkBase in_RX6 co_yX6_checkBase hd_X6_checkBase rfl ⟨by omega, by omega⟩ rfl (Nat.le_of_ble_eq_true rfl) ⟨by omega, by omega⟩ ⟨by omega, by omega⟩ dX6_period_1 (fun w' h => h)
set_option maxHeartbeats 4000000 in
set_option maxRecDepth 100000 in
theorem x_X6_periodText_IA (l : Launch) {K : KC} {E : GE} {w : Wd} (hfl : l.stackTraces = false) {a0 : Nat} {p : Int} (h_p : -2147483648 ≤ p ∧ p < 2147483648)  (hbad : ¬ (GB p)) : Tx K E l yX6_periodText cX6_periodText 5 (some (.object "java/lang/String")) 8 (1) (6) [.ref a0, iI p] w sIA (fun w' => w.1 ≤ w'.1 ∧ w'.2 = w.2) := by
  refine tx_intro [some (.ref a0), some (iI p), none, none, none] rfl (Nat.le_of_ble_eq_true rfl) pn_X6 ?_
  intro X C hT hH hRm hl hne hX
  obtain ⟨hRf, hRl, hRc, hRs⟩ := hRm
  have hls : (xl X).stackTraces = false := by rw [hl]; exact hfl
  refine g_iload_n C dX6_periodText_0 rfl ?_
  by_cases hc1 : GB p
  · refine g_callS C (s_X6_checkBase _ (v := p) hc1) ml_RX6_65 sm_yX6_checkBase in_RX6 co_yX6_checkBase hd_X6_checkBase rfl ⟨by omega, by omega⟩ rfl (Nat.le_of_ble_eq_true rfl) ⟨by omega, by omega⟩ dX6_periodText_1 (fun v1 w1 hp1 => ?_)
    obtain ⟨rfl, hw1⟩ := hp1
    subst w1
    exact (hbad hc1).elim
  · exact x_callS C hT hH hne hX (x_X6_checkBase _ hls (v := p) h_p hc1) ml_RX6_65 sm_yX6_checkBase in_RX6 co_yX6_checkBase hd_X6_checkBase rfl ⟨by omega, by omega⟩ rfl (Nat.le_of_ble_eq_true rfl) ⟨by omega, by omega⟩ ⟨by omega, by omega⟩ dX6_periodText_1 (fun w' h => h)
set_option maxHeartbeats 4000000 in
set_option maxRecDepth 100000 in
theorem x_X6_solution_IA (l : Launch) {K : KC} {E : GE} {w : Wd} (hfl : l.stackTraces = false) {a0 : Nat} {p : Int} (h_p : -2147483648 ≤ p ∧ p < 2147483648) {q : Int}  (hbad : ¬ (GB p)) : Tx K E l yX6_solution cX6_solution 4 (some (.object "java/lang/String")) 8 (1) (6) [.ref a0, iI p, iI q] w sIA (fun w' => w.1 ≤ w'.1 ∧ w'.2 = w.2) := by
  refine tx_intro [some (.ref a0), some (iI p), some (iI q), none] rfl (Nat.le_of_ble_eq_true rfl) pn_X6 ?_
  intro X C hT hH hRm hl hne hX
  obtain ⟨hRf, hRl, hRc, hRs⟩ := hRm
  have hls : (xl X).stackTraces = false := by rw [hl]; exact hfl
  refine g_iload_n C dX6_solution_0 rfl ?_
  by_cases hc1 : GB p
  · refine g_callS C (s_X6_checkBase _ (v := p) hc1) ml_RX6_65 sm_yX6_checkBase in_RX6 co_yX6_checkBase hd_X6_checkBase rfl ⟨by omega, by omega⟩ rfl (Nat.le_of_ble_eq_true rfl) ⟨by omega, by omega⟩ dX6_solution_1 (fun v1 w1 hp1 => ?_)
    obtain ⟨rfl, hw1⟩ := hp1
    subst w1
    exact (hbad hc1).elim
  · exact x_callS C hT hH hne hX (x_X6_checkBase _ hls (v := p) h_p hc1) ml_RX6_65 sm_yX6_checkBase in_RX6 co_yX6_checkBase hd_X6_checkBase rfl ⟨by omega, by omega⟩ rfl (Nat.le_of_ble_eq_true rfl) ⟨by omega, by omega⟩ ⟨by omega, by omega⟩ dX6_solution_1 (fun w' h => h)
set_option maxHeartbeats 4000000 in
set_option maxRecDepth 100000 in
theorem x_X6_minus_IA (l : Launch) {K : KC} {E : GE} {w : Wd} (hfl : l.stackTraces = false) {a0 : Nat} {p : Int} (h_p : -2147483648 ≤ p ∧ p < 2147483648) {q : Int}  (hbad : ¬ (GB p)) : Tx K E l yX6_minus cX6_minus 4 (some (.object "java/lang/String")) 8 (1) (6) [.ref a0, iI p, iI q] w sIA (fun w' => w.1 ≤ w'.1 ∧ w'.2 = w.2) := by
  refine tx_intro [some (.ref a0), some (iI p), some (iI q), none] rfl (Nat.le_of_ble_eq_true rfl) pn_X6 ?_
  intro X C hT hH hRm hl hne hX
  obtain ⟨hRf, hRl, hRc, hRs⟩ := hRm
  have hls : (xl X).stackTraces = false := by rw [hl]; exact hfl
  refine g_iload_n C dX6_minus_0 rfl ?_
  by_cases hc1 : GB p
  · refine g_callS C (s_X6_checkBase _ (v := p) hc1) ml_RX6_65 sm_yX6_checkBase in_RX6 co_yX6_checkBase hd_X6_checkBase rfl ⟨by omega, by omega⟩ rfl (Nat.le_of_ble_eq_true rfl) ⟨by omega, by omega⟩ dX6_minus_1 (fun v1 w1 hp1 => ?_)
    obtain ⟨rfl, hw1⟩ := hp1
    subst w1
    exact (hbad hc1).elim
  · exact x_callS C hT hH hne hX (x_X6_checkBase _ hls (v := p) h_p hc1) ml_RX6_65 sm_yX6_checkBase in_RX6 co_yX6_checkBase hd_X6_checkBase rfl ⟨by omega, by omega⟩ rfl (Nat.le_of_ble_eq_true rfl) ⟨by omega, by omega⟩ ⟨by omega, by omega⟩ dX6_minus_1 (fun w' h => h)
set_option maxHeartbeats 4000000 in
set_option maxRecDepth 100000 in
theorem x_X6_middle_IA (l : Launch) {K : KC} {E : GE} {w : Wd} (hfl : l.stackTraces = false) {a0 : Nat} {p : Int} (h_p : -2147483648 ≤ p ∧ p < 2147483648)  (hbad : ¬ (GB p)) : Tx K E l yX6_middle cX6_middle 4 (some (.object "java/lang/String")) 8 (1) (6) [.ref a0, iI p] w sIA (fun w' => w.1 ≤ w'.1 ∧ w'.2 = w.2) := by
  refine tx_intro [some (.ref a0), some (iI p), none, none] rfl (Nat.le_of_ble_eq_true rfl) pn_X6 ?_
  intro X C hT hH hRm hl hne hX
  obtain ⟨hRf, hRl, hRc, hRs⟩ := hRm
  have hls : (xl X).stackTraces = false := by rw [hl]; exact hfl
  refine g_iload_n C dX6_middle_0 rfl ?_
  by_cases hc1 : GB p
  · refine g_callS C (s_X6_checkBase _ (v := p) hc1) ml_RX6_65 sm_yX6_checkBase in_RX6 co_yX6_checkBase hd_X6_checkBase rfl ⟨by omega, by omega⟩ rfl (Nat.le_of_ble_eq_true rfl) ⟨by omega, by omega⟩ dX6_middle_1 (fun v1 w1 hp1 => ?_)
    obtain ⟨rfl, hw1⟩ := hp1
    subst w1
    exact (hbad hc1).elim
  · exact x_callS C hT hH hne hX (x_X6_checkBase _ hls (v := p) h_p hc1) ml_RX6_65 sm_yX6_checkBase in_RX6 co_yX6_checkBase hd_X6_checkBase rfl ⟨by omega, by omega⟩ rfl (Nat.le_of_ble_eq_true rfl) ⟨by omega, by omega⟩ ⟨by omega, by omega⟩ dX6_middle_1 (fun w' h => h)
set_option maxHeartbeats 4000000 in
set_option maxRecDepth 100000 in
theorem x_X6_put_IO (l : Launch) {K : KC} {E : GE} {w : Wd} (hfl : l.stackTraces = false) {a0 : Nat} {p : Int} (h_p : -2147483648 ≤ p ∧ p < 2147483648) {q : Int} (h_q : -2147483648 ≤ q ∧ q < 2147483648) {r : Int} (h_r : -2147483648 ≤ r ∧ r < 2147483648) {s : Int} (h_s : -2147483648 ≤ s ∧ s < 2147483648)  (hbad : ¬ ((0 ≤ p ∧ p ≤ 2))) : Tx K E l yX6_put cX6_put 5 (some .int) 7 (1) (6) [.ref a0, iI p, iI q, iI r, iI s] w sIO (fun w' => w.1 ≤ w'.1 ∧ w'.2 = w.2) := by
  refine tx_intro [some (.ref a0), some (iI p), some (iI q), some (iI r), some (iI s)] rfl (Nat.le_of_ble_eq_true rfl) pn_X6 ?_
  intro X C hT hH hRm hl hne hX
  obtain ⟨hRf, hRl, hRc, hRs⟩ := hRm
  have hls : (xl X).stackTraces = false := by rw [hl]; exact hfl
  refine g_iload_n C dX6_put_0 rfl ?_
  by_cases hc1 : (0 ≤ p ∧ p ≤ 2)
  · refine g_callS C (s_X6_checkThing _ (v := p) hc1) ml_RX6_61 sm_yX6_checkThing in_RX6 co_yX6_checkThing hd_X6_checkThing rfl ⟨by omega, by omega⟩ rfl (Nat.le_of_ble_eq_true rfl) ⟨by omega, by omega⟩ dX6_put_1 (fun v1 w1 hp1 => ?_)
    obtain ⟨rfl, hw1⟩ := hp1
    subst w1
    exact (hbad hc1).elim
  · exact x_callS C hT hH hne hX (x_X6_checkThing _ hls (v := p) h_p hc1) ml_RX6_61 sm_yX6_checkThing in_RX6 co_yX6_checkThing hd_X6_checkThing rfl ⟨by omega, by omega⟩ rfl (Nat.le_of_ble_eq_true rfl) ⟨by omega, by omega⟩ ⟨by omega, by omega⟩ dX6_put_1 (fun w' h => h)
set_option maxHeartbeats 4000000 in
set_option maxRecDepth 100000 in
theorem x_X6_put_IA (l : Launch) {K : KC} {E : GE} {w : Wd} (hfl : l.stackTraces = false) {a0 : Nat} {p : Int} (h_p : -2147483648 ≤ p ∧ p < 2147483648) {q : Int} (h_q : -2147483648 ≤ q ∧ q < 2147483648) {r : Int} (h_r : -2147483648 ≤ r ∧ r < 2147483648) {s : Int} (h_s : -2147483648 ≤ s ∧ s < 2147483648) (hg1 : (0 ≤ p ∧ p ≤ 2)) (hbad : ¬ (GB q ∧ (-1000 ≤ r ∧ r ≤ 1000) ∧ (-1000 ≤ s ∧ s ≤ 1000))) : Tx K E l yX6_put cX6_put 5 (some .int) 8 (1) (6) [.ref a0, iI p, iI q, iI r, iI s] w sIA (fun w' => w.1 ≤ w'.1 ∧ w'.2 = w.2) := by
  refine tx_intro [some (.ref a0), some (iI p), some (iI q), some (iI r), some (iI s)] rfl (Nat.le_of_ble_eq_true rfl) pn_X6 ?_
  intro X C hT hH hRm hl hne hX
  obtain ⟨hRf, hRl, hRc, hRs⟩ := hRm
  have hls : (xl X).stackTraces = false := by rw [hl]; exact hfl
  refine g_iload_n C dX6_put_0 rfl ?_
  refine g_callS C (s_X6_checkThing _ (v := p) hg1) ml_RX6_61 sm_yX6_checkThing in_RX6 co_yX6_checkThing hd_X6_checkThing rfl ⟨by omega, by omega⟩ rfl (Nat.le_of_ble_eq_true rfl) ⟨by omega, by omega⟩ dX6_put_1 (fun v1 w1 hp1 => ?_)
  obtain ⟨rfl, hw1⟩ := hp1
  subst w1
  refine g_iload_n C dX6_put_4 rfl ?_
  by_cases hc5 : GB q
  · refine g_callS C (s_X6_checkBase _ (v := q) hc5) ml_RX6_65 sm_yX6_checkBase in_RX6 co_yX6_checkBase hd_X6_checkBase rfl ⟨by omega, by omega⟩ rfl (Nat.le_of_ble_eq_true rfl) ⟨by omega, by omega⟩ dX6_put_5 (fun v5 w5 hp5 => ?_)
    obtain ⟨rfl, hw5⟩ := hp5
    subst w5
    refine g_iload_n C dX6_put_8 rfl ?_
    refine g_sipush C dX6_put_9 (by decide) ?_
    refine g_sipush C dX6_put_12 (by decide) ?_
    by_cases hc15 : (-1000 ≤ r ∧ r ≤ 1000)
    · refine g_callS C (s_X6_checkRange _ (v := r) (lo := -1000) (hi := 1000) hc15 (by omega) (by omega)) ml_RX6_82 sm_yX6_checkRange in_RX6 co_yX6_checkRange hd_X6_checkRange rfl ⟨by omega, by omega⟩ rfl (Nat.le_of_ble_eq_true rfl) ⟨by omega, by omega⟩ dX6_put_15 (fun v15 w15 hp15 => ?_)
      obtain ⟨rfl, hw15⟩ := hp15
      subst w15
      refine g_iload C dX6_put_18 rfl ?_
      refine g_sipush C dX6_put_20 (by decide) ?_
      refine g_sipush C dX6_put_23 (by decide) ?_
      by_cases hc26 : (-1000 ≤ s ∧ s ≤ 1000)
      · refine g_callS C (s_X6_checkRange _ (v := s) (lo := -1000) (hi := 1000) hc26 (by omega) (by omega)) ml_RX6_82 sm_yX6_checkRange in_RX6 co_yX6_checkRange hd_X6_checkRange rfl ⟨by omega, by omega⟩ rfl (Nat.le_of_ble_eq_true rfl) ⟨by omega, by omega⟩ dX6_put_26 (fun v26 w26 hp26 => ?_)
        obtain ⟨rfl, hw26⟩ := hp26
        subst w26
        exact (hbad ⟨hc5, hc15, hc26⟩).elim
      · exact x_callS C hT hH hne hX (x_X6_checkRange _ hls (v := s) (lo := -1000) (hi := 1000) h_s (by omega) (by omega) hc26) ml_RX6_82 sm_yX6_checkRange in_RX6 co_yX6_checkRange hd_X6_checkRange rfl ⟨by omega, by omega⟩ rfl (Nat.le_of_ble_eq_true rfl) ⟨by omega, by omega⟩ ⟨by omega, by omega⟩ dX6_put_26 (fun w' h => h)
    · exact x_callS C hT hH hne hX (x_X6_checkRange _ hls (v := r) (lo := -1000) (hi := 1000) h_r (by omega) (by omega) hc15) ml_RX6_82 sm_yX6_checkRange in_RX6 co_yX6_checkRange hd_X6_checkRange rfl ⟨by omega, by omega⟩ rfl (Nat.le_of_ble_eq_true rfl) ⟨by omega, by omega⟩ ⟨by omega, by omega⟩ dX6_put_15 (fun w' h => h)
  · exact x_callS C hT hH hne hX (x_X6_checkBase _ hls (v := q) h_q hc5) ml_RX6_65 sm_yX6_checkBase in_RX6 co_yX6_checkBase hd_X6_checkBase rfl ⟨by omega, by omega⟩ rfl (Nat.le_of_ble_eq_true rfl) ⟨by omega, by omega⟩ ⟨by omega, by omega⟩ dX6_put_5 (fun w' h => h)
set_option maxHeartbeats 4000000 in
set_option maxRecDepth 100000 in
theorem x_X6_take_IO (l : Launch) {K : KC} {E : GE} {w : Wd} (hfl : l.stackTraces = false) {a0 : Nat} {p : Int} (h_p : -2147483648 ≤ p ∧ p < 2147483648) {q : Int} (h_q : -2147483648 ≤ q ∧ q < 2147483648)  (hbad : ¬ ((0 ≤ p ∧ p ≤ 2) ∧ (0 ≤ q ∧ q ≤ 2))) : Tx K E l yX6_take cX6_take 4 (some .int) 7 (1) (6) [.ref a0, iI p, iI q] w sIO (fun w' => w.1 ≤ w'.1 ∧ w'.2 = w.2) := by
  refine tx_intro [some (.ref a0), some (iI p), some (iI q), none] rfl (Nat.le_of_ble_eq_true rfl) pn_X6 ?_
  intro X C hT hH hRm hl hne hX
  obtain ⟨hRf, hRl, hRc, hRs⟩ := hRm
  have hls : (xl X).stackTraces = false := by rw [hl]; exact hfl
  refine g_iload_n C dX6_take_0 rfl ?_
  by_cases hc1 : (0 ≤ p ∧ p ≤ 2)
  · refine g_callS C (s_X6_checkThing _ (v := p) hc1) ml_RX6_61 sm_yX6_checkThing in_RX6 co_yX6_checkThing hd_X6_checkThing rfl ⟨by omega, by omega⟩ rfl (Nat.le_of_ble_eq_true rfl) ⟨by omega, by omega⟩ dX6_take_1 (fun v1 w1 hp1 => ?_)
    obtain ⟨rfl, hw1⟩ := hp1
    subst w1
    refine g_iload_n C dX6_take_4 rfl ?_
    by_cases hc5 : (0 ≤ q ∧ q ≤ 2)
    · refine g_callS C (s_X6_checkThing _ (v := q) hc5) ml_RX6_61 sm_yX6_checkThing in_RX6 co_yX6_checkThing hd_X6_checkThing rfl ⟨by omega, by omega⟩ rfl (Nat.le_of_ble_eq_true rfl) ⟨by omega, by omega⟩ dX6_take_5 (fun v5 w5 hp5 => ?_)
      obtain ⟨rfl, hw5⟩ := hp5
      subst w5
      exact (hbad ⟨hc1, hc5⟩).elim
    · exact x_callS C hT hH hne hX (x_X6_checkThing _ hls (v := q) h_q hc5) ml_RX6_61 sm_yX6_checkThing in_RX6 co_yX6_checkThing hd_X6_checkThing rfl ⟨by omega, by omega⟩ rfl (Nat.le_of_ble_eq_true rfl) ⟨by omega, by omega⟩ ⟨by omega, by omega⟩ dX6_take_5 (fun w' h => h)
  · exact x_callS C hT hH hne hX (x_X6_checkThing _ hls (v := p) h_p hc1) ml_RX6_61 sm_yX6_checkThing in_RX6 co_yX6_checkThing hd_X6_checkThing rfl ⟨by omega, by omega⟩ rfl (Nat.le_of_ble_eq_true rfl) ⟨by omega, by omega⟩ ⟨by omega, by omega⟩ dX6_take_1 (fun w' h => h)
set_option maxHeartbeats 4000000 in
set_option maxRecDepth 100000 in
theorem x_X6_least_IO (l : Launch) {K : KC} {E : GE} {w : Wd} (hfl : l.stackTraces = false) {a0 : Nat} {p : Int} (h_p : -2147483648 ≤ p ∧ p < 2147483648) {q : Int} (h_q : -2147483648 ≤ q ∧ q < 2147483648)  (hbad : ¬ ((0 ≤ p ∧ p ≤ 2))) : Tx K E l yX6_least cX6_least 3 (some .int) 7 (1) (6) [.ref a0, iI p, iI q] w sIO (fun w' => w.1 ≤ w'.1 ∧ w'.2 = w.2) := by
  refine tx_intro [some (.ref a0), some (iI p), some (iI q)] rfl (Nat.le_of_ble_eq_true rfl) pn_X6 ?_
  intro X C hT hH hRm hl hne hX
  obtain ⟨hRf, hRl, hRc, hRs⟩ := hRm
  have hls : (xl X).stackTraces = false := by rw [hl]; exact hfl
  refine g_iload_n C dX6_least_0 rfl ?_
  by_cases hc1 : (0 ≤ p ∧ p ≤ 2)
  · refine g_callS C (s_X6_checkThing _ (v := p) hc1) ml_RX6_61 sm_yX6_checkThing in_RX6 co_yX6_checkThing hd_X6_checkThing rfl ⟨by omega, by omega⟩ rfl (Nat.le_of_ble_eq_true rfl) ⟨by omega, by omega⟩ dX6_least_1 (fun v1 w1 hp1 => ?_)
    obtain ⟨rfl, hw1⟩ := hp1
    subst w1
    exact (hbad hc1).elim
  · exact x_callS C hT hH hne hX (x_X6_checkThing _ hls (v := p) h_p hc1) ml_RX6_61 sm_yX6_checkThing in_RX6 co_yX6_checkThing hd_X6_checkThing rfl ⟨by omega, by omega⟩ rfl (Nat.le_of_ble_eq_true rfl) ⟨by omega, by omega⟩ ⟨by omega, by omega⟩ dX6_least_1 (fun w' h => h)
set_option maxHeartbeats 4000000 in
set_option maxRecDepth 100000 in
theorem x_X6_least_IA (l : Launch) {K : KC} {E : GE} {w : Wd} (hfl : l.stackTraces = false) {a0 : Nat} {p : Int} (h_p : -2147483648 ≤ p ∧ p < 2147483648) {q : Int} (h_q : -2147483648 ≤ q ∧ q < 2147483648) (hg1 : (0 ≤ p ∧ p ≤ 2)) (hbad : ¬ (GB q)) : Tx K E l yX6_least cX6_least 3 (some .int) 8 (1) (6) [.ref a0, iI p, iI q] w sIA (fun w' => w.1 ≤ w'.1 ∧ w'.2 = w.2) := by
  refine tx_intro [some (.ref a0), some (iI p), some (iI q)] rfl (Nat.le_of_ble_eq_true rfl) pn_X6 ?_
  intro X C hT hH hRm hl hne hX
  obtain ⟨hRf, hRl, hRc, hRs⟩ := hRm
  have hls : (xl X).stackTraces = false := by rw [hl]; exact hfl
  refine g_iload_n C dX6_least_0 rfl ?_
  refine g_callS C (s_X6_checkThing _ (v := p) hg1) ml_RX6_61 sm_yX6_checkThing in_RX6 co_yX6_checkThing hd_X6_checkThing rfl ⟨by omega, by omega⟩ rfl (Nat.le_of_ble_eq_true rfl) ⟨by omega, by omega⟩ dX6_least_1 (fun v1 w1 hp1 => ?_)
  obtain ⟨rfl, hw1⟩ := hp1
  subst w1
  refine g_iload_n C dX6_least_4 rfl ?_
  by_cases hc5 : GB q
  · refine g_callS C (s_X6_checkBase _ (v := q) hc5) ml_RX6_65 sm_yX6_checkBase in_RX6 co_yX6_checkBase hd_X6_checkBase rfl ⟨by omega, by omega⟩ rfl (Nat.le_of_ble_eq_true rfl) ⟨by omega, by omega⟩ dX6_least_5 (fun v5 w5 hp5 => ?_)
    obtain ⟨rfl, hw5⟩ := hp5
    subst w5
    exact (hbad hc5).elim
  · exact x_callS C hT hH hne hX (x_X6_checkBase _ hls (v := q) h_q hc5) ml_RX6_65 sm_yX6_checkBase in_RX6 co_yX6_checkBase hd_X6_checkBase rfl ⟨by omega, by omega⟩ rfl (Nat.le_of_ble_eq_true rfl) ⟨by omega, by omega⟩ ⟨by omega, by omega⟩ dX6_least_5 (fun w' h => h)
set_option maxHeartbeats 4000000 in
set_option maxRecDepth 100000 in
theorem x_X6_compose_IO (l : Launch) {K : KC} {E : GE} {w : Wd} (hfl : l.stackTraces = false) {a0 : Nat} {p : Int} (h_p : -2147483648 ≤ p ∧ p < 2147483648) {q : Int} (h_q : -2147483648 ≤ q ∧ q < 2147483648) {r : Int} (h_r : -2147483648 ≤ r ∧ r < 2147483648)  (hbad : ¬ ((0 ≤ p ∧ p ≤ 2) ∧ (0 ≤ q ∧ q ≤ 2) ∧ (0 ≤ r ∧ r ≤ 2))) : Tx K E l yX6_compose cX6_compose 4 (some .int) 7 (1) (6) [.ref a0, iI p, iI q, iI r] w sIO (fun w' => w.1 ≤ w'.1 ∧ w'.2 = w.2) := by
  refine tx_intro [some (.ref a0), some (iI p), some (iI q), some (iI r)] rfl (Nat.le_of_ble_eq_true rfl) pn_X6 ?_
  intro X C hT hH hRm hl hne hX
  obtain ⟨hRf, hRl, hRc, hRs⟩ := hRm
  have hls : (xl X).stackTraces = false := by rw [hl]; exact hfl
  refine g_iload_n C dX6_compose_0 rfl ?_
  by_cases hc1 : (0 ≤ p ∧ p ≤ 2)
  · refine g_callS C (s_X6_checkThing _ (v := p) hc1) ml_RX6_61 sm_yX6_checkThing in_RX6 co_yX6_checkThing hd_X6_checkThing rfl ⟨by omega, by omega⟩ rfl (Nat.le_of_ble_eq_true rfl) ⟨by omega, by omega⟩ dX6_compose_1 (fun v1 w1 hp1 => ?_)
    obtain ⟨rfl, hw1⟩ := hp1
    subst w1
    refine g_iload_n C dX6_compose_4 rfl ?_
    by_cases hc5 : (0 ≤ q ∧ q ≤ 2)
    · refine g_callS C (s_X6_checkThing _ (v := q) hc5) ml_RX6_61 sm_yX6_checkThing in_RX6 co_yX6_checkThing hd_X6_checkThing rfl ⟨by omega, by omega⟩ rfl (Nat.le_of_ble_eq_true rfl) ⟨by omega, by omega⟩ dX6_compose_5 (fun v5 w5 hp5 => ?_)
      obtain ⟨rfl, hw5⟩ := hp5
      subst w5
      refine g_iload_n C dX6_compose_8 rfl ?_
      by_cases hc9 : (0 ≤ r ∧ r ≤ 2)
      · refine g_callS C (s_X6_checkThing _ (v := r) hc9) ml_RX6_61 sm_yX6_checkThing in_RX6 co_yX6_checkThing hd_X6_checkThing rfl ⟨by omega, by omega⟩ rfl (Nat.le_of_ble_eq_true rfl) ⟨by omega, by omega⟩ dX6_compose_9 (fun v9 w9 hp9 => ?_)
        obtain ⟨rfl, hw9⟩ := hp9
        subst w9
        exact (hbad ⟨hc1, hc5, hc9⟩).elim
      · exact x_callS C hT hH hne hX (x_X6_checkThing _ hls (v := r) h_r hc9) ml_RX6_61 sm_yX6_checkThing in_RX6 co_yX6_checkThing hd_X6_checkThing rfl ⟨by omega, by omega⟩ rfl (Nat.le_of_ble_eq_true rfl) ⟨by omega, by omega⟩ ⟨by omega, by omega⟩ dX6_compose_9 (fun w' h => h)
    · exact x_callS C hT hH hne hX (x_X6_checkThing _ hls (v := q) h_q hc5) ml_RX6_61 sm_yX6_checkThing in_RX6 co_yX6_checkThing hd_X6_checkThing rfl ⟨by omega, by omega⟩ rfl (Nat.le_of_ble_eq_true rfl) ⟨by omega, by omega⟩ ⟨by omega, by omega⟩ dX6_compose_5 (fun w' h => h)
  · exact x_callS C hT hH hne hX (x_X6_checkThing _ hls (v := p) h_p hc1) ml_RX6_61 sm_yX6_checkThing in_RX6 co_yX6_checkThing hd_X6_checkThing rfl ⟨by omega, by omega⟩ rfl (Nat.le_of_ble_eq_true rfl) ⟨by omega, by omega⟩ ⟨by omega, by omega⟩ dX6_compose_1 (fun w' h => h)
set_option maxHeartbeats 4000000 in
set_option maxRecDepth 100000 in
theorem x_X6_power_IO (l : Launch) {K : KC} {E : GE} {w : Wd} (hfl : l.stackTraces = false) {a0 : Nat} {p : Int} (h_p : -2147483648 ≤ p ∧ p < 2147483648) {q : Int} (h_q : -2147483648 ≤ q ∧ q < 2147483648)  (hbad : ¬ ((0 ≤ p ∧ p ≤ 2))) : Tx K E l yX6_power cX6_power 4 (some .int) 7 (1) (6) [.ref a0, iI p, iI q] w sIO (fun w' => w.1 ≤ w'.1 ∧ w'.2 = w.2) := by
  refine tx_intro [some (.ref a0), some (iI p), some (iI q), none] rfl (Nat.le_of_ble_eq_true rfl) pn_X6 ?_
  intro X C hT hH hRm hl hne hX
  obtain ⟨hRf, hRl, hRc, hRs⟩ := hRm
  have hls : (xl X).stackTraces = false := by rw [hl]; exact hfl
  refine g_iload_n C dX6_power_0 rfl ?_
  by_cases hc1 : (0 ≤ p ∧ p ≤ 2)
  · refine g_callS C (s_X6_checkThing _ (v := p) hc1) ml_RX6_61 sm_yX6_checkThing in_RX6 co_yX6_checkThing hd_X6_checkThing rfl ⟨by omega, by omega⟩ rfl (Nat.le_of_ble_eq_true rfl) ⟨by omega, by omega⟩ dX6_power_1 (fun v1 w1 hp1 => ?_)
    obtain ⟨rfl, hw1⟩ := hp1
    subst w1
    exact (hbad hc1).elim
  · exact x_callS C hT hH hne hX (x_X6_checkThing _ hls (v := p) h_p hc1) ml_RX6_61 sm_yX6_checkThing in_RX6 co_yX6_checkThing hd_X6_checkThing rfl ⟨by omega, by omega⟩ rfl (Nat.le_of_ble_eq_true rfl) ⟨by omega, by omega⟩ ⟨by omega, by omega⟩ dX6_power_1 (fun w' h => h)
set_option maxHeartbeats 4000000 in
set_option maxRecDepth 100000 in
theorem x_X6_power_IA (l : Launch) {K : KC} {E : GE} {w : Wd} (hfl : l.stackTraces = false) {a0 : Nat} {p : Int} (h_p : -2147483648 ≤ p ∧ p < 2147483648) {q : Int} (h_q : -2147483648 ≤ q ∧ q < 2147483648) (hg1 : (0 ≤ p ∧ p ≤ 2)) (hbad : ¬ ((0 ≤ q ∧ q ≤ 5))) : Tx K E l yX6_power cX6_power 4 (some .int) 7 (1) (6) [.ref a0, iI p, iI q] w sIA (fun w' => w.1 ≤ w'.1 ∧ w'.2 = w.2) := by
  refine tx_intro [some (.ref a0), some (iI p), some (iI q), none] rfl (Nat.le_of_ble_eq_true rfl) pn_X6 ?_
  intro X C hT hH hRm hl hne hX
  obtain ⟨hRf, hRl, hRc, hRs⟩ := hRm
  have hls : (xl X).stackTraces = false := by rw [hl]; exact hfl
  refine g_iload_n C dX6_power_0 rfl ?_
  refine g_callS C (s_X6_checkThing _ (v := p) hg1) ml_RX6_61 sm_yX6_checkThing in_RX6 co_yX6_checkThing hd_X6_checkThing rfl ⟨by omega, by omega⟩ rfl (Nat.le_of_ble_eq_true rfl) ⟨by omega, by omega⟩ dX6_power_1 (fun v1 w1 hp1 => ?_)
  obtain ⟨rfl, hw1⟩ := hp1
  subst w1
  refine g_iload_n C dX6_power_4 rfl ?_
  refine g_iconst C dX6_power_5 ?_
  refine g_iconst C dX6_power_6 ?_
  by_cases hc7 : (0 ≤ q ∧ q ≤ 5)
  · refine g_callS C (s_X6_checkRange _ (v := q) (lo := 0) (hi := 5) hc7 (by omega) (by omega)) ml_RX6_82 sm_yX6_checkRange in_RX6 co_yX6_checkRange hd_X6_checkRange rfl ⟨by omega, by omega⟩ rfl (Nat.le_of_ble_eq_true rfl) ⟨by omega, by omega⟩ dX6_power_7 (fun v7 w7 hp7 => ?_)
    obtain ⟨rfl, hw7⟩ := hp7
    subst w7
    exact (hbad hc7).elim
  · exact x_callS C hT hH hne hX (x_X6_checkRange _ hls (v := q) (lo := 0) (hi := 5) h_q (by omega) (by omega) hc7) ml_RX6_82 sm_yX6_checkRange in_RX6 co_yX6_checkRange hd_X6_checkRange rfl ⟨by omega, by omega⟩ rfl (Nat.le_of_ble_eq_true rfl) ⟨by omega, by omega⟩ ⟨by omega, by omega⟩ dX6_power_7 (fun w' h => h)
set_option maxHeartbeats 4000000 in
set_option maxRecDepth 100000 in
theorem x_X6_mirror_IO (l : Launch) {K : KC} {E : GE} {w : Wd} (hfl : l.stackTraces = false) {a0 : Nat} {p : Int} (h_p : -2147483648 ≤ p ∧ p < 2147483648) {q : Int}  (hbad : ¬ ((0 ≤ p ∧ p ≤ 2))) : Tx K E l yX6_mirror cX6_mirror 3 (some .int) 7 (1) (6) [.ref a0, iI p, iI q] w sIO (fun w' => w.1 ≤ w'.1 ∧ w'.2 = w.2) := by
  refine tx_intro [some (.ref a0), some (iI p), some (iI q)] rfl (Nat.le_of_ble_eq_true rfl) pn_X6 ?_
  intro X C hT hH hRm hl hne hX
  obtain ⟨hRf, hRl, hRc, hRs⟩ := hRm
  have hls : (xl X).stackTraces = false := by rw [hl]; exact hfl
  refine g_iload_n C dX6_mirror_0 rfl ?_
  by_cases hc1 : (0 ≤ p ∧ p ≤ 2)
  · refine g_callS C (s_X6_checkThing _ (v := p) hc1) ml_RX6_61 sm_yX6_checkThing in_RX6 co_yX6_checkThing hd_X6_checkThing rfl ⟨by omega, by omega⟩ rfl (Nat.le_of_ble_eq_true rfl) ⟨by omega, by omega⟩ dX6_mirror_1 (fun v1 w1 hp1 => ?_)
    obtain ⟨rfl, hw1⟩ := hp1
    subst w1
    exact (hbad hc1).elim
  · exact x_callS C hT hH hne hX (x_X6_checkThing _ hls (v := p) h_p hc1) ml_RX6_61 sm_yX6_checkThing in_RX6 co_yX6_checkThing hd_X6_checkThing rfl ⟨by omega, by omega⟩ rfl (Nat.le_of_ble_eq_true rfl) ⟨by omega, by omega⟩ ⟨by omega, by omega⟩ dX6_mirror_1 (fun w' h => h)
set_option maxHeartbeats 4000000 in
set_option maxRecDepth 100000 in
theorem x_X6_divideBy_IO (l : Launch) {K : KC} {E : GE} {w : Wd} (hfl : l.stackTraces = false) {a0 : Nat} {p : Int} (h_p : -2147483648 ≤ p ∧ p < 2147483648) {q : Int} (h_q : -2147483648 ≤ q ∧ q < 2147483648)  (hbad : ¬ ((0 ≤ p ∧ p ≤ 2))) : Tx K E l yX6_divideBy cX6_divideBy 6 (some .int) 7 (1) (6) [.ref a0, iI p, iI q] w sIO (fun w' => w.1 ≤ w'.1 ∧ w'.2 = w.2) := by
  refine tx_intro [some (.ref a0), some (iI p), some (iI q), none, none, none] rfl (Nat.le_of_ble_eq_true rfl) pn_X6 ?_
  intro X C hT hH hRm hl hne hX
  obtain ⟨hRf, hRl, hRc, hRs⟩ := hRm
  have hls : (xl X).stackTraces = false := by rw [hl]; exact hfl
  refine g_iload_n C dX6_divideBy_0 rfl ?_
  by_cases hc1 : (0 ≤ p ∧ p ≤ 2)
  · refine g_callS C (s_X6_checkThing _ (v := p) hc1) ml_RX6_61 sm_yX6_checkThing in_RX6 co_yX6_checkThing hd_X6_checkThing rfl ⟨by omega, by omega⟩ rfl (Nat.le_of_ble_eq_true rfl) ⟨by omega, by omega⟩ dX6_divideBy_1 (fun v1 w1 hp1 => ?_)
    obtain ⟨rfl, hw1⟩ := hp1
    subst w1
    exact (hbad hc1).elim
  · exact x_callS C hT hH hne hX (x_X6_checkThing _ hls (v := p) h_p hc1) ml_RX6_61 sm_yX6_checkThing in_RX6 co_yX6_checkThing hd_X6_checkThing rfl ⟨by omega, by omega⟩ rfl (Nat.le_of_ble_eq_true rfl) ⟨by omega, by omega⟩ ⟨by omega, by omega⟩ dX6_divideBy_1 (fun w' h => h)
set_option maxHeartbeats 4000000 in
set_option maxRecDepth 100000 in
theorem x_X6_divideBy_IA (l : Launch) {K : KC} {E : GE} {w : Wd} (hfl : l.stackTraces = false) {a0 : Nat} {p : Int} (h_p : -2147483648 ≤ p ∧ p < 2147483648) {q : Int} (h_q : -2147483648 ≤ q ∧ q < 2147483648) (hg1 : (0 ≤ p ∧ p ≤ 2)) (hbad : ¬ ((-99 ≤ q ∧ q ≤ 99))) : Tx K E l yX6_divideBy cX6_divideBy 6 (some .int) 7 (1) (6) [.ref a0, iI p, iI q] w sIA (fun w' => w.1 ≤ w'.1 ∧ w'.2 = w.2) := by
  refine tx_intro [some (.ref a0), some (iI p), some (iI q), none, none, none] rfl (Nat.le_of_ble_eq_true rfl) pn_X6 ?_
  intro X C hT hH hRm hl hne hX
  obtain ⟨hRf, hRl, hRc, hRs⟩ := hRm
  have hls : (xl X).stackTraces = false := by rw [hl]; exact hfl
  refine g_iload_n C dX6_divideBy_0 rfl ?_
  refine g_callS C (s_X6_checkThing _ (v := p) hg1) ml_RX6_61 sm_yX6_checkThing in_RX6 co_yX6_checkThing hd_X6_checkThing rfl ⟨by omega, by omega⟩ rfl (Nat.le_of_ble_eq_true rfl) ⟨by omega, by omega⟩ dX6_divideBy_1 (fun v1 w1 hp1 => ?_)
  obtain ⟨rfl, hw1⟩ := hp1
  subst w1
  refine g_iload_n C dX6_divideBy_4 rfl ?_
  refine g_bipush C dX6_divideBy_5 (by decide) ?_
  refine g_bipush C dX6_divideBy_7 (by decide) ?_
  by_cases hc9 : (-99 ≤ q ∧ q ≤ 99)
  · refine g_callS C (s_X6_checkRange _ (v := q) (lo := -99) (hi := 99) hc9 (by omega) (by omega)) ml_RX6_82 sm_yX6_checkRange in_RX6 co_yX6_checkRange hd_X6_checkRange rfl ⟨by omega, by omega⟩ rfl (Nat.le_of_ble_eq_true rfl) ⟨by omega, by omega⟩ dX6_divideBy_9 (fun v9 w9 hp9 => ?_)
    obtain ⟨rfl, hw9⟩ := hp9
    subst w9
    exact (hbad hc9).elim
  · exact x_callS C hT hH hne hX (x_X6_checkRange _ hls (v := q) (lo := -99) (hi := 99) h_q (by omega) (by omega) hc9) ml_RX6_82 sm_yX6_checkRange in_RX6 co_yX6_checkRange hd_X6_checkRange rfl ⟨by omega, by omega⟩ rfl (Nat.le_of_ble_eq_true rfl) ⟨by omega, by omega⟩ ⟨by omega, by omega⟩ dX6_divideBy_9 (fun w' h => h)
set_option maxHeartbeats 4000000 in
set_option maxRecDepth 100000 in
theorem x_X6_pairCopy_IO (l : Launch) {K : KC} {E : GE} {w : Wd} (hfl : l.stackTraces = false) {a0 : Nat} {p : Int} (h_p : -2147483648 ≤ p ∧ p < 2147483648) {q : Int} (h_q : -2147483648 ≤ q ∧ q < 2147483648)  (hbad : ¬ ((0 ≤ p ∧ p ≤ 2) ∧ (0 ≤ q ∧ q ≤ 2))) : Tx K E l yX6_pairCopy cX6_pairCopy 3 (some .int) 7 (1) (6) [.ref a0, iI p, iI q] w sIO (fun w' => w.1 ≤ w'.1 ∧ w'.2 = w.2) := by
  refine tx_intro [some (.ref a0), some (iI p), some (iI q)] rfl (Nat.le_of_ble_eq_true rfl) pn_X6 ?_
  intro X C hT hH hRm hl hne hX
  obtain ⟨hRf, hRl, hRc, hRs⟩ := hRm
  have hls : (xl X).stackTraces = false := by rw [hl]; exact hfl
  refine g_iload_n C dX6_pairCopy_0 rfl ?_
  by_cases hc1 : (0 ≤ p ∧ p ≤ 2)
  · refine g_callS C (s_X6_checkThing _ (v := p) hc1) ml_RX6_61 sm_yX6_checkThing in_RX6 co_yX6_checkThing hd_X6_checkThing rfl ⟨by omega, by omega⟩ rfl (Nat.le_of_ble_eq_true rfl) ⟨by omega, by omega⟩ dX6_pairCopy_1 (fun v1 w1 hp1 => ?_)
    obtain ⟨rfl, hw1⟩ := hp1
    subst w1
    refine g_iload_n C dX6_pairCopy_4 rfl ?_
    by_cases hc5 : (0 ≤ q ∧ q ≤ 2)
    · refine g_callS C (s_X6_checkThing _ (v := q) hc5) ml_RX6_61 sm_yX6_checkThing in_RX6 co_yX6_checkThing hd_X6_checkThing rfl ⟨by omega, by omega⟩ rfl (Nat.le_of_ble_eq_true rfl) ⟨by omega, by omega⟩ dX6_pairCopy_5 (fun v5 w5 hp5 => ?_)
      obtain ⟨rfl, hw5⟩ := hp5
      subst w5
      exact (hbad ⟨hc1, hc5⟩).elim
    · exact x_callS C hT hH hne hX (x_X6_checkThing _ hls (v := q) h_q hc5) ml_RX6_61 sm_yX6_checkThing in_RX6 co_yX6_checkThing hd_X6_checkThing rfl ⟨by omega, by omega⟩ rfl (Nat.le_of_ble_eq_true rfl) ⟨by omega, by omega⟩ ⟨by omega, by omega⟩ dX6_pairCopy_5 (fun w' h => h)
  · exact x_callS C hT hH hne hX (x_X6_checkThing _ hls (v := p) h_p hc1) ml_RX6_61 sm_yX6_checkThing in_RX6 co_yX6_checkThing hd_X6_checkThing rfl ⟨by omega, by omega⟩ rfl (Nat.le_of_ble_eq_true rfl) ⟨by omega, by omega⟩ ⟨by omega, by omega⟩ dX6_pairCopy_1 (fun w' h => h)
set_option maxHeartbeats 4000000 in
set_option maxRecDepth 100000 in
theorem x_X6_pairBase_IO (l : Launch) {K : KC} {E : GE} {w : Wd} (hfl : l.stackTraces = false) {a0 : Nat} {p : Int} (h_p : -2147483648 ≤ p ∧ p < 2147483648)  (hbad : ¬ ((0 ≤ p ∧ p ≤ 2))) : Tx K E l yX6_pairBase cX6_pairBase 2 (some .int) 7 (1) (6) [.ref a0, iI p] w sIO (fun w' => w.1 ≤ w'.1 ∧ w'.2 = w.2) := by
  refine tx_intro [some (.ref a0), some (iI p)] rfl (Nat.le_of_ble_eq_true rfl) pn_X6 ?_
  intro X C hT hH hRm hl hne hX
  obtain ⟨hRf, hRl, hRc, hRs⟩ := hRm
  have hls : (xl X).stackTraces = false := by rw [hl]; exact hfl
  refine g_iload_n C dX6_pairBase_0 rfl ?_
  by_cases hc1 : (0 ≤ p ∧ p ≤ 2)
  · refine g_callS C (s_X6_checkThing _ (v := p) hc1) ml_RX6_61 sm_yX6_checkThing in_RX6 co_yX6_checkThing hd_X6_checkThing rfl ⟨by omega, by omega⟩ rfl (Nat.le_of_ble_eq_true rfl) ⟨by omega, by omega⟩ dX6_pairBase_1 (fun v1 w1 hp1 => ?_)
    obtain ⟨rfl, hw1⟩ := hp1
    subst w1
    exact (hbad hc1).elim
  · exact x_callS C hT hH hne hX (x_X6_checkThing _ hls (v := p) h_p hc1) ml_RX6_61 sm_yX6_checkThing in_RX6 co_yX6_checkThing hd_X6_checkThing rfl ⟨by omega, by omega⟩ rfl (Nat.le_of_ble_eq_true rfl) ⟨by omega, by omega⟩ ⟨by omega, by omega⟩ dX6_pairBase_1 (fun w' h => h)
set_option maxHeartbeats 4000000 in
set_option maxRecDepth 100000 in
theorem x_X6_pairText_IO (l : Launch) {K : KC} {E : GE} {w : Wd} (hfl : l.stackTraces = false) {a0 : Nat} {p : Int} (h_p : -2147483648 ≤ p ∧ p < 2147483648) {q : Int}  (hbad : ¬ ((0 ≤ p ∧ p ≤ 2))) : Tx K E l yX6_pairText cX6_pairText 3 (some (.object "java/lang/String")) 7 (1) (6) [.ref a0, iI p, iI q] w sIO (fun w' => w.1 ≤ w'.1 ∧ w'.2 = w.2) := by
  refine tx_intro [some (.ref a0), some (iI p), some (iI q)] rfl (Nat.le_of_ble_eq_true rfl) pn_X6 ?_
  intro X C hT hH hRm hl hne hX
  obtain ⟨hRf, hRl, hRc, hRs⟩ := hRm
  have hls : (xl X).stackTraces = false := by rw [hl]; exact hfl
  refine g_iload_n C dX6_pairText_0 rfl ?_
  by_cases hc1 : (0 ≤ p ∧ p ≤ 2)
  · refine g_callS C (s_X6_checkThing _ (v := p) hc1) ml_RX6_61 sm_yX6_checkThing in_RX6 co_yX6_checkThing hd_X6_checkThing rfl ⟨by omega, by omega⟩ rfl (Nat.le_of_ble_eq_true rfl) ⟨by omega, by omega⟩ dX6_pairText_1 (fun v1 w1 hp1 => ?_)
    obtain ⟨rfl, hw1⟩ := hp1
    subst w1
    exact (hbad hc1).elim
  · exact x_callS C hT hH hne hX (x_X6_checkThing _ hls (v := p) h_p hc1) ml_RX6_61 sm_yX6_checkThing in_RX6 co_yX6_checkThing hd_X6_checkThing rfl ⟨by omega, by omega⟩ rfl (Nat.le_of_ble_eq_true rfl) ⟨by omega, by omega⟩ ⟨by omega, by omega⟩ dX6_pairText_1 (fun w' h => h)
set_option maxHeartbeats 4000000 in
set_option maxRecDepth 100000 in
theorem x_X6_pairNorm_IO (l : Launch) {K : KC} {E : GE} {w : Wd} (hfl : l.stackTraces = false) {a0 : Nat} {p : Int} (h_p : -2147483648 ≤ p ∧ p < 2147483648)  (hbad : ¬ ((0 ≤ p ∧ p ≤ 2))) : Tx K E l yX6_pairNorm cX6_pairNorm 2 (some (.object "java/lang/String")) 7 (1) (6) [.ref a0, iI p] w sIO (fun w' => w.1 ≤ w'.1 ∧ w'.2 = w.2) := by
  refine tx_intro [some (.ref a0), some (iI p)] rfl (Nat.le_of_ble_eq_true rfl) pn_X6 ?_
  intro X C hT hH hRm hl hne hX
  obtain ⟨hRf, hRl, hRc, hRs⟩ := hRm
  have hls : (xl X).stackTraces = false := by rw [hl]; exact hfl
  refine g_iload_n C dX6_pairNorm_0 rfl ?_
  by_cases hc1 : (0 ≤ p ∧ p ≤ 2)
  · refine g_callS C (s_X6_checkThing _ (v := p) hc1) ml_RX6_61 sm_yX6_checkThing in_RX6 co_yX6_checkThing hd_X6_checkThing rfl ⟨by omega, by omega⟩ rfl (Nat.le_of_ble_eq_true rfl) ⟨by omega, by omega⟩ dX6_pairNorm_1 (fun v1 w1 hp1 => ?_)
    obtain ⟨rfl, hw1⟩ := hp1
    subst w1
    exact (hbad hc1).elim
  · exact x_callS C hT hH hne hX (x_X6_checkThing _ hls (v := p) h_p hc1) ml_RX6_61 sm_yX6_checkThing in_RX6 co_yX6_checkThing hd_X6_checkThing rfl ⟨by omega, by omega⟩ rfl (Nat.le_of_ble_eq_true rfl) ⟨by omega, by omega⟩ ⟨by omega, by omega⟩ dX6_pairNorm_1 (fun w' h => h)
set_option maxHeartbeats 4000000 in
set_option maxRecDepth 100000 in
theorem x_X6_pairBits_IO (l : Launch) {K : KC} {E : GE} {w : Wd} (hfl : l.stackTraces = false) {a0 : Nat} {p : Int} (h_p : -2147483648 ≤ p ∧ p < 2147483648) {q : Int} {r : Int} (h_r : -2147483648 ≤ r ∧ r < 2147483648)  (hbad : ¬ ((0 ≤ p ∧ p ≤ 2))) : Tx K E l yX6_pairBits cX6_pairBits 4 (some .int) 7 (1) (6) [.ref a0, iI p, iI q, iI r] w sIO (fun w' => w.1 ≤ w'.1 ∧ w'.2 = w.2) := by
  refine tx_intro [some (.ref a0), some (iI p), some (iI q), some (iI r)] rfl (Nat.le_of_ble_eq_true rfl) pn_X6 ?_
  intro X C hT hH hRm hl hne hX
  obtain ⟨hRf, hRl, hRc, hRs⟩ := hRm
  have hls : (xl X).stackTraces = false := by rw [hl]; exact hfl
  refine g_iload_n C dX6_pairBits_0 rfl ?_
  by_cases hc1 : (0 ≤ p ∧ p ≤ 2)
  · refine g_callS C (s_X6_checkThing _ (v := p) hc1) ml_RX6_61 sm_yX6_checkThing in_RX6 co_yX6_checkThing hd_X6_checkThing rfl ⟨by omega, by omega⟩ rfl (Nat.le_of_ble_eq_true rfl) ⟨by omega, by omega⟩ dX6_pairBits_1 (fun v1 w1 hp1 => ?_)
    obtain ⟨rfl, hw1⟩ := hp1
    subst w1
    exact (hbad hc1).elim
  · exact x_callS C hT hH hne hX (x_X6_checkThing _ hls (v := p) h_p hc1) ml_RX6_61 sm_yX6_checkThing in_RX6 co_yX6_checkThing hd_X6_checkThing rfl ⟨by omega, by omega⟩ rfl (Nat.le_of_ble_eq_true rfl) ⟨by omega, by omega⟩ ⟨by omega, by omega⟩ dX6_pairBits_1 (fun w' h => h)
set_option maxHeartbeats 4000000 in
set_option maxRecDepth 100000 in
theorem x_X6_pairBits_IA (l : Launch) {K : KC} {E : GE} {w : Wd} (hfl : l.stackTraces = false) {a0 : Nat} {p : Int} (h_p : -2147483648 ≤ p ∧ p < 2147483648) {q : Int} {r : Int} (h_r : -2147483648 ≤ r ∧ r < 2147483648) (hg1 : (0 ≤ p ∧ p ≤ 2)) (hbad : ¬ ((0 ≤ r ∧ r ≤ 2))) : Tx K E l yX6_pairBits cX6_pairBits 4 (some .int) 7 (1) (6) [.ref a0, iI p, iI q, iI r] w sIA (fun w' => w.1 ≤ w'.1 ∧ w'.2 = w.2) := by
  refine tx_intro [some (.ref a0), some (iI p), some (iI q), some (iI r)] rfl (Nat.le_of_ble_eq_true rfl) pn_X6 ?_
  intro X C hT hH hRm hl hne hX
  obtain ⟨hRf, hRl, hRc, hRs⟩ := hRm
  have hls : (xl X).stackTraces = false := by rw [hl]; exact hfl
  refine g_iload_n C dX6_pairBits_0 rfl ?_
  refine g_callS C (s_X6_checkThing _ (v := p) hg1) ml_RX6_61 sm_yX6_checkThing in_RX6 co_yX6_checkThing hd_X6_checkThing rfl ⟨by omega, by omega⟩ rfl (Nat.le_of_ble_eq_true rfl) ⟨by omega, by omega⟩ dX6_pairBits_1 (fun v1 w1 hp1 => ?_)
  obtain ⟨rfl, hw1⟩ := hp1
  subst w1
  refine g_iload_n C dX6_pairBits_4 rfl ?_
  refine g_iconst C dX6_pairBits_5 ?_
  refine g_iconst C dX6_pairBits_6 ?_
  by_cases hc7 : (0 ≤ r ∧ r ≤ 2)
  · refine g_callS C (s_X6_checkRange _ (v := r) (lo := 0) (hi := 2) hc7 (by omega) (by omega)) ml_RX6_82 sm_yX6_checkRange in_RX6 co_yX6_checkRange hd_X6_checkRange rfl ⟨by omega, by omega⟩ rfl (Nat.le_of_ble_eq_true rfl) ⟨by omega, by omega⟩ dX6_pairBits_7 (fun v7 w7 hp7 => ?_)
    obtain ⟨rfl, hw7⟩ := hp7
    subst w7
    exact (hbad hc7).elim
  · exact x_callS C hT hH hne hX (x_X6_checkRange _ hls (v := r) (lo := 0) (hi := 2) h_r (by omega) (by omega) hc7) ml_RX6_82 sm_yX6_checkRange in_RX6 co_yX6_checkRange hd_X6_checkRange rfl ⟨by omega, by omega⟩ rfl (Nat.le_of_ble_eq_true rfl) ⟨by omega, by omega⟩ ⟨by omega, by omega⟩ dX6_pairBits_7 (fun w' h => h)
set_option maxHeartbeats 4000000 in
set_option maxRecDepth 100000 in
theorem x_X6_rank_IO (l : Launch) {K : KC} {E : GE} {w : Wd} (hfl : l.stackTraces = false) {a0 : Nat} {p : Int} (h_p : -2147483648 ≤ p ∧ p < 2147483648)  (hbad : ¬ ((0 ≤ p ∧ p ≤ 2))) : Tx K E l yX6_rank cX6_rank 4 (some .int) 7 (1) (6) [.ref a0, iI p] w sIO (fun w' => w.1 ≤ w'.1 ∧ w'.2 = w.2) := by
  refine tx_intro [some (.ref a0), some (iI p), none, none] rfl (Nat.le_of_ble_eq_true rfl) pn_X6 ?_
  intro X C hT hH hRm hl hne hX
  obtain ⟨hRf, hRl, hRc, hRs⟩ := hRm
  have hls : (xl X).stackTraces = false := by rw [hl]; exact hfl
  refine g_iload_n C dX6_rank_0 rfl ?_
  by_cases hc1 : (0 ≤ p ∧ p ≤ 2)
  · refine g_callS C (s_X6_checkThing _ (v := p) hc1) ml_RX6_61 sm_yX6_checkThing in_RX6 co_yX6_checkThing hd_X6_checkThing rfl ⟨by omega, by omega⟩ rfl (Nat.le_of_ble_eq_true rfl) ⟨by omega, by omega⟩ dX6_rank_1 (fun v1 w1 hp1 => ?_)
    obtain ⟨rfl, hw1⟩ := hp1
    subst w1
    exact (hbad hc1).elim
  · exact x_callS C hT hH hne hX (x_X6_checkThing _ hls (v := p) h_p hc1) ml_RX6_61 sm_yX6_checkThing in_RX6 co_yX6_checkThing hd_X6_checkThing rfl ⟨by omega, by omega⟩ rfl (Nat.le_of_ble_eq_true rfl) ⟨by omega, by omega⟩ ⟨by omega, by omega⟩ dX6_rank_1 (fun w' h => h)
set_option maxHeartbeats 4000000 in
set_option maxRecDepth 100000 in
theorem x_X6_order_IO (l : Launch) {K : KC} {E : GE} {w : Wd} (hfl : l.stackTraces = false) {a0 : Nat} {p : Int} (h_p : -2147483648 ≤ p ∧ p < 2147483648) {q : Int} (h_q : -2147483648 ≤ q ∧ q < 2147483648) {r : Int}  (hbad : ¬ ((0 ≤ p ∧ p ≤ 2) ∧ (0 ≤ q ∧ q ≤ 2))) : Tx K E l yX6_order cX6_order 4 (some .int) 7 (1) (6) [.ref a0, iI p, iI q, iI r] w sIO (fun w' => w.1 ≤ w'.1 ∧ w'.2 = w.2) := by
  refine tx_intro [some (.ref a0), some (iI p), some (iI q), some (iI r)] rfl (Nat.le_of_ble_eq_true rfl) pn_X6 ?_
  intro X C hT hH hRm hl hne hX
  obtain ⟨hRf, hRl, hRc, hRs⟩ := hRm
  have hls : (xl X).stackTraces = false := by rw [hl]; exact hfl
  refine g_iload_n C dX6_order_0 rfl ?_
  by_cases hc1 : (0 ≤ p ∧ p ≤ 2)
  · refine g_callS C (s_X6_checkThing _ (v := p) hc1) ml_RX6_61 sm_yX6_checkThing in_RX6 co_yX6_checkThing hd_X6_checkThing rfl ⟨by omega, by omega⟩ rfl (Nat.le_of_ble_eq_true rfl) ⟨by omega, by omega⟩ dX6_order_1 (fun v1 w1 hp1 => ?_)
    obtain ⟨rfl, hw1⟩ := hp1
    subst w1
    refine g_iload_n C dX6_order_4 rfl ?_
    by_cases hc5 : (0 ≤ q ∧ q ≤ 2)
    · refine g_callS C (s_X6_checkThing _ (v := q) hc5) ml_RX6_61 sm_yX6_checkThing in_RX6 co_yX6_checkThing hd_X6_checkThing rfl ⟨by omega, by omega⟩ rfl (Nat.le_of_ble_eq_true rfl) ⟨by omega, by omega⟩ dX6_order_5 (fun v5 w5 hp5 => ?_)
      obtain ⟨rfl, hw5⟩ := hp5
      subst w5
      exact (hbad ⟨hc1, hc5⟩).elim
    · exact x_callS C hT hH hne hX (x_X6_checkThing _ hls (v := q) h_q hc5) ml_RX6_61 sm_yX6_checkThing in_RX6 co_yX6_checkThing hd_X6_checkThing rfl ⟨by omega, by omega⟩ rfl (Nat.le_of_ble_eq_true rfl) ⟨by omega, by omega⟩ ⟨by omega, by omega⟩ dX6_order_5 (fun w' h => h)
  · exact x_callS C hT hH hne hX (x_X6_checkThing _ hls (v := p) h_p hc1) ml_RX6_61 sm_yX6_checkThing in_RX6 co_yX6_checkThing hd_X6_checkThing rfl ⟨by omega, by omega⟩ rfl (Nat.le_of_ble_eq_true rfl) ⟨by omega, by omega⟩ ⟨by omega, by omega⟩ dX6_order_1 (fun w' h => h)
set_option maxHeartbeats 4000000 in
set_option maxRecDepth 100000 in
theorem x_X6_isSame_IO (l : Launch) {K : KC} {E : GE} {w : Wd} (hfl : l.stackTraces = false) {a0 : Nat} {p : Int} (h_p : -2147483648 ≤ p ∧ p < 2147483648) {q : Int} (h_q : -2147483648 ≤ q ∧ q < 2147483648)  (hbad : ¬ ((0 ≤ p ∧ p ≤ 2) ∧ (0 ≤ q ∧ q ≤ 2))) : Tx K E l yX6_isSame cX6_isSame 3 (some .boolean) 7 (1) (6) [.ref a0, iI p, iI q] w sIO (fun w' => w.1 ≤ w'.1 ∧ w'.2 = w.2) := by
  refine tx_intro [some (.ref a0), some (iI p), some (iI q)] rfl (Nat.le_of_ble_eq_true rfl) pn_X6 ?_
  intro X C hT hH hRm hl hne hX
  obtain ⟨hRf, hRl, hRc, hRs⟩ := hRm
  have hls : (xl X).stackTraces = false := by rw [hl]; exact hfl
  refine g_iload_n C dX6_isSame_0 rfl ?_
  by_cases hc1 : (0 ≤ p ∧ p ≤ 2)
  · refine g_callS C (s_X6_checkThing _ (v := p) hc1) ml_RX6_61 sm_yX6_checkThing in_RX6 co_yX6_checkThing hd_X6_checkThing rfl ⟨by omega, by omega⟩ rfl (Nat.le_of_ble_eq_true rfl) ⟨by omega, by omega⟩ dX6_isSame_1 (fun v1 w1 hp1 => ?_)
    obtain ⟨rfl, hw1⟩ := hp1
    subst w1
    refine g_iload_n C dX6_isSame_4 rfl ?_
    by_cases hc5 : (0 ≤ q ∧ q ≤ 2)
    · refine g_callS C (s_X6_checkThing _ (v := q) hc5) ml_RX6_61 sm_yX6_checkThing in_RX6 co_yX6_checkThing hd_X6_checkThing rfl ⟨by omega, by omega⟩ rfl (Nat.le_of_ble_eq_true rfl) ⟨by omega, by omega⟩ dX6_isSame_5 (fun v5 w5 hp5 => ?_)
      obtain ⟨rfl, hw5⟩ := hp5
      subst w5
      exact (hbad ⟨hc1, hc5⟩).elim
    · exact x_callS C hT hH hne hX (x_X6_checkThing _ hls (v := q) h_q hc5) ml_RX6_61 sm_yX6_checkThing in_RX6 co_yX6_checkThing hd_X6_checkThing rfl ⟨by omega, by omega⟩ rfl (Nat.le_of_ble_eq_true rfl) ⟨by omega, by omega⟩ ⟨by omega, by omega⟩ dX6_isSame_5 (fun w' h => h)
  · exact x_callS C hT hH hne hX (x_X6_checkThing _ hls (v := p) h_p hc1) ml_RX6_61 sm_yX6_checkThing in_RX6 co_yX6_checkThing hd_X6_checkThing rfl ⟨by omega, by omega⟩ rfl (Nat.le_of_ble_eq_true rfl) ⟨by omega, by omega⟩ ⟨by omega, by omega⟩ dX6_isSame_1 (fun w' h => h)
set_option maxHeartbeats 4000000 in
set_option maxRecDepth 100000 in
theorem x_X6_split_IO (l : Launch) {K : KC} {E : GE} {w : Wd} (hfl : l.stackTraces = false) {a0 : Nat} {p : Int} (h_p : -2147483648 ≤ p ∧ p < 2147483648) {q : Int} (h_q : -2147483648 ≤ q ∧ q < 2147483648)  (hbad : ¬ ((0 ≤ p ∧ p ≤ 2))) : Tx K E l yX6_split cX6_split 3 (some .int) 7 (1) (6) [.ref a0, iI p, iI q] w sIO (fun w' => w.1 ≤ w'.1 ∧ w'.2 = w.2) := by
  refine tx_intro [some (.ref a0), some (iI p), some (iI q)] rfl (Nat.le_of_ble_eq_true rfl) pn_X6 ?_
  intro X C hT hH hRm hl hne hX
  obtain ⟨hRf, hRl, hRc, hRs⟩ := hRm
  have hls : (xl X).stackTraces = false := by rw [hl]; exact hfl
  refine g_iload_n C dX6_split_0 rfl ?_
  by_cases hc1 : (0 ≤ p ∧ p ≤ 2)
  · refine g_callS C (s_X6_checkThing _ (v := p) hc1) ml_RX6_61 sm_yX6_checkThing in_RX6 co_yX6_checkThing hd_X6_checkThing rfl ⟨by omega, by omega⟩ rfl (Nat.le_of_ble_eq_true rfl) ⟨by omega, by omega⟩ dX6_split_1 (fun v1 w1 hp1 => ?_)
    obtain ⟨rfl, hw1⟩ := hp1
    subst w1
    exact (hbad hc1).elim
  · exact x_callS C hT hH hne hX (x_X6_checkThing _ hls (v := p) h_p hc1) ml_RX6_61 sm_yX6_checkThing in_RX6 co_yX6_checkThing hd_X6_checkThing rfl ⟨by omega, by omega⟩ rfl (Nat.le_of_ble_eq_true rfl) ⟨by omega, by omega⟩ ⟨by omega, by omega⟩ dX6_split_1 (fun w' h => h)
set_option maxHeartbeats 4000000 in
set_option maxRecDepth 100000 in
theorem x_X6_split_IA (l : Launch) {K : KC} {E : GE} {w : Wd} (hfl : l.stackTraces = false) {a0 : Nat} {p : Int} (h_p : -2147483648 ≤ p ∧ p < 2147483648) {q : Int} (h_q : -2147483648 ≤ q ∧ q < 2147483648) (hg1 : (0 ≤ p ∧ p ≤ 2)) (hbad : ¬ ((5 ≤ q ∧ q ≤ 997))) : Tx K E l yX6_split cX6_split 3 (some .int) 7 (1) (6) [.ref a0, iI p, iI q] w sIA (fun w' => w.1 ≤ w'.1 ∧ w'.2 = w.2) := by
  refine tx_intro [some (.ref a0), some (iI p), some (iI q)] rfl (Nat.le_of_ble_eq_true rfl) pn_X6 ?_
  intro X C hT hH hRm hl hne hX
  obtain ⟨hRf, hRl, hRc, hRs⟩ := hRm
  have hls : (xl X).stackTraces = false := by rw [hl]; exact hfl
  refine g_iload_n C dX6_split_0 rfl ?_
  refine g_callS C (s_X6_checkThing _ (v := p) hg1) ml_RX6_61 sm_yX6_checkThing in_RX6 co_yX6_checkThing hd_X6_checkThing rfl ⟨by omega, by omega⟩ rfl (Nat.le_of_ble_eq_true rfl) ⟨by omega, by omega⟩ dX6_split_1 (fun v1 w1 hp1 => ?_)
  obtain ⟨rfl, hw1⟩ := hp1
  subst w1
  refine g_iload_n C dX6_split_4 rfl ?_
  refine g_iconst C dX6_split_5 ?_
  refine g_sipush C dX6_split_6 (by decide) ?_
  by_cases hc9 : (5 ≤ q ∧ q ≤ 997)
  · refine g_callS C (s_X6_checkRange _ (v := q) (lo := 5) (hi := 997) hc9 (by omega) (by omega)) ml_RX6_82 sm_yX6_checkRange in_RX6 co_yX6_checkRange hd_X6_checkRange rfl ⟨by omega, by omega⟩ rfl (Nat.le_of_ble_eq_true rfl) ⟨by omega, by omega⟩ dX6_split_9 (fun v9 w9 hp9 => ?_)
    obtain ⟨rfl, hw9⟩ := hp9
    subst w9
    exact (hbad hc9).elim
  · exact x_callS C hT hH hne hX (x_X6_checkRange _ hls (v := q) (lo := 5) (hi := 997) h_q (by omega) (by omega) hc9) ml_RX6_82 sm_yX6_checkRange in_RX6 co_yX6_checkRange hd_X6_checkRange rfl ⟨by omega, by omega⟩ rfl (Nat.le_of_ble_eq_true rfl) ⟨by omega, by omega⟩ ⟨by omega, by omega⟩ dX6_split_9 (fun w' h => h)
set_option maxHeartbeats 4000000 in
set_option maxRecDepth 100000 in
theorem x_X6_euclid_IO (l : Launch) {K : KC} {E : GE} {w : Wd} (hfl : l.stackTraces = false) {a0 : Nat} {p : Int} (h_p : -2147483648 ≤ p ∧ p < 2147483648)  (hbad : ¬ ((0 ≤ p ∧ p ≤ 2))) : Tx K E l yX6_euclid cX6_euclid 2 (some .int) 7 (1) (6) [.ref a0, iI p] w sIO (fun w' => w.1 ≤ w'.1 ∧ w'.2 = w.2) := by
  refine tx_intro [some (.ref a0), some (iI p)] rfl (Nat.le_of_ble_eq_true rfl) pn_X6 ?_
  intro X C hT hH hRm hl hne hX
  obtain ⟨hRf, hRl, hRc, hRs⟩ := hRm
  have hls : (xl X).stackTraces = false := by rw [hl]; exact hfl
  refine g_iload_n C dX6_euclid_0 rfl ?_
  by_cases hc1 : (0 ≤ p ∧ p ≤ 2)
  · refine g_callS C (s_X6_checkThing _ (v := p) hc1) ml_RX6_61 sm_yX6_checkThing in_RX6 co_yX6_checkThing hd_X6_checkThing rfl ⟨by omega, by omega⟩ rfl (Nat.le_of_ble_eq_true rfl) ⟨by omega, by omega⟩ dX6_euclid_1 (fun v1 w1 hp1 => ?_)
    obtain ⟨rfl, hw1⟩ := hp1
    subst w1
    exact (hbad hc1).elim
  · exact x_callS C hT hH hne hX (x_X6_checkThing _ hls (v := p) h_p hc1) ml_RX6_61 sm_yX6_checkThing in_RX6 co_yX6_checkThing hd_X6_checkThing rfl ⟨by omega, by omega⟩ rfl (Nat.le_of_ble_eq_true rfl) ⟨by omega, by omega⟩ ⟨by omega, by omega⟩ dX6_euclid_1 (fun w' h => h)
set_option maxHeartbeats 4000000 in
set_option maxRecDepth 100000 in
theorem x_X6_settle_IO (l : Launch) {K : KC} {E : GE} {w : Wd} (hfl : l.stackTraces = false) {a0 : Nat} {p : Int} (h_p : -2147483648 ≤ p ∧ p < 2147483648)  (hbad : ¬ ((0 ≤ p ∧ p ≤ 2))) : Tx K E l yX6_settle cX6_settle 2 (some .int) 7 (1) (6) [.ref a0, iI p] w sIO (fun w' => w.1 ≤ w'.1 ∧ w'.2 = w.2) := by
  refine tx_intro [some (.ref a0), some (iI p)] rfl (Nat.le_of_ble_eq_true rfl) pn_X6 ?_
  intro X C hT hH hRm hl hne hX
  obtain ⟨hRf, hRl, hRc, hRs⟩ := hRm
  have hls : (xl X).stackTraces = false := by rw [hl]; exact hfl
  refine g_iload_n C dX6_settle_0 rfl ?_
  by_cases hc1 : (0 ≤ p ∧ p ≤ 2)
  · refine g_callS C (s_X6_checkThing _ (v := p) hc1) ml_RX6_61 sm_yX6_checkThing in_RX6 co_yX6_checkThing hd_X6_checkThing rfl ⟨by omega, by omega⟩ rfl (Nat.le_of_ble_eq_true rfl) ⟨by omega, by omega⟩ dX6_settle_1 (fun v1 w1 hp1 => ?_)
    obtain ⟨rfl, hw1⟩ := hp1
    subst w1
    exact (hbad hc1).elim
  · exact x_callS C hT hH hne hX (x_X6_checkThing _ hls (v := p) h_p hc1) ml_RX6_61 sm_yX6_checkThing in_RX6 co_yX6_checkThing hd_X6_checkThing rfl ⟨by omega, by omega⟩ rfl (Nat.le_of_ble_eq_true rfl) ⟨by omega, by omega⟩ ⟨by omega, by omega⟩ dX6_settle_1 (fun w' h => h)
set_option maxHeartbeats 4000000 in
set_option maxRecDepth 100000 in
theorem x_X6_splitNumber_IO (l : Launch) {K : KC} {E : GE} {w : Wd} (hfl : l.stackTraces = false) {a0 : Nat} {p : Int} (h_p : -2147483648 ≤ p ∧ p < 2147483648) {q : Int} (h_q : -2147483648 ≤ q ∧ q < 2147483648)  (hbad : ¬ ((0 ≤ p ∧ p ≤ 2))) : Tx K E l yX6_splitNumber cX6_splitNumber 3 (some .int) 7 (1) (6) [.ref a0, iI p, iI q] w sIO (fun w' => w.1 ≤ w'.1 ∧ w'.2 = w.2) := by
  refine tx_intro [some (.ref a0), some (iI p), some (iI q)] rfl (Nat.le_of_ble_eq_true rfl) pn_X6 ?_
  intro X C hT hH hRm hl hne hX
  obtain ⟨hRf, hRl, hRc, hRs⟩ := hRm
  have hls : (xl X).stackTraces = false := by rw [hl]; exact hfl
  refine g_iload_n C dX6_splitNumber_0 rfl ?_
  by_cases hc1 : (0 ≤ p ∧ p ≤ 2)
  · refine g_callS C (s_X6_checkThing _ (v := p) hc1) ml_RX6_61 sm_yX6_checkThing in_RX6 co_yX6_checkThing hd_X6_checkThing rfl ⟨by omega, by omega⟩ rfl (Nat.le_of_ble_eq_true rfl) ⟨by omega, by omega⟩ dX6_splitNumber_1 (fun v1 w1 hp1 => ?_)
    obtain ⟨rfl, hw1⟩ := hp1
    subst w1
    exact (hbad hc1).elim
  · exact x_callS C hT hH hne hX (x_X6_checkThing _ hls (v := p) h_p hc1) ml_RX6_61 sm_yX6_checkThing in_RX6 co_yX6_checkThing hd_X6_checkThing rfl ⟨by omega, by omega⟩ rfl (Nat.le_of_ble_eq_true rfl) ⟨by omega, by omega⟩ ⟨by omega, by omega⟩ dX6_splitNumber_1 (fun w' h => h)
set_option maxHeartbeats 4000000 in
set_option maxRecDepth 100000 in
theorem x_X6_splitNumber_IA (l : Launch) {K : KC} {E : GE} {w : Wd} (hfl : l.stackTraces = false) {a0 : Nat} {p : Int} (h_p : -2147483648 ≤ p ∧ p < 2147483648) {q : Int} (h_q : -2147483648 ≤ q ∧ q < 2147483648) (hg1 : (0 ≤ p ∧ p ≤ 2)) (hbad : ¬ ((0 ≤ q ∧ q ≤ 7))) : Tx K E l yX6_splitNumber cX6_splitNumber 3 (some .int) 7 (1) (6) [.ref a0, iI p, iI q] w sIA (fun w' => w.1 ≤ w'.1 ∧ w'.2 = w.2) := by
  refine tx_intro [some (.ref a0), some (iI p), some (iI q)] rfl (Nat.le_of_ble_eq_true rfl) pn_X6 ?_
  intro X C hT hH hRm hl hne hX
  obtain ⟨hRf, hRl, hRc, hRs⟩ := hRm
  have hls : (xl X).stackTraces = false := by rw [hl]; exact hfl
  refine g_iload_n C dX6_splitNumber_0 rfl ?_
  refine g_callS C (s_X6_checkThing _ (v := p) hg1) ml_RX6_61 sm_yX6_checkThing in_RX6 co_yX6_checkThing hd_X6_checkThing rfl ⟨by omega, by omega⟩ rfl (Nat.le_of_ble_eq_true rfl) ⟨by omega, by omega⟩ dX6_splitNumber_1 (fun v1 w1 hp1 => ?_)
  obtain ⟨rfl, hw1⟩ := hp1
  subst w1
  refine g_iload_n C dX6_splitNumber_4 rfl ?_
  refine g_iconst C dX6_splitNumber_5 ?_
  refine g_bipush C dX6_splitNumber_6 (by decide) ?_
  by_cases hc8 : (0 ≤ q ∧ q ≤ 7)
  · refine g_callS C (s_X6_checkRange _ (v := q) (lo := 0) (hi := 7) hc8 (by omega) (by omega)) ml_RX6_82 sm_yX6_checkRange in_RX6 co_yX6_checkRange hd_X6_checkRange rfl ⟨by omega, by omega⟩ rfl (Nat.le_of_ble_eq_true rfl) ⟨by omega, by omega⟩ dX6_splitNumber_8 (fun v8 w8 hp8 => ?_)
    obtain ⟨rfl, hw8⟩ := hp8
    subst w8
    exact (hbad hc8).elim
  · exact x_callS C hT hH hne hX (x_X6_checkRange _ hls (v := q) (lo := 0) (hi := 7) h_q (by omega) (by omega) hc8) ml_RX6_82 sm_yX6_checkRange in_RX6 co_yX6_checkRange hd_X6_checkRange rfl ⟨by omega, by omega⟩ rfl (Nat.le_of_ble_eq_true rfl) ⟨by omega, by omega⟩ ⟨by omega, by omega⟩ dX6_splitNumber_8 (fun w' h => h)
set_option maxHeartbeats 4000000 in
set_option maxRecDepth 100000 in
theorem x_X6_way_IO (l : Launch) {K : KC} {E : GE} {w : Wd} (hfl : l.stackTraces = false) {a0 : Nat} {p : Int} (h_p : -2147483648 ≤ p ∧ p < 2147483648)  (hbad : ¬ ((0 ≤ p ∧ p ≤ 2))) : Tx K E l yX6_way cX6_way 3 (some (.object "java/lang/String")) 7 (1) (6) [.ref a0, iI p] w sIO (fun w' => w.1 ≤ w'.1 ∧ w'.2 = w.2) := by
  refine tx_intro [some (.ref a0), some (iI p), none] rfl (Nat.le_of_ble_eq_true rfl) pn_X6 ?_
  intro X C hT hH hRm hl hne hX
  obtain ⟨hRf, hRl, hRc, hRs⟩ := hRm
  have hls : (xl X).stackTraces = false := by rw [hl]; exact hfl
  refine g_iload_n C dX6_way_0 rfl ?_
  by_cases hc1 : (0 ≤ p ∧ p ≤ 2)
  · refine g_callS C (s_X6_checkThing _ (v := p) hc1) ml_RX6_61 sm_yX6_checkThing in_RX6 co_yX6_checkThing hd_X6_checkThing rfl ⟨by omega, by omega⟩ rfl (Nat.le_of_ble_eq_true rfl) ⟨by omega, by omega⟩ dX6_way_1 (fun v1 w1 hp1 => ?_)
    obtain ⟨rfl, hw1⟩ := hp1
    subst w1
    exact (hbad hc1).elim
  · exact x_callS C hT hH hne hX (x_X6_checkThing _ hls (v := p) h_p hc1) ml_RX6_61 sm_yX6_checkThing in_RX6 co_yX6_checkThing hd_X6_checkThing rfl ⟨by omega, by omega⟩ rfl (Nat.le_of_ble_eq_true rfl) ⟨by omega, by omega⟩ ⟨by omega, by omega⟩ dX6_way_1 (fun w' h => h)
set_option maxHeartbeats 4000000 in
set_option maxRecDepth 100000 in
theorem x_X6_product_IO (l : Launch) {K : KC} {E : GE} {w : Wd} (hfl : l.stackTraces = false) {a0 : Nat} {p : Int} (h_p : -2147483648 ≤ p ∧ p < 2147483648) {q : Int} (h_q : -2147483648 ≤ q ∧ q < 2147483648)  (hbad : ¬ ((0 ≤ p ∧ p ≤ 2) ∧ (0 ≤ q ∧ q ≤ 2))) : Tx K E l yX6_product cX6_product 8 (some (.object "java/lang/String")) 7 (1) (6) [.ref a0, iI p, iI q] w sIO (fun w' => w.1 ≤ w'.1 ∧ w'.2 = w.2) := by
  refine tx_intro [some (.ref a0), some (iI p), some (iI q), none, none, none, none, none] rfl (Nat.le_of_ble_eq_true rfl) pn_X6 ?_
  intro X C hT hH hRm hl hne hX
  obtain ⟨hRf, hRl, hRc, hRs⟩ := hRm
  have hls : (xl X).stackTraces = false := by rw [hl]; exact hfl
  refine g_iload_n C dX6_product_0 rfl ?_
  by_cases hc1 : (0 ≤ p ∧ p ≤ 2)
  · refine g_callS C (s_X6_checkThing _ (v := p) hc1) ml_RX6_61 sm_yX6_checkThing in_RX6 co_yX6_checkThing hd_X6_checkThing rfl ⟨by omega, by omega⟩ rfl (Nat.le_of_ble_eq_true rfl) ⟨by omega, by omega⟩ dX6_product_1 (fun v1 w1 hp1 => ?_)
    obtain ⟨rfl, hw1⟩ := hp1
    subst w1
    refine g_iload_n C dX6_product_4 rfl ?_
    by_cases hc5 : (0 ≤ q ∧ q ≤ 2)
    · refine g_callS C (s_X6_checkThing _ (v := q) hc5) ml_RX6_61 sm_yX6_checkThing in_RX6 co_yX6_checkThing hd_X6_checkThing rfl ⟨by omega, by omega⟩ rfl (Nat.le_of_ble_eq_true rfl) ⟨by omega, by omega⟩ dX6_product_5 (fun v5 w5 hp5 => ?_)
      obtain ⟨rfl, hw5⟩ := hp5
      subst w5
      exact (hbad ⟨hc1, hc5⟩).elim
    · exact x_callS C hT hH hne hX (x_X6_checkThing _ hls (v := q) h_q hc5) ml_RX6_61 sm_yX6_checkThing in_RX6 co_yX6_checkThing hd_X6_checkThing rfl ⟨by omega, by omega⟩ rfl (Nat.le_of_ble_eq_true rfl) ⟨by omega, by omega⟩ ⟨by omega, by omega⟩ dX6_product_5 (fun w' h => h)
  · exact x_callS C hT hH hne hX (x_X6_checkThing _ hls (v := p) h_p hc1) ml_RX6_61 sm_yX6_checkThing in_RX6 co_yX6_checkThing hd_X6_checkThing rfl ⟨by omega, by omega⟩ rfl (Nat.le_of_ble_eq_true rfl) ⟨by omega, by omega⟩ ⟨by omega, by omega⟩ dX6_product_1 (fun w' h => h)
set_option maxHeartbeats 4000000 in
set_option maxRecDepth 100000 in
theorem x_X6_symbol_IO (l : Launch) {K : KC} {E : GE} {w : Wd} (hfl : l.stackTraces = false) {a0 : Nat} {p : Int} (h_p : -2147483648 ≤ p ∧ p < 2147483648) {q : Int} (h_q : -2147483648 ≤ q ∧ q < 2147483648)  (hbad : ¬ ((0 ≤ p ∧ p ≤ 2))) : Tx K E l yX6_symbol cX6_symbol 4 (some .int) 7 (1) (6) [.ref a0, iI p, iI q] w sIO (fun w' => w.1 ≤ w'.1 ∧ w'.2 = w.2) := by
  refine tx_intro [some (.ref a0), some (iI p), some (iI q), none] rfl (Nat.le_of_ble_eq_true rfl) pn_X6 ?_
  intro X C hT hH hRm hl hne hX
  obtain ⟨hRf, hRl, hRc, hRs⟩ := hRm
  have hls : (xl X).stackTraces = false := by rw [hl]; exact hfl
  refine g_iload_n C dX6_symbol_0 rfl ?_
  by_cases hc1 : (0 ≤ p ∧ p ≤ 2)
  · refine g_callS C (s_X6_checkThing _ (v := p) hc1) ml_RX6_61 sm_yX6_checkThing in_RX6 co_yX6_checkThing hd_X6_checkThing rfl ⟨by omega, by omega⟩ rfl (Nat.le_of_ble_eq_true rfl) ⟨by omega, by omega⟩ dX6_symbol_1 (fun v1 w1 hp1 => ?_)
    obtain ⟨rfl, hw1⟩ := hp1
    subst w1
    exact (hbad hc1).elim
  · exact x_callS C hT hH hne hX (x_X6_checkThing _ hls (v := p) h_p hc1) ml_RX6_61 sm_yX6_checkThing in_RX6 co_yX6_checkThing hd_X6_checkThing rfl ⟨by omega, by omega⟩ rfl (Nat.le_of_ble_eq_true rfl) ⟨by omega, by omega⟩ ⟨by omega, by omega⟩ dX6_symbol_1 (fun w' h => h)
set_option maxHeartbeats 4000000 in
set_option maxRecDepth 100000 in
theorem x_X6_symbol_IA (l : Launch) {K : KC} {E : GE} {w : Wd} (hfl : l.stackTraces = false) {a0 : Nat} {p : Int} (h_p : -2147483648 ≤ p ∧ p < 2147483648) {q : Int} (h_q : -2147483648 ≤ q ∧ q < 2147483648) (hg1 : (0 ≤ p ∧ p ≤ 2)) (hbad : ¬ ((-999 ≤ q ∧ q ≤ 999))) : Tx K E l yX6_symbol cX6_symbol 4 (some .int) 7 (1) (6) [.ref a0, iI p, iI q] w sIA (fun w' => w.1 ≤ w'.1 ∧ w'.2 = w.2) := by
  refine tx_intro [some (.ref a0), some (iI p), some (iI q), none] rfl (Nat.le_of_ble_eq_true rfl) pn_X6 ?_
  intro X C hT hH hRm hl hne hX
  obtain ⟨hRf, hRl, hRc, hRs⟩ := hRm
  have hls : (xl X).stackTraces = false := by rw [hl]; exact hfl
  refine g_iload_n C dX6_symbol_0 rfl ?_
  refine g_callS C (s_X6_checkThing _ (v := p) hg1) ml_RX6_61 sm_yX6_checkThing in_RX6 co_yX6_checkThing hd_X6_checkThing rfl ⟨by omega, by omega⟩ rfl (Nat.le_of_ble_eq_true rfl) ⟨by omega, by omega⟩ dX6_symbol_1 (fun v1 w1 hp1 => ?_)
  obtain ⟨rfl, hw1⟩ := hp1
  subst w1
  refine g_iload_n C dX6_symbol_4 rfl ?_
  refine g_sipush C dX6_symbol_5 (by decide) ?_
  refine g_sipush C dX6_symbol_8 (by decide) ?_
  by_cases hc11 : (-999 ≤ q ∧ q ≤ 999)
  · refine g_callS C (s_X6_checkRange _ (v := q) (lo := -999) (hi := 999) hc11 (by omega) (by omega)) ml_RX6_82 sm_yX6_checkRange in_RX6 co_yX6_checkRange hd_X6_checkRange rfl ⟨by omega, by omega⟩ rfl (Nat.le_of_ble_eq_true rfl) ⟨by omega, by omega⟩ dX6_symbol_11 (fun v11 w11 hp11 => ?_)
    obtain ⟨rfl, hw11⟩ := hp11
    subst w11
    exact (hbad hc11).elim
  · exact x_callS C hT hH hne hX (x_X6_checkRange _ hls (v := q) (lo := -999) (hi := 999) h_q (by omega) (by omega) hc11) ml_RX6_82 sm_yX6_checkRange in_RX6 co_yX6_checkRange hd_X6_checkRange rfl ⟨by omega, by omega⟩ rfl (Nat.le_of_ble_eq_true rfl) ⟨by omega, by omega⟩ ⟨by omega, by omega⟩ dX6_symbol_11 (fun w' h => h)
set_option maxHeartbeats 4000000 in
set_option maxRecDepth 100000 in
theorem x_X6_inverse_IO (l : Launch) {K : KC} {E : GE} {w : Wd} (hfl : l.stackTraces = false) {a0 : Nat} {p : Int} (h_p : -2147483648 ≤ p ∧ p < 2147483648) {q : Int} (h_q : -2147483648 ≤ q ∧ q < 2147483648)  (hbad : ¬ ((0 ≤ p ∧ p ≤ 2))) : Tx K E l yX6_inverse cX6_inverse 4 (some .int) 7 (1) (6) [.ref a0, iI p, iI q] w sIO (fun w' => w.1 ≤ w'.1 ∧ w'.2 = w.2) := by
  refine tx_intro [some (.ref a0), some (iI p), some (iI q), none] rfl (Nat.le_of_ble_eq_true rfl) pn_X6 ?_
  intro X C hT hH hRm hl hne hX
  obtain ⟨hRf, hRl, hRc, hRs⟩ := hRm
  have hls : (xl X).stackTraces = false := by rw [hl]; exact hfl
  refine g_iload_n C dX6_inverse_0 rfl ?_
  by_cases hc1 : (0 ≤ p ∧ p ≤ 2)
  · refine g_callS C (s_X6_checkThing _ (v := p) hc1) ml_RX6_61 sm_yX6_checkThing in_RX6 co_yX6_checkThing hd_X6_checkThing rfl ⟨by omega, by omega⟩ rfl (Nat.le_of_ble_eq_true rfl) ⟨by omega, by omega⟩ dX6_inverse_1 (fun v1 w1 hp1 => ?_)
    obtain ⟨rfl, hw1⟩ := hp1
    subst w1
    exact (hbad hc1).elim
  · exact x_callS C hT hH hne hX (x_X6_checkThing _ hls (v := p) h_p hc1) ml_RX6_61 sm_yX6_checkThing in_RX6 co_yX6_checkThing hd_X6_checkThing rfl ⟨by omega, by omega⟩ rfl (Nat.le_of_ble_eq_true rfl) ⟨by omega, by omega⟩ ⟨by omega, by omega⟩ dX6_inverse_1 (fun w' h => h)
set_option maxHeartbeats 4000000 in
set_option maxRecDepth 100000 in
theorem x_X6_inverse_IA (l : Launch) {K : KC} {E : GE} {w : Wd} (hfl : l.stackTraces = false) {a0 : Nat} {p : Int} (h_p : -2147483648 ≤ p ∧ p < 2147483648) {q : Int} (h_q : -2147483648 ≤ q ∧ q < 2147483648) (hg1 : (0 ≤ p ∧ p ≤ 2)) (hbad : ¬ ((-999 ≤ q ∧ q ≤ 999))) : Tx K E l yX6_inverse cX6_inverse 4 (some .int) 7 (1) (6) [.ref a0, iI p, iI q] w sIA (fun w' => w.1 ≤ w'.1 ∧ w'.2 = w.2) := by
  refine tx_intro [some (.ref a0), some (iI p), some (iI q), none] rfl (Nat.le_of_ble_eq_true rfl) pn_X6 ?_
  intro X C hT hH hRm hl hne hX
  obtain ⟨hRf, hRl, hRc, hRs⟩ := hRm
  have hls : (xl X).stackTraces = false := by rw [hl]; exact hfl
  refine g_iload_n C dX6_inverse_0 rfl ?_
  refine g_callS C (s_X6_checkThing _ (v := p) hg1) ml_RX6_61 sm_yX6_checkThing in_RX6 co_yX6_checkThing hd_X6_checkThing rfl ⟨by omega, by omega⟩ rfl (Nat.le_of_ble_eq_true rfl) ⟨by omega, by omega⟩ dX6_inverse_1 (fun v1 w1 hp1 => ?_)
  obtain ⟨rfl, hw1⟩ := hp1
  subst w1
  refine g_iload_n C dX6_inverse_4 rfl ?_
  refine g_sipush C dX6_inverse_5 (by decide) ?_
  refine g_sipush C dX6_inverse_8 (by decide) ?_
  by_cases hc11 : (-999 ≤ q ∧ q ≤ 999)
  · refine g_callS C (s_X6_checkRange _ (v := q) (lo := -999) (hi := 999) hc11 (by omega) (by omega)) ml_RX6_82 sm_yX6_checkRange in_RX6 co_yX6_checkRange hd_X6_checkRange rfl ⟨by omega, by omega⟩ rfl (Nat.le_of_ble_eq_true rfl) ⟨by omega, by omega⟩ dX6_inverse_11 (fun v11 w11 hp11 => ?_)
    obtain ⟨rfl, hw11⟩ := hp11
    subst w11
    exact (hbad hc11).elim
  · exact x_callS C hT hH hne hX (x_X6_checkRange _ hls (v := q) (lo := -999) (hi := 999) h_q (by omega) (by omega) hc11) ml_RX6_82 sm_yX6_checkRange in_RX6 co_yX6_checkRange hd_X6_checkRange rfl ⟨by omega, by omega⟩ rfl (Nat.le_of_ble_eq_true rfl) ⟨by omega, by omega⟩ ⟨by omega, by omega⟩ dX6_inverse_11 (fun w' h => h)
set_option maxHeartbeats 4000000 in
set_option maxRecDepth 100000 in
theorem x_X6_isPrime_IA (l : Launch) {K : KC} {E : GE} {w : Wd} (hfl : l.stackTraces = false) {a0 : Nat} {p : Int} (h_p : -2147483648 ≤ p ∧ p < 2147483648)  (hbad : ¬ ((0 ≤ p ∧ p ≤ 999))) : Tx K E l yX6_isPrime cX6_isPrime 2 (some .boolean) 7 (1) (6) [.ref a0, iI p] w sIA (fun w' => w.1 ≤ w'.1 ∧ w'.2 = w.2) := by
  refine tx_intro [some (.ref a0), some (iI p)] rfl (Nat.le_of_ble_eq_true rfl) pn_X6 ?_
  intro X C hT hH hRm hl hne hX
  obtain ⟨hRf, hRl, hRc, hRs⟩ := hRm
  have hls : (xl X).stackTraces = false := by rw [hl]; exact hfl
  refine g_iload_n C dX6_isPrime_0 rfl ?_
  refine g_iconst C dX6_isPrime_1 ?_
  refine g_sipush C dX6_isPrime_2 (by decide) ?_
  by_cases hc5 : (0 ≤ p ∧ p ≤ 999)
  · refine g_callS C (s_X6_checkRange _ (v := p) (lo := 0) (hi := 999) hc5 (by omega) (by omega)) ml_RX6_82 sm_yX6_checkRange in_RX6 co_yX6_checkRange hd_X6_checkRange rfl ⟨by omega, by omega⟩ rfl (Nat.le_of_ble_eq_true rfl) ⟨by omega, by omega⟩ dX6_isPrime_5 (fun v5 w5 hp5 => ?_)
    obtain ⟨rfl, hw5⟩ := hp5
    subst w5
    exact (hbad hc5).elim
  · exact x_callS C hT hH hne hX (x_X6_checkRange _ hls (v := p) (lo := 0) (hi := 999) h_p (by omega) (by omega) hc5) ml_RX6_82 sm_yX6_checkRange in_RX6 co_yX6_checkRange hd_X6_checkRange rfl ⟨by omega, by omega⟩ rfl (Nat.le_of_ble_eq_true rfl) ⟨by omega, by omega⟩ ⟨by omega, by omega⟩ dX6_isPrime_5 (fun w' h => h)
set_option maxHeartbeats 4000000 in
set_option maxRecDepth 100000 in
theorem x_X6_house_IA (l : Launch) {K : KC} {E : GE} {w : Wd} (hfl : l.stackTraces = false) {a0 : Nat} {p : Int} (h_p : -2147483648 ≤ p ∧ p < 2147483648)  (hbad : ¬ ((0 ≤ p ∧ p ≤ 4))) : Tx K E l yX6_house cX6_house 2 (some .int) 7 (1) (6) [.ref a0, iI p] w sIA (fun w' => w.1 ≤ w'.1 ∧ w'.2 = w.2) := by
  refine tx_intro [some (.ref a0), some (iI p)] rfl (Nat.le_of_ble_eq_true rfl) pn_X6 ?_
  intro X C hT hH hRm hl hne hX
  obtain ⟨hRf, hRl, hRc, hRs⟩ := hRm
  have hls : (xl X).stackTraces = false := by rw [hl]; exact hfl
  refine g_iload_n C dX6_house_0 rfl ?_
  refine g_iconst C dX6_house_1 ?_
  refine g_iconst C dX6_house_2 ?_
  by_cases hc3 : (0 ≤ p ∧ p ≤ 4)
  · refine g_callS C (s_X6_checkRange _ (v := p) (lo := 0) (hi := 4) hc3 (by omega) (by omega)) ml_RX6_82 sm_yX6_checkRange in_RX6 co_yX6_checkRange hd_X6_checkRange rfl ⟨by omega, by omega⟩ rfl (Nat.le_of_ble_eq_true rfl) ⟨by omega, by omega⟩ dX6_house_3 (fun v3 w3 hp3 => ?_)
    obtain ⟨rfl, hw3⟩ := hp3
    subst w3
    exact (hbad hc3).elim
  · exact x_callS C hT hH hne hX (x_X6_checkRange _ hls (v := p) (lo := 0) (hi := 4) h_p (by omega) (by omega) hc3) ml_RX6_82 sm_yX6_checkRange in_RX6 co_yX6_checkRange hd_X6_checkRange rfl ⟨by omega, by omega⟩ rfl (Nat.le_of_ble_eq_true rfl) ⟨by omega, by omega⟩ ⟨by omega, by omega⟩ dX6_house_3 (fun w' h => h)
/-! fields of a nest mate -/
theorem g_getN {E X own cc nL ret pc L st w k n} (C : CX E X own cc nL ret) {ci N : Nat} {Cn : String} {T : u_T} (hc : clz[ci]? = some (Cn, T, N)) (hin : ∀ w ∈ u_ws Cn T N, w ∈ GT) (j : Nat) (hj : j < N) {index : Nat} {ref host : String} (fl : va_Nw (.fieldLinkNest own index ref (T j).2.1 (T j).2.2.1 host) (xs X)) (hs : ref = (T j).1)
    {a : Nat} {b : Bool} {fs : List Value} {v : Value} (h : w.2 a = some (b, eO ci fs)) (hv : fs[j]? = some v) (d : decode cc pc = .ok (.getfield index, 3))
    (kk : G E X nL (pc + 3) L (v :: st) w k n) : G E X nL pc L (.ref a :: st) w k n :=
  fun H locs ls h1 h2 h3 => va_getN (ws := [(a, .inr (ci, fs))]) C.ex C.co C.ts hin C.ow C.kt.1 (h1.P h) 0 rfl hc j hj (va_Nw.use rfl fl) (fun x hx => by rw [hs]; exact hx) hv d (kk H locs ls h1 h2 h3)
theorem g_putN {E X own cc nL ret pc L st w k n} (C : CX E X own cc nL ret) {ci N : Nat} {Cn : String} {T : u_T} (hc : clz[ci]? = some (Cn, T, N)) (hin : ∀ w ∈ u_ws Cn T N, w ∈ GT) (ty0 : Nat → FieldType) (hty : ∀ k, k < N → parseFieldDescriptor (T k).2.2.1 = some (ty0 k)) (hnm : ∀ a, a < N → ∀ b, b < N → a ≠ b → (T a).2.1 ≠ (T b).2.1)
    (j : Nat) (hj : j < N) {index : Nat} {ref host : String} (fl : va_Nw (.fieldLinkNest own index ref (T j).2.1 (T j).2.2.1 host) (xs X)) (hs : ref = (T j).1) (hfin : (T j).2.2.2 = false)
    {a : Nat} {fs : List Value} {v : Value} (h : w.2 a = some (true, eO ci fs)) (hl : j < fs.length) (hn : narrow (ty0 j) v = v) (hf : fits (ty0 j) v = true) (d : decode cc pc = .ok (.putfield index, 3))
    (kk : G E X nL (pc + 3) L st (wset w a (true, eO ci (fs.set j v))) k n) : G E X nL pc L (v :: .ref a :: st) w k n := by
  intro H locs ls h1 h2 h3
  have hap := va_apart (own := own) C.ts hin ty0 hty hnm C.kt.1 hc
  obtain ⟨g1, gb⟩ := h1.2 a true _ h
  obtain ⟨r, g2, cell, q1, q2, q3, q4⟩ := g1
  have hr : r = (Cn, T, N) := Option.some.inj (g2.symm.trans hc)
  subst hr
  obtain ⟨hS, hfc, kC, hkC, hkind⟩ := C.kt.1.1 ci _ hc
  obtain ⟨cf, kf, fi, f, hi, hsl⟩ := hS j hj
  have hlay := C.ts _ (hin _ (u_in_lay hj))
  unfold u_lay at hlay
  rw [if_neg (by rw [hfin]; decide)] at hlay
  have hst := (u_facts hfc hkC (u_lays C.ts hin hj) hi).1
  have h6 := u_store hfc hkC hkind hlay hi (hty j hj) hn hf
  refine va_WputK C.ex C.co (f := f) C.ow (va_Nw.use rfl fl) (by rw [hs]; exact hi) hst (by rw [q2]; exact h6) q1 q3 (by rw [hsl]; exact k2_hasslot (q4 j hj)) rfl rfl d fun H' e1 e2 e3 => ?_
  rw [hsl] at e1 ⊢
  exact kk H' _ ls (h1.set ⟨_, hc, t_OB.to (V := updV (vp_V fs) j v) ⟨_, e1, q2, q3, t_set q4 hap hj v⟩ (fun i _ => vp_updV_set hl v i)⟩ (gb rfl) e2 e3) (h2.put e2 e3 (gb rfl)) h3
