/-- all but the fraction's object, rows and numbers stays -/
def KF (τ : Nat → Nat) (w w' : Wd) : Prop := w.1 ≤ w'.1 ∧ ∀ a x, ¬ (104 ≤ τ a ∧ τ a ≤ 109) → ¬ (232 ≤ τ a ∧ τ a < 340) → w.2 a = some x → w'.2 a = some x
/-- all but the numbers of one row stays -/
def KR (τ : Nat → Nat) (o : Nat) (w w' : Wd) : Prop := w.1 ≤ w'.1 ∧ ∀ a x, ¬ (200 + 2 * o ≤ τ a ∧ τ a < 254 + 2 * o) → w.2 a = some x → w'.2 a = some x
theorem KF.rf (τ : Nat → Nat) (w : Wd) : KF τ w w := ⟨Nat.le_refl _, fun _ _ _ _ h => h⟩
theorem KF.tr {τ : Nat → Nat} {w u v : Wd} (h : KF τ w u) (g : KF τ u v) : KF τ w v := ⟨Nat.le_trans h.1 g.1, fun a x q n e => g.2 a x q n (h.2 a x q n e)⟩
theorem KR.rf (τ : Nat → Nat) (o : Nat) (w : Wd) : KR τ o w w := ⟨Nat.le_refl _, fun _ _ _ h => h⟩
theorem KR.tr {τ : Nat → Nat} {o : Nat} {w u v : Wd} (h : KR τ o w u) (g : KR τ o u v) : KR τ o w v := ⟨Nat.le_trans h.1 g.1, fun a x n e => g.2 a x n (h.2 a x n e)⟩
theorem KJ.kr {τ : Nat → Nat} {j o : Nat} {w w' : Wd} (h : KJ τ j w w') (hj : o ≤ j ∧ j < o + 27) : KR τ o w w' := ⟨h.1, fun a x q e => h.2 a x (by omega) (by omega) e⟩
theorem KR.kf {τ : Nat → Nat} {o : Nat} {w w' : Wd} (h : KR τ o w w') (ho : 16 ≤ o ∧ o + 27 ≤ 70) : KF τ w w' := ⟨h.1, fun a x _ q e => h.2 a x (by omega) e⟩
theorem KR.kb {τ : Nat → Nat} {o : Nat} {w w' : Wd} (h : KR τ o w w') : KB τ w w' := ⟨h.1, fun a x q e => h.2 a x (by omega) e⟩
theorem KR.nw {τ ad : Nat → Nat} {o : Nat} {w w' : Wd} (k : KR τ o w w') (h : NS τ ad w') {j : Nat} (hj : j < 70) (hn : j < o ∨ o + 27 ≤ j) {z : Int} (e : NW ad w j z) : NW ad w' j z := e.k (fun x q => k.2 _ _ (by rw [h.to hj]; omega) q) (fun x q => k.2 _ _ (by rw [h.tr hj]; omega) q)
theorem KF.set {τ ad : Nat → Nat} {w : Wd} (h : NS τ ad w) {t : Nat} (ht : 104 ≤ t ∧ t ≤ 109) (e : WdE) : KF τ w (wset w (ad t) e) := ⟨Nat.le_refl _, fun a x n _ q => by rw [wset_n (fun c => n (by rw [c, h.t t (by omega)]; exact ht))]; exact q⟩
theorem FS.kb {τ ad : Nat → Nat} {w w' : Wd} {fb fr : Int} {m d a : Nat → Int} (h : FS ad w fb fr m d a) (k : KB τ w w') (hN : NS τ ad w') : FS ad w' fb fr m d a := by
  obtain ⟨h1, h2, h3, h4, ⟨R, h5, h6⟩, ⟨R2, h7, h8⟩⟩ := h
  exact ⟨k.ob hN (t := 104) (by omega) h1, k.ob hN (t := 105) (by omega) h2, k.ob hN (t := 106) (by omega) h3, k.ob hN (t := 107) (by omega) h4, ⟨R, k.ob hN (t := 108) (by omega) h5, h6⟩, ⟨R2, k.ob hN (t := 109) (by omega) h7, h8⟩⟩
/-- the fraction's numbers -/
def FN (ad : Nat → Nat) (w : Wd) (b r : Int) : Prop := ∀ k, k < 27 → NW ad w (16 + k) (pq b r 1 r k).2 ∧ NW ad w (43 + k) (pq b r 0 1 k).2
theorem row_s {b r x y : Int} {k : Nat} (hk : 1 ≤ k) : (pq b r x y (k + 1)).2 = (pq b r x y k).2 * (cf b r k).2.2 + 0 + (pq b r x y (k - 1)).2 := by
  obtain ⟨n, rfl⟩ : ∃ n, k = n + 1 := ⟨k - 1, by omega⟩
  show (cf b r (n + 1)).2.2 * (pq b r x y n).1 + (pq b r x y n).2 = (pq b r x y n).1 * (cf b r (n + 1)).2.2 + 0 + (pq b r x y n).2
  rw [Int.mul_comm, Int.add_zero]
theorem row_b {b r x y : Int} (hb : GB b) (hr : RT b r) (h0 : 0 ≤ x ∧ x ≤ 1) (h1 : 0 ≤ y ∧ y ≤ 9) {k : Nat} (hk : k ≤ 26) : 0 ≤ (pq b r x y k).2 ∧ (pq b r x y k).2 ≤ 1768453418076865701195582595329481 := by
  rcases Nat.eq_zero_or_pos k with q | q
  · subst q
    show 0 ≤ x ∧ x ≤ _
    omega
  · obtain ⟨n, rfl⟩ : ∃ n, k = n + 1 := ⟨k - 1, by omega⟩
    exact pq_cap hb hr h0 h1 (k := n) (by omega)
theorem row_a {b r x y : Int} (hb : GB b) (hr : RT b r) (h0 : 0 ≤ x ∧ x ≤ 1) (h1 : 0 ≤ y ∧ y ≤ 9) {k : Nat} (hk : k ≤ 26) : aB (pq b r x y k).2 < M125 := by
  have := row_b hb hr h0 h1 hk
  rw [aB_p this.1]
  unfold M125
  omega
theorem mx1 {x : Int} (h : 1 ≤ x) : (if (1 : Int) < x then x else 1) = x := by split <;> omega
theorem FS.sm {τ ad : Nat → Nat} {w : Wd} {fb fr : Int} {m d a : Nat → Int} (h : FS ad w fb fr m d a) (hN : NS τ ad w) (f : Nat → Int) : FS ad (wset w (ad 105) (true, eI 26 f)) fb fr f d a := by
  obtain ⟨h1, h2, h3, h4, ⟨R, h5, h6⟩, ⟨R2, h7, h8⟩⟩ := h
  exact ⟨by rw [wset_n (hN.inj (s := 104) (t := 105) (by omega) (by omega) (by omega))]; exact h1, wset_s, by rw [wset_n (hN.inj (s := 106) (t := 105) (by omega) (by omega) (by omega))]; exact h3, by rw [wset_n (hN.inj (s := 107) (t := 105) (by omega) (by omega) (by omega))]; exact h4, ⟨R, by rw [wset_n (hN.inj (s := 108) (t := 105) (by omega) (by omega) (by omega))]; exact h5, h6⟩, ⟨R2, by rw [wset_n (hN.inj (s := 109) (t := 105) (by omega) (by omega) (by omega))]; exact h7, h8⟩⟩
theorem FS.sd {τ ad : Nat → Nat} {w : Wd} {fb fr : Int} {m d a : Nat → Int} (h : FS ad w fb fr m d a) (hN : NS τ ad w) (f : Nat → Int) : FS ad (wset w (ad 106) (true, eI 26 f)) fb fr m f a := by
  obtain ⟨h1, h2, h3, h4, ⟨R, h5, h6⟩, ⟨R2, h7, h8⟩⟩ := h
  exact ⟨by rw [wset_n (hN.inj (s := 104) (t := 106) (by omega) (by omega) (by omega))]; exact h1, by rw [wset_n (hN.inj (s := 105) (t := 106) (by omega) (by omega) (by omega))]; exact h2, wset_s, by rw [wset_n (hN.inj (s := 107) (t := 106) (by omega) (by omega) (by omega))]; exact h4, ⟨R, by rw [wset_n (hN.inj (s := 108) (t := 106) (by omega) (by omega) (by omega))]; exact h5, h6⟩, ⟨R2, by rw [wset_n (hN.inj (s := 109) (t := 106) (by omega) (by omega) (by omega))]; exact h7, h8⟩⟩
theorem FS.sa {τ ad : Nat → Nat} {w : Wd} {fb fr : Int} {m d a : Nat → Int} (h : FS ad w fb fr m d a) (hN : NS τ ad w) (f : Nat → Int) : FS ad (wset w (ad 107) (true, eI 26 f)) fb fr m d f := by
  obtain ⟨h1, h2, h3, h4, ⟨R, h5, h6⟩, ⟨R2, h7, h8⟩⟩ := h
  exact ⟨by rw [wset_n (hN.inj (s := 104) (t := 107) (by omega) (by omega) (by omega))]; exact h1, by rw [wset_n (hN.inj (s := 105) (t := 107) (by omega) (by omega) (by omega))]; exact h2, by rw [wset_n (hN.inj (s := 106) (t := 107) (by omega) (by omega) (by omega))]; exact h3, wset_s, ⟨R, by rw [wset_n (hN.inj (s := 108) (t := 107) (by omega) (by omega) (by omega))]; exact h5, h6⟩, ⟨R2, by rw [wset_n (hN.inj (s := 109) (t := 107) (by omega) (by omega) (by omega))]; exact h7, h8⟩⟩
theorem FS.so {τ ad : Nat → Nat} {w : Wd} {fb fr : Int} {m d a : Nat → Int} (h : FS ad w fb fr m d a) (hN : NS τ ad w) (b r : Int) : FS ad (wset w (ad 104) (true, eO 3 [iI b, iI r, .ref (ad 105), .ref (ad 106), .ref (ad 107), .ref (ad 108), .ref (ad 109)])) b r m d a := by
  obtain ⟨h1, h2, h3, h4, ⟨R, h5, h6⟩, ⟨R2, h7, h8⟩⟩ := h
  exact ⟨wset_s, by rw [wset_n (hN.inj (s := 105) (t := 104) (by omega) (by omega) (by omega))]; exact h2, by rw [wset_n (hN.inj (s := 106) (t := 104) (by omega) (by omega) (by omega))]; exact h3, by rw [wset_n (hN.inj (s := 107) (t := 104) (by omega) (by omega) (by omega))]; exact h4, ⟨R, by rw [wset_n (hN.inj (s := 108) (t := 104) (by omega) (by omega) (by omega))]; exact h5, h6⟩, ⟨R2, by rw [wset_n (hN.inj (s := 109) (t := 104) (by omega) (by omega) (by omega))]; exact h7, h8⟩⟩
set_option maxHeartbeats 4000000 in
set_option maxRecDepth 100000 in
theorem s_X1_fillParts (l : Launch) {E : GE} {w : Wd} {τ ad : Nat → Nat} (hN0 : NS τ ad w) {fb fr : Int} {m d a : Nat → Int} (hF : FS ad w fb fr m d a) (hb : GB fb) (hr : RT fb fr) : Sp E l yX1_fillParts cX1_fillParts 2 none 1 (0) (0) [.ref (ad 104)] w (fun r' w' => r' = none ∧ ∃ m' d' a', FS ad w' fb fr m' d' a' ∧ FV fb fr m' d' a' ∧ NS τ ad w' ∧ KF τ w w') := by
  refine sp_intro [some (.ref (ad 104)), none] rfl (Nat.le_of_ble_eq_true rfl) pn_X1 ?_
  intro X C hRm hl hnm hQ
  obtain ⟨hRf, hRl, hRc, hRs⟩ := hRm
  refine g_wf (fun hwf => ?_)
  refine g_aload_n C dX1_fillParts_0 rfl ?_
  refine g_get (ci := 3) C rfl inTX1 2 (by decide) fl_RX1_11 rfl hF.1 rfl dX1_fillParts_1 ?_
  refine g_iconst C dX1_fillParts_4 ?_
  refine g_iconst C dX1_fillParts_5 ?_
  refine g_iastoreN (0) C hF.2.1 (by omega) (by omega) dX1_fillParts_6 ?_
  obtain ⟨u1, hu1⟩ : ∃ u1, u1 = wset w (ad 105) (true, eI 26 (iup m 0 0)) := ⟨_, rfl⟩
  refine g_eqw (w' := u1) hu1.symm ?_
  have Fu1 := hF.sm hN0 (iup m 0 0)
  have Nu1 := hN0.wst (t := 105) (by omega) (true, eI 26 (iup m 0 0))
  have Ku1 := (KF.rf τ w).tr (KF.set hN0 (t := 105) (by omega) (true, eI 26 (iup m 0 0)))
  rw [← hu1] at Fu1 Nu1 Ku1
  refine g_aload_n C dX1_fillParts_7 rfl ?_
  refine g_get (ci := 3) C rfl inTX1 3 (by decide) fl_RX1_15 rfl Fu1.1 rfl dX1_fillParts_8 ?_
  refine g_iconst C dX1_fillParts_11 ?_
  refine g_iconst C dX1_fillParts_12 ?_
  refine g_iastoreN (0) C Fu1.2.2.1 (by omega) (by omega) dX1_fillParts_13 ?_
  obtain ⟨u2, hu2⟩ : ∃ u2, u2 = wset u1 (ad 106) (true, eI 26 (iup d 0 1)) := ⟨_, rfl⟩
  refine g_eqw (w' := u2) hu2.symm ?_
  have Fu2 := Fu1.sd Nu1 (iup d 0 1)
  have Nu2 := Nu1.wst (t := 106) (by omega) (true, eI 26 (iup d 0 1))
  have Ku2 := Ku1.tr (KF.set Nu1 (t := 106) (by omega) (true, eI 26 (iup d 0 1)))
  rw [← hu2] at Fu2 Nu2 Ku2
  refine g_aload_n C dX1_fillParts_14 rfl ?_
  refine g_get (ci := 3) C rfl inTX1 4 (by decide) fl_RX1_18 rfl Fu2.1 rfl dX1_fillParts_15 ?_
  refine g_iconst C dX1_fillParts_18 ?_
  refine g_aload_n C dX1_fillParts_19 rfl ?_
  refine g_get (ci := 3) C rfl inTX1 1 (by decide) fl_RX1_39 rfl Fu2.1 rfl dX1_fillParts_20 ?_
  refine g_iastoreN (0) C Fu2.2.2.2.1 (by omega) (by omega) dX1_fillParts_23 ?_
  obtain ⟨u3, hu3⟩ : ∃ u3, u3 = wset u2 (ad 107) (true, eI 26 (iup a 0 fr)) := ⟨_, rfl⟩
  refine g_eqw (w' := u3) hu3.symm ?_
  have Fu3 := Fu2.sa Nu2 (iup a 0 fr)
  have Nu3 := Nu2.wst (t := 107) (by omega) (true, eI 26 (iup a 0 fr))
  have Ku3 := Ku2.tr (KF.set Nu2 (t := 107) (by omega) (true, eI 26 (iup a 0 fr)))
  rw [← hu3] at Fu3 Nu3 Ku3
  refine g_iconst C dX1_fillParts_24 ?_
  refine g_istore_n C dX1_fillParts_25 (by decide) rfl ?_
  refine g_loop (σ := Nat × Wd × (Nat → Int) × (Nat → Int) × (Nat → Int)) (fun s => s.1 ≤ 25 ∧ FS ad s.2.1 fb fr s.2.2.1 s.2.2.2.1 s.2.2.2.2 ∧ NS τ ad s.2.1 ∧ KF τ w s.2.1 ∧ ∀ i, i ≤ s.1 → s.2.2.1 i = (cf fb fr i).1 ∧ s.2.2.2.1 i = (cf fb fr i).2.1 ∧ s.2.2.2.2 i = (cf fb fr i).2.2) (fun s => G E X 2 26 [some (.ref (ad 104)), some (iI (((s.1) + 1 : Nat) : Int))] [] s.2.1 0 0) (fun s => 25 - s.1) ?_ (0, u3, iup m 0 0, iup d 0 1, iup a 0 fr) ⟨by dsimp only; omega, Fu3, Nu3, Ku3, fun i hi => by
    dsimp only at hi
    have : i = 0 := by omega
    subst this
    exact ⟨rfl, rfl, rfl⟩⟩
  clear hF Fu1 Fu2 Fu3 Nu1 Nu2 Nu3 Ku1 Ku2 Ku3
  rintro ⟨j, u, m, d, a⟩ hq ih
  obtain ⟨hj, hF, hN, hK, hv⟩ := hq
  dsimp only at hj hF hN hK hv ⊢
  refine g_iload_n C dX1_fillParts_26 rfl ?_
  refine g_bipush C dX1_fillParts_27 (by decide) ?_
  refine g_icmp_gt (tgt := 135) C dX1_fillParts_29 (by decide) (by omega) (by omega) (fun h29 => ?_) (fun h29 => ?_)
  · exact g_return C hQ dX1_fillParts_135 (Nat.le_refl _) (Nat.le_refl _) ⟨rfl, m, d, a, hF, ⟨hb, hr, fun k hk => hv k (by omega)⟩, hN, hK⟩
  · have e0 := (hv j (Nat.le_refl _)).1
    have e1 := (hv j (Nat.le_refl _)).2.1
    have e2 := (hv j (Nat.le_refl _)).2.2
    have c0 := cf_good hb hr (k := j) (by omega)
    have c1 := cf_good hb hr (k := j + 1) (by omega)
    have s0 : (cf fb fr (j + 1)).1 = d j * a j - m j := by rw [e0, e1, e2]; rfl
    have s1' : (cf fb fr (j + 1)).2.1 = (fb - (cf fb fr (j + 1)).1 * (cf fb fr (j + 1)).1) / d j := by rw [e1]; rfl
    have s2' : (cf fb fr (j + 1)).2.2 = (fr + (cf fb fr (j + 1)).1) / (cf fb fr (j + 1)).2.1 := rfl
    generalize hp : cf fb fr (j + 1) = p at c1 s0 s1' s2'
    obtain ⟨pm, pd, pa⟩ := p
    dsimp only at c1 s0 s1' s2'
    have hb1 := hb.1
    have hb2 := hb.2.1
    have hr9 := RT_le hb hr
    have hsq : 0 ≤ pm * pm := Int.mul_nonneg c1.1 c1.1
    have hsq2 : pm * pm ≤ fr * fr := Int.mul_le_mul c1.2.1 c1.2.1 c1.1 hr.1
    have hsq3 := hr.2.1
    have hj1 : ((j + 1 : Nat) : Int) - 1 = (j : Int) := by omega
    refine g_aload_n C dX1_fillParts_32 rfl ?_
    refine g_get (ci := 3) C rfl inTX1 2 (by decide) fl_RX1_11 rfl hF.1 rfl dX1_fillParts_33 ?_
    refine g_iload_n C dX1_fillParts_36 rfl ?_
    refine g_aload_n C dX1_fillParts_37 rfl ?_
    refine g_get (ci := 3) C rfl inTX1 3 (by decide) fl_RX1_15 rfl hF.1 rfl dX1_fillParts_38 ?_
    refine g_iload_n C dX1_fillParts_41 rfl ?_
    refine g_iconst C dX1_fillParts_42 ?_
    refine g_isub C dX1_fillParts_43 ?_
    rw [hj1]
    refine g_ialoadN (j) C hF.2.2.1 (by omega) (by omega) dX1_fillParts_44 ?_
    refine g_aload_n C dX1_fillParts_45 rfl ?_
    refine g_get (ci := 3) C rfl inTX1 4 (by decide) fl_RX1_18 rfl hF.1 rfl dX1_fillParts_46 ?_
    refine g_iload_n C dX1_fillParts_49 rfl ?_
    refine g_iconst C dX1_fillParts_50 ?_
    refine g_isub C dX1_fillParts_51 ?_
    rw [hj1]
    refine g_ialoadN (j) C hF.2.2.2.1 (by omega) (by omega) dX1_fillParts_52 ?_
    refine g_imul C dX1_fillParts_53 ?_
    refine g_aload_n C dX1_fillParts_54 rfl ?_
    refine g_get (ci := 3) C rfl inTX1 2 (by decide) fl_RX1_11 rfl hF.1 rfl dX1_fillParts_55 ?_
    refine g_iload_n C dX1_fillParts_58 rfl ?_
    refine g_iconst C dX1_fillParts_59 ?_
    refine g_isub C dX1_fillParts_60 ?_
    rw [hj1]
    refine g_ialoadN (j) C hF.2.1 (by omega) (by omega) dX1_fillParts_61 ?_
    refine g_isub C dX1_fillParts_62 ?_
    rw [← s0]
    refine g_iastoreN (j + 1) C hF.2.1 (by omega) (by omega) dX1_fillParts_63 ?_
    obtain ⟨u4, hu4⟩ : ∃ u4, u4 = wset u (ad 105) (true, eI 26 (iup m (j + 1) pm)) := ⟨_, rfl⟩
    refine g_eqw (w' := u4) hu4.symm ?_
    have Fu4 := hF.sm hN (iup m (j + 1) pm)
    have Nu4 := hN.wst (t := 105) (by omega) (true, eI 26 (iup m (j + 1) pm))
    have Ku4 := hK.tr (KF.set hN (t := 105) (by omega) (true, eI 26 (iup m (j + 1) pm)))
    rw [← hu4] at Fu4 Nu4 Ku4
    refine g_aload_n C dX1_fillParts_64 rfl ?_
    refine g_get (ci := 3) C rfl inTX1 3 (by decide) fl_RX1_15 rfl Fu4.1 rfl dX1_fillParts_65 ?_
    refine g_iload_n C dX1_fillParts_68 rfl ?_
    refine g_aload_n C dX1_fillParts_69 rfl ?_
    refine g_get (ci := 3) C rfl inTX1 0 (by decide) fl_RX1_31 rfl Fu4.1 rfl dX1_fillParts_70 ?_
    refine g_aload_n C dX1_fillParts_73 rfl ?_
    refine g_get (ci := 3) C rfl inTX1 2 (by decide) fl_RX1_11 rfl Fu4.1 rfl dX1_fillParts_74 ?_
    refine g_iload_n C dX1_fillParts_77 rfl ?_
    refine g_ialoadN (j + 1) C Fu4.2.1 (by omega) (by omega) dX1_fillParts_78 ?_
    rw [iup_s]
    refine g_aload_n C dX1_fillParts_79 rfl ?_
    refine g_get (ci := 3) C rfl inTX1 2 (by decide) fl_RX1_11 rfl Fu4.1 rfl dX1_fillParts_80 ?_
    refine g_iload_n C dX1_fillParts_83 rfl ?_
    refine g_ialoadN (j + 1) C Fu4.2.1 (by omega) (by omega) dX1_fillParts_84 ?_
    rw [iup_s]
    refine g_imul C dX1_fillParts_85 ?_
    refine g_isub C dX1_fillParts_86 ?_
    refine g_iconst C dX1_fillParts_87 ?_
    refine g_aload_n C dX1_fillParts_88 rfl ?_
    refine g_get (ci := 3) C rfl inTX1 3 (by decide) fl_RX1_15 rfl Fu4.1 rfl dX1_fillParts_89 ?_
    refine g_iload_n C dX1_fillParts_92 rfl ?_
    refine g_iconst C dX1_fillParts_93 ?_
    refine g_isub C dX1_fillParts_94 ?_
    rw [hj1]
    refine g_ialoadN (j) C Fu4.2.2.1 (by omega) (by omega) dX1_fillParts_95 ?_
    refine g_max C ml_RX1_49 (by omega) (by omega) (by omega) (by omega) (Nat.le_of_ble_eq_true rfl) (by omega) dX1_fillParts_96 ?_
    rw [mx1 (by omega)]
    refine g_idivN C dX1_fillParts_99 (by omega) (by omega) ?_
    rw [← s1']
    refine g_iastoreN (j + 1) C Fu4.2.2.1 (by omega) (by omega) dX1_fillParts_100 ?_
    obtain ⟨u5, hu5⟩ : ∃ u5, u5 = wset u4 (ad 106) (true, eI 26 (iup d (j + 1) pd)) := ⟨_, rfl⟩
    refine g_eqw (w' := u5) hu5.symm ?_
    have Fu5 := Fu4.sd Nu4 (iup d (j + 1) pd)
    have Nu5 := Nu4.wst (t := 106) (by omega) (true, eI 26 (iup d (j + 1) pd))
    have Ku5 := Ku4.tr (KF.set Nu4 (t := 106) (by omega) (true, eI 26 (iup d (j + 1) pd)))
    rw [← hu5] at Fu5 Nu5 Ku5
    refine g_aload_n C dX1_fillParts_101 rfl ?_
    refine g_get (ci := 3) C rfl inTX1 4 (by decide) fl_RX1_18 rfl Fu5.1 rfl dX1_fillParts_102 ?_
    refine g_iload_n C dX1_fillParts_105 rfl ?_
    refine g_aload_n C dX1_fillParts_106 rfl ?_
    refine g_get (ci := 3) C rfl inTX1 1 (by decide) fl_RX1_39 rfl Fu5.1 rfl dX1_fillParts_107 ?_
    refine g_aload_n C dX1_fillParts_110 rfl ?_
    refine g_get (ci := 3) C rfl inTX1 2 (by decide) fl_RX1_11 rfl Fu5.1 rfl dX1_fillParts_111 ?_
    refine g_iload_n C dX1_fillParts_114 rfl ?_
    refine g_ialoadN (j + 1) C Fu5.2.1 (by omega) (by omega) dX1_fillParts_115 ?_
    rw [iup_s]
    refine g_iadd C dX1_fillParts_116 ?_
    refine g_iconst C dX1_fillParts_117 ?_
    refine g_aload_n C dX1_fillParts_118 rfl ?_
    refine g_get (ci := 3) C rfl inTX1 3 (by decide) fl_RX1_15 rfl Fu5.1 rfl dX1_fillParts_119 ?_
    refine g_iload_n C dX1_fillParts_122 rfl ?_
    refine g_ialoadN (j + 1) C Fu5.2.2.1 (by omega) (by omega) dX1_fillParts_123 ?_
    rw [iup_s]
    refine g_max C ml_RX1_49 (by omega) (by omega) (by omega) (by omega) (Nat.le_of_ble_eq_true rfl) (by omega) dX1_fillParts_124 ?_
    rw [mx1 (by omega)]
    refine g_idivN C dX1_fillParts_127 (by omega) (by omega) ?_
    rw [← s2']
    refine g_iastoreN (j + 1) C Fu5.2.2.2.1 (by omega) (by omega) dX1_fillParts_128 ?_
    obtain ⟨u6, hu6⟩ : ∃ u6, u6 = wset u5 (ad 107) (true, eI 26 (iup a (j + 1) pa)) := ⟨_, rfl⟩
    refine g_eqw (w' := u6) hu6.symm ?_
    have Fu6 := Fu5.sa Nu5 (iup a (j + 1) pa)
    have Nu6 := Nu5.wst (t := 107) (by omega) (true, eI 26 (iup a (j + 1) pa))
    have Ku6 := Ku5.tr (KF.set Nu5 (t := 107) (by omega) (true, eI 26 (iup a (j + 1) pa)))
    rw [← hu6] at Fu6 Nu6 Ku6
    refine g_iinc C dX1_fillParts_129 rfl (by decide) rfl ?_
    refine g_goto (tgt := 26) C dX1_fillParts_132 (by decide) ?_
    rw [show ((j + 1 : Nat) : Int) + 1 = ((j + 1 + 1 : Nat) : Int) by omega]
    exact ih (j + 1, u6, iup m (j + 1) pm, iup d (j + 1) pd, iup a (j + 1) pa) ⟨by dsimp only; omega, Fu6, Nu6, Ku6, fun i hi => by
      dsimp only at hi ⊢
      by_cases q : i = j + 1
      · rw [q, iup_s, iup_s, iup_s, hp]; exact ⟨rfl, rfl, rfl⟩
      · rw [iup_n q, iup_n q, iup_n q]; exact hv i (by omega)⟩ (by dsimp only; omega)
set_option maxHeartbeats 4000000 in
set_option maxRecDepth 100000 in
theorem s_X1_fillRow (l : Launch) {E : GE} {w : Wd} {τ ad : Nat → Nat} (hN0 : NS τ ad w) {fb fr : Int} {m d a : Nat → Int} (hF : FS ad w fb fr m d a) (hV : FV fb fr m d a) {t o : Nat} (ht : t = 108 ∨ t = 109) (ho : 16 ≤ o ∧ o + 27 ≤ 70) {R : Nat → Option Nat} (hR : w.2 (ad t) = some (true, eR 6 27 R)) (hRk : ∀ k, k < 27 → R k = some (wo ad (o + k))) {x y : Int} (hx : 0 ≤ x ∧ x ≤ 1) (hy : 0 ≤ y ∧ y ≤ 9) : Sp E l yX1_fillRow cX1_fillRow 5 none 3 (0) (0) [.ref (ad 104), .ref (ad t), iI x, iI y] w (fun r' w' => r' = none ∧ NS τ ad w' ∧ KR τ o w w' ∧ ∀ i, i < 27 → NW ad w' (o + i) (pq fb fr x y i).2) := by
  refine sp_intro [some (.ref (ad 104)), some (.ref (ad t)), some (iI x), some (iI y), none] rfl (Nat.le_of_ble_eq_true rfl) pn_X1 ?_
  intro X C hRm hl hnm hQ
  obtain ⟨hRf, hRl, hRc, hRs⟩ := hRm
  refine g_wf (fun hwf => ?_)
  have hN := hN0
  have hK : KB τ w w := KB.rf _ _
  have hR9 : KR τ o w w := KR.rf _ _ _
  refine g_aload_n C dX1_fillRow_0 rfl ?_
  refine g_iconst C dX1_fillRow_1 ?_
  refine g_aaloadN (0) C rfl rfl (hK.ob hN (t := t) (by omega) hR) (by omega) (by omega) (hRk (0) (by omega)) dX1_fillRow_2 ?_
  refine g_iload_n C dX1_fillRow_3 rfl ?_
  refine g_i2l C dX1_fillRow_4 (by omega) ?_
  refine g_callV C (v_X5_setNumber _ (hN.W (j := (o + 0)) (by omega)) (x := x) (by omega)) (ci := 7) rfl (hN.W (j := (o + 0)) (by omega)).o rfl ml_RX1_55 im_yX5_setNumber se_RX5_yX5_setNumber in_RX5 co_yX5_setNumber hd_X5_setNumber rfl ⟨by omega, by omega⟩ rfl (Nat.le_of_ble_eq_true rfl) ⟨by omega, by omega⟩ dX1_fillRow_5 (fun v5 w5 hp5 => ?_)
  obtain ⟨rfl, hws5, hfr5⟩ := hp5
  obtain ⟨hN5, v5w, hkj5⟩ := hN.stepV (j := (o + 0)) (by omega) hws5 hfr5
  have hm5 := fun (i : Nat) (z : Int) (h1 : i < 70) (h2 : i ≠ (o + 0)) (h3 : NW ad _ i z) => hkj5.nw hN h1 h2 h3
  replace hK := hK.tr hkj5.kb
  replace hR9 := hR9.tr (hkj5.kr (o := o) (by omega))
  replace hN := hN5
  have g0 := v5w
  refine g_aload_n C dX1_fillRow_8 rfl ?_
  refine g_iconst C dX1_fillRow_9 ?_
  refine g_aaloadN (1) C rfl rfl (hK.ob hN (t := t) (by omega) hR) (by omega) (by omega) (hRk (1) (by omega)) dX1_fillRow_10 ?_
  refine g_iload_n C dX1_fillRow_11 rfl ?_
  refine g_i2l C dX1_fillRow_12 (by omega) ?_
  refine g_callV C (v_X5_setNumber _ (hN.W (j := (o + 1)) (by omega)) (x := y) (by omega)) (ci := 7) rfl (hN.W (j := (o + 1)) (by omega)).o rfl ml_RX1_55 im_yX5_setNumber se_RX5_yX5_setNumber in_RX5 co_yX5_setNumber hd_X5_setNumber rfl ⟨by omega, by omega⟩ rfl (Nat.le_of_ble_eq_true rfl) ⟨by omega, by omega⟩ dX1_fillRow_13 (fun v13 w13 hp13 => ?_)
  obtain ⟨rfl, hws13, hfr13⟩ := hp13
  obtain ⟨hN13, v13w, hkj13⟩ := hN.stepV (j := (o + 1)) (by omega) hws13 hfr13
  have hm13 := fun (i : Nat) (z : Int) (h1 : i < 70) (h2 : i ≠ (o + 1)) (h3 : NW ad _ i z) => hkj13.nw hN h1 h2 h3
  replace hK := hK.tr hkj13.kb
  replace hR9 := hR9.tr (hkj13.kr (o := o) (by omega))
  replace hN := hN13
  have g1 := v13w
  refine g_iconst C dX1_fillRow_16 ?_
  refine g_istore C dX1_fillRow_17 (by decide) rfl ?_
  clear hN0
  refine g_loop (σ := Nat × Wd) (fun s => 1 ≤ s.1 ∧ s.1 ≤ 26 ∧ NS τ ad s.2 ∧ KB τ w s.2 ∧ KR τ o w s.2 ∧ ∀ i, i ≤ s.1 → NW ad s.2 (o + i) (pq fb fr x y i).2) (fun s => G E X 5 19 [some (.ref (ad 104)), some (.ref (ad t)), some (iI x), some (iI y), some (iI (s.1 : Int))] [] s.2 0 0) (fun s => 26 - s.1) ?_ (1, w13) ⟨by dsimp only; omega, by dsimp only; omega, hN, hK, hR9, fun i hi => by
    dsimp only at hi
    rcases (show i = 0 ∨ i = 1 by omega) with q | q
    · subst q; exact hm13 _ _ (by omega) (by omega) g0
    · subst q; exact g1⟩
  clear hN hK hR9 hm5 hm13 g0 g1
  rintro ⟨k, u⟩ hq ih
  obtain ⟨hk1, hk2, hN, hK, hR9, hall⟩ := hq
  dsimp only at hk1 hk2 hN hK hR9 hall ⊢
  have hkk : (k : Int) + 1 = ((k + 1 : Nat) : Int) := by omega
  refine g_iload C dX1_fillRow_19 rfl ?_
  refine g_bipush C dX1_fillRow_21 (by decide) ?_
  refine g_icmp_gt (tgt := 86) C dX1_fillRow_23 (by decide) (by omega) (by omega) (fun h23 => ?_) (fun h23 => ?_)
  · exact g_return C hQ dX1_fillRow_86 (Nat.le_refl _) (Nat.le_refl _) ⟨rfl, hN, hR9, fun i hi => hall i (by omega)⟩
  · refine g_iload C dX1_fillRow_26 rfl ?_
    refine g_iconst C dX1_fillRow_28 ?_
    refine g_iadd C dX1_fillRow_29 ?_
    rw [hkk]
    refine g_aload_n C dX1_fillRow_30 rfl ?_
    refine g_alen C (hK.ob hN (t := t) (by omega) hR) (Or.inr (Or.inr ⟨_, _, _, rfl, rfl⟩)) dX1_fillRow_31 ?_
    refine g_icmp_ge (tgt := 86) C dX1_fillRow_32 (by decide) (by omega) (by omega) (fun h32 => ?_) (fun h32 => ?_)
    · exact g_return C hQ dX1_fillRow_86 (Nat.le_refl _) (Nat.le_refl _) ⟨rfl, hN, hR9, fun i hi => hall i (by omega)⟩
    · have hak := hV.2.2 k (by omega)
      have hcg := cf_good hV.1 hV.2.1 (k := k) (by omega)
      have hr9 := RT_le hV.1 hV.2.1
      have hb0 := row_b hV.1 hV.2.1 hx hy (k := k) (by omega)
      have hb1 := row_b hV.1 hV.2.1 hx hy (k := k - 1) (by omega)
      have hmb : 0 ≤ (pq fb fr x y k).2 * (cf fb fr k).2.2 ∧ (pq fb fr x y k).2 * (cf fb fr k).2.2 ≤ 1768453418076865701195582595329481 * 18 := ⟨Int.mul_nonneg hb0.1 (by omega), Int.mul_le_mul hb0.2 (by omega) (by omega) (by decide)⟩
      have h18 := B18
      refine g_aload_n C dX1_fillRow_35 rfl ?_
      refine g_iload C dX1_fillRow_36 rfl ?_
      refine g_iconst C dX1_fillRow_38 ?_
      refine g_iadd C dX1_fillRow_39 ?_
      rw [hkk]
      refine g_aaloadN (k + 1) C rfl rfl (hK.ob hN (t := t) (by omega) hR) (by omega) (by omega) (hRk (k + 1) (by omega)) dX1_fillRow_40 ?_
      refine g_aload_n C dX1_fillRow_41 rfl ?_
      refine g_iload C dX1_fillRow_42 rfl ?_
      refine g_aaloadN (k) C rfl rfl (hK.ob hN (t := t) (by omega) hR) (by omega) (by omega) (hRk (k) (by omega)) dX1_fillRow_44 ?_
      refine g_callV C (v_X5_setWhole _ (hN.W (j := (o + (k + 1))) (by omega)) (hall k (Nat.le_refl _)) (hN.ne (j := (o + (k + 1))) (k := (o + k)) (by omega) (by omega) (by omega))) (ci := 7) rfl (hN.W (j := (o + (k + 1))) (by omega)).o rfl ml_RX1_59 im_yX5_setWhole se_RX5_yX5_setWhole in_RX5 co_yX5_setWhole hd_X5_setWhole rfl ⟨by omega, by omega⟩ rfl (Nat.le_of_ble_eq_true rfl) ⟨by omega, by omega⟩ dX1_fillRow_45 (fun v45 w45 hp45 => ?_)
      obtain ⟨rfl, hws45, hfr45⟩ := hp45
      obtain ⟨hN45, v45w, hkj45⟩ := hN.stepV (j := (o + (k + 1))) (by omega) hws45 hfr45
      have hm45 := fun (i : Nat) (z : Int) (h1 : i < 70) (h2 : i ≠ (o + (k + 1))) (h3 : NW ad _ i z) => hkj45.nw hN h1 h2 h3
      replace hK := hK.tr hkj45.kb
      replace hR9 := hR9.tr (hkj45.kr (o := o) (by omega))
      replace hN := hN45
      have g45 := v45w
      refine g_aload_n C dX1_fillRow_48 rfl ?_
      refine g_iload C dX1_fillRow_49 rfl ?_
      refine g_iconst C dX1_fillRow_51 ?_
      refine g_iadd C dX1_fillRow_52 ?_
      rw [hkk]
      refine g_aaloadN (k + 1) C rfl rfl (hK.ob hN (t := t) (by omega) hR) (by omega) (by omega) (hRk (k + 1) (by omega)) dX1_fillRow_53 ?_
      refine g_aload_n C dX1_fillRow_54 rfl ?_
      refine g_get (ci := 3) C rfl inTX1 4 (by decide) fl_RX1_18 rfl (hK.ob hN (t := 104) (by omega) hF.1) rfl dX1_fillRow_55 ?_
      refine g_iload C dX1_fillRow_58 rfl ?_
      refine g_ialoadN (k) C (hK.ob hN (t := 107) (by omega) hF.2.2.2.1) (by omega) (by omega) dX1_fillRow_60 ?_
      rw [hak.2.2]
      refine g_iconst C dX1_fillRow_61 ?_
      refine g_callV C (u_X5_multiplySmall _ g45 (by_ := (cf fb fr k).2.2) (mo := 0) (by omega) (by omega) (Or.inr rfl) (by rw [aB_p hb0.1]; omega)) (ci := 7) rfl (hN.W (j := (o + (k + 1))) (by omega)).o rfl ml_RX1_63 im_yX5_multiplySmall se_RX5_yX5_multiplySmall in_RX5 co_yX5_multiplySmall hd_X5_multiplySmall rfl ⟨by omega, by omega⟩ rfl (Nat.le_of_ble_eq_true rfl) ⟨by omega, by omega⟩ dX1_fillRow_62 (fun v62 w62 hp62 => ?_)
      obtain ⟨rfl, hws62, hfr62⟩ := hp62
      obtain ⟨hN62, v62w, hkj62⟩ := hN.stepV (j := (o + (k + 1))) (by omega) hws62 hfr62
      have hm62 := fun (i : Nat) (z : Int) (h1 : i < 70) (h2 : i ≠ (o + (k + 1))) (h3 : NW ad _ i z) => hkj62.nw hN h1 h2 h3
      replace hK := hK.tr hkj62.kb
      replace hR9 := hR9.tr (hkj62.kr (o := o) (by omega))
      replace hN := hN62
      have g62 := v62w
      refine g_aload_n C dX1_fillRow_65 rfl ?_
      refine g_iload C dX1_fillRow_66 rfl ?_
      refine g_iconst C dX1_fillRow_68 ?_
      refine g_iadd C dX1_fillRow_69 ?_
      rw [hkk]
      refine g_aaloadN (k + 1) C rfl rfl (hK.ob hN (t := t) (by omega) hR) (by omega) (by omega) (hRk (k + 1) (by omega)) dX1_fillRow_70 ?_
      refine g_aload_n C dX1_fillRow_71 rfl ?_
      refine g_iload C dX1_fillRow_72 rfl ?_
      refine g_iconst C dX1_fillRow_74 ?_
      refine g_isub C dX1_fillRow_75 ?_
      rw [show (k : Int) - 1 = ((k - 1 : Nat) : Int) by omega]
      refine g_aaloadN (k - 1) C rfl rfl (hK.ob hN (t := t) (by omega) hR) (by omega) (by omega) (hRk (k - 1) (by omega)) dX1_fillRow_76 ?_
      refine g_callV C (u_X5_addSize _ g62 (hm62 _ _ (by omega) (by omega) (hm45 _ _ (by omega) (by omega) (hall (k - 1) (by omega)))) (hN.ne (j := (o + (k + 1))) (k := (o + (k - 1))) (by omega) (by omega) (by omega)) (by omega) hb1.1 (by omega)) (ci := 7) rfl (hN.W (j := (o + (k + 1))) (by omega)).o rfl ml_RX1_67 im_yX5_addSize se_RX5_yX5_addSize in_RX5 co_yX5_addSize hd_X5_addSize rfl ⟨by omega, by omega⟩ rfl (Nat.le_of_ble_eq_true rfl) ⟨by omega, by omega⟩ dX1_fillRow_77 (fun v77 w77 hp77 => ?_)
      obtain ⟨rfl, hws77, hfr77⟩ := hp77
      obtain ⟨hN77, v77w, hkj77⟩ := hN.stepV (j := (o + (k + 1))) (by omega) hws77 hfr77
      have hm77 := fun (i : Nat) (z : Int) (h1 : i < 70) (h2 : i ≠ (o + (k + 1))) (h3 : NW ad _ i z) => hkj77.nw hN h1 h2 h3
      replace hK := hK.tr hkj77.kb
      replace hR9 := hR9.tr (hkj77.kr (o := o) (by omega))
      replace hN := hN77
      have g77 := v77w
      refine g_iinc C dX1_fillRow_80 rfl (by decide) rfl ?_
      refine g_goto (tgt := 19) C dX1_fillRow_83 (by decide) ?_
      rw [hkk]
      exact ih (k + 1, w77) ⟨by dsimp only; omega, by dsimp only; omega, hN, hK, hR9, fun i hi => by
        dsimp only at hi
        by_cases q : i = k + 1
        · subst q
          exact g77.eq (row_s hk1).symm
        · exact hm77 _ _ (by omega) (by omega) (hm62 _ _ (by omega) (by omega) (hm45 _ _ (by omega) (by omega) (hall i (by omega))))⟩ (by dsimp only; omega)
