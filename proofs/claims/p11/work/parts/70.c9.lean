theorem SBw.frW {u u' : Wd} {a v n m b r : Nat} (h : SBw u a v n m) (x : FrW u u' b r) (h1 : a ≠ b ∧ a ≠ r ∧ v ≠ b ∧ v ≠ r) : SBw u' a v n m := by
  obtain ⟨mb, f, k1, k2, k3⟩ := h
  exact ⟨mb, f, by rw [x.2 a h1.1 h1.2.1]; exact k1, by rw [x.2 v h1.2.2.1 h1.2.2.2]; exact k2, k3⟩
theorem NS.frY {τ ad : Nat → Nat} {w u : Wd} {a v W : Nat} (h : NS τ ad w) (x : FrY w u a v) (hw : wF w) (hlt : ∀ t, 200 ≤ t → t ≤ 340 → ad t < W) (ha : W ≤ a) (hv : W ≤ v) : NS τ ad u := by
  obtain ⟨g, hg1, hg2⟩ := h.2.2
  refine ⟨h.1, fun i hi => ?_, g, ?_, hg2⟩
  · obtain ⟨f, uu, bl, e1, e2, e3⟩ := h.W hi
    have l1 := hlt (200 + 2 * i) (by omega) (by omega)
    have l2 := hlt (201 + 2 * i) (by omega) (by omega)
    exact ⟨f, uu, bl, by rw [x.2 _ (hw _ _ e1) (by show ad (200 + 2 * i) ≠ a; omega) (by show ad (200 + 2 * i) ≠ v; omega)]; exact e1, by rw [x.2 _ (hw _ _ e2) (by show ad (201 + 2 * i) ≠ a; omega) (by show ad (201 + 2 * i) ≠ v; omega)]; exact e2, e3⟩
  · have l1 := hlt 340 (by omega) (by omega)
    rw [x.2 _ (hw _ _ hg1) (by omega) (by omega)]
    exact hg1
theorem KN.frY {τ : Nat → Nat} {W0 w u : Wd} {a v : Nat} (k : KN τ W0 w) (hW0 : wF W0) (x : FrY w u a v) (hw : wF w) (ha : W0.1 ≤ a) (hv : W0.1 ≤ v) : KN τ W0 u := by
  refine ⟨Nat.le_trans k.1 x.1, fun b e ht h0 => ?_⟩
  have h1 := k.2 b e ht h0
  have hb := hW0 b e h0
  rw [x.2 b (hw b e h1) (by omega) (by omega)]
  exact h1
theorem NS.lt {τ ad : Nat → Nat} {w : Wd} (h : NS τ ad w) (hw : wF w) : ∀ t, 200 ≤ t → t ≤ 340 → ad t < w.1 := by
  intro t h1 h2
  obtain ⟨g, hg1, -⟩ := h.2.2
  by_cases q : t = 340
  · rw [q]; exact hw _ _ hg1
  · obtain ⟨f, uu, bl, e1, e2, -⟩ := h.W (j := (t - 200) / 2) (by omega)
    have l1 := hw _ _ e1
    have l2 := hw _ _ e2
    rcases (show t = 200 + 2 * ((t - 200) / 2) ∨ t = 201 + 2 * ((t - 200) / 2) by omega) with p | p
    · rw [p]; exact l1
    · rw [p]; exact l2
theorem wo_ne {ad : Nat → Nat} {W a v : Nat} (hlt : ∀ t, 200 ≤ t → t ≤ 340 → ad t < W) (ha : W ≤ a) (hv : W ≤ v) {j : Nat} (hj : j < 70) : a ≠ wo ad j ∧ a ≠ wr ad j ∧ v ≠ wo ad j ∧ v ≠ wr ad j := by
  have l1 := hlt (200 + 2 * j) (by omega) (by omega)
  have l2 := hlt (201 + 2 * j) (by omega) (by omega)
  unfold wo wr
  omega
theorem grow2 {n m c s m0 : Nat} (h1 : n ≤ m) (h16 : 16 ≤ m) (hn : n ≤ 505) (hm : m ≤ 1026) (h2 : 18 * c + m0 ≤ m) (h3 : s + 2 * m0 ≤ 2 * m) : 18 * (c + gC (n + 1) m) + m0 ≤ capG (n + 1) m ∧ s + gS (n + 1) m + 2 * m0 ≤ 2 * capG (n + 1) m ∧ capG (n + 1) m ≤ 1026 ∧ 16 ≤ capG (n + 1) m := by
  unfold gC gS
  by_cases q : n + 1 ≤ m
  · have e : capG (n + 1) m = m := if_pos q
    rw [if_pos q, if_pos q]
    omega
  · have e : capG (n + 1) m = 2 * m + 2 := by
      unfold capG
      rw [if_neg q, if_neg (by omega)]
    rw [if_neg q, if_neg q]
    omega
set_option maxHeartbeats 4000000 in
set_option maxRecDepth 100000 in
theorem s_X0_write (l : Launch) {K : KC} {E : GE} {w : Wd} {τ ad : Nat → Nat} (hN0 : NS τ ad w) {W0 : Wd} (hW0 : wF W0) (hlt : ∀ t, 200 ≤ t → t ≤ 340 → ad t < W0.1) (hK0 : KN τ W0 w) (hD : W0.2 (ad 110) = some (true, oD ad)) {a v n m : Nat} (hS : SBw w a v n m) (ha : W0.1 ≤ a) (hv : W0.1 ≤ v) (hm : 16 ≤ m ∧ m ≤ 1026) {j : Nat} (hj : j < 70 ∧ j ≠ 3) {rx : Int} (hrx : 2 ≤ rx ∧ rx ≤ 16) : St K E l yX0_write cX0_write 6 none 6 (57) (2052) [.ref (ad 110), .ref a, .ref (wo ad j), iI rx] w (fun r' w' => ∃ v' n' m', r' = none ∧ SBw w' a v' n' m' ∧ W0.1 ≤ v' ∧ n' ≤ 505 ∧ 16 ≤ m' ∧ m' ≤ 1026 ∧ NS τ ad w' ∧ KN τ W0 w') := by
  refine st_intro [some (.ref (ad 110)), some (.ref a), some (.ref (wo ad j)), some (iI rx), none, none] rfl (Nat.le_of_ble_eq_true rfl) pn_X0 ?_
  intro X C hT hRm hl hnm hQ
  obtain ⟨hRf, hRl, hRc, hRs⟩ := hRm
  refine g_wf (fun hwf => ?_)
  have hN := hN0
  have hK := hK0
  refine g_aload_n C dX0_write_0 rfl ?_
  refine g_iconst C dX0_write_1 ?_
  refine g_wf (fun hwf2 => ?_)
  refine t_callV C hT (c_J4_setLength_d00df _ hS (by omega)) (RcV.sb C hS) rfl ml_RX0_117 im_yJ4_setLength_d00df se_RJ4_yJ4_setLength_d00df in_RJ4 co_yJ4_setLength_d00df hd_J4_setLength_d00df rfl ⟨by omega, by omega⟩ rfl (Nat.le_of_ble_eq_true rfl) ⟨by omega, by omega⟩ dX0_write_2 (fun v2 w2 hp2 => ?_)
  obtain ⟨rfl, v2, hS2, hv2, fr2⟩ := hp2
  have hvv2 : W0.1 ≤ v2 := by have := hK0.1; omega
  replace hN := hN.frY fr2 hwf2 hlt ha hv
  replace hK := hK.frY hW0 fr2 hwf2 ha hv
  refine g_aload_n C dX0_write_5 rfl ?_
  refine g_get (ci := 2) C rfl inTX0 3 (by decide) fl_RX0_24 rfl (hK.ob hN (t := 110) (by omega) hD) rfl dX0_write_6 ?_
  refine g_aload_n C dX0_write_9 rfl ?_
  refine g_callV C (s_X5_setWhole _ (hN.W (j := 3) (by omega)) (hN.W (j := j) (by omega)) (hN.ne (j := 3) (k := j) (by omega) (by omega) (by omega))) (ci := 7) rfl (hN.W (j := 3) (by omega)).o rfl ml_RX0_43 im_yX5_setWhole se_RX5_yX5_setWhole in_RX5 co_yX5_setWhole hd_X5_setWhole rfl ⟨by omega, by omega⟩ rfl (Nat.le_of_ble_eq_true rfl) ⟨by omega, by omega⟩ dX0_write_10 (fun v10 w10 hp10 => ?_)
  obtain ⟨rfl, hws10, hfr10⟩ := hp10
  obtain ⟨hN10, hK10⟩ := hN.step (j := 3) (by omega) hws10 hfr10
  replace hK := hK.tr hK10
  replace hN := hN10
  have hS10 := hS2.frW hfr10 (wo_ne hlt ha hvv2 (by omega))
  refine g_iconst C dX0_write_13 ?_
  refine g_istore C dX0_write_14 (by decide) rfl ?_
  clear hN0 hK0 hS hv
  refine g_widen (k' := 0) (n' := 0) (by omega) (by omega) ?_
  refine g_loop (σ := Nat × Wd × Nat × Nat × Nat × Nat × Nat) (fun q => q.1 ≤ 504 ∧ q.2.2.2.1 ≤ q.1 ∧ SBw q.2.1 a q.2.2.1 q.2.2.2.1 q.2.2.2.2.1 ∧ W0.1 ≤ q.2.2.1 ∧ 16 ≤ q.2.2.2.2.1 ∧ q.2.2.2.2.1 ≤ 1026 ∧ 18 * q.2.2.2.2.2.1 + m ≤ q.2.2.2.2.1 ∧ q.2.2.2.2.2.2 + 2 * m ≤ 2 * q.2.2.2.2.1 ∧ NS τ ad q.2.1 ∧ KN τ W0 q.2.1) (fun q => G E X 6 16 [some (.ref (ad 110)), some (.ref a), some (.ref (wo ad j)), some (iI rx), some (iI (q.1 : Int)), none] [] q.2.1 q.2.2.2.2.2.1 q.2.2.2.2.2.2) (fun q => 504 - q.1) ?_ (0, w10, v2, 0, m, 0, 0) ⟨by dsimp only; omega, by dsimp only; omega, hS10, hvv2, by dsimp only; omega, by dsimp only; omega, by dsimp only; omega, by dsimp only; omega, hN, hK⟩
  clear hN hK hS10 hvv2 hS2 hwf2 hwf
  rintro ⟨i, u, v, n, mm, c, sl⟩ hqq ih
  obtain ⟨hi, hni, hS, hv, h16, hmm, hc, hs, hN, hK⟩ := hqq
  dsimp only at hi hni hS hv h16 hmm hc hs hN hK ⊢
  have hnm : n ≤ mm := by obtain ⟨_, _, _, _, _, _, q⟩ := id hS; exact q
  have J84 : G E X 6 84 [some (.ref (ad 110)), some (.ref a), some (.ref (wo ad j)), some (iI rx), some (iI (i : Int)), none] [] u c sl := by
    refine g_aload_n C dX0_write_84 rfl ?_
    have J98 : ∀ (u2 : Wd) (v2 n2 m2 c2 s2 : Nat), SBw u2 a v2 n2 m2 → W0.1 ≤ v2 → n2 ≤ 505 → 16 ≤ m2 → m2 ≤ 1026 → c2 ≤ 57 → s2 ≤ 2052 → NS τ ad u2 → KN τ W0 u2 → G E X 6 98 [some (.ref (ad 110)), some (.ref a), some (.ref (wo ad j)), some (iI rx), some (iI (i : Int)), none] [] u2 c2 s2 := by
      clear hS hv hnm hmm h16 hc hs hN hK
      intro u2 v2 n2 m2 c2 s2 hS hv hn2 hm16 hm2 hc2 hs2 hN hK
      refine g_aload_n C dX0_write_98 rfl ?_
      refine g_wf (fun hwf99 => ?_)
      refine t_callV C hT (c_J4_reverse_43fcb _ hS (by omega)) (RcV.sb C hS) rfl ml_RX0_124 im_yJ4_reverse_43fcb se_RJ4_yJ4_reverse_43fcb in_RJ4 co_yJ4_reverse_43fcb hd_J4_reverse_43fcb rfl ⟨by omega, by omega⟩ rfl (Nat.le_of_ble_eq_true rfl) ⟨by omega, by omega⟩ dX0_write_99 (fun v99 w99 hp99 => ?_)
      obtain ⟨rfl, v99, hS99, hv99, fr99⟩ := hp99
      have hvv : W0.1 ≤ v99 := by have := hK.1; omega
      replace hN := hN.frY fr99 hwf99 hlt ha hv
      replace hK := hK.frY hW0 fr99 hwf99 ha hv
      refine g_pop C dX0_write_102 rfl ?_
      exact g_return C hQ dX0_write_103 (by omega) (by omega) ⟨v99, _, _, rfl, hS99, hvv, by omega, by omega, by omega, hN, hK⟩
    obtain ⟨gr1, gr2, gr3, gr4⟩ := grow2 hnm h16 (by omega) hmm hc hs
    refine g_callV C (s_X5_isBelow _ (hN.W (j := j) (by omega)) ) (ci := 7) rfl (hN.W (j := j) (by omega)).o rfl ml_RX0_83 im_yX5_isBelow se_RX5_yX5_isBelow in_RX5 co_yX5_isBelow hd_X5_isBelow rfl ⟨by omega, by omega⟩ rfl (Nat.le_of_ble_eq_true rfl) ⟨by omega, by omega⟩ dX0_write_85 (fun v85 w85 hp85 => ?_)
    obtain ⟨⟨d85, rfl, hd85⟩, hw85⟩ := hp85
    subst w85
    refine g_if_eq (tgt := 98) C dX0_write_88 (by decide) (by omega) (fun h88 => ?_) (fun h88 => ?_)
    · first
      | exact J98 _ _ _ _ _ _ hS94 hvv (by omega) (by omega) (by omega) (by omega) (by omega) hN94 hK94
      | exact J98 _ _ _ _ _ _ hS hv (by omega) (by omega) (by omega) (by omega) (by omega) hN hK
    · refine g_aload_n C dX0_write_91 rfl ?_
      refine g_bipush C dX0_write_92 (by decide) ?_
      refine g_wf (fun hwf94 => ?_)
      refine t_callV C hT (c_J4_append_cf468 _ hS (x := 45) (by omega) (by omega) (by omega)) (RcV.sb C hS) rfl ml_RX0_120 im_yJ4_append_cf468 se_RJ4_yJ4_append_cf468 in_RJ4 co_yJ4_append_cf468 hd_J4_append_cf468 rfl ⟨by omega, by omega⟩ rfl (Nat.le_of_ble_eq_true rfl) ⟨by omega, by omega⟩ dX0_write_94 (fun v94 w94 hp94 => ?_)
      obtain ⟨rfl, v94, hS94, hv94, fr94⟩ := hp94
      have hvv : W0.1 ≤ v94 := by have := hK.1; omega
      have hN94 := hN.frY fr94 hwf94 hlt ha hv
      have hK94 := hK.frY hW0 fr94 hwf94 ha hv
      refine g_pop C dX0_write_97 rfl ?_
      first
      | exact J98 _ _ _ _ _ _ hS94 hvv (by omega) (by omega) (by omega) (by omega) (by omega) hN94 hK94
      | exact J98 _ _ _ _ _ _ hS hv (by omega) (by omega) (by omega) (by omega) (by omega) hN hK
  refine g_iload C dX0_write_16 rfl ?_
  refine g_sipush C dX0_write_18 (by decide) ?_
  refine g_icmp_ge (tgt := 84) C dX0_write_21 (by decide) (by omega) (by omega) (fun h21 => ?_) (fun h21 => ?_)
  · exact J84
  · have J39 : G E X 6 39 [some (.ref (ad 110)), some (.ref a), some (.ref (wo ad j)), some (iI rx), some (iI (i : Int)), none] [] u c sl := by
      refine g_aload_n C dX0_write_39 rfl ?_
      refine g_get (ci := 2) C rfl inTX0 3 (by decide) fl_RX0_24 rfl (hK.ob hN (t := 110) (by omega) hD) rfl dX0_write_40 ?_
      refine g_iload_n C dX0_write_43 rfl ?_
      refine g_callV C (s_X5_divideSmall _ (hN.W (j := 3) (by omega)) (y := rx) (by omega)) (ci := 7) rfl (hN.W (j := 3) (by omega)).o rfl ml_RX0_72 im_yX5_divideSmall se_RX5_yX5_divideSmall in_RX5 co_yX5_divideSmall hd_X5_divideSmall rfl ⟨by omega, by omega⟩ rfl (Nat.le_of_ble_eq_true rfl) ⟨by omega, by omega⟩ dX0_write_44 (fun v44 w44 hp44 => ?_)
      obtain ⟨⟨d44, rfl, hd44⟩, hp44⟩ := hp44
      replace hp44 : True ∧ _ := ⟨trivial, hp44⟩
      obtain ⟨-, hws44, hfr44⟩ := hp44
      obtain ⟨hN44, hK44⟩ := hN.step (j := 3) (by omega) hws44 hfr44
      replace hK := hK.tr hK44
      replace hN := hN44
      have hS44 := hS.frW hfr44 (wo_ne hlt ha hv (by omega))
      obtain ⟨gr1, gr2, gr3, gr4⟩ := grow2 hnm h16 (by omega) hmm hc hs
      refine g_istore C dX0_write_47 (by decide) rfl ?_
      have J73 : ∀ y : Int, 0 ≤ y ∧ y ≤ 255 → G E X 6 73 [some (.ref (ad 110)), some (.ref a), some (.ref (wo ad j)), some (iI rx), some (iI (i : Int)), some (iI d44)] [iI y, .ref a] w44 c sl := by
        intro y hy
        refine g_i2c (z := y) C dX0_write_73 (i2c_n hy.1 (by omega)) ?_
        refine g_wf (fun hwf74 => ?_)
        refine t_callV C hT (c_J4_append_cf468 _ hS44 (x := y) (by omega) (by omega) (by omega)) (RcV.sb C hS44) rfl ml_RX0_120 im_yJ4_append_cf468 se_RJ4_yJ4_append_cf468 in_RJ4 co_yJ4_append_cf468 hd_J4_append_cf468 rfl ⟨by omega, by omega⟩ rfl (Nat.le_of_ble_eq_true rfl) ⟨by omega, by omega⟩ dX0_write_74 (fun v74 w74 hp74 => ?_)
        obtain ⟨rfl, v74, hS74, hv74, fr74⟩ := hp74
        have hvv : W0.1 ≤ v74 := by have := hK.1; omega
        replace hN := hN.frY fr74 hwf74 hlt ha hv
        replace hK := hK.frY hW0 fr74 hwf74 ha hv
        refine g_pop C dX0_write_77 rfl ?_
        refine g_iinc C dX0_write_78 rfl (by decide) rfl ?_
        refine g_goto (tgt := 16) C dX0_write_81 (by decide) ?_
        refine g_drop 5 ?_
        exact ih (i + 1, w74, v74, n + 1, capG (n + 1) mm, c + gC (n + 1) mm, sl + gS (n + 1) mm) ⟨by dsimp only; omega, by dsimp only; omega, hS74, hvv, gr4, gr3, gr1, gr2, hN, hK⟩ (by dsimp only; omega)
      refine g_aload_n C dX0_write_49 rfl ?_
      refine g_iload C dX0_write_50 rfl ?_
      refine g_bipush C dX0_write_52 (by decide) ?_
      refine g_icmp_ge (tgt := 65) C dX0_write_54 (by decide) (by omega) (by omega) (fun h54 => ?_) (fun h54 => ?_)
      · refine g_bipush C dX0_write_65 (by decide) ?_
        refine g_iload C dX0_write_67 rfl ?_
        refine g_iadd C dX0_write_69 ?_
        refine g_bipush C dX0_write_70 (by decide) ?_
        refine g_isub C dX0_write_72 ?_
        exact J73 _ (by omega)
      · refine g_bipush C dX0_write_57 (by decide) ?_
        refine g_iload C dX0_write_59 rfl ?_
        refine g_iadd C dX0_write_61 ?_
        refine g_goto (tgt := 73) C dX0_write_62 (by decide) ?_
        exact J73 _ (by omega)
    refine g_iload C dX0_write_24 rfl ?_
    refine g_if_eq (tgt := 39) C dX0_write_26 (by decide) (by omega) (fun h26 => ?_) (fun h26 => ?_)
    · exact J39
    · refine g_aload_n C dX0_write_29 rfl ?_
      refine g_get (ci := 2) C rfl inTX0 3 (by decide) fl_RX0_24 rfl (hK.ob hN (t := 110) (by omega) hD) rfl dX0_write_30 ?_
      refine g_callV C (s_X5_isZero _ (hN.W (j := 3) (by omega)) ) (ci := 7) rfl (hN.W (j := 3) (by omega)).o rfl ml_RX0_47 im_yX5_isZero se_RX5_yX5_isZero in_RX5 co_yX5_isZero hd_X5_isZero rfl ⟨by omega, by omega⟩ rfl (Nat.le_of_ble_eq_true rfl) ⟨by omega, by omega⟩ dX0_write_33 (fun v33 w33 hp33 => ?_)
      obtain ⟨⟨d33, rfl, hd33⟩, hw33⟩ := hp33
      subst w33
      refine g_if_ne (tgt := 84) C dX0_write_36 (by decide) (by omega) (fun h36 => ?_) (fun h36 => ?_)
      · exact J84
      · exact J39
set_option maxHeartbeats 4000000 in
set_option maxRecDepth 100000 in
theorem s_X0_text (l : Launch) {K : KC} {E : GE} {w : Wd} {τ ad : Nat → Nat} (hN0 : NS τ ad w) (hD : w.2 (ad 110) = some (true, oD ad)) {j : Nat} (hj : j < 70 ∧ j ≠ 3) {rx : Int} (hrx : 2 ≤ rx ∧ rx ≤ 16) : St K E l yX0_text cX0_text 4 (some (.object "java/lang/String")) 7 (61) (2600) [.ref (ad 110), .ref (wo ad j), iI rx] w (fun r' w' => (∃ s : Nat, r' = some (.ref s)) ∧ NS τ ad w' ∧ KN τ w w') := by
  refine st_intro [some (.ref (ad 110)), some (.ref (wo ad j)), some (iI rx), none] rfl (Nat.le_of_ble_eq_true rfl) pn_X0 ?_
  intro X C hT hRm hl hnm hQ
  obtain ⟨hRf, hRl, hRc, hRs⟩ := hRm
  refine g_wf (fun hwf => ?_)
  refine g_new (ci := 1) C rfl inTJ4 tyJ4 tyJ4_ok kl_RX0_106 ib_RJ4 in_RJ4 (fs := [.null, iI 0, iI 0, iI 0]) (by intro j hj; repeat (first | rfl | (cases j; rfl) | (rename_i j; cases j; rfl) | omega)) (by omega) dX0_text_0 ?_
  refine g_dup C dX0_text_3 rfl ?_
  refine t_callI C hT (c_J4_init_da8c8 _ wpush_s) ml_RX0_108 im_yJ4_init_da8c8 in_RJ4 co_yJ4_init_da8c8 rfl hd_J4_init_da8c8 rfl ⟨by omega, by omega⟩ rfl (Nat.le_of_ble_eq_true rfl) ⟨by omega, by omega⟩ dX0_text_4 (fun v4 w4 hp4 => ?_)
  obtain ⟨rfl, v4, hS4, hv4, fr4⟩ := hp4
  have hv4 : w.1 + 1 ≤ v4 := hv4
  have hf4 : Fr w w4 := FrY.fr ((Fr.rf w).push _) fr4 (Nat.le_refl _) (Nat.le_refl _)
  have hN4 := hN0.fr hf4 hwf
  have hK4 : KN τ w w4 := KN.fr hf4 hwf
  have hlt := hN0.lt hwf
  have hdl := hwf _ _ hD
  refine g_astore_n C dX0_text_7 (by decide) rfl ?_
  refine g_aload_n C dX0_text_8 rfl ?_
  refine g_aload_n C dX0_text_9 rfl ?_
  refine g_aload_n C dX0_text_10 rfl ?_
  refine g_iload_n C dX0_text_11 rfl ?_
  refine t_callV C hT (s_X0_write _ hN4 hwf hlt hK4 hD hS4 (Nat.le_refl _) (by omega) (by omega) (j := j) (by omega) (rx := rx) hrx) (RcV.ob (ci := 2) C rfl (hK4.ob hN4 (t := 110) (by omega) hD)) rfl ml_RX0_109 im_yX0_write se_RX0_yX0_write in_RX0 co_yX0_write hd_X0_write rfl ⟨by omega, by omega⟩ rfl (Nat.le_of_ble_eq_true rfl) ⟨by omega, by omega⟩ dX0_text_12 (fun v12 w12 hp12 => ?_)
  obtain ⟨v12, n12, m12, rfl, hS12, hv12, hn12, h16, hm12, hN12, hK12⟩ := hp12
  refine g_wf (fun hwf12 => ?_)
  refine g_aload_n C dX0_text_15 rfl ?_
  refine t_callV C hT (c_J4_toString_0e30d _ hS12 (by omega)) (RcV.sb C hS12) rfl ml_RX0_113 im_yJ4_toString_0e30d se_RJ4_yJ4_toString_0e30d in_RJ4 co_yJ4_toString_0e30d hd_J4_toString_0e30d rfl ⟨by omega, by omega⟩ rfl (Nat.le_of_ble_eq_true rfl) ⟨by omega, by omega⟩ dX0_text_16 (fun v16 w16 hp16 => ?_)
  obtain ⟨rfl, hf16⟩ := hp16
  exact g_areturn C (Or.inl ⟨_, rfl⟩) hQ (Or.inr ⟨_, rfl⟩) dX0_text_19 (by omega) (by omega) ⟨⟨_, rfl⟩, hN12.fr hf16 hwf12, hK12.tr (KN.fr hf16 hwf12)⟩
set_option maxHeartbeats 4000000 in
set_option maxRecDepth 100000 in
theorem s_X0_longText (l : Launch) {K : KC} {E : GE} {w : Wd} {τ ad : Nat → Nat} (hN0 : NS τ ad w) (hD : w.2 (ad 110) = some (true, oD ad)) {x : Int} (hx : -9223372036854775808 ≤ x ∧ x < 9223372036854775808) : St K E l yX0_longText cX0_longText 3 (some (.object "java/lang/String")) 8 (61) (2600) [.ref (ad 110), jJ x] w (fun r' w' => (∃ s : Nat, r' = some (.ref s)) ∧ NS τ ad w' ∧ KN τ w w') := by
  refine st_intro [some (.ref (ad 110)), some (jJ x), none] rfl (Nat.le_of_ble_eq_true rfl) pn_X0 ?_
  intro X C hT hRm hl hnm hQ
  obtain ⟨hRf, hRl, hRc, hRs⟩ := hRm
  refine g_wf (fun hwf => ?_)
  have hN := hN0
  have hK : KN τ w w := KN.rf _ _
  refine g_aload_n C dX0_longText_0 rfl ?_
  refine g_get (ci := 2) C rfl inTX0 0 (by decide) fl_RX0_12 rfl (hK.ob hN (t := 110) (by omega) hD) rfl dX0_longText_1 ?_
  refine g_lload_n C dX0_longText_4 rfl ?_
  refine g_callV C (s_X5_setNumber _ (hN.W (j := 0) (by omega)) (x := x) hx) (ci := 7) rfl (hN.W (j := 0) (by omega)).o rfl ml_RX0_98 im_yX5_setNumber se_RX5_yX5_setNumber in_RX5 co_yX5_setNumber hd_X5_setNumber rfl ⟨by omega, by omega⟩ rfl (Nat.le_of_ble_eq_true rfl) ⟨by omega, by omega⟩ dX0_longText_5 (fun v5 w5 hp5 => ?_)
  obtain ⟨rfl, hws5, hfr5⟩ := hp5
  obtain ⟨hN5, hK5⟩ := hN.step (j := 0) (by omega) hws5 hfr5
  replace hK := hK.tr hK5
  replace hN := hN5
  refine g_aload_n C dX0_longText_8 rfl ?_
  refine g_aload_n C dX0_longText_9 rfl ?_
  refine g_get (ci := 2) C rfl inTX0 0 (by decide) fl_RX0_12 rfl (hK.ob hN (t := 110) (by omega) hD) rfl dX0_longText_10 ?_
  refine g_bipush C dX0_longText_13 (by decide) ?_
  refine t_callV C hT (s_X0_text _ hN (hK.ob hN (t := 110) (by omega) hD) (j := 0) (by omega) (rx := 10) (by omega)) (RcV.ob (ci := 2) C rfl (hK.ob hN (t := 110) (by omega) hD)) rfl ml_RX0_102 im_yX0_text se_RX0_yX0_text in_RX0 co_yX0_text hd_X0_text rfl ⟨by omega, by omega⟩ rfl (Nat.le_of_ble_eq_true rfl) ⟨by omega, by omega⟩ dX0_longText_15 (fun v15 w15 hp15 => ?_)
  obtain ⟨⟨s15, rfl⟩, hN15, hK15⟩ := hp15
  exact g_areturn C (Or.inl ⟨_, rfl⟩) hQ (Or.inr ⟨_, rfl⟩) dX0_longText_18 (by omega) (by omega) ⟨⟨_, rfl⟩, hN15, hK.tr hK15⟩
set_option maxHeartbeats 4000000 in
set_option maxRecDepth 100000 in
theorem s_X0_isReadFrom (l : Launch) {K : KC} {E : GE} {w : Wd} {τ ad : Nat → Nat} (hN0 : NS τ ad w) {W0 : Wd} (hW0 : wF W0) (hlt : ∀ t, 200 ≤ t → t ≤ 340 → ad t < W0.1) (hK0 : KN τ W0 w) (hD : W0.2 (ad 110) = some (true, oD ad)) {a v n m : Nat} (hS : SBw w a v n m) (ha : W0.1 ≤ a) (hv : W0.1 ≤ v) (hn : n ≤ 505 ∧ m ≤ 1026) {j : Nat} (hj : j < 70 ∧ j ≠ 0) {rx : Int} (hrx : 2 ≤ rx ∧ rx ≤ 16) : St K E l yX0_isReadFrom cX0_isReadFrom 6 (some .boolean) 4 (0) (0) [.ref (ad 110), .ref a, .ref (wo ad j), iI rx] w (fun r' w' => (∃ d : Int, r' = some (iI d) ∧ (d = 0 ∨ d = 1)) ∧ SBw w' a v n m ∧ NS τ ad w' ∧ KN τ W0 w') := by
  refine st_intro [some (.ref (ad 110)), some (.ref a), some (.ref (wo ad j)), some (iI rx), none, none] rfl (Nat.le_of_ble_eq_true rfl) pn_X0 ?_
  intro X C hT hRm hl hnm hQ
  obtain ⟨hRf, hRl, hRc, hRs⟩ := hRm
  refine g_wf (fun hwf => ?_)
  have hN := hN0
  have hK := hK0
  refine g_aload_n C dX0_isReadFrom_0 rfl ?_
  refine g_get (ci := 2) C rfl inTX0 0 (by decide) fl_RX0_12 rfl (hK.ob hN (t := 110) (by omega) hD) rfl dX0_isReadFrom_1 ?_
  refine g_lconst (z := 0) C dX0_isReadFrom_4 (by decide) ?_
  refine g_callV C (s_X5_setNumber _ (hN.W (j := 0) (by omega)) (x := 0) (by omega)) (ci := 7) rfl (hN.W (j := 0) (by omega)).o rfl ml_RX0_98 im_yX5_setNumber se_RX5_yX5_setNumber in_RX5 co_yX5_setNumber hd_X5_setNumber rfl ⟨by omega, by omega⟩ rfl (Nat.le_of_ble_eq_true rfl) ⟨by omega, by omega⟩ dX0_isReadFrom_5 (fun v5 w5 hp5 => ?_)
  obtain ⟨rfl, hws5, hfr5⟩ := hp5
  obtain ⟨hN5, hK5⟩ := hN.step (j := 0) (by omega) hws5 hfr5
  replace hK := hK.tr hK5
  replace hN := hN5
  have hS5 := hS.frW hfr5 (wo_ne hlt ha hv (by omega))
  refine g_iconst C dX0_isReadFrom_8 ?_
  refine g_istore C dX0_isReadFrom_9 (by decide) rfl ?_
  clear hN0 hK0 hS
  refine g_loop (σ := Nat × Wd) (fun q => q.1 ≤ n ∧ SBw q.2 a v n m ∧ NS τ ad q.2 ∧ KN τ W0 q.2) (fun q => G E X 6 11 [some (.ref (ad 110)), some (.ref a), some (.ref (wo ad j)), some (iI rx), some (iI (q.1 : Int)), none] [] q.2 0 0) (fun q => n - q.1) ?_ (0, w5) ⟨by dsimp only; omega, hS5, hN, hK⟩
  clear hN hK hS5
  rintro ⟨i, u⟩ hqq ih
  obtain ⟨hi, hS, hN, hK⟩ := hqq
  dsimp only at hi hS hN hK ⊢
  refine g_iload C dX0_isReadFrom_11 rfl ?_
  refine g_aload_n C dX0_isReadFrom_13 rfl ?_
  refine t_callV C hT (c_J4_length_8abf5 _ hS) (RcV.sb C hS) rfl ml_RX0_132 im_yJ4_length_8abf5 se_RJ4_yJ4_length_8abf5 in_RJ4 co_yJ4_length_8abf5 hd_J4_length_8abf5 rfl ⟨by omega, by omega⟩ rfl (Nat.le_of_ble_eq_true rfl) ⟨by omega, by omega⟩ dX0_isReadFrom_14 (fun v14 w14 hp14 => ?_)
  obtain ⟨rfl, hw14⟩ := hp14
  subst w14
  refine g_icmp_ge (tgt := 65) C dX0_isReadFrom_17 (by decide) (by omega) (by omega) (fun h17 => ?_) (fun h17 => ?_)
  · refine g_aload_n C dX0_isReadFrom_65 rfl ?_
    refine g_get (ci := 2) C rfl inTX0 0 (by decide) fl_RX0_12 rfl (hK.ob hN (t := 110) (by omega) hD) rfl dX0_isReadFrom_66 ?_
    refine g_aload_n C dX0_isReadFrom_69 rfl ?_
    refine g_callV C (s_X5_compareValue _ (hN.W (j := 0) (by omega)) (hN.W (j := j) (by omega))) (ci := 7) rfl (hN.W (j := 0) (by omega)).o rfl ml_RX0_139 im_yX5_compareValue se_RX5_yX5_compareValue in_RX5 co_yX5_compareValue hd_X5_compareValue rfl ⟨by omega, by omega⟩ rfl (Nat.le_of_ble_eq_true rfl) ⟨by omega, by omega⟩ dX0_isReadFrom_70 (fun v70 w70 hp70 => ?_)
    obtain ⟨⟨d70, rfl, hd70⟩, hw70⟩ := hp70
    subst w70
    refine g_if_ne (tgt := 80) C dX0_isReadFrom_73 (by decide) (by omega) (fun h73 => ?_) (fun h73 => ?_)
    · refine g_iconst C dX0_isReadFrom_80 ?_
      exact g_zreturn C hQ dX0_isReadFrom_81 rfl (by omega) (by omega) ⟨⟨_, rfl, by omega⟩, hS, hN, hK⟩
    · refine g_iconst C dX0_isReadFrom_76 ?_
      refine g_goto (tgt := 81) C dX0_isReadFrom_77 (by decide) ?_
      exact g_zreturn C hQ dX0_isReadFrom_81 rfl (by omega) (by omega) ⟨⟨_, rfl, by omega⟩, hS, hN, hK⟩
  · refine g_aload_n C dX0_isReadFrom_20 rfl ?_
    refine g_iload C dX0_isReadFrom_21 rfl ?_
    refine t_callV C hT (c_J4_charAt_5068e _ hS (p := i) (by omega) (by omega)) (RcV.sb C hS) rfl ml_RX0_135 im_yJ4_charAt_5068e se_RJ4_yJ4_charAt_5068e in_RJ4 co_yJ4_charAt_5068e hd_J4_charAt_5068e rfl ⟨by omega, by omega⟩ rfl (Nat.le_of_ble_eq_true rfl) ⟨by omega, by omega⟩ dX0_isReadFrom_23 (fun v23 w23 hp23 => ?_)
    obtain ⟨⟨y, rfl, hy0, hy1⟩, hw23⟩ := hp23
    subst w23
    refine g_istore C dX0_isReadFrom_26 (by decide) rfl ?_
    have J56 : ∀ z : Int, -1000 ≤ z ∧ z ≤ 1000 → G E X 6 56 [some (.ref (ad 110)), some (.ref a), some (.ref (wo ad j)), some (iI rx), some (iI (i : Int)), some (iI y)] [iI z, iI rx, .ref (wo ad 0)] u 0 0 := by
      intro z hz
      refine g_callV C (s_X5_multiplySmall _ (hN.W (j := 0) (by omega)) (by_ := rx) (mo := z) (by omega) (by omega)) (ci := 7) rfl (hN.W (j := 0) (by omega)).o rfl ml_RX0_35 im_yX5_multiplySmall se_RX5_yX5_multiplySmall in_RX5 co_yX5_multiplySmall hd_X5_multiplySmall rfl ⟨by omega, by omega⟩ rfl (Nat.le_of_ble_eq_true rfl) ⟨by omega, by omega⟩ dX0_isReadFrom_56 (fun v56 w56 hp56 => ?_)
      obtain ⟨rfl, hws56, hfr56⟩ := hp56
      obtain ⟨hN56, hK56⟩ := hN.step (j := 0) (by omega) hws56 hfr56
      replace hK := hK.tr hK56
      replace hN := hN56
      have hS56 := hS.frW hfr56 (wo_ne hlt ha hv (by omega))
      refine g_iinc C dX0_isReadFrom_59 rfl (by decide) rfl ?_
      refine g_goto (tgt := 11) C dX0_isReadFrom_62 (by decide) ?_
      refine g_drop 5 ?_
      exact ih (i + 1, w56) ⟨by dsimp only; omega, hS56, hN, hK⟩ (by dsimp only; omega)
    refine g_aload_n C dX0_isReadFrom_28 rfl ?_
    refine g_get (ci := 2) C rfl inTX0 0 (by decide) fl_RX0_12 rfl (hK.ob hN (t := 110) (by omega) hD) rfl dX0_isReadFrom_29 ?_
    refine g_iload_n C dX0_isReadFrom_32 rfl ?_
    refine g_iload C dX0_isReadFrom_33 rfl ?_
    refine g_bipush C dX0_isReadFrom_35 (by decide) ?_
    refine g_icmp_gt (tgt := 48) C dX0_isReadFrom_37 (by decide) (by omega) (by omega) (fun h37 => ?_) (fun h37 => ?_)
    · refine g_iload C dX0_isReadFrom_48 rfl ?_
      refine g_bipush C dX0_isReadFrom_50 (by decide) ?_
      refine g_isub C dX0_isReadFrom_52 ?_
      refine g_bipush C dX0_isReadFrom_53 (by decide) ?_
      refine g_iadd C dX0_isReadFrom_55 ?_
      exact J56 _ (by omega)
    · refine g_iload C dX0_isReadFrom_40 rfl ?_
      refine g_bipush C dX0_isReadFrom_42 (by decide) ?_
      refine g_isub C dX0_isReadFrom_44 ?_
      refine g_goto (tgt := 56) C dX0_isReadFrom_45 (by decide) ?_
      exact J56 _ (by omega)
set_option maxHeartbeats 4000000 in
set_option maxRecDepth 100000 in
theorem s_X0_areReadFromText (l : Launch) {K : KC} {E : GE} {w : Wd} {τ ad : Nat → Nat} (hN0 : NS τ ad w) (hD : w.2 (ad 110) = some (true, oD ad)) {j k : Nat} (hj : 4 ≤ j ∧ j < 70) (hk : 4 ≤ k ∧ k < 70) {rx : Int} (hrx : 2 ≤ rx ∧ rx ≤ 16) : St K E l yX0_areReadFromText cX0_areReadFromText 6 (some .boolean) 7 (120) (4200) [.ref (ad 110), .ref (wo ad j), .ref (wo ad k), iI rx] w (fun r' w' => (∃ d : Int, r' = some (iI d) ∧ (d = 0 ∨ d = 1)) ∧ NS τ ad w' ∧ KN τ w w') := by
  refine st_intro [some (.ref (ad 110)), some (.ref (wo ad j)), some (.ref (wo ad k)), some (iI rx), none, none] rfl (Nat.le_of_ble_eq_true rfl) pn_X0 ?_
  intro X C hT hRm hl hnm hQ
  obtain ⟨hRf, hRl, hRc, hRs⟩ := hRm
  refine g_wf (fun hwf => ?_)
  refine g_new (ci := 1) C rfl inTJ4 tyJ4 tyJ4_ok kl_RX0_106 ib_RJ4 in_RJ4 (fs := [.null, iI 0, iI 0, iI 0]) (by intro j hj; repeat (first | rfl | (cases j; rfl) | (rename_i j; cases j; rfl) | omega)) (by omega) dX0_areReadFromText_0 ?_
  refine g_dup C dX0_areReadFromText_3 rfl ?_
  refine t_callI C hT (c_J4_init_da8c8 _ wpush_s) ml_RX0_108 im_yJ4_init_da8c8 in_RJ4 co_yJ4_init_da8c8 rfl hd_J4_init_da8c8 rfl ⟨by omega, by omega⟩ rfl (Nat.le_of_ble_eq_true rfl) ⟨by omega, by omega⟩ dX0_areReadFromText_4 (fun v4 w4 hp4 => ?_)
  obtain ⟨rfl, v4, hS4, hv4, fr4⟩ := hp4
  have hv4 : w.1 + 1 ≤ v4 := hv4
  have hf4 : Fr w w4 := FrY.fr ((Fr.rf w).push _) fr4 (Nat.le_refl _) (Nat.le_refl _)
  have hN4 := hN0.fr hf4 hwf
  have hK4 : KN τ w w4 := KN.fr hf4 hwf
  have hlt := hN0.lt hwf
  have hdl := hwf _ _ hD
  refine g_astore C dX0_areReadFromText_7 (by decide) rfl ?_
  refine g_aload_n C dX0_areReadFromText_9 rfl ?_
  refine g_aload C dX0_areReadFromText_10 rfl ?_
  refine g_aload_n C dX0_areReadFromText_12 rfl ?_
  refine g_iload_n C dX0_areReadFromText_13 rfl ?_
  refine t_callV C hT (s_X0_write _ hN4 hwf hlt hK4 hD hS4 (Nat.le_refl _) (by omega) (by omega) (j := j) (by omega) (rx := rx) hrx) (RcV.ob (ci := 2) C rfl (hK4.ob hN4 (t := 110) (by omega) hD)) rfl ml_RX0_109 im_yX0_write se_RX0_yX0_write in_RX0 co_yX0_write hd_X0_write rfl ⟨by omega, by omega⟩ rfl (Nat.le_of_ble_eq_true rfl) ⟨by omega, by omega⟩ dX0_areReadFromText_14 (fun v14 w14 hp14 => ?_)
  obtain ⟨v14, n14, m14, rfl, hS14, hv14, hn14, h16, hm14, hN14, hK14⟩ := hp14
  refine g_aload_n C dX0_areReadFromText_17 rfl ?_
  refine g_aload C dX0_areReadFromText_18 rfl ?_
  refine g_aload_n C dX0_areReadFromText_20 rfl ?_
  refine g_iload_n C dX0_areReadFromText_21 rfl ?_
  refine t_callV C hT (s_X0_isReadFrom _ hN14 hwf hlt hK14 hD hS14 (Nat.le_refl _) hv14 (by omega) (j := j) (by omega) (rx := rx) hrx) (RcV.ob (ci := 2) C rfl (hK14.ob hN14 (t := 110) (by omega) hD)) rfl ml_RX0_128 im_yX0_isReadFrom se_RX0_yX0_isReadFrom in_RX0 co_yX0_isReadFrom hd_X0_isReadFrom rfl ⟨by omega, by omega⟩ rfl (Nat.le_of_ble_eq_true rfl) ⟨by omega, by omega⟩ dX0_areReadFromText_22 (fun v22 w22 hp22 => ?_)
  obtain ⟨⟨d22, rfl, hd22⟩, hS22, hN22, hK22⟩ := hp22
  refine g_istore C dX0_areReadFromText_25 (by decide) rfl ?_
  refine g_aload_n C dX0_areReadFromText_27 rfl ?_
  refine g_aload C dX0_areReadFromText_28 rfl ?_
  refine g_aload_n C dX0_areReadFromText_30 rfl ?_
  refine g_iload_n C dX0_areReadFromText_31 rfl ?_
  refine t_callV C hT (s_X0_write _ hN22 hwf hlt hK22 hD hS22 (Nat.le_refl _) hv14 (by omega) (j := k) (by omega) (rx := rx) hrx) (RcV.ob (ci := 2) C rfl (hK22.ob hN22 (t := 110) (by omega) hD)) rfl ml_RX0_109 im_yX0_write se_RX0_yX0_write in_RX0 co_yX0_write hd_X0_write rfl ⟨by omega, by omega⟩ rfl (Nat.le_of_ble_eq_true rfl) ⟨by omega, by omega⟩ dX0_areReadFromText_32 (fun v32 w32 hp32 => ?_)
  obtain ⟨v32, n32, m32, rfl, hS32, hv32, hn32, h16b, hm32, hN32, hK32⟩ := hp32
  refine g_iload C dX0_areReadFromText_35 rfl ?_
  refine g_if_eq (tgt := 55) C dX0_areReadFromText_37 (by decide) (by omega) (fun h37 => ?_) (fun h37 => ?_)
  · refine g_iconst C dX0_areReadFromText_55 ?_
    exact g_zreturn C hQ dX0_areReadFromText_56 rfl (by omega) (by omega) (by
      first
      | exact ⟨⟨_, rfl, by omega⟩, hN45, hK45⟩
      | exact ⟨⟨_, rfl, by omega⟩, hN32, hK32⟩)
  · refine g_aload_n C dX0_areReadFromText_40 rfl ?_
    refine g_aload C dX0_areReadFromText_41 rfl ?_
    refine g_aload_n C dX0_areReadFromText_43 rfl ?_
    refine g_iload_n C dX0_areReadFromText_44 rfl ?_
    refine t_callV C hT (s_X0_isReadFrom _ hN32 hwf hlt hK32 hD hS32 (Nat.le_refl _) hv32 (by omega) (j := k) (by omega) (rx := rx) hrx) (RcV.ob (ci := 2) C rfl (hK32.ob hN32 (t := 110) (by omega) hD)) rfl ml_RX0_128 im_yX0_isReadFrom se_RX0_yX0_isReadFrom in_RX0 co_yX0_isReadFrom hd_X0_isReadFrom rfl ⟨by omega, by omega⟩ rfl (Nat.le_of_ble_eq_true rfl) ⟨by omega, by omega⟩ dX0_areReadFromText_45 (fun v45 w45 hp45 => ?_)
    obtain ⟨⟨d45, rfl, hd45⟩, hS45, hN45, hK45⟩ := hp45
    refine g_if_eq (tgt := 55) C dX0_areReadFromText_48 (by decide) (by omega) (fun h48 => ?_) (fun h48 => ?_)
    · refine g_iconst C dX0_areReadFromText_55 ?_
      exact g_zreturn C hQ dX0_areReadFromText_56 rfl (by omega) (by omega) (by
        first
        | exact ⟨⟨_, rfl, by omega⟩, hN45, hK45⟩
        | exact ⟨⟨_, rfl, by omega⟩, hN32, hK32⟩)
    · refine g_iconst C dX0_areReadFromText_51 ?_
      refine g_goto (tgt := 56) C dX0_areReadFromText_52 (by decide) ?_
      exact g_zreturn C hQ dX0_areReadFromText_56 rfl (by omega) (by omega) (by
        first
        | exact ⟨⟨_, rfl, by omega⟩, hN45, hK45⟩
        | exact ⟨⟨_, rfl, by omega⟩, hN32, hK32⟩)
