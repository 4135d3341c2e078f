theorem SBq.chr {W0 w u : Wd} {a v n m N : Nat} (hn : n ≤ N) (hm : m ≤ 2 * n + 16) (hv : W0.1 ≤ v) (ha : W0.1 ≤ a) (hf : Fr W0 w) (h : ∃ v' : Nat, SBw u a v' (n + 1) (capG (n + 1) m) ∧ (v' = v ∨ w.1 ≤ v') ∧ FrY w u a v) : SBq W0 u a (N + 1) := by
  obtain ⟨v', h3, h4, h5⟩ := h
  exact ⟨v', n + 1, _, h3, by omega, capG_up hm, by have := hf.1; omega, ha, FrY.fr hf h5 ha hv⟩
theorem grow1c {n m : Nat} (hm : m ≤ 2 * n + 16) : gC (n + 1) m ≤ 1 ∧ gS (n + 1) m ≤ 2 * n + 18 := by
  have h2 := capG_up (k := 1) hm
  exact ⟨by unfold gC; split <;> omega, by unfold gS; split <;> omega⟩
theorem SBq.f {W0 w : Wd} {a N : Nat} (h : SBq W0 w a N) : Fr W0 w := by
  obtain ⟨v, n, m, -, -, -, -, -, h⟩ := h
  exact h
theorem FS.frm {ad : Nat → Nat} {w w' : Wd} {fb fr : Int} {m d a : Nat → Int} (h : FS ad w fb fr m d a) (g : Fr w w') (hw : wF w) : FS ad w' fb fr m d a := by
  have k : ∀ {q x}, w.2 q = some x → w'.2 q = some x := fun {q x} e => by rw [g.2 q (hw q x e)]; exact e
  obtain ⟨h1, h2, h3, h4, ⟨R, h5, h6⟩, ⟨R2, h7, h8⟩⟩ := h
  exact ⟨k h1, k h2, k h3, k h4, ⟨R, k h5, h6⟩, ⟨R2, k h7, h8⟩⟩
set_option maxHeartbeats 4000000 in
set_option maxRecDepth 100000 in
theorem s_X6_rootText (l : Launch) {K : KC} {E : GE} {w : Wd} {τ ad : Nat → Nat} {bs ss : Nat → Int} {pb : Nat → PT} {P Q : Nat → Nat} {ct : Nat → Int} (hC0 : CS τ ad w bs ss pb P Q ct) {b : Int} {z : Nat} (hb : 1 ≤ b ∧ b ≤ 99) (hz : z ≤ 16) : St K E l yX6_rootText cX6_rootText 3 (some (.object "java/lang/String")) 9 (61) (2600) [.ref (ad 100), iI b, iI (z : Int)] w (fun r' w' => (∃ s : Nat, r' = some (.ref s)) ∧ CS τ ad w' (bs) (ss) (pb) (P) (Q) (ct) ∧ KO τ w w') := by
  refine st_intro [some (.ref (ad 100)), some (iI b), some (iI (z : Int))] rfl (Nat.le_of_ble_eq_true rfl) pn_X6 ?_
  intro X C hT hRm hl hnm hQ
  obtain ⟨hRf, hRl, hRc, hRs⟩ := hRm
  refine g_wf (fun hwf => ?_)
  have hC := hC0
  have hK : KO τ w w := KO.rf _ _
  refine g_iload_n C dX6_rootText_0 rfl ?_
  refine g_iconst C dX6_rootText_1 ?_
  refine g_bipush C dX6_rootText_2 (by decide) ?_
  refine g_callS C (s_X6_checkRange _ (v := b) (lo := 1) (hi := 99) (by omega) (by omega) (by omega)) ml_RX6_82 sm_yX6_checkRange in_RX6 co_yX6_checkRange hd_X6_checkRange rfl ⟨by omega, by omega⟩ rfl (Nat.le_of_ble_eq_true rfl) ⟨by omega, by omega⟩ dX6_rootText_4 (fun v4 w4 hp4 => ?_)
  obtain ⟨rfl, hw4⟩ := hp4
  subst w4
  refine g_iload_n C dX6_rootText_7 rfl ?_
  refine g_iconst C dX6_rootText_8 ?_
  refine g_bipush C dX6_rootText_9 (by decide) ?_
  refine g_callS C (s_X6_checkRange _ (v := (z : Int)) (lo := 0) (hi := 16) (by omega) (by omega) (by omega)) ml_RX6_82 sm_yX6_checkRange in_RX6 co_yX6_checkRange hd_X6_checkRange rfl ⟨by omega, by omega⟩ rfl (Nat.le_of_ble_eq_true rfl) ⟨by omega, by omega⟩ dX6_rootText_11 (fun v11 w11 hp11 => ?_)
  obtain ⟨rfl, hw11⟩ := hp11
  subst w11
  refine g_aload_n C dX6_rootText_14 rfl ?_
  refine g_get (ci := 8) C rfl inTX6 4 (by decide) fl_RX6_37 rfl hC.o rfl dX6_rootText_15 ?_
  refine g_iload_n C dX6_rootText_18 rfl ?_
  refine g_iload_n C dX6_rootText_19 rfl ?_
  refine g_callS C (s_X6_rootDecimals _ (b := b) (n := z) hb hz) ml_RX6_146 sm_yX6_rootDecimals in_RX6 co_yX6_rootDecimals hd_X6_rootDecimals rfl ⟨by omega, by omega⟩ rfl (Nat.le_of_ble_eq_true rfl) ⟨by omega, by omega⟩ dX6_rootText_20 (fun v20 w20 hp20 => ?_)
  obtain ⟨⟨x20, rfl, hx20⟩, hw20⟩ := hp20
  subst w20
  have hx20b := rd_le hb hz hx20
  refine t_callV C hT (s_X0_longText _ hC.N hC.D (x := x20) (by omega)) (RcV.ob (ci := 2) C rfl hC.D) rfl ml_RX6_142 im_yX0_longText se_RX0_yX0_longText in_RX0 co_yX0_longText hd_X0_longText rfl ⟨by omega, by omega⟩ rfl (Nat.le_of_ble_eq_true rfl) ⟨by omega, by omega⟩ dX6_rootText_23 (fun v23 w23 hp23 => ?_)
  obtain ⟨⟨s23, rfl⟩, hN23, hk23⟩ := hp23
  replace hC := hC.kn hk23 hN23
  replace hK := hK.tr hk23.kc
  exact g_areturn C (Or.inl ⟨_, rfl⟩) hQ (Or.inr ⟨_, rfl⟩) dX6_rootText_26 (by omega) (by omega) ⟨⟨s23, rfl⟩, hC, hK⟩
set_option maxHeartbeats 4000000 in
set_option maxRecDepth 100000 in
theorem s_X6_period (l : Launch) {K : KC} {E : GE} {w : Wd} {τ ad : Nat → Nat} {bs ss : Nat → Int} {pb : Nat → PT} {P Q : Nat → Nat} {ct : Nat → Int} (hC0 : CS τ ad w bs ss pb P Q ct) {b : Int} (hb : GB b) : St K E l yX6_period cX6_period 2 (some .int) 6 (0) (0) [.ref (ad 100), iI b] w (fun r' w' => ∃ (r : Int) (p : Nat), r' = some (iI (p : Int)) ∧ RT b r ∧ isPer b r p ∧ CS τ ad w' (bs) (ss) (pb) (P) (Q) (ct) ∧ KO τ w w') := by
  refine st_intro [some (.ref (ad 100)), some (iI b)] rfl (Nat.le_of_ble_eq_true rfl) pn_X6 ?_
  intro X C hT hRm hl hnm hQ
  obtain ⟨hRf, hRl, hRc, hRs⟩ := hRm
  refine g_wf (fun hwf => ?_)
  have hC := hC0
  have hK : KO τ w w := KO.rf _ _
  refine g_iload_n C dX6_period_0 rfl ?_
  refine g_callS C (s_X6_checkBase _ (v := b) hb) ml_RX6_65 sm_yX6_checkBase in_RX6 co_yX6_checkBase hd_X6_checkBase rfl ⟨by omega, by omega⟩ rfl (Nat.le_of_ble_eq_true rfl) ⟨by omega, by omega⟩ dX6_period_1 (fun v1 w1 hp1 => ?_)
  obtain ⟨rfl, hw1⟩ := hp1
  subst w1
  obtain ⟨fb, fr, m0, d0, a0, hF0, hv0, hb0⟩ := hC.F
  refine g_aload_n C dX6_period_4 rfl ?_
  refine g_get (ci := 8) C rfl inTX6 3 (by decide) fl_RX6_30 rfl hC.o rfl dX6_period_5 ?_
  refine g_iload_n C dX6_period_8 rfl ?_
  refine t_callV C hT (s_X1_expand _ hC.N hF0 hv0 hb0 hb) (RcV.ob (ci := 3) C rfl hF0.1) rfl ml_RX6_152 im_yX1_expand se_RX1_yX1_expand in_RX1 co_yX1_expand hd_X1_expand rfl ⟨by omega, by omega⟩ rfl (Nat.le_of_ble_eq_true rfl) ⟨by omega, by omega⟩ dX6_period_9 (fun v9 w9 hp9 => ?_)
  obtain ⟨rfl, r1, m1, d1, a1, hF, V1, G1, N1, K1⟩ := hp9
  have hb1 := hb.1
  have hb2 := hb.2.1
  replace hC := hC.kf K1 N1 ⟨_, _, _, _, _, hF, Or.inr ⟨V1, G1⟩, by omega⟩
  replace hK := hK.tr K1.kc
  have hva := V1.a
  refine g_aload_n C dX6_period_12 rfl ?_
  refine g_get (ci := 8) C rfl inTX6 3 (by decide) fl_RX6_30 rfl hC.o rfl dX6_period_13 ?_
  refine g_callV C (s_X1_turn _ hF (fun k hk => by have := V1.a k hk; omega)) (ci := 3) rfl hF.1 rfl ml_RX6_155 im_yX1_turn se_RX1_yX1_turn in_RX1 co_yX1_turn hd_X1_turn rfl ⟨by omega, by omega⟩ rfl (Nat.le_of_ble_eq_true rfl) ⟨by omega, by omega⟩ dX6_period_16 (fun v16 w16 hp16 => ?_)
  obtain ⟨⟨p, rfl, hp1, hp2, hp3⟩, hw16⟩ := hp16
  subst w16
  exact g_ireturn C hQ dX6_period_19 (by omega) (by omega) ⟨r1, p, rfl, V1.2.1, V1.per hp1 hp2 hp3, hC, hK⟩
set_option maxHeartbeats 4000000 in
set_option maxRecDepth 100000 in
theorem s_X6_solution (l : Launch) {K : KC} {E : GE} {w : Wd} {τ ad : Nat → Nat} {bs ss : Nat → Int} {pb : Nat → PT} {P Q : Nat → Nat} {ct : Nat → Int} (hC0 : CS τ ad w bs ss pb P Q ct) {b : Int} (hb : GB b) {y : Int} (hy : y = 0 ∨ y = 1) : St K E l yX6_solution cX6_solution 4 (some (.object "java/lang/String")) 9 (61) (2600) [.ref (ad 100), iI b, iI y] w (fun r' w' => (∃ s : Nat, r' = some (.ref s)) ∧ CS τ ad w' (bs) (ss) (pb) (P) (Q) (ct) ∧ KO τ w w') := by
  refine st_intro [some (.ref (ad 100)), some (iI b), some (iI y), none] rfl (Nat.le_of_ble_eq_true rfl) pn_X6 ?_
  intro X C hT hRm hl hnm hQ
  obtain ⟨hRf, hRl, hRc, hRs⟩ := hRm
  refine g_wf (fun hwf => ?_)
  have hC := hC0
  have hK : KO τ w w := KO.rf _ _
  refine g_iload_n C dX6_solution_0 rfl ?_
  refine g_callS C (s_X6_checkBase _ (v := b) hb) ml_RX6_65 sm_yX6_checkBase in_RX6 co_yX6_checkBase hd_X6_checkBase rfl ⟨by omega, by omega⟩ rfl (Nat.le_of_ble_eq_true rfl) ⟨by omega, by omega⟩ dX6_solution_1 (fun v1 w1 hp1 => ?_)
  obtain ⟨rfl, hw1⟩ := hp1
  subst w1
  obtain ⟨fb, fr, m0, d0, a0, hF0, hv0, hb0⟩ := hC.F
  refine g_aload_n C dX6_solution_4 rfl ?_
  refine g_get (ci := 8) C rfl inTX6 3 (by decide) fl_RX6_30 rfl hC.o rfl dX6_solution_5 ?_
  refine g_iload_n C dX6_solution_8 rfl ?_
  refine t_callV C hT (s_X1_expand _ hC.N hF0 hv0 hb0 hb) (RcV.ob (ci := 3) C rfl hF0.1) rfl ml_RX6_152 im_yX1_expand se_RX1_yX1_expand in_RX1 co_yX1_expand hd_X1_expand rfl ⟨by omega, by omega⟩ rfl (Nat.le_of_ble_eq_true rfl) ⟨by omega, by omega⟩ dX6_solution_9 (fun v9 w9 hp9 => ?_)
  obtain ⟨rfl, r1, m1, d1, a1, hF, V1, G1, N1, K1⟩ := hp9
  have hb1 := hb.1
  have hb2 := hb.2.1
  replace hC := hC.kf K1 N1 ⟨_, _, _, _, _, hF, Or.inr ⟨V1, G1⟩, by omega⟩
  replace hK := hK.tr K1.kc
  have hva := V1.a
  refine g_aload_n C dX6_solution_12 rfl ?_
  refine g_get (ci := 8) C rfl inTX6 3 (by decide) fl_RX6_30 rfl hC.o rfl dX6_solution_13 ?_
  refine g_callV C (s_X1_solutionStep _ hF (fun k hk => by have := V1.a k hk; omega)) (ci := 3) rfl hF.1 rfl ml_RX6_175 im_yX1_solutionStep se_RX1_yX1_solutionStep in_RX1 co_yX1_solutionStep hd_X1_solutionStep rfl ⟨by omega, by omega⟩ rfl (Nat.le_of_ble_eq_true rfl) ⟨by omega, by omega⟩ dX6_solution_16 (fun v16 w16 hp16 => ?_)
  obtain ⟨⟨p16, rfl, hp16a, hp16b, hp16c⟩, hw16⟩ := hp16
  subst w16
  have hl16 : leaK p16 ≤ 50 := by unfold leaK; split <;> omega
  refine g_istore_n C dX6_solution_19 (by decide) rfl ?_
  refine g_aload_n C dX6_solution_20 rfl ?_
  refine g_get (ci := 8) C rfl inTX6 4 (by decide) fl_RX6_37 rfl hC.o rfl dX6_solution_21 ?_
  refine g_iload_n C dX6_solution_24 rfl ?_
  have J : ∀ j : Nat, (16 ≤ j ∧ j < 70) → G E X 4 47 [some (.ref (ad 100)), some (iI b), some (iI y), some (iI ((leaK p16 : Nat) : Int))] [.ref (wo ad j), .ref (ad 110)] w9 0 0 := by
    intro j hj
    refine g_bipush C dX6_solution_47 (by decide) ?_
    refine t_callV C hT (s_X0_text _ hC.N hC.D (j := j) (by omega) (rx := 10) (by omega)) (RcV.ob (ci := 2) C rfl hC.D) rfl ml_RX6_102 im_yX0_text se_RX0_yX0_text in_RX0 co_yX0_text hd_X0_text rfl ⟨by omega, by omega⟩ rfl (Nat.le_of_ble_eq_true rfl) ⟨by omega, by omega⟩ dX6_solution_49 (fun v49 w49 hp49 => ?_)
    obtain ⟨⟨s49, rfl⟩, hN49, hk49⟩ := hp49
    replace hC := hC.kn hk49 hN49
    replace hK := hK.tr hk49.kc
    exact g_areturn C (Or.inl ⟨_, rfl⟩) hQ (Or.inr ⟨_, rfl⟩) dX6_solution_52 (by omega) (by omega) ⟨⟨s49, rfl⟩, hC, hK⟩
  refine g_if_eq (tgt := 39) C dX6_solution_25 (by decide) (by omega) (fun h25 => ?_) (fun h25 => ?_)
  · refine g_aload_n C dX6_solution_39 rfl ?_
    refine g_get (ci := 8) C rfl inTX6 3 (by decide) fl_RX6_30 rfl hC.o rfl dX6_solution_40 ?_
    refine g_iload_n C dX6_solution_43 rfl ?_
    refine g_callV C (s_X1_bottom _ hF (k := ((leaK p16 : Nat) : Int)) (by omega)) (ci := 3) rfl hF.1 rfl ml_RX6_123 im_yX1_bottom se_RX1_yX1_bottom in_RX1 co_yX1_bottom hd_X1_bottom rfl ⟨by omega, by omega⟩ rfl (Nat.le_of_ble_eq_true rfl) ⟨by omega, by omega⟩ dX6_solution_44 (fun v44 w44 hp44 => ?_)
    obtain ⟨⟨j44, rfl, hj44a, hj44b, hj44⟩, hw44⟩ := hp44
    subst w44
    exact J _ (by omega)
  · refine g_aload_n C dX6_solution_28 rfl ?_
    refine g_get (ci := 8) C rfl inTX6 3 (by decide) fl_RX6_30 rfl hC.o rfl dX6_solution_29 ?_
    refine g_iload_n C dX6_solution_32 rfl ?_
    refine g_callV C (s_X1_top _ hF (k := ((leaK p16 : Nat) : Int)) (by omega)) (ci := 3) rfl hF.1 rfl ml_RX6_119 im_yX1_top se_RX1_yX1_top in_RX1 co_yX1_top hd_X1_top rfl ⟨by omega, by omega⟩ rfl (Nat.le_of_ble_eq_true rfl) ⟨by omega, by omega⟩ dX6_solution_33 (fun v33 w33 hp33 => ?_)
    obtain ⟨⟨j33, rfl, hj33a, hj33b, hj33⟩, hw33⟩ := hp33
    subst w33
    refine g_goto (tgt := 47) C dX6_solution_36 (by decide) ?_
    exact J _ (by omega)
set_option maxHeartbeats 4000000 in
set_option maxRecDepth 100000 in
theorem s_X6_minus (l : Launch) {K : KC} {E : GE} {w : Wd} {τ ad : Nat → Nat} {bs ss : Nat → Int} {pb : Nat → PT} {P Q : Nat → Nat} {ct : Nat → Int} (hC0 : CS τ ad w bs ss pb P Q ct) {b : Int} (hb : GB b) {y : Int} (hy : y = 0 ∨ y = 1) : St K E l yX6_minus cX6_minus 4 (some (.object "java/lang/String")) 9 (61) (2600) [.ref (ad 100), iI b, iI y] w (fun r' w' => (∃ s : Nat, r' = some (.ref s)) ∧ CS τ ad w' (bs) (ss) (pb) (P) (Q) (ct) ∧ KO τ w w') := by
  refine st_intro [some (.ref (ad 100)), some (iI b), some (iI y), none] rfl (Nat.le_of_ble_eq_true rfl) pn_X6 ?_
  intro X C hT hRm hl hnm hQ
  obtain ⟨hRf, hRl, hRc, hRs⟩ := hRm
  refine g_wf (fun hwf => ?_)
  have hC := hC0
  have hK : KO τ w w := KO.rf _ _
  refine g_iload_n C dX6_minus_0 rfl ?_
  refine g_callS C (s_X6_checkBase _ (v := b) hb) ml_RX6_65 sm_yX6_checkBase in_RX6 co_yX6_checkBase hd_X6_checkBase rfl ⟨by omega, by omega⟩ rfl (Nat.le_of_ble_eq_true rfl) ⟨by omega, by omega⟩ dX6_minus_1 (fun v1 w1 hp1 => ?_)
  obtain ⟨rfl, hw1⟩ := hp1
  subst w1
  obtain ⟨fb, fr, m0, d0, a0, hF0, hv0, hb0⟩ := hC.F
  refine g_aload_n C dX6_minus_4 rfl ?_
  refine g_get (ci := 8) C rfl inTX6 3 (by decide) fl_RX6_30 rfl hC.o rfl dX6_minus_5 ?_
  refine g_iload_n C dX6_minus_8 rfl ?_
  refine t_callV C hT (s_X1_expand _ hC.N hF0 hv0 hb0 hb) (RcV.ob (ci := 3) C rfl hF0.1) rfl ml_RX6_152 im_yX1_expand se_RX1_yX1_expand in_RX1 co_yX1_expand hd_X1_expand rfl ⟨by omega, by omega⟩ rfl (Nat.le_of_ble_eq_true rfl) ⟨by omega, by omega⟩ dX6_minus_9 (fun v9 w9 hp9 => ?_)
  obtain ⟨rfl, r1, m1, d1, a1, hF, V1, G1, N1, K1⟩ := hp9
  have hb1 := hb.1
  have hb2 := hb.2.1
  replace hC := hC.kf K1 N1 ⟨_, _, _, _, _, hF, Or.inr ⟨V1, G1⟩, by omega⟩
  replace hK := hK.tr K1.kc
  have hva := V1.a
  refine g_aload_n C dX6_minus_12 rfl ?_
  refine g_get (ci := 8) C rfl inTX6 3 (by decide) fl_RX6_30 rfl hC.o rfl dX6_minus_13 ?_
  refine g_callV C (s_X1_isTurnOdd _ hF (fun k hk => by have := V1.a k hk; omega)) (ci := 3) rfl hF.1 rfl ml_RX6_178 im_yX1_isTurnOdd se_RX1_yX1_isTurnOdd in_RX1 co_yX1_isTurnOdd hd_X1_isTurnOdd rfl ⟨by omega, by omega⟩ rfl (Nat.le_of_ble_eq_true rfl) ⟨by omega, by omega⟩ dX6_minus_16 (fun v16 w16 hp16 => ?_)
  obtain ⟨⟨p, rfl, hp1, hp2, hp3⟩, hw16⟩ := hp16
  subst w16
  refine g_if_ne (tgt := 25) C dX6_minus_19 (by decide) (bI_r _) (fun h19 => ?_) (fun h19 => ?_)
  · refine g_aload_n C dX6_minus_25 rfl ?_
    refine g_get (ci := 8) C rfl inTX6 3 (by decide) fl_RX6_30 rfl hC.o rfl dX6_minus_26 ?_
    refine g_callV C (s_X1_turn _ hF (fun k hk => by have := V1.a k hk; omega)) (ci := 3) rfl hF.1 rfl ml_RX6_155 im_yX1_turn se_RX1_yX1_turn in_RX1 co_yX1_turn hd_X1_turn rfl ⟨by omega, by omega⟩ rfl (Nat.le_of_ble_eq_true rfl) ⟨by omega, by omega⟩ dX6_minus_29 (fun v29 w29 hp29 => ?_)
    obtain ⟨⟨p2, rfl, hp4, hp5, hp6⟩, hw29⟩ := hp29
    subst w29
    refine g_iconst C dX6_minus_32 ?_
    refine g_isub C dX6_minus_33 ?_
    refine g_istore_n C dX6_minus_34 (by decide) rfl ?_
    refine g_aload_n C dX6_minus_35 rfl ?_
    refine g_get (ci := 8) C rfl inTX6 4 (by decide) fl_RX6_37 rfl hC.o rfl dX6_minus_36 ?_
    refine g_iload_n C dX6_minus_39 rfl ?_
    have J : ∀ j : Nat, (16 ≤ j ∧ j < 70) → G E X 4 62 [some (.ref (ad 100)), some (iI b), some (iI y), some (iI ((p2 : Int) - 1))] [.ref (wo ad j), .ref (ad 110)] w9 0 0 := by
      intro j hj
      refine g_bipush C dX6_minus_62 (by decide) ?_
      refine t_callV C hT (s_X0_text _ hC.N hC.D (j := j) (by omega) (rx := 10) (by omega)) (RcV.ob (ci := 2) C rfl hC.D) rfl ml_RX6_102 im_yX0_text se_RX0_yX0_text in_RX0 co_yX0_text hd_X0_text rfl ⟨by omega, by omega⟩ rfl (Nat.le_of_ble_eq_true rfl) ⟨by omega, by omega⟩ dX6_minus_64 (fun v64 w64 hp64 => ?_)
      obtain ⟨⟨s64, rfl⟩, hN64, hk64⟩ := hp64
      replace hC := hC.kn hk64 hN64
      replace hK := hK.tr hk64.kc
      exact g_areturn C (Or.inl ⟨_, rfl⟩) hQ (Or.inr ⟨_, rfl⟩) dX6_minus_67 (by omega) (by omega) ⟨⟨s64, rfl⟩, hC, hK⟩
    refine g_if_eq (tgt := 54) C dX6_minus_40 (by decide) (by omega) (fun h40 => ?_) (fun h40 => ?_)
    · refine g_aload_n C dX6_minus_54 rfl ?_
      refine g_get (ci := 8) C rfl inTX6 3 (by decide) fl_RX6_30 rfl hC.o rfl dX6_minus_55 ?_
      refine g_iload_n C dX6_minus_58 rfl ?_
      refine g_callV C (s_X1_bottom _ hF (k := ((p2 : Int) - 1)) (by omega)) (ci := 3) rfl hF.1 rfl ml_RX6_123 im_yX1_bottom se_RX1_yX1_bottom in_RX1 co_yX1_bottom hd_X1_bottom rfl ⟨by omega, by omega⟩ rfl (Nat.le_of_ble_eq_true rfl) ⟨by omega, by omega⟩ dX6_minus_59 (fun v59 w59 hp59 => ?_)
      obtain ⟨⟨j59, rfl, hj59a, hj59b, hj59⟩, hw59⟩ := hp59
      subst w59
      exact J _ (by omega)
    · refine g_aload_n C dX6_minus_43 rfl ?_
      refine g_get (ci := 8) C rfl inTX6 3 (by decide) fl_RX6_30 rfl hC.o rfl dX6_minus_44 ?_
      refine g_iload_n C dX6_minus_47 rfl ?_
      refine g_callV C (s_X1_top _ hF (k := ((p2 : Int) - 1)) (by omega)) (ci := 3) rfl hF.1 rfl ml_RX6_119 im_yX1_top se_RX1_yX1_top in_RX1 co_yX1_top hd_X1_top rfl ⟨by omega, by omega⟩ rfl (Nat.le_of_ble_eq_true rfl) ⟨by omega, by omega⟩ dX6_minus_48 (fun v48 w48 hp48 => ?_)
      obtain ⟨⟨j48, rfl, hj48a, hj48b, hj48⟩, hw48⟩ := hp48
      subst w48
      refine g_goto (tgt := 62) C dX6_minus_51 (by decide) ?_
      exact J _ (by omega)
  · refine g_ldcS C hT 4 rfl dX6_minus_22 ?_
    exact g_areturn C (Or.inl ⟨_, rfl⟩) hQ (Or.inr ⟨_, rfl⟩) dX6_minus_24 (by omega) (by omega) ⟨⟨_, rfl⟩, hC, hK⟩
theorem SBq.up {W0 w : Wd} {a N N' : Nat} (h : SBq W0 w a N) (hN : N ≤ N') : SBq W0 w a N' := by
  obtain ⟨v, n, m, h1, h2, h3, h4, h5, h6⟩ := h
  exact ⟨v, n, m, h1, by omega, h3, h4, h5, h6⟩
set_option maxHeartbeats 4000000 in
set_option maxRecDepth 100000 in
theorem s_X6_periodText (l : Launch) {K : KC} {E : GE} {w : Wd} {τ ad : Nat → Nat} {bs ss : Nat → Int} {pb : Nat → PT} {P Q : Nat → Nat} {ct : Nat → Int} (hC0 : CS τ ad w bs ss pb P Q ct) {b : Int} (hb : GB b) : St K E l yX6_periodText cX6_periodText 5 (some (.object "java/lang/String")) 7 (50) (27000) [.ref (ad 100), iI b] w (fun r' w' => (∃ s : Nat, r' = some (.ref s)) ∧ CS τ ad w' (bs) (ss) (pb) (P) (Q) (ct) ∧ KO τ w w') := by
  refine st_intro [some (.ref (ad 100)), some (iI b), none, none, none] rfl (Nat.le_of_ble_eq_true rfl) pn_X6 ?_
  intro X C hT hRm hl hnm hQ
  obtain ⟨hRf, hRl, hRc, hRs⟩ := hRm
  refine g_wf (fun hwf => ?_)
  have hC := hC0
  have hK : KO τ w w := KO.rf _ _
  refine g_iload_n C dX6_periodText_0 rfl ?_
  refine g_callS C (s_X6_checkBase _ (v := b) hb) ml_RX6_65 sm_yX6_checkBase in_RX6 co_yX6_checkBase hd_X6_checkBase rfl ⟨by omega, by omega⟩ rfl (Nat.le_of_ble_eq_true rfl) ⟨by omega, by omega⟩ dX6_periodText_1 (fun v1 w1 hp1 => ?_)
  obtain ⟨rfl, hw1⟩ := hp1
  subst w1
  obtain ⟨fb, fr, m0, d0, a0, hF0, hv0, hb0⟩ := hC.F
  refine g_aload_n C dX6_periodText_4 rfl ?_
  refine g_get (ci := 8) C rfl inTX6 3 (by decide) fl_RX6_30 rfl hC.o rfl dX6_periodText_5 ?_
  refine g_iload_n C dX6_periodText_8 rfl ?_
  refine t_callV C hT (s_X1_expand _ hC.N hF0 hv0 hb0 hb) (RcV.ob (ci := 3) C rfl hF0.1) rfl ml_RX6_152 im_yX1_expand se_RX1_yX1_expand in_RX1 co_yX1_expand hd_X1_expand rfl ⟨by omega, by omega⟩ rfl (Nat.le_of_ble_eq_true rfl) ⟨by omega, by omega⟩ dX6_periodText_9 (fun v9 w9 hp9 => ?_)
  obtain ⟨rfl, r1, m1, d1, a1, hF, V1, G1, N1, K1⟩ := hp9
  have hb1 := hb.1
  have hb2 := hb.2.1
  replace hC := hC.kf K1 N1 ⟨_, _, _, _, _, hF, Or.inr ⟨V1, G1⟩, by omega⟩
  replace hK := hK.tr K1.kc
  have hva := V1.a
  refine g_aload_n C dX6_periodText_12 rfl ?_
  refine g_get (ci := 8) C rfl inTX6 3 (by decide) fl_RX6_30 rfl hC.o rfl dX6_periodText_13 ?_
  refine g_callV C (s_X1_turn _ hF (fun k hk => by have := V1.a k hk; omega)) (ci := 3) rfl hF.1 rfl ml_RX6_155 im_yX1_turn se_RX1_yX1_turn in_RX1 co_yX1_turn hd_X1_turn rfl ⟨by omega, by omega⟩ rfl (Nat.le_of_ble_eq_true rfl) ⟨by omega, by omega⟩ dX6_periodText_16 (fun v16 w16 hp16 => ?_)
  obtain ⟨⟨p, rfl, hp1, hp2, hp3⟩, hw16⟩ := hp16
  subst w16
  have hper := (V1.per hp1 hp2 hp3).2.1
  refine g_istore_n C dX6_periodText_19 (by decide) rfl ?_
  refine g_wf (fun hwq => ?_)
  refine g_new (ci := 1) C rfl inTJ4 tyJ4 tyJ4_ok kl_RX6_158 ib_RJ4 in_RJ4 (fs := [.null, iI 0, iI 0, iI 0]) (by intro j hj; repeat (first | rfl | (cases j; rfl) | (rename_i j; cases j; rfl) | omega)) (by omega) dX6_periodText_20 ?_
  refine g_dup C dX6_periodText_23 rfl ?_
  refine t_callI C hT (c_J4_init_da8c8 _ wpush_s) ml_RX6_160 im_yJ4_init_da8c8 in_RJ4 co_yJ4_init_da8c8 rfl hd_J4_init_da8c8 rfl ⟨by omega, by omega⟩ rfl (Nat.le_of_ble_eq_true rfl) ⟨by omega, by omega⟩ dX6_periodText_24 (fun v24 w24 hp24 => ?_)
  obtain ⟨rfl, hq0⟩ := hp24
  have hq := SBq.new hwq hq0
  have hqb := hwq
  have gF := fun (N : Nat) (z : Wd) (hz : SBq w9 z w9.1 N) => hF.frm hz.f hqb
  have gC := fun (N : Nat) (z : Wd) (hz : SBq w9 z w9.1 N) => hC.fr hz.f hqb
  refine g_astore_n C dX6_periodText_27 (by decide) rfl ?_
  refine g_aload_n C dX6_periodText_28 rfl ?_
  refine g_aload_n C dX6_periodText_29 rfl ?_
  refine g_get (ci := 8) C rfl inTX6 3 (by decide) fl_RX6_30 rfl (gC _ _ hq).o rfl dX6_periodText_30 ?_
  refine g_iconst C dX6_periodText_33 ?_
  refine g_callV C (s_X1_partA _ (gF _ _ hq) (k := 0) (by omega)) (ci := 3) rfl (gF _ _ hq).1 rfl ml_RX6_161 im_yX1_partA se_RX1_yX1_partA in_RX1 co_yX1_partA hd_X1_partA rfl ⟨by omega, by omega⟩ rfl (Nat.le_of_ble_eq_true rfl) ⟨by omega, by omega⟩ dX6_periodText_34 (fun v34 w34 hp34 => ?_)
  obtain ⟨⟨p34, rfl, hp34a, hp34b⟩, hw34⟩ := hp34
  subst w34
  have hv34 := hva p34 (by omega)
  obtain ⟨v37, n37, m37, hS37, hn37, hm37, hv37, ha37, hf37⟩ := hq
  refine t_callV C hT (c_J4_append_bf812 _ hS37 (by omega) (by omega) (by omega)) (RcV.sb C hS37) rfl ml_RX6_164 im_yJ4_append_bf812 se_RJ4_yJ4_append_bf812 in_RJ4 co_yJ4_append_bf812 hd_J4_append_bf812 rfl ⟨by omega, by omega⟩ rfl (Nat.le_of_ble_eq_true rfl) ⟨by omega, by omega⟩ dX6_periodText_37 (fun v37 w37 hp37 => ?_)
  obtain ⟨rfl, x37⟩ := hp37
  replace hq := SBq.int hn37 hm37 hv37 ha37 hf37 x37
  refine g_pop C dX6_periodText_40 rfl ?_
  refine g_iconst C dX6_periodText_41 ?_
  refine g_istore C dX6_periodText_42 (by decide) rfl ?_
  refine g_widen (k' := 4 + 2 * 1) (n' := 400 + 1500 * 1) (by omega) (by omega) ?_
  refine g_loop (σ := Nat × Wd) (fun s => 1 ≤ s.1 ∧ s.1 ≤ p + 1 ∧ SBq w9 s.2 w9.1 (12 * s.1)) (fun s => G E X 5 44 [some (.ref (ad 100)), some (iI b), some (iI (p : Int)), some (.ref w9.1), some (iI (s.1 : Int))] [] s.2 (4 + 2 * s.1) (400 + 1500 * s.1)) (fun s => p + 1 - s.1) ?_ (1, w37) ⟨by dsimp only; omega, by dsimp only; omega, hq.up (by omega)⟩
  clear hq
  rintro ⟨j, u⟩ hqq ih
  obtain ⟨hj1, hj2, hq⟩ := hqq
  dsimp only at hj1 hj2 hq ⊢
  refine g_iload C dX6_periodText_44 rfl ?_
  refine g_iload_n C dX6_periodText_46 rfl ?_
  refine g_icmp_gt (tgt := 75) C dX6_periodText_47 (by decide) (by omega) (by omega) (fun h47 => ?_) (fun h47 => ?_)
  · refine g_aload_n C dX6_periodText_75 rfl ?_
    obtain ⟨v76, n76, m76, hS76, hn76, hm76, hv76, ha76, hf76⟩ := hq
    refine t_callV C hT (c_J4_toString_0e30d _ hS76 (by omega)) (RcV.sb C hS76) rfl ml_RX6_171 im_yJ4_toString_0e30d se_RJ4_yJ4_toString_0e30d in_RJ4 co_yJ4_toString_0e30d hd_J4_toString_0e30d rfl ⟨by omega, by omega⟩ rfl (Nat.le_of_ble_eq_true rfl) ⟨by omega, by omega⟩ dX6_periodText_76 (fun v76 w76 hp76 => ?_)
    obtain ⟨rfl, hfr76⟩ := hp76
    have hfx := hf76.tr hfr76
    exact g_areturn C (Or.inl ⟨_, rfl⟩) hQ (Or.inr ⟨_, rfl⟩) dX6_periodText_79 (by omega) (by omega) ⟨⟨_, rfl⟩, hC.fr hfx hqb, hK.tr (KO.fr hfx hqb)⟩
  · refine g_aload_n C dX6_periodText_50 rfl ?_
    refine g_bipush C dX6_periodText_51 (by decide) ?_
    obtain ⟨v53, n53, m53, hS53, hn53, hm53, hv53, ha53, hf53⟩ := hq
    have hg53 := grow1c hm53
    refine t_callV C hT (c_J4_append_cf468 _ hS53 (x := 32) (by omega) (by omega) (by omega)) (RcV.sb C hS53) rfl ml_RX6_168 im_yJ4_append_cf468 se_RJ4_yJ4_append_cf468 in_RJ4 co_yJ4_append_cf468 hd_J4_append_cf468 rfl ⟨by omega, by omega⟩ rfl (Nat.le_of_ble_eq_true rfl) ⟨by omega, by omega⟩ dX6_periodText_53 (fun v53 w53 hp53 => ?_)
    obtain ⟨rfl, x53⟩ := hp53
    replace hq := SBq.chr hn53 hm53 hv53 ha53 hf53 x53
    refine g_aload_n C dX6_periodText_56 rfl ?_
    refine g_get (ci := 8) C rfl inTX6 3 (by decide) fl_RX6_30 rfl (gC _ _ hq).o rfl dX6_periodText_57 ?_
    refine g_iload C dX6_periodText_60 rfl ?_
    refine g_callV C (s_X1_partA _ (gF _ _ hq) (k := (j : Int)) (by omega)) (ci := 3) rfl (gF _ _ hq).1 rfl ml_RX6_161 im_yX1_partA se_RX1_yX1_partA in_RX1 co_yX1_partA hd_X1_partA rfl ⟨by omega, by omega⟩ rfl (Nat.le_of_ble_eq_true rfl) ⟨by omega, by omega⟩ dX6_periodText_62 (fun v62 w62 hp62 => ?_)
    obtain ⟨⟨p62, rfl, hp62a, hp62b⟩, hw62⟩ := hp62
    subst w62
    have hv62 := hva p62 (by omega)
    obtain ⟨v65, n65, m65, hS65, hn65, hm65, hv65, ha65, hf65⟩ := hq
    refine t_callV C hT (c_J4_append_bf812 _ hS65 (by omega) (by omega) (by omega)) (RcV.sb C hS65) rfl ml_RX6_164 im_yJ4_append_bf812 se_RJ4_yJ4_append_bf812 in_RJ4 co_yJ4_append_bf812 hd_J4_append_bf812 rfl ⟨by omega, by omega⟩ rfl (Nat.le_of_ble_eq_true rfl) ⟨by omega, by omega⟩ dX6_periodText_65 (fun v65 w65 hp65 => ?_)
    obtain ⟨rfl, x65⟩ := hp65
    replace hq := SBq.int hn65 hm65 hv65 ha65 hf65 x65
    refine g_pop C dX6_periodText_68 rfl ?_
    refine g_iinc C dX6_periodText_69 rfl (by decide) rfl ?_
    refine g_goto (tgt := 44) C dX6_periodText_72 (by decide) ?_
    rw [show (j : Int) + 1 = ((j + 1 : Nat) : Int) by omega]
    refine g_widen (k' := 4 + 2 * (j + 1)) (n' := 400 + 1500 * (j + 1)) (by omega) (by omega) ?_
    exact ih (j + 1, w65) ⟨by dsimp only; omega, by dsimp only; omega, hq.up (by omega)⟩ (by dsimp only; omega)
set_option maxHeartbeats 4000000 in
set_option maxRecDepth 100000 in
theorem s_X6_middle (l : Launch) {K : KC} {E : GE} {w : Wd} {τ ad : Nat → Nat} {bs ss : Nat → Int} {pb : Nat → PT} {P Q : Nat → Nat} {ct : Nat → Int} (hC0 : CS τ ad w bs ss pb P Q ct) {b : Int} (hb : GB b) : St K E l yX6_middle cX6_middle 4 (some (.object "java/lang/String")) 7 (20) (1000) [.ref (ad 100), iI b] w (fun r' w' => (∃ s : Nat, r' = some (.ref s)) ∧ CS τ ad w' (bs) (ss) (pb) (P) (Q) (ct) ∧ KO τ w w') := by
  refine st_intro [some (.ref (ad 100)), some (iI b), none, none] rfl (Nat.le_of_ble_eq_true rfl) pn_X6 ?_
  intro X C hT hRm hl hnm hQ
  obtain ⟨hRf, hRl, hRc, hRs⟩ := hRm
  refine g_wf (fun hwf => ?_)
  have hC := hC0
  have hK : KO τ w w := KO.rf _ _
  refine g_iload_n C dX6_middle_0 rfl ?_
  refine g_callS C (s_X6_checkBase _ (v := b) hb) ml_RX6_65 sm_yX6_checkBase in_RX6 co_yX6_checkBase hd_X6_checkBase rfl ⟨by omega, by omega⟩ rfl (Nat.le_of_ble_eq_true rfl) ⟨by omega, by omega⟩ dX6_middle_1 (fun v1 w1 hp1 => ?_)
  obtain ⟨rfl, hw1⟩ := hp1
  subst w1
  obtain ⟨fb, fr, m0, d0, a0, hF0, hv0, hb0⟩ := hC.F
  refine g_aload_n C dX6_middle_4 rfl ?_
  refine g_get (ci := 8) C rfl inTX6 3 (by decide) fl_RX6_30 rfl hC.o rfl dX6_middle_5 ?_
  refine g_iload_n C dX6_middle_8 rfl ?_
  refine t_callV C hT (s_X1_expand _ hC.N hF0 hv0 hb0 hb) (RcV.ob (ci := 3) C rfl hF0.1) rfl ml_RX6_152 im_yX1_expand se_RX1_yX1_expand in_RX1 co_yX1_expand hd_X1_expand rfl ⟨by omega, by omega⟩ rfl (Nat.le_of_ble_eq_true rfl) ⟨by omega, by omega⟩ dX6_middle_9 (fun v9 w9 hp9 => ?_)
  obtain ⟨rfl, r1, m1, d1, a1, hF, V1, G1, N1, K1⟩ := hp9
  have hb1 := hb.1
  have hb2 := hb.2.1
  replace hC := hC.kf K1 N1 ⟨_, _, _, _, _, hF, Or.inr ⟨V1, G1⟩, by omega⟩
  replace hK := hK.tr K1.kc
  have hva := V1.a
  refine g_aload_n C dX6_middle_12 rfl ?_
  refine g_get (ci := 8) C rfl inTX6 3 (by decide) fl_RX6_30 rfl hC.o rfl dX6_middle_13 ?_
  refine g_callV C (s_X1_isTurnOdd _ hF (fun k hk => by have := V1.a k hk; omega)) (ci := 3) rfl hF.1 rfl ml_RX6_178 im_yX1_isTurnOdd se_RX1_yX1_isTurnOdd in_RX1 co_yX1_isTurnOdd hd_X1_isTurnOdd rfl ⟨by omega, by omega⟩ rfl (Nat.le_of_ble_eq_true rfl) ⟨by omega, by omega⟩ dX6_middle_16 (fun v16 w16 hp16 => ?_)
  obtain ⟨⟨p, rfl, hp1, hp2, hp3⟩, hw16⟩ := hp16
  subst w16
  refine g_if_ne (tgt := 25) C dX6_middle_19 (by decide) (bI_r _) (fun h19 => ?_) (fun h19 => ?_)
  · refine g_aload_n C dX6_middle_25 rfl ?_
    refine g_get (ci := 8) C rfl inTX6 3 (by decide) fl_RX6_30 rfl hC.o rfl dX6_middle_26 ?_
    refine g_callV C (s_X1_turn _ hF (fun k hk => by have := V1.a k hk; omega)) (ci := 3) rfl hF.1 rfl ml_RX6_155 im_yX1_turn se_RX1_yX1_turn in_RX1 co_yX1_turn hd_X1_turn rfl ⟨by omega, by omega⟩ rfl (Nat.le_of_ble_eq_true rfl) ⟨by omega, by omega⟩ dX6_middle_29 (fun v29 w29 hp29 => ?_)
    obtain ⟨⟨p2, rfl, hp4, hp5, hp6⟩, hw29⟩ := hp29
    subst w29
    refine g_iconst C dX6_middle_32 ?_
    refine g_iadd C dX6_middle_33 ?_
    refine g_iconst C dX6_middle_34 ?_
    refine g_idivN C dX6_middle_35 (by omega) (by omega) ?_
    refine g_istore_n C dX6_middle_36 (by decide) rfl ?_
    refine g_wf (fun hwq => ?_)
    refine g_new (ci := 1) C rfl inTJ4 tyJ4 tyJ4_ok kl_RX6_158 ib_RJ4 in_RJ4 (fs := [.null, iI 0, iI 0, iI 0]) (by intro j hj; repeat (first | rfl | (cases j; rfl) | (rename_i j; cases j; rfl) | omega)) (by omega) dX6_middle_37 ?_
    refine g_dup C dX6_middle_40 rfl ?_
    refine t_callI C hT (c_J4_init_da8c8 _ wpush_s) ml_RX6_160 im_yJ4_init_da8c8 in_RJ4 co_yJ4_init_da8c8 rfl hd_J4_init_da8c8 rfl ⟨by omega, by omega⟩ rfl (Nat.le_of_ble_eq_true rfl) ⟨by omega, by omega⟩ dX6_middle_41 (fun v41 w41 hp41 => ?_)
    obtain ⟨rfl, hq0⟩ := hp41
    have hq := SBq.new hwq hq0
    have hqb := hwq
    have gF := fun (N : Nat) (z : Wd) (hz : SBq w9 z w9.1 N) => hF.frm hz.f hqb
    have gC := fun (N : Nat) (z : Wd) (hz : SBq w9 z w9.1 N) => hC.fr hz.f hqb
    refine g_astore_n C dX6_middle_44 (by decide) rfl ?_
    refine g_aload_n C dX6_middle_45 rfl ?_
    refine g_aload_n C dX6_middle_46 rfl ?_
    refine g_get (ci := 8) C rfl inTX6 3 (by decide) fl_RX6_30 rfl (gC _ _ hq).o rfl dX6_middle_47 ?_
    refine g_iload_n C dX6_middle_50 rfl ?_
    refine g_callV C (s_X1_partM _ (gF _ _ hq) (k := ((p2 : Int) + 1) / 2) (by omega)) (ci := 3) rfl (gF _ _ hq).1 rfl ml_RX6_184 im_yX1_partM se_RX1_yX1_partM in_RX1 co_yX1_partM hd_X1_partM rfl ⟨by omega, by omega⟩ rfl (Nat.le_of_ble_eq_true rfl) ⟨by omega, by omega⟩ dX6_middle_51 (fun v51 w51 hp51 => ?_)
    obtain ⟨⟨p51, rfl, hp51a, hp51b⟩, hw51⟩ := hp51
    subst w51
    have hv51 := hva p51 (by omega)
    obtain ⟨v54, n54, m54, hS54, hn54, hm54, hv54, ha54, hf54⟩ := hq
    refine t_callV C hT (c_J4_append_bf812 _ hS54 (by omega) (by omega) (by omega)) (RcV.sb C hS54) rfl ml_RX6_164 im_yJ4_append_bf812 se_RJ4_yJ4_append_bf812 in_RJ4 co_yJ4_append_bf812 hd_J4_append_bf812 rfl ⟨by omega, by omega⟩ rfl (Nat.le_of_ble_eq_true rfl) ⟨by omega, by omega⟩ dX6_middle_54 (fun v54 w54 hp54 => ?_)
    obtain ⟨rfl, x54⟩ := hp54
    replace hq := SBq.int hn54 hm54 hv54 ha54 hf54 x54
    refine g_bipush C dX6_middle_57 (by decide) ?_
    obtain ⟨v59, n59, m59, hS59, hn59, hm59, hv59, ha59, hf59⟩ := hq
    have hg59 := grow1c hm59
    refine t_callV C hT (c_J4_append_cf468 _ hS59 (x := 32) (by omega) (by omega) (by omega)) (RcV.sb C hS59) rfl ml_RX6_168 im_yJ4_append_cf468 se_RJ4_yJ4_append_cf468 in_RJ4 co_yJ4_append_cf468 hd_J4_append_cf468 rfl ⟨by omega, by omega⟩ rfl (Nat.le_of_ble_eq_true rfl) ⟨by omega, by omega⟩ dX6_middle_59 (fun v59 w59 hp59 => ?_)
    obtain ⟨rfl, x59⟩ := hp59
    replace hq := SBq.chr hn59 hm59 hv59 ha59 hf59 x59
    refine g_aload_n C dX6_middle_62 rfl ?_
    refine g_get (ci := 8) C rfl inTX6 3 (by decide) fl_RX6_30 rfl (gC _ _ hq).o rfl dX6_middle_63 ?_
    refine g_iload_n C dX6_middle_66 rfl ?_
    refine g_callV C (s_X1_partD _ (gF _ _ hq) (k := ((p2 : Int) + 1) / 2) (by omega)) (ci := 3) rfl (gF _ _ hq).1 rfl ml_RX6_187 im_yX1_partD se_RX1_yX1_partD in_RX1 co_yX1_partD hd_X1_partD rfl ⟨by omega, by omega⟩ rfl (Nat.le_of_ble_eq_true rfl) ⟨by omega, by omega⟩ dX6_middle_67 (fun v67 w67 hp67 => ?_)
    obtain ⟨⟨p67, rfl, hp67a, hp67b⟩, hw67⟩ := hp67
    subst w67
    have hv67 := hva p67 (by omega)
    obtain ⟨v70, n70, m70, hS70, hn70, hm70, hv70, ha70, hf70⟩ := hq
    refine t_callV C hT (c_J4_append_bf812 _ hS70 (by omega) (by omega) (by omega)) (RcV.sb C hS70) rfl ml_RX6_164 im_yJ4_append_bf812 se_RJ4_yJ4_append_bf812 in_RJ4 co_yJ4_append_bf812 hd_J4_append_bf812 rfl ⟨by omega, by omega⟩ rfl (Nat.le_of_ble_eq_true rfl) ⟨by omega, by omega⟩ dX6_middle_70 (fun v70 w70 hp70 => ?_)
    obtain ⟨rfl, x70⟩ := hp70
    replace hq := SBq.int hn70 hm70 hv70 ha70 hf70 x70
    refine g_pop C dX6_middle_73 rfl ?_
    refine g_aload_n C dX6_middle_74 rfl ?_
    obtain ⟨v75, n75, m75, hS75, hn75, hm75, hv75, ha75, hf75⟩ := hq
    refine t_callV C hT (c_J4_toString_0e30d _ hS75 (by omega)) (RcV.sb C hS75) rfl ml_RX6_171 im_yJ4_toString_0e30d se_RJ4_yJ4_toString_0e30d in_RJ4 co_yJ4_toString_0e30d hd_J4_toString_0e30d rfl ⟨by omega, by omega⟩ rfl (Nat.le_of_ble_eq_true rfl) ⟨by omega, by omega⟩ dX6_middle_75 (fun v75 w75 hp75 => ?_)
    obtain ⟨rfl, hfr75⟩ := hp75
    have hfx := hf75.tr hfr75
    exact g_areturn C (Or.inl ⟨_, rfl⟩) hQ (Or.inr ⟨_, rfl⟩) dX6_middle_78 (by omega) (by omega) ⟨⟨_, rfl⟩, hC.fr hfx hqb, hK.tr (KO.fr hfx hqb)⟩
  · refine g_ldcS C hT 4 rfl dX6_middle_22 ?_
    exact g_areturn C (Or.inl ⟨_, rfl⟩) hQ (Or.inr ⟨_, rfl⟩) dX6_middle_24 (by omega) (by omega) ⟨⟨_, rfl⟩, hC, hK⟩
