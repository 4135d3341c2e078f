theorem lg_sm0 {x : Int} (h : -2147483648 ≤ x ∧ x ≤ 2147483648) : ¬ LGN ≤ aB x := by
  unfold aB
  split <;> (show ¬ (1208925819614629174706176 : Int) ≤ _; omega)
theorem sm_of {b x y : Int} (hx : -2147483648 ≤ x ∧ x ≤ 2147483648) (hy : -2147483648 ≤ y ∧ y ≤ 2147483648) : sm (b, x, y) := fun c => c.elim (lg_sm0 hx) (lg_sm0 hy)
set_option maxHeartbeats 4000000 in
set_option maxRecDepth 100000 in
theorem s_X6_setSolution (l : Launch) {K : KC} {E : GE} {w : Wd} {τ ad : Nat → Nat} {bs ss : Nat → Int} {pb : Nat → PT} {P Q : Nat → Nat} {ct : Nat → Int} (hC0 : CS τ ad w bs ss pb P Q ct) {i : Nat} (hi : i < 6) {b : Int} (hb : GB b) : St K E l yX6_setSolution cX6_setSolution 4 none 5 (0) (0) [.ref (ad 100), .ref (ad (140 + i)), iI b] w (fun r' w' => r' = none ∧ ∃ r, RT b r ∧ CS τ ad w' (bs) (ss) (pup pb i (b, leaP b r, leaQ b r)) (P) (Q) (ct) ∧ KO τ w w') := by
  refine st_intro [some (.ref (ad 100)), some (.ref (ad (140 + i))), some (iI b), none] rfl (Nat.le_of_ble_eq_true rfl) pn_X6 ?_
  intro X C hT hRm hl hnm hQ
  obtain ⟨hRf, hRl, hRc, hRs⟩ := hRm
  refine g_wf (fun hwf => ?_)
  have hC := hC0
  have hK : KO τ w w := KO.rf _ _
  obtain ⟨fb, fr, m0, d0, a0, hF0, hv0, hb0⟩ := hC.F
  have hbl := hb.1
  have hbh := hb.2.1
  refine g_aload_n C dX6_setSolution_0 rfl ?_
  refine g_get (ci := 8) C rfl inTX6 3 (by decide) fl_RX6_30 rfl hC.o rfl dX6_setSolution_1 ?_
  refine g_iload_n C dX6_setSolution_4 rfl ?_
  refine t_callV C hT (s_X1_expand _ hC.N hF0 hv0 hb0 hb) (RcV.ob (ci := 3) C rfl hF0.1) rfl ml_RX6_152 im_yX1_expand se_RX1_yX1_expand in_RX1 co_yX1_expand hd_X1_expand rfl ⟨by omega, by omega⟩ rfl (Nat.le_of_ble_eq_true rfl) ⟨by omega, by omega⟩ dX6_setSolution_5 (fun v5 w5 hp5 => ?_)
  obtain ⟨rfl, r1, m1, d1, a1, hF, V1, hG, N1, K1⟩ := hp5
  replace hC := hC.kf K1 N1 ⟨_, _, _, _, _, hF, Or.inr ⟨V1, hG⟩, by omega⟩
  replace hK := hK.tr K1.kc
  refine g_aload_n C dX6_setSolution_8 rfl ?_
  refine g_get (ci := 8) C rfl inTX6 3 (by decide) fl_RX6_30 rfl hC.o rfl dX6_setSolution_9 ?_
  refine g_callV C (s_X1_solutionStep _ hF (fun k hk => by have := V1.a k hk; omega)) (ci := 3) rfl hF.1 rfl ml_RX6_175 im_yX1_solutionStep se_RX1_yX1_solutionStep in_RX1 co_yX1_solutionStep hd_X1_solutionStep rfl ⟨by omega, by omega⟩ rfl (Nat.le_of_ble_eq_true rfl) ⟨by omega, by omega⟩ dX6_setSolution_12 (fun v12 w12 hp12 => ?_)
  obtain ⟨⟨p, rfl, hp1, hp2, hp3⟩, hw12⟩ := hp12
  subst w12
  have hper := V1.per hp1 hp2 hp3
  have hlk : leaK p ≤ 25 := by
    have h16 := hper.2.1
    have h11 := fun ho => per_odd V1.1 V1.2.1 hper ho
    unfold leaK
    split
    · omega
    · have := h11 (by omega); omega
  have e1 : (pq b r1 1 r1 (leaK p)).1 = leaP b r1 := by unfold leaP; rw [perF_eq hper]
  have e2 : (pq b r1 0 1 (leaK p)).1 = leaQ b r1 := by unfold leaQ; rw [perF_eq hper]
  refine g_istore_n C dX6_setSolution_15 (by decide) rfl ?_
  refine g_aload_n C dX6_setSolution_16 rfl ?_
  refine g_iload_n C dX6_setSolution_17 rfl ?_
  refine g_aload_n C dX6_setSolution_18 rfl ?_
  refine g_get (ci := 8) C rfl inTX6 3 (by decide) fl_RX6_30 rfl hC.o rfl dX6_setSolution_19 ?_
  refine g_iload_n C dX6_setSolution_22 rfl ?_
  refine g_callV C (s_X1_top _ hF (k := ((leaK p : Nat) : Int)) (by omega)) (ci := 3) rfl hF.1 rfl ml_RX6_119 im_yX1_top se_RX1_yX1_top in_RX1 co_yX1_top hd_X1_top rfl ⟨by omega, by omega⟩ rfl (Nat.le_of_ble_eq_true rfl) ⟨by omega, by omega⟩ dX6_setSolution_23 (fun v23 w23 hp23 => ?_)
  obtain ⟨⟨j23, rfl, hj23a, hj23b, hj23⟩, hw23⟩ := hp23
  subst w23
  have f23 := hG.top (k := ((leaK p : Nat) : Int)) (j := j23) (by omega) (by have := hj23 (by omega); omega)
  refine g_aload_n C dX6_setSolution_26 rfl ?_
  refine g_get (ci := 8) C rfl inTX6 3 (by decide) fl_RX6_30 rfl hC.o rfl dX6_setSolution_27 ?_
  refine g_iload_n C dX6_setSolution_30 rfl ?_
  refine g_callV C (s_X1_bottom _ hF (k := ((leaK p : Nat) : Int)) (by omega)) (ci := 3) rfl hF.1 rfl ml_RX6_123 im_yX1_bottom se_RX1_yX1_bottom in_RX1 co_yX1_bottom hd_X1_bottom rfl ⟨by omega, by omega⟩ rfl (Nat.le_of_ble_eq_true rfl) ⟨by omega, by omega⟩ dX6_setSolution_31 (fun v31 w31 hp31 => ?_)
  obtain ⟨⟨j31, rfl, hj31a, hj31b, hj31⟩, hw31⟩ := hp31
  subst w31
  have f31 := hG.bot (k := ((leaK p : Nat) : Int)) (j := j31) (by omega) (by have := hj31 (by omega); omega)
  rw [Int.toNat_natCast] at f23 f31
  rw [e1] at f23
  rw [e2] at f31
  refine g_callV C (s_X2_setWholes _ hC.N (i := i) (by omega) (hC.P i (by omega)).1.1 (b := b) (j := j23) (k := j31) (by omega) (by omega) f23 f31) (ci := 4) rfl (hC.P i (by omega)).1.1 rfl ml_RX6_197 im_yX2_setWholes se_RX2_yX2_setWholes in_RX2 co_yX2_setWholes hd_X2_setWholes rfl ⟨by omega, by omega⟩ rfl (Nat.le_of_ble_eq_true rfl) ⟨by omega, by omega⟩ dX6_setSolution_34 (fun v34 w34 hp34 => ?_)
  obtain ⟨rfl, hN34, hP34, hk34⟩ := hp34
  replace hC := hC.kx (i := i) (p := (b, leaP b r1, leaQ b r1)) (by omega) hk34 hN34 hP34 hb (fun _ => sm_of (by have l := lea_ok V1.1 V1.2.1; omega) (by have l := lea_ok V1.1 V1.2.1; omega))
  replace hK := hK.tr (hk34.kc (by omega))
  exact g_return C hQ dX6_setSolution_37 (by omega) (by omega) ⟨rfl, r1, V1.2.1, hC, hK⟩
theorem pup_id {f : Nat → PT} {i : Nat} {x : PT} (h : f i = x) : pup f i x = f := by
  funext j
  unfold pup
  split
  · rename_i e; rw [e, h]
  · rfl
set_option maxHeartbeats 4000000 in
set_option maxRecDepth 100000 in
theorem s_X6_becomeDraft (l : Launch) {E : GE} {w : Wd} {τ ad : Nat → Nat} {bs ss : Nat → Int} {pb : Nat → PT} {P Q : Nat → Nat} {ct : Nat → Int} (hC0 : CS τ ad w bs ss pb P Q ct) {i : Nat} (hi : i < 3) : Sp E l yX6_becomeDraft cX6_becomeDraft 2 (some .int) 4 (0) (0) [.ref (ad 100), .ref (ad (140 + i))] w (fun r' w' => ((¬ sm (pb 3) ∧ r' = some (iI (-9)) ∧ CS τ ad w' (bs) (ss) (pb) (P) (Q) (iup ct 3 (ct 3 + 1))) ∨ (sm (pb 3) ∧ r' = some (iI (bI (¬ pb i = pb 3))) ∧ CS τ ad w' (bs) (ss) (pup pb i (pb 3)) (P) (Q) (iup ct 1 (ct 1 + 1)))) ∧ KO τ w w') := by
  refine sp_intro [some (.ref (ad 100)), some (.ref (ad (140 + i)))] rfl (Nat.le_of_ble_eq_true rfl) pn_X6 ?_
  intro X C hRm hl hnm hQ
  obtain ⟨hRf, hRl, hRc, hRs⟩ := hRm
  refine g_wf (fun hwf => ?_)
  have hC := hC0
  have hK : KO τ w w := KO.rf _ _
  refine g_aload_n C dX6_becomeDraft_0 rfl ?_
  refine g_get (ci := 8) C rfl inTX6 5 (by decide) fl_RX6_42 rfl hC.o rfl dX6_becomeDraft_1 ?_
  refine g_callV C (s_X2_isTooLong _ hC.N (i := 3) (by omega) (hC.P 3 (by omega)).1) (ci := 4) rfl (hC.P 3 (by omega)).1.1 rfl ml_RX6_387 im_yX2_isTooLong se_RX2_yX2_isTooLong in_RX2 co_yX2_isTooLong hd_X2_isTooLong rfl ⟨by omega, by omega⟩ rfl (Nat.le_of_ble_eq_true rfl) ⟨by omega, by omega⟩ dX6_becomeDraft_4 (fun v4 w4 hp4 => ?_)
  obtain ⟨rfl, hw4⟩ := hp4
  subst w4
  refine g_if_eq (tgt := 15) C dX6_becomeDraft_7 (by decide) (bI_r _) (fun h7 => ?_) (fun h7 => ?_)
  · have hsm := bI_0 h7
    refine g_aload_n C dX6_becomeDraft_15 rfl ?_
    refine g_dup C dX6_becomeDraft_16 rfl ?_
    refine g_get (ci := 8) C rfl inTX6 11 (by decide) fl_RX6_302 rfl hC.o rfl dX6_becomeDraft_17 ?_
    refine g_iconst C dX6_becomeDraft_20 ?_
    refine g_iadd C dX6_becomeDraft_21 ?_
    refine g_put (ci := 8) C rfl inTX6 tyX6 tyX6_ok nmX6 11 (by decide) fl_RX6_302 rfl rfl hC.o (Nat.le_of_ble_eq_true rfl) rfl rfl dX6_becomeDraft_22 ?_
    refine g_gen (fun v22 hv22 => ?_)
    replace hv22 : v22 = wset _ (ad 100) (true, oX ad (iup ct 1 (ct 1 + 1))) := hv22
    have hq22 := hC.so (iup ct 1 (ct 1 + 1))
    rw [← hv22] at hq22
    replace hC := hq22.1
    replace hK := hK.tr hq22.2
    refine g_aload_n C dX6_becomeDraft_25 rfl ?_
    refine g_aload_n C dX6_becomeDraft_26 rfl ?_
    refine g_get (ci := 8) C rfl inTX6 5 (by decide) fl_RX6_42 rfl hC.o rfl dX6_becomeDraft_27 ?_
    refine g_callV C (s_X2_isLike _ hC.N (i := i) (by omega) (hC.P i (by omega)).1 (by have := (hC.P i (by omega)).2.1; have h1 := this.1; have h2 := this.2.1; omega) (by have := (hC.P 3 (by omega)).2.1; have h1 := this.1; have h2 := this.2.1; omega) (m := 3) (by omega) (hC.P 3 (by omega)).1) (ci := 4) rfl (hC.P i (by omega)).1.1 rfl ml_RX6_248 im_yX2_isLike se_RX2_yX2_isLike in_RX2 co_yX2_isLike hd_X2_isLike rfl ⟨by omega, by omega⟩ rfl (Nat.le_of_ble_eq_true rfl) ⟨by omega, by omega⟩ dX6_becomeDraft_30 (fun v30 w30 hp30 => ?_)
    obtain ⟨rfl, hw30⟩ := hp30
    subst w30
    refine g_if_eq (tgt := 38) C dX6_becomeDraft_33 (by decide) (bI_r _) (fun h33 => ?_) (fun h33 => ?_)
    · refine g_aload_n C dX6_becomeDraft_38 rfl ?_
      refine g_aload_n C dX6_becomeDraft_39 rfl ?_
      refine g_get (ci := 8) C rfl inTX6 5 (by decide) fl_RX6_42 rfl hC.o rfl dX6_becomeDraft_40 ?_
      refine g_callV C (s_X2_setPair _ hC.N (i := i) (by omega) (hC.P i (by omega)).1.1 (m := 3) (by omega) (hC.P 3 (by omega)).1) (ci := 4) rfl (hC.P i (by omega)).1.1 rfl ml_RX6_214 im_yX2_setPair se_RX2_yX2_setPair in_RX2 co_yX2_setPair hd_X2_setPair rfl ⟨by omega, by omega⟩ rfl (Nat.le_of_ble_eq_true rfl) ⟨by omega, by omega⟩ dX6_becomeDraft_43 (fun v43 w43 hp43 => ?_)
      obtain ⟨rfl, hN43, hP43, hk43⟩ := hp43
      replace hC := hC.kx (i := i) (p := (pb 3)) (by omega) hk43 hN43 hP43 (hC0.P 3 (by omega)).2.1 (fun _ => hsm)
      replace hK := hK.tr (hk43.kc (by omega))
      refine g_iconst C dX6_becomeDraft_46 ?_
      exact g_ireturn C hQ dX6_becomeDraft_47 (Nat.le_refl _) (Nat.le_refl _) (by
        have he := bI_0 h33
        exact ⟨Or.inr ⟨hsm, by rw [bI_t (show ¬ pb i = pb 3 from fun c => he (by rw [c]; exact ⟨rfl, rfl, rfl⟩))], hC⟩, hK⟩)
    · refine g_iconst C dX6_becomeDraft_36 ?_
      exact g_ireturn C hQ dX6_becomeDraft_37 (Nat.le_refl _) (Nat.le_refl _) (by
        have he := bI_1 h33
        have e2 : pb i = pb 3 := Prod.ext he.1 (Prod.ext he.2.1 he.2.2)
        exact ⟨Or.inr ⟨hsm, by rw [bI_f (fun c => c e2)], by rw [pup_id e2]; exact hC⟩, hK⟩)
  · refine g_aload_n C dX6_becomeDraft_10 rfl ?_
    refine g_callV C (s_X6_refuse _ hC) (ci := 8) rfl hC.o rfl ml_RX6_86 im_yX6_refuse se_RX6_yX6_refuse in_RX6 co_yX6_refuse hd_X6_refuse rfl ⟨by omega, by omega⟩ rfl (Nat.le_of_ble_eq_true rfl) ⟨by omega, by omega⟩ dX6_becomeDraft_11 (fun v11 w11 hp11 => ?_)
    obtain ⟨rfl, hc11, hk11⟩ := hp11
    replace hC := hc11
    replace hK := hK.tr hk11
    exact g_ireturn C hQ dX6_becomeDraft_14 (Nat.le_refl _) (Nat.le_refl _) ⟨Or.inl ⟨fun c => c (bI_1 h7), rfl, hC⟩, hK⟩
/-- the product of two pairs -/
def mulP (p q : PT) : PT := (p.1, p.2.1 * q.2.1 + p.1 * (p.2.2 * q.2.2), p.2.1 * q.2.2 + p.2.2 * q.2.1)
set_option maxHeartbeats 4000000 in
set_option maxRecDepth 100000 in
theorem s_X6_multiplyDraft (l : Launch) {E : GE} {w : Wd} {τ ad : Nat → Nat} {bs ss : Nat → Int} {pb : Nat → PT} {P Q : Nat → Nat} {ct : Nat → Int} (hC0 : CS τ ad w bs ss pb P Q ct) {i : Nat} (hi : i < 6 ∧ i ≠ 4) {B1 B2 : Int} (bx : aB (pb 3).2.1 ≤ B1) (by_ : aB (pb 3).2.2 ≤ B1) (bu : aB (pb i).2.1 ≤ B2) (bv : aB (pb i).2.2 ≤ B2) (hB : B1 * B2 * 2000 < B28 ^ 18) : Sp E l yX6_multiplyDraft cX6_multiplyDraft 2 none 4 (0) (0) [.ref (ad 100), .ref (ad (140 + i))] w (fun r' w' => r' = none ∧ CS τ ad w' (bs) (ss) (pup (pup pb 4 (mulP (pb 3) (pb i))) 3 (mulP (pb 3) (pb i))) (P) (Q) (ct) ∧ KO τ w w') := by
  refine sp_intro [some (.ref (ad 100)), some (.ref (ad (140 + i)))] rfl (Nat.le_of_ble_eq_true rfl) pn_X6 ?_
  intro X C hRm hl hnm hQ
  obtain ⟨hRf, hRl, hRc, hRs⟩ := hRm
  refine g_wf (fun hwf => ?_)
  have hC := hC0
  have hK : KO τ w w := KO.rf _ _
  refine g_aload_n C dX6_multiplyDraft_0 rfl ?_
  refine g_get (ci := 8) C rfl inTX6 4 (by decide) fl_RX6_37 rfl hC.o rfl dX6_multiplyDraft_1 ?_
  refine g_aload_n C dX6_multiplyDraft_4 rfl ?_
  refine g_get (ci := 8) C rfl inTX6 5 (by decide) fl_RX6_42 rfl hC.o rfl dX6_multiplyDraft_5 ?_
  refine g_aload_n C dX6_multiplyDraft_8 rfl ?_
  refine g_aload_n C dX6_multiplyDraft_9 rfl ?_
  refine g_get (ci := 8) C rfl inTX6 6 (by decide) fl_RX6_46 rfl hC.o rfl dX6_multiplyDraft_10 ?_
  refine g_callV C (s_X0_multiply _ hC.N hC.D (i := 4) (by omega) (hC.P 4 (by omega)).1.1 (m := 3) (n := i) (b := (pb 3).1) (b2 := (pb i).1) (by omega) (by omega) (by have := (hC.P 3 (by omega)).2.1; have h1 := this.1; have h2 := this.2.1; omega) (hC.P 3 (by omega)).1 (hC.P i (by omega)).1 bx by_ bu bv hB) (ci := 2) rfl hC.D rfl ml_RX6_206 im_yX0_multiply se_RX0_yX0_multiply in_RX0 co_yX0_multiply hd_X0_multiply rfl ⟨by omega, by omega⟩ rfl (Nat.le_of_ble_eq_true rfl) ⟨by omega, by omega⟩ dX6_multiplyDraft_13 (fun v13 w13 hp13 => ?_)
  obtain ⟨rfl, hN13, hP13, hk13⟩ := hp13
  replace hC := hC.kx (i := 4) (p := (mulP (pb 3) (pb i))) (by omega) hk13 hN13 hP13 (hC0.P 3 (by omega)).2.1 (fun h => by omega)
  replace hK := hK.tr (hk13.kc (by omega))
  refine g_aload_n C dX6_multiplyDraft_16 rfl ?_
  refine g_get (ci := 8) C rfl inTX6 5 (by decide) fl_RX6_42 rfl hC.o rfl dX6_multiplyDraft_17 ?_
  refine g_aload_n C dX6_multiplyDraft_20 rfl ?_
  refine g_get (ci := 8) C rfl inTX6 6 (by decide) fl_RX6_46 rfl hC.o rfl dX6_multiplyDraft_21 ?_
  refine g_callV C (s_X2_setPair _ hC.N (i := 3) (by omega) (hC.P 3 (by omega)).1.1 (m := 4) (by omega) (hC.P 4 (by omega)).1) (ci := 4) rfl (hC.P 3 (by omega)).1.1 rfl ml_RX6_214 im_yX2_setPair se_RX2_yX2_setPair in_RX2 co_yX2_setPair hd_X2_setPair rfl ⟨by omega, by omega⟩ rfl (Nat.le_of_ble_eq_true rfl) ⟨by omega, by omega⟩ dX6_multiplyDraft_24 (fun v24 w24 hp24 => ?_)
  have hg24 := (hC.P 4 (by omega)).2.1
  obtain ⟨rfl, hN24, hP24, hk24⟩ := hp24
  replace hC := hC.kx (i := 3) (p := (pup pb 4 (mulP (pb 3) (pb i)) 4)) (by omega) hk24 hN24 hP24 hg24 (fun h => by omega)
  replace hK := hK.tr (hk24.kc (by omega))
  rw [pup_s] at hC
  exact g_return C hQ dX6_multiplyDraft_27 (by omega) (by omega) ⟨rfl, hC, hK⟩
/-! roots digit by digit -/
theorem rd_le {b R : Int} {k : Nat} (hb : 1 ≤ b ∧ b ≤ 99) (hk : k ≤ 16) (h : RT (b * 100 ^ k) R) : 0 ≤ R ∧ R < 100000000000000000 := by
  obtain ⟨h0, h1, h2⟩ := h
  refine ⟨h0, ?_⟩
  rcases Int.lt_or_le R 100000000000000000 with q | q
  · exact q
  · have e1 := Int.mul_le_mul q q (by omega) (by omega)
    have e2 : (100 : Int) ^ 16 = 100 ^ k * 100 ^ (16 - k) := by rw [← Int.pow_add]; congr 1; omega
    have p1 : (1 : Int) ≤ 100 ^ (16 - k) := Int.pow_pos (n := 100) (by decide)
    have p2 : (0 : Int) < 100 ^ k := Int.pow_pos (by decide)
    have e3 := Int.mul_le_mul_of_nonneg_left p1 (Int.le_of_lt p2)
    rw [← e2, show (100 : Int) ^ 16 = 100000000000000000000000000000000 by decide +kernel] at e3
    have e4 := Int.mul_le_mul hb.2 (show (100 : Int) ^ k ≤ 100000000000000000000000000000000 by omega) (by omega) (by decide)
    omega
theorem rd_le2 {b R : Int} {k : Nat} (hb : 1 ≤ b ∧ b ≤ 99) (hk : k ≤ 15) (h : RT (b * 100 ^ k) R) : 0 ≤ R ∧ R < 10000000000000000 := by
  obtain ⟨h0, h1, h2⟩ := h
  refine ⟨h0, ?_⟩
  rcases Int.lt_or_le R 10000000000000000 with q | q
  · exact q
  · have e1 := Int.mul_le_mul q q (by omega) (by omega)
    have e2 : (100 : Int) ^ 15 = 100 ^ k * 100 ^ (15 - k) := by rw [← Int.pow_add]; congr 1; omega
    have p1 : (1 : Int) ≤ 100 ^ (15 - k) := Int.pow_pos (n := 100) (by decide)
    have p2 : (0 : Int) < 100 ^ k := Int.pow_pos (by decide)
    have e3 := Int.mul_le_mul_of_nonneg_left p1 (Int.le_of_lt p2)
    rw [← e2, show (100 : Int) ^ 15 = 1000000000000000000000000000000 by decide +kernel] at e3
    have e4 := Int.mul_le_mul hb.2 (show (100 : Int) ^ k ≤ 1000000000000000000000000000000 by omega) (by omega) (by decide)
    omega
theorem rd_step {N R D : Int} (h : RT N R) (hD : 0 ≤ D ∧ D ≤ 9) (h1 : (20 * R + D) * D ≤ (N - R * R) * 100) (h2 : D = 9 ∨ (N - R * R) * 100 < (20 * R + (D + 1)) * (D + 1)) : RT (N * 100) (10 * R + D) := by
  obtain ⟨a1, a2, a3⟩ := h
  have e1 : (10 * R + D) * (10 * R + D) = 100 * (R * R) + (20 * R + D) * D := by grind
  have e2 : (10 * R + D + 1) * (10 * R + D + 1) = 100 * (R * R) + (20 * R + (D + 1)) * (D + 1) := by grind
  refine ⟨by omega, by rw [e1]; omega, ?_⟩
  rw [e2]
  rcases h2 with q | q
  · subst q
    have e3 : (R + 1) * (R + 1) = R * R + 2 * R + 1 := by grind
    omega
  · omega
set_option maxHeartbeats 4000000 in
set_option maxRecDepth 100000 in
theorem s_X6_rootDecimals (l : Launch) {E : GE} {w : Wd} {b : Int} {n : Nat} (hb : 1 ≤ b ∧ b ≤ 99) (hn : n ≤ 16) : Sp E l yX6_rootDecimals cX6_rootDecimals 11 (some .long) 1 (0) (0) [iI b, iI (n : Int)] w (fun r' w' => (∃ q : Int, r' = some (jJ q) ∧ RT (b * 100 ^ n) q) ∧ w' = w) := by
  refine sp_intro [some (iI b), some (iI (n : Int)), none, none, none, none, none, none, none, none, none] rfl (Nat.le_of_ble_eq_true rfl) pn_X6 ?_
  intro X C hRm hl hnm hQ
  obtain ⟨hRf, hRl, hRc, hRs⟩ := hRm
  refine g_wf (fun hwf => ?_)
  refine g_iload_n C dX6_rootDecimals_0 rfl ?_
  refine g_callS C (s_X6_rootOf _ (b := b) (by omega)) ml_RX6_78 sm_yX6_rootOf in_RX6 co_yX6_rootOf hd_X6_rootOf rfl ⟨by omega, by omega⟩ rfl (Nat.le_of_ble_eq_true rfl) ⟨by omega, by omega⟩ dX6_rootDecimals_1 (fun v1 w1 hp1 => ?_)
  obtain ⟨⟨r1, rfl, hr1⟩, hw1⟩ := hp1
  subst w1
  have hr1b : -2147483648 ≤ r1 ∧ r1 < 2147483648 := by
    have h0 := hr1.1
    have h1 := hr1.2.1
    rcases Int.lt_or_le 9 r1 with q | q
    · have := Int.mul_le_mul (show (10 : Int) ≤ r1 by omega) (show (10 : Int) ≤ r1 by omega) (by omega) (by omega)
      omega
    · omega
  refine g_i2l C dX6_rootDecimals_4 hr1b ?_
  refine g_lstore_n C dX6_rootDecimals_5 (by decide) rfl ?_
  refine g_iload_n C dX6_rootDecimals_6 rfl ?_
  refine g_i2l C dX6_rootDecimals_7 (by omega) ?_
  refine g_lload_n C dX6_rootDecimals_8 rfl ?_
  refine g_lload_n C dX6_rootDecimals_9 rfl ?_
  refine g_lmul C dX6_rootDecimals_10 ?_
  refine g_lsub C dX6_rootDecimals_11 ?_
  refine g_lstore C dX6_rootDecimals_12 (by decide) rfl ?_
  refine g_iconst C dX6_rootDecimals_14 ?_
  refine g_istore C dX6_rootDecimals_15 (by decide) rfl ?_
  refine g_eq (L' := [some (iI b), some (iI (n : Int)), some (jJ r1), none, some (jJ (b * 100 ^ 0 - r1 * r1)), none, some (iI ((0 : Nat) : Int)), none, none, none, none]) (st' := []) (by rw [Int.pow_zero, Int.mul_one]; rfl) rfl ?_
  refine g_loop (σ := Nat × Int) (fun s => s.1 ≤ n ∧ RT (b * 100 ^ s.1) s.2) (fun s => G E X 11 17 [some (iI b), some (iI (n : Int)), some (jJ s.2), none, some (jJ (b * 100 ^ s.1 - s.2 * s.2)), none, some (iI (s.1 : Int)), none, none, none, none] [] w 0 0) (fun s => n - s.1) ?_ (0, r1) ⟨by dsimp only; omega, by show RT (b * 100 ^ 0) r1; rw [Int.pow_zero, Int.mul_one]; exact hr1⟩
  rintro ⟨k, R⟩ ⟨hk, hR⟩ ih
  dsimp only at hk hR ⊢
  have hRb := rd_le hb (by omega) hR
  refine g_iload C dX6_rootDecimals_17 rfl ?_
  refine g_iload_n C dX6_rootDecimals_19 rfl ?_
  refine g_icmp_ge (tgt := 107) C dX6_rootDecimals_20 (by decide) (by omega) (by omega) (fun h20 => ?_) (fun h20 => ?_)
  · refine g_lload_n C dX6_rootDecimals_107 rfl ?_
    exact g_lreturn C hQ dX6_rootDecimals_108 (Nat.le_refl _) (Nat.le_refl _) ⟨⟨R, rfl, by rw [show n = k by omega]; exact hR⟩, rfl⟩
  · refine g_lload C dX6_rootDecimals_23 rfl ?_
    refine g_ldc2 (z := 100) C kj_RX6_383 (by decide) dX6_rootDecimals_25 ?_
    refine g_lmul C dX6_rootDecimals_28 ?_
    refine g_lstore C dX6_rootDecimals_29 (by decide) rfl ?_
    refine g_lconst (z := 0) C dX6_rootDecimals_31 (by decide) ?_
    refine g_lstore C dX6_rootDecimals_32 (by decide) rfl ?_
    refine g_lconst (z := 1) C dX6_rootDecimals_34 (by decide) ?_
    refine g_lstore C dX6_rootDecimals_35 (by decide) rfl ?_
    have hRb := rd_le2 hb (by omega) hR
    have hsq : (R + 1) * (R + 1) = R * R + 2 * R + 1 := by grind
    have hL0 : 0 ≤ b * 100 ^ k - R * R ∧ b * 100 ^ k - R * R ≤ 2 * R := by
      have h1 := hR.2.1
      have h2 := hR.2.2
      omega
    have J76 : ∀ (D : Int) (y : Int), (0 ≤ D ∧ D ≤ 9) → (20 * R + D) * D ≤ (b * 100 ^ k - R * R) * 100 → (D = 9 ∨ (b * 100 ^ k - R * R) * 100 < (20 * R + (D + 1)) * (D + 1)) → G E X 11 76 [some (iI b), some (iI (n : Int)), some (jJ R), none, some (jJ ((b * 100 ^ k - R * R) * 100)), none, some (iI (k : Int)), some (jJ D), none, some (jJ (y)), none] [] w 0 0 := by
      intro D y hD1 hD2 hD3
      refine g_lload C dX6_rootDecimals_76 rfl ?_
      refine g_ldc2 (z := 20) C kj_RX6_385 (by decide) dX6_rootDecimals_78 ?_
      refine g_lload_n C dX6_rootDecimals_81 rfl ?_
      refine g_lmul C dX6_rootDecimals_82 ?_
      refine g_lload C dX6_rootDecimals_83 rfl ?_
      refine g_ladd C dX6_rootDecimals_85 ?_
      refine g_lload C dX6_rootDecimals_86 rfl ?_
      refine g_lmul C dX6_rootDecimals_88 ?_
      refine g_lsub C dX6_rootDecimals_89 ?_
      refine g_lstore C dX6_rootDecimals_90 (by decide) rfl ?_
      refine g_ldc2 (z := 10) C kj_RX6_150 (by decide) dX6_rootDecimals_92 ?_
      refine g_lload_n C dX6_rootDecimals_95 rfl ?_
      refine g_lmul C dX6_rootDecimals_96 ?_
      refine g_lload C dX6_rootDecimals_97 rfl ?_
      refine g_ladd C dX6_rootDecimals_99 ?_
      refine g_lstore_n C dX6_rootDecimals_100 (by decide) rfl ?_
      refine g_iinc C dX6_rootDecimals_101 rfl (by decide) rfl ?_
      refine g_goto (tgt := 17) C dX6_rootDecimals_104 (by decide) ?_
      rw [show (k : Int) + 1 = ((k + 1 : Nat) : Int) by omega]
      refine g_drop 7 ?_
      refine g_drop 9 ?_
      refine g_eq ?_ rfl (ih (k + 1, 10 * R + D) ⟨by dsimp only; omega, by show RT (b * 100 ^ (k + 1)) (10 * R + D); rw [Int.pow_succ, ← Int.mul_assoc]; exact rd_step hR hD1 hD2 hD3⟩ (by dsimp only; omega))
      have e9 : (b * 100 ^ k - R * R) * 100 - (20 * R + D) * D = b * 100 ^ (k + 1) - (10 * R + D) * (10 * R + D) := by rw [Int.pow_succ]; grind
      rw [e9]
      rfl
    refine g_loop (σ := Nat) (fun s => s ≤ 9 ∧ (20 * R + (s : Int)) * (s : Int) ≤ (b * 100 ^ k - R * R) * 100) (fun s => G E X 11 37 [some (iI b), some (iI (n : Int)), some (jJ R), none, some (jJ ((b * 100 ^ k - R * R) * 100)), none, some (iI (k : Int)), some (jJ (s : Int)), none, some (jJ ((s : Int) + 1)), none] [] w 0 0) (fun s => 9 - s) ?_ 0 ⟨by omega, by show (20 * R + (0 : Int)) * (0 : Int) ≤ _; rw [Int.mul_zero]; omega⟩
    rintro x ⟨hx1, hx2⟩ ih2
    refine g_lload C dX6_rootDecimals_37 rfl ?_
    refine g_ldc2 (z := 10) C kj_RX6_150 (by decide) dX6_rootDecimals_39 ?_
    refine g_lcmp C dX6_rootDecimals_42 (by omega) (by omega) (fun c42 hc42 => ?_)
    refine g_if_ge (tgt := 76) C dX6_rootDecimals_43 (by decide) (by omega) (fun h43 => ?_) (fun h43 => ?_)
    · exact J76 _ _ (by omega) hx2 (by omega)
    · have hnl : (20 * R + ((x : Int) + 1)) * ((x : Int) + 1) = 20 * (R * ((x : Int) + 1)) + ((x : Int) + 1) * ((x : Int) + 1) := by grind
      have hn1 : 0 ≤ R * ((x : Int) + 1) ∧ R * ((x : Int) + 1) ≤ 10000000000000000 * 10 := ⟨Int.mul_nonneg hRb.1 (by omega), Int.mul_le_mul (by omega) (by omega) (by omega) (by decide)⟩
      have hn2 : 0 ≤ ((x : Int) + 1) * ((x : Int) + 1) ∧ ((x : Int) + 1) * ((x : Int) + 1) ≤ 10 * 10 := ⟨Int.mul_nonneg (by omega) (by omega), Int.mul_le_mul (by omega) (by omega) (by omega) (by decide)⟩
      refine g_ldc2 (z := 20) C kj_RX6_385 (by decide) dX6_rootDecimals_46 ?_
      refine g_lload_n C dX6_rootDecimals_49 rfl ?_
      refine g_lmul C dX6_rootDecimals_50 ?_
      refine g_lload C dX6_rootDecimals_51 rfl ?_
      refine g_ladd C dX6_rootDecimals_53 ?_
      refine g_lload C dX6_rootDecimals_54 rfl ?_
      refine g_lmul C dX6_rootDecimals_56 ?_
      refine g_lload C dX6_rootDecimals_57 rfl ?_
      refine g_lcmp C dX6_rootDecimals_59 (by omega) (by omega) (fun c59 hc59 => ?_)
      refine g_if_gt (tgt := 76) C dX6_rootDecimals_60 (by decide) (by omega) (fun h60 => ?_) (fun h60 => ?_)
      · exact J76 _ _ (by omega) hx2 (by omega)
      · refine g_lload C dX6_rootDecimals_63 rfl ?_
        refine g_lstore C dX6_rootDecimals_65 (by decide) rfl ?_
        refine g_lload C dX6_rootDecimals_67 rfl ?_
        refine g_lconst (z := 1) C dX6_rootDecimals_69 (by decide) ?_
        refine g_ladd C dX6_rootDecimals_70 ?_
        refine g_lstore C dX6_rootDecimals_71 (by decide) rfl ?_
        refine g_goto (tgt := 37) C dX6_rootDecimals_73 (by decide) ?_
        rw [show (x : Int) + 1 = ((x + 1 : Nat) : Int) by omega]
        exact ih2 (x + 1) ⟨by omega, by rw [show ((x + 1 : Nat) : Int) = (x : Int) + 1 by omega]; omega⟩ (by omega)
set_option maxHeartbeats 4000000 in
set_option maxRecDepth 100000 in
theorem s_X6_mix (l : Launch) {E : GE} {w : Wd} {x y : Int} : Sp E l yX6_mix cX6_mix 4 (some .long) 0 (0) (0) [jJ x, jJ y] w (fun r' w' => r' = some (jJ (x * 31 + y)) ∧ w' = w) := by
  refine sp_intro [some (jJ x), none, some (jJ y), none] rfl (Nat.le_of_ble_eq_true rfl) pn_X6 ?_
  intro X C hRm hl hnm hQ
  obtain ⟨hRf, hRl, hRc, hRs⟩ := hRm
  refine g_wf (fun hwf => ?_)
  refine g_lload_n C dX6_mix_0 rfl ?_
  refine g_ldc2 (z := 31) C kj_RX6_399 (by decide) dX6_mix_1 ?_
  refine g_lmul C dX6_mix_4 ?_
  refine g_lload_n C dX6_mix_5 rfl ?_
  refine g_ladd C dX6_mix_6 ?_
  exact g_lreturn C hQ dX6_mix_7 (Nat.le_refl _) (Nat.le_refl _) ⟨rfl, rfl⟩
set_option maxHeartbeats 4000000 in
set_option maxRecDepth 100000 in
theorem s_X6_isWalkSound (l : Launch) {E : GE} {w : Wd} {τ ad : Nat → Nat} {bs ss : Nat → Int} {pb : Nat → PT} {P Q : Nat → Nat} {ct : Nat → Int} (hC0 : CS τ ad w bs ss pb P Q ct) {i : Nat} (hi : i < 3) {r : Int} {m d a : Nat → Int} (hF0 : FS ad w (bs i) r m d a) (hV : FV (bs i) r m d a) (hG0 : FN ad w (bs i) r) : Sp E l yX6_isWalkSound cX6_isWalkSound 8 (some .boolean) 4 (0) (0) [.ref (ad 100), .ref (ad (120 + i))] w (fun r' w' => r' = some (iI 1) ∧ CS τ ad w' (bs) (ss) (pb) (P) (Q) (ct) ∧ KO τ w w') := by
  refine sp_intro [some (.ref (ad 100)), some (.ref (ad (120 + i))), none, none, none, none, none, none] rfl (Nat.le_of_ble_eq_true rfl) pn_X6 ?_
  intro X C hRm hl hnm hQ
  obtain ⟨hRf, hRl, hRc, hRs⟩ := hRm
  refine g_wf (fun hwf => ?_)
  have hC := hC0
  have hK : KO τ w w := KO.rf _ _
  have hF := hF0
  have hG := hG0
  have hs := (hC.W i (by omega)).2.2
  have hgb := (hC.W i (by omega)).2.1
  have hbl := hgb.1
  have hbh := hgb.2.1
  have hr09 := RT_le hV.1 hV.2.1
  have hw := wk_f hV.1 hV.2.1 (k := (ss i).toNat) (by omega)
  refine g_aload_n C dX6_isWalkSound_0 rfl ?_
  refine g_get (ci := 6) C rfl inTX4 1 (by decide) fl_RX6_72 rfl (hC.W i (by omega)).1 rfl dX6_isWalkSound_1 ?_
  refine g_istore_n C dX6_isWalkSound_4 (by decide) rfl ?_
  obtain ⟨k, hk⟩ : ∃ k : Nat, ss i = (k : Int) := ⟨(ss i).toNat, by omega⟩
  have J17 : ∀ z : Int, (k % 2 = 1 ∧ z = 1 ∨ ¬ k % 2 = 1 ∧ z = -1) → G E X 8 17 [some (.ref (ad 100)), some (.ref (ad (120 + i))), some (iI (ss i)), none, none, none, none, none] [iI z] w 0 0 := by
    intro z hz
    refine g_istore_n C dX6_isWalkSound_17 (by decide) rfl ?_
    refine g_aload_n C dX6_isWalkSound_18 rfl ?_
    refine g_get (ci := 8) C rfl inTX6 3 (by decide) fl_RX6_30 rfl hC.o rfl dX6_isWalkSound_19 ?_
    refine g_iload_n C dX6_isWalkSound_22 rfl ?_
    refine g_callV C (s_X1_partM _ hF (k := ss i) (by omega)) (ci := 3) rfl hF.1 rfl ml_RX6_184 im_yX1_partM se_RX1_yX1_partM in_RX1 co_yX1_partM hd_X1_partM rfl ⟨by omega, by omega⟩ rfl (Nat.le_of_ble_eq_true rfl) ⟨by omega, by omega⟩ dX6_isWalkSound_23 (fun v23 w23 hp23 => ?_)
    obtain ⟨⟨p23, rfl, hp23a, hp23b⟩, hw23⟩ := hp23
    subst w23
    have e23 := (hV.2.2 p23 (by omega)).1
    have c23 := cf_good hV.1 hV.2.1 (k := p23) (by omega)
    refine g_istore C dX6_isWalkSound_26 (by decide) rfl ?_
    refine g_aload_n C dX6_isWalkSound_28 rfl ?_
    refine g_get (ci := 8) C rfl inTX6 3 (by decide) fl_RX6_30 rfl hC.o rfl dX6_isWalkSound_29 ?_
    refine g_iload_n C dX6_isWalkSound_32 rfl ?_
    refine g_callV C (s_X1_partD _ hF (k := ss i) (by omega)) (ci := 3) rfl hF.1 rfl ml_RX6_187 im_yX1_partD se_RX1_yX1_partD in_RX1 co_yX1_partD hd_X1_partD rfl ⟨by omega, by omega⟩ rfl (Nat.le_of_ble_eq_true rfl) ⟨by omega, by omega⟩ dX6_isWalkSound_33 (fun v33 w33 hp33 => ?_)
    obtain ⟨⟨p33, rfl, hp33a, hp33b⟩, hw33⟩ := hp33
    subst w33
    have e33 := (hV.2.2 p33 (by omega)).2.1
    have c33 := cf_good hV.1 hV.2.1 (k := p33) (by omega)
    refine g_istore C dX6_isWalkSound_36 (by decide) rfl ?_
    refine g_aload_n C dX6_isWalkSound_38 rfl ?_
    refine g_get (ci := 8) C rfl inTX6 3 (by decide) fl_RX6_30 rfl hC.o rfl dX6_isWalkSound_39 ?_
    refine g_iload_n C dX6_isWalkSound_42 rfl ?_
    refine g_callV C (s_X1_top _ hF (k := ss i) (by omega)) (ci := 3) rfl hF.1 rfl ml_RX6_119 im_yX1_top se_RX1_yX1_top in_RX1 co_yX1_top hd_X1_top rfl ⟨by omega, by omega⟩ rfl (Nat.le_of_ble_eq_true rfl) ⟨by omega, by omega⟩ dX6_isWalkSound_43 (fun v43 w43 hp43 => ?_)
    obtain ⟨⟨j43, rfl, hj43a, hj43b, hj43⟩, hw43⟩ := hp43
    subst w43
    have f43 := hG.top (k := ss i) (j := j43) (by omega) (by have := hj43 (by omega); omega)
    refine g_astore C dX6_isWalkSound_46 (by decide) rfl ?_
    refine g_aload_n C dX6_isWalkSound_48 rfl ?_
    refine g_get (ci := 8) C rfl inTX6 3 (by decide) fl_RX6_30 rfl hC.o rfl dX6_isWalkSound_49 ?_
    refine g_iload_n C dX6_isWalkSound_52 rfl ?_
    refine g_callV C (s_X1_bottom _ hF (k := ss i) (by omega)) (ci := 3) rfl hF.1 rfl ml_RX6_123 im_yX1_bottom se_RX1_yX1_bottom in_RX1 co_yX1_bottom hd_X1_bottom rfl ⟨by omega, by omega⟩ rfl (Nat.le_of_ble_eq_true rfl) ⟨by omega, by omega⟩ dX6_isWalkSound_53 (fun v53 w53 hp53 => ?_)
    obtain ⟨⟨j53, rfl, hj53a, hj53b, hj53⟩, hw53⟩ := hp53
    subst w53
    have f53 := hG.bot (k := ss i) (j := j53) (by omega) (by have := hj53 (by omega); omega)
    refine g_astore C dX6_isWalkSound_56 (by decide) rfl ?_
    refine g_iload C dX6_isWalkSound_58 rfl ?_
    refine g_if_lt (tgt := 187) C dX6_isWalkSound_60 (by decide) (by omega) (fun h60 => ?_) (fun h60 => ?_)
    · omega
    · refine g_iload C dX6_isWalkSound_63 rfl ?_
      refine g_aload_n C dX6_isWalkSound_65 rfl ?_
      refine g_get (ci := 8) C rfl inTX6 3 (by decide) fl_RX6_30 rfl hC.o rfl dX6_isWalkSound_66 ?_
      refine g_get (ci := 3) C rfl inTX1 1 (by decide) fl_RX6_355 rfl hF.1 rfl dX6_isWalkSound_69 ?_
      refine g_icmp_gt (tgt := 187) C dX6_isWalkSound_72 (by decide) (by omega) (by omega) (fun h72 => ?_) (fun h72 => ?_)
      · omega
      · refine g_iload C dX6_isWalkSound_75 rfl ?_
        refine g_iconst C dX6_isWalkSound_77 ?_
        refine g_icmp_lt (tgt := 187) C dX6_isWalkSound_78 (by decide) (by omega) (by omega) (fun h78 => ?_) (fun h78 => ?_)
        · omega
        · refine g_iload C dX6_isWalkSound_81 rfl ?_
          refine g_iconst C dX6_isWalkSound_83 ?_
          refine g_aload_n C dX6_isWalkSound_84 rfl ?_
          refine g_get (ci := 8) C rfl inTX6 3 (by decide) fl_RX6_30 rfl hC.o rfl dX6_isWalkSound_85 ?_
          refine g_get (ci := 3) C rfl inTX1 1 (by decide) fl_RX6_355 rfl hF.1 rfl dX6_isWalkSound_88 ?_
          refine g_imul C dX6_isWalkSound_91 ?_
          refine g_icmp_gt (tgt := 187) C dX6_isWalkSound_92 (by decide) (by omega) (by omega) (fun h92 => ?_) (fun h92 => ?_)
          · omega
          · refine g_aload_n C dX6_isWalkSound_95 rfl ?_
            refine g_get (ci := 8) C rfl inTX6 4 (by decide) fl_RX6_37 rfl hC.o rfl dX6_isWalkSound_96 ?_
            refine g_aload C dX6_isWalkSound_99 rfl ?_
            refine g_aload C dX6_isWalkSound_101 rfl ?_
            refine g_callV C (s_X0_divisor _ hC.N hC.D (j := j43) (k := j53) (by omega) (by omega) f43 hw.1.1 f53 hw.2.1.1 hw.2.2.2.2.1 hw.2.2.2.2.2.1) (ci := 2) rfl hC.D rfl ml_RX6_358 im_yX0_divisor se_RX0_yX0_divisor in_RX0 co_yX0_divisor hd_X0_divisor rfl ⟨by omega, by omega⟩ rfl (Nat.le_of_ble_eq_true rfl) ⟨by omega, by omega⟩ dX6_isWalkSound_103 (fun v103 w103 hp103 => ?_)
            obtain ⟨g103, z103, rfl, hg103, f103, z103a, z103b, z103c, hN103, hk103⟩ := hp103
            have hz103 := wk_cop hV.1 hV.2.1 (k := (ss i).toNat) (by omega) z103a z103b z103c
            subst hz103
            replace hC := hC.kn hk103 hN103
            replace hK := hK.tr hk103.kc
            replace hF := hF.kn hk103 hN103
            replace hG := hG.kn hk103 hN103
            replace f43 := hk103.nw hN103 (by omega) f43
            replace f53 := hk103.nw hN103 (by omega) f53
            refine g_callV C (c_X5_isOne _ f103 ) (ci := 7) rfl (hC.N.W (j := g103) (by omega)).o rfl ml_RX6_238 im_yX5_isOne se_RX5_yX5_isOne in_RX5 co_yX5_isOne hd_X5_isOne rfl ⟨by omega, by omega⟩ rfl (Nat.le_of_ble_eq_true rfl) ⟨by omega, by omega⟩ dX6_isWalkSound_106 (fun v106 w106 hp106 => ?_)
            obtain ⟨rfl, hw106⟩ := hp106
            subst w106
            refine g_if_eq (tgt := 187) C dX6_isWalkSound_109 (by decide) (bI_r _) (fun h109 => ?_) (fun h109 => ?_)
            · exact absurd rfl (bI_0 h109)
            · refine g_aload_n C dX6_isWalkSound_112 rfl ?_
              refine g_get (ci := 8) C rfl inTX6 4 (by decide) fl_RX6_37 rfl hC.o rfl dX6_isWalkSound_113 ?_
              refine g_aload C dX6_isWalkSound_116 rfl ?_
              refine g_aload C dX6_isWalkSound_118 rfl ?_
              refine g_aload_n C dX6_isWalkSound_120 rfl ?_
              refine g_get (ci := 8) C rfl inTX6 3 (by decide) fl_RX6_30 rfl hC.o rfl dX6_isWalkSound_121 ?_
              refine g_iload_n C dX6_isWalkSound_124 rfl ?_
              refine g_iconst C dX6_isWalkSound_125 ?_
              refine g_isub C dX6_isWalkSound_126 ?_
              refine g_callV C (s_X1_top _ hF (k := ss i - 1) (by omega)) (ci := 3) rfl hF.1 rfl ml_RX6_119 im_yX1_top se_RX1_yX1_top in_RX1 co_yX1_top hd_X1_top rfl ⟨by omega, by omega⟩ rfl (Nat.le_of_ble_eq_true rfl) ⟨by omega, by omega⟩ dX6_isWalkSound_127 (fun v127 w127 hp127 => ?_)
              obtain ⟨⟨j127, rfl, hj127a, hj127b, hj127⟩, hw127⟩ := hp127
              subst w127
              have f127 := hG.topB (k := ss i) (j := j127) (by omega) (by have := hj127 (by omega); omega)
              refine g_aload_n C dX6_isWalkSound_130 rfl ?_
              refine g_get (ci := 8) C rfl inTX6 3 (by decide) fl_RX6_30 rfl hC.o rfl dX6_isWalkSound_131 ?_
              refine g_iload_n C dX6_isWalkSound_134 rfl ?_
              refine g_iconst C dX6_isWalkSound_135 ?_
              refine g_isub C dX6_isWalkSound_136 ?_
              refine g_callV C (s_X1_bottom _ hF (k := ss i - 1) (by omega)) (ci := 3) rfl hF.1 rfl ml_RX6_123 im_yX1_bottom se_RX1_yX1_bottom in_RX1 co_yX1_bottom hd_X1_bottom rfl ⟨by omega, by omega⟩ rfl (Nat.le_of_ble_eq_true rfl) ⟨by omega, by omega⟩ dX6_isWalkSound_137 (fun v137 w137 hp137 => ?_)
              obtain ⟨⟨j137, rfl, hj137a, hj137b, hj137⟩, hw137⟩ := hp137
              subst w137
              have f137 := hG.botB (k := ss i) (j := j137) (by omega) (by have := hj137 (by omega); omega)
              refine g_callV C (s_X0_cross _ hC.N hC.D (i := j43) (j := j53) (k := j127) (m := j137) (by omega) (by omega) (by omega) (by omega) f43 hw.1.1 f53 hw.2.1.1 f127 hw.1.2 f137 hw.2.1.2) (ci := 2) rfl hC.D rfl ml_RX6_366 im_yX0_cross se_RX0_yX0_cross in_RX0 co_yX0_cross hd_X0_cross rfl ⟨by omega, by omega⟩ rfl (Nat.le_of_ble_eq_true rfl) ⟨by omega, by omega⟩ dX6_isWalkSound_140 (fun v140 w140 hp140 => ?_)
              obtain ⟨rfl, f140, hN140, hk140⟩ := hp140
              replace hC := hC.kn hk140 hN140
              replace hK := hK.tr hk140.kc
              replace hF := hF.kn hk140 hN140
              replace hG := hG.kn hk140 hN140
              replace f43 := hk140.nw hN140 (by omega) f43
              replace f53 := hk140.nw hN140 (by omega) f53
              replace f127 := hk140.nw hN140 (by omega) f127
              replace f137 := hk140.nw hN140 (by omega) f137
              rw [hw.2.2.1, hk, Int.toNat_natCast] at f140
              refine g_iload_n C dX6_isWalkSound_143 rfl ?_
              refine g_callV C (c_X5_isNumber _ f140 (v := z) (by omega)) (ci := 7) rfl (hC.N.W (j := 0) (by omega)).o rfl ml_RX6_393 im_yX5_isNumber se_RX5_yX5_isNumber in_RX5 co_yX5_isNumber hd_X5_isNumber rfl ⟨by omega, by omega⟩ rfl (Nat.le_of_ble_eq_true rfl) ⟨by omega, by omega⟩ dX6_isWalkSound_144 (fun v144 w144 hp144 => ?_)
              obtain ⟨rfl, hw144⟩ := hp144
              subst w144
              refine g_if_eq (tgt := 187) C dX6_isWalkSound_147 (by decide) (bI_r _) (fun h147 => ?_) (fun h147 => ?_)
              · exact absurd (by rcases hz with ⟨q1, q2⟩ | ⟨q1, q2⟩; (rw [if_pos q1, q2]); (rw [if_neg q1, q2])) (bI_0 h147)
              · refine g_aload_n C dX6_isWalkSound_150 rfl ?_
                refine g_get (ci := 8) C rfl inTX6 4 (by decide) fl_RX6_37 rfl hC.o rfl dX6_isWalkSound_151 ?_
                refine g_aload_n C dX6_isWalkSound_154 rfl ?_
                refine g_get (ci := 6) C rfl inTX4 0 (by decide) fl_RX6_68 rfl (hC.W i (by omega)).1 rfl dX6_isWalkSound_155 ?_
                refine g_aload C dX6_isWalkSound_158 rfl ?_
                refine g_aload C dX6_isWalkSound_160 rfl ?_
                refine g_callV C (s_X0_norm _ hC.N hC.D (b := bs i) (by omega) (j := j43) (k := j53) (by omega) (by omega) f43 hw.1.1 f53 hw.2.1.1) (ci := 2) rfl hC.D rfl ml_RX6_234 im_yX0_norm se_RX0_yX0_norm in_RX0 co_yX0_norm hd_X0_norm rfl ⟨by omega, by omega⟩ rfl (Nat.le_of_ble_eq_true rfl) ⟨by omega, by omega⟩ dX6_isWalkSound_162 (fun v162 w162 hp162 => ?_)
                obtain ⟨rfl, f162, hN162, hk162⟩ := hp162
                replace hC := hC.kn hk162 hN162
                replace hK := hK.tr hk162.kc
                replace hF := hF.kn hk162 hN162
                replace hG := hG.kn hk162 hN162
                replace f43 := hk162.nw hN162 (by omega) f43
                replace f53 := hk162.nw hN162 (by omega) f53
                replace f127 := hk162.nw hN162 (by omega) f127
                replace f137 := hk162.nw hN162 (by omega) f137
                rw [hw.2.2.2.1, hk, Int.toNat_natCast] at f162
                refine g_iload_n C dX6_isWalkSound_165 rfl ?_
                refine g_aload_n C dX6_isWalkSound_166 rfl ?_
                refine g_get (ci := 8) C rfl inTX6 3 (by decide) fl_RX6_30 rfl hC.o rfl dX6_isWalkSound_167 ?_
                refine g_iload_n C dX6_isWalkSound_170 rfl ?_
                refine g_iconst C dX6_isWalkSound_171 ?_
                refine g_iadd C dX6_isWalkSound_172 ?_
                refine g_callV C (s_X1_partD _ hF (k := ss i + 1) (by omega)) (ci := 3) rfl hF.1 rfl ml_RX6_187 im_yX1_partD se_RX1_yX1_partD in_RX1 co_yX1_partD hd_X1_partD rfl ⟨by omega, by omega⟩ rfl (Nat.le_of_ble_eq_true rfl) ⟨by omega, by omega⟩ dX6_isWalkSound_173 (fun v173 w173 hp173 => ?_)
                obtain ⟨⟨p173, rfl, hp173a, hp173b⟩, hw173⟩ := hp173
                subst w173
                have hd173 := (hV.a p173 (by omega)).2.1
                have e173 := (hV.2.2 p173 (by omega)).2.1
                rw [show p173 = k + 1 by have := hp173b (by omega); omega] at e173 hd173 ⊢
                refine g_imul C dX6_isWalkSound_176 ?_
                refine g_callV C (c_X5_isNumber _ f162 (v := z * d (k + 1)) (by rcases hz with ⟨-, q⟩ | ⟨-, q⟩ <;> rw [q] <;> omega)) (ci := 7) rfl (hC.N.W (j := 1) (by omega)).o rfl ml_RX6_393 im_yX5_isNumber se_RX5_yX5_isNumber in_RX5 co_yX5_isNumber hd_X5_isNumber rfl ⟨by omega, by omega⟩ rfl (Nat.le_of_ble_eq_true rfl) ⟨by omega, by omega⟩ dX6_isWalkSound_177 (fun v177 w177 hp177 => ?_)
                obtain ⟨rfl, hw177⟩ := hp177
                subst w177
                refine g_if_eq (tgt := 187) C dX6_isWalkSound_180 (by decide) (bI_r _) (fun h180 => ?_) (fun h180 => ?_)
                · exact absurd (by rw [e173]; rcases hz with ⟨q1, q2⟩ | ⟨q1, q2⟩; (rw [if_pos q1, q2, Int.one_mul]); (rw [if_neg q1, q2, Int.neg_mul, Int.one_mul])) (bI_0 h180)
                · refine g_iconst C dX6_isWalkSound_183 ?_
                  refine g_goto (tgt := 188) C dX6_isWalkSound_184 (by decide) ?_
                  exact g_zreturn C hQ dX6_isWalkSound_188 (by rfl) (by omega) (by omega) ⟨rfl, hC, hK⟩
  refine g_iload_n C dX6_isWalkSound_5 rfl ?_
  refine g_iconst C dX6_isWalkSound_6 ?_
  refine g_iremN C dX6_isWalkSound_7 (by omega) (by omega) ?_
  refine g_iconst C dX6_isWalkSound_8 ?_
  refine g_icmp_ne (tgt := 16) C dX6_isWalkSound_9 (by decide) (by omega) (by omega) (fun h9 => ?_) (fun h9 => ?_)
  · refine g_iconst C dX6_isWalkSound_16 ?_
    exact J17 _ (by omega)
  · refine g_iconst C dX6_isWalkSound_12 ?_
    refine g_goto (tgt := 17) C dX6_isWalkSound_13 (by decide) ?_
    exact J17 _ (by omega)
theorem sm_125 {p : PT} (h : sm p) : aB p.2.1 < M125 ∧ aB p.2.2 < M125 := by
  have e2 : LGN = 1208925819614629174706176 := rfl
  unfold sm at h
  unfold M125
  omega
set_option maxHeartbeats 4000000 in
set_option maxRecDepth 100000 in
theorem s_X6_isPairSound (l : Launch) {E : GE} {w : Wd} {τ ad : Nat → Nat} {bs ss : Nat → Int} {pb : Nat → PT} {P Q : Nat → Nat} {ct : Nat → Int} (hC0 : CS τ ad w bs ss pb P Q ct) {i : Nat} (hi : i < 3) : Sp E l yX6_isPairSound cX6_isPairSound 3 (some .boolean) 4 (0) (0) [.ref (ad 100), .ref (ad (140 + i))] w (fun r' w' => r' = some (iI 1) ∧ CS τ ad w' (bs) (ss) (pb) (P) (Q) (ct) ∧ KO τ w w') := by
  refine sp_intro [some (.ref (ad 100)), some (.ref (ad (140 + i))), none] rfl (Nat.le_of_ble_eq_true rfl) pn_X6 ?_
  intro X C hRm hl hnm hQ
  obtain ⟨hRf, hRl, hRc, hRs⟩ := hRm
  refine g_wf (fun hwf => ?_)
  have hC := hC0
  have hK : KO τ w w := KO.rf _ _
  have hgb := (hC.P i (by omega)).2.1
  have hsm := (hC.P i (by omega)).2.2 hi
  obtain ⟨b1, b2⟩ := sm_125 hsm
  have hbl := hgb.1
  have hbh := hgb.2.1
  have J25 : ∀ z : Int, (z = 1 ∧ ((pb i).2.1 = 0 ∧ (pb i).2.2 = 0) ∨ z = 0 ∧ ¬ ((pb i).2.1 = 0 ∧ (pb i).2.2 = 0)) → G E X 3 25 [some (.ref (ad 100)), some (.ref (ad (140 + i))), none] [iI z] w 0 0 := by
    intro z hz
    refine g_istore_n C dX6_isPairSound_25 (by decide) rfl ?_
    refine g_aload_n C dX6_isPairSound_26 rfl ?_
    refine g_callV C (s_X2_isTooLong _ hC.N (i := i) (by omega) (hC.P i (by omega)).1) (ci := 4) rfl (hC.P i (by omega)).1.1 rfl ml_RX6_387 im_yX2_isTooLong se_RX2_yX2_isTooLong in_RX2 co_yX2_isTooLong hd_X2_isTooLong rfl ⟨by omega, by omega⟩ rfl (Nat.le_of_ble_eq_true rfl) ⟨by omega, by omega⟩ dX6_isPairSound_27 (fun v27 w27 hp27 => ?_)
    obtain ⟨rfl, hw27⟩ := hp27
    subst w27
    refine g_if_ne (tgt := 63) C dX6_isPairSound_30 (by decide) (bI_r _) (fun h30 => ?_) (fun h30 => ?_)
    · exact absurd (bI_1 h30) hsm
    · refine g_aload_n C dX6_isPairSound_33 rfl ?_
      refine g_get (ci := 8) C rfl inTX6 4 (by decide) fl_RX6_37 rfl hC.o rfl dX6_isPairSound_34 ?_
      refine g_aload_n C dX6_isPairSound_37 rfl ?_
      refine g_get (ci := 4) C rfl inTX2 0 (by decide) fl_RX6_205 rfl (hC.P i (by omega)).1.1 rfl dX6_isPairSound_38 ?_
      refine g_aload_n C dX6_isPairSound_41 rfl ?_
      refine g_get (ci := 4) C rfl inTX2 1 (by decide) fl_RX6_224 rfl (hC.P i (by omega)).1.1 rfl dX6_isPairSound_42 ?_
      refine g_aload_n C dX6_isPairSound_45 rfl ?_
      refine g_get (ci := 4) C rfl inTX2 2 (by decide) fl_RX6_217 rfl (hC.P i (by omega)).1.1 rfl dX6_isPairSound_46 ?_
      refine g_callV C (s_X0_norm _ hC.N hC.D (b := (pb i).1) (by omega) (j := 4 + 2 * i) (k := 5 + 2 * i) (by omega) (by omega) (hC.P i (by omega)).1.2.1 b1 (hC.P i (by omega)).1.2.2 b2) (ci := 2) rfl hC.D rfl ml_RX6_234 im_yX0_norm se_RX0_yX0_norm in_RX0 co_yX0_norm hd_X0_norm rfl ⟨by omega, by omega⟩ rfl (Nat.le_of_ble_eq_true rfl) ⟨by omega, by omega⟩ dX6_isPairSound_49 (fun v49 w49 hp49 => ?_)
      obtain ⟨rfl, f49, hN49, hk49⟩ := hp49
      replace hC := hC.kn hk49 hN49
      replace hK := hK.tr hk49.kc
      refine g_callV C (c_X5_isZero _ f49 ) (ci := 7) rfl (hC.N.W (j := 1) (by omega)).o rfl ml_RX6_396 im_yX5_isZero se_RX5_yX5_isZero in_RX5 co_yX5_isZero hd_X5_isZero rfl ⟨by omega, by omega⟩ rfl (Nat.le_of_ble_eq_true rfl) ⟨by omega, by omega⟩ dX6_isPairSound_52 (fun v52 w52 hp52 => ?_)
      obtain ⟨rfl, hw52⟩ := hp52
      subst w52
      refine g_iload_n C dX6_isPairSound_55 rfl ?_
      refine g_icmp_ne (tgt := 63) C dX6_isPairSound_56 (by decide) (bI_r _) (by omega) (fun h56 => ?_) (fun h56 => ?_)
      · exact absurd (by
          rcases hz with ⟨q1, q2⟩ | ⟨q1, q2⟩
          · rw [q1, bI_t ((nrm0 hgb).mpr q2)]
          · rw [q1, bI_f (fun c => q2 ((nrm0 hgb).mp c))]) h56
      · refine g_iconst C dX6_isPairSound_59 ?_
        refine g_goto (tgt := 64) C dX6_isPairSound_60 (by decide) ?_
        exact g_zreturn C hQ dX6_isPairSound_64 rfl (by omega) (by omega) ⟨rfl, hC, hK⟩
  refine g_aload_n C dX6_isPairSound_0 rfl ?_
  refine g_get (ci := 4) C rfl inTX2 1 (by decide) fl_RX6_224 rfl (hC.P i (by omega)).1.1 rfl dX6_isPairSound_1 ?_
  refine g_callV C (c_X5_isZero _ (hC.P i (by omega)).1.2.1 ) (ci := 7) rfl (hC.N.W (j := 4 + 2 * i) (by omega)).o rfl ml_RX6_396 im_yX5_isZero se_RX5_yX5_isZero in_RX5 co_yX5_isZero hd_X5_isZero rfl ⟨by omega, by omega⟩ rfl (Nat.le_of_ble_eq_true rfl) ⟨by omega, by omega⟩ dX6_isPairSound_4 (fun v4 w4 hp4 => ?_)
  obtain ⟨rfl, hw4⟩ := hp4
  subst w4
  refine g_if_eq (tgt := 24) C dX6_isPairSound_7 (by decide) (bI_r _) (fun h7 => ?_) (fun h7 => ?_)
  · refine g_iconst C dX6_isPairSound_24 ?_
    first
    | exact J25 1 (Or.inl ⟨rfl, bI_1 h7, bI_1 h17⟩)
    | exact J25 0 (Or.inr ⟨rfl, fun c => bI_0 h7 c.1⟩)
    | exact J25 0 (Or.inr ⟨rfl, fun c => bI_0 h17 c.2⟩)
  · refine g_aload_n C dX6_isPairSound_10 rfl ?_
    refine g_get (ci := 4) C rfl inTX2 2 (by decide) fl_RX6_217 rfl (hC.P i (by omega)).1.1 rfl dX6_isPairSound_11 ?_
    refine g_callV C (c_X5_isZero _ (hC.P i (by omega)).1.2.2 ) (ci := 7) rfl (hC.N.W (j := 5 + 2 * i) (by omega)).o rfl ml_RX6_396 im_yX5_isZero se_RX5_yX5_isZero in_RX5 co_yX5_isZero hd_X5_isZero rfl ⟨by omega, by omega⟩ rfl (Nat.le_of_ble_eq_true rfl) ⟨by omega, by omega⟩ dX6_isPairSound_14 (fun v14 w14 hp14 => ?_)
    obtain ⟨rfl, hw14⟩ := hp14
    subst w14
    refine g_if_eq (tgt := 24) C dX6_isPairSound_17 (by decide) (bI_r _) (fun h17 => ?_) (fun h17 => ?_)
    · refine g_iconst C dX6_isPairSound_24 ?_
      first
      | exact J25 1 (Or.inl ⟨rfl, bI_1 h7, bI_1 h17⟩)
      | exact J25 0 (Or.inr ⟨rfl, fun c => bI_0 h7 c.1⟩)
      | exact J25 0 (Or.inr ⟨rfl, fun c => bI_0 h17 c.2⟩)
    · refine g_iconst C dX6_isPairSound_20 ?_
      refine g_goto (tgt := 25) C dX6_isPairSound_21 (by decide) ?_
      first
      | exact J25 1 (Or.inl ⟨rfl, bI_1 h7, bI_1 h17⟩)
      | exact J25 0 (Or.inr ⟨rfl, fun c => bI_0 h7 c.1⟩)
      | exact J25 0 (Or.inr ⟨rfl, fun c => bI_0 h17 c.2⟩)
/-- what the checksum becomes by a pair, by a walk -/
def mxP (x : Int) (p : PT) : Int := ((((x * 31 + p.1) * 31 + p.2.1) * 31 + p.2.2) * 31 + (hiB (aB p.2.1) 504 + 1)) * 31 + (hiB (aB p.2.2) 504 + 1)
def mx6 (b r s : Int) : Nat → Int → Int
  | 0, x => x
  | k + 1, x => mx6 b r s k x * 31 + prV b r s (k : Int)
def mx4 (b r s : Int) : Nat → Int → Int
  | 0, x => x
  | k + 1, x => mx4 b r s k x * 31 + wnV b r s.toNat (k : Int)
def mxW (b r s x : Int) : Int := (mx4 b r s 4 (mx6 b r s 6 x) * 31 + tstV b r s.toNat 1) * 31 + tstV b r s.toNat 2
set_option maxHeartbeats 4000000 in
set_option maxRecDepth 100000 in
theorem s_X6_mixPair (l : Launch) {E : GE} {w : Wd} {τ ad : Nat → Nat} {bs ss : Nat → Int} {pb : Nat → PT} {P Q : Nat → Nat} {ct : Nat → Int} (hC0 : CS τ ad w bs ss pb P Q ct) {i : Nat} (hi : i < 6) {x : Int} : Sp E l yX6_mixPair cX6_mixPair 5 (some .long) 2 (0) (0) [jJ x, .ref (ad (140 + i))] w (fun r' w' => r' = some (jJ (mxP x (pb i))) ∧ w' = w) := by
  refine sp_intro [some (jJ x), none, some (.ref (ad (140 + i))), none, none] rfl (Nat.le_of_ble_eq_true rfl) pn_X6 ?_
  intro X C hRm hl hnm hQ
  obtain ⟨hRf, hRl, hRc, hRs⟩ := hRm
  refine g_wf (fun hwf => ?_)
  have hC := hC0
  have hK : KO τ w w := KO.rf _ _
  have hgb := (hC.P i (by omega)).2.1
  have hbl := hgb.1
  have hbh := hgb.2.1
  have r1 := bits_r (z := (pb i).2.1)
  have r2 := bits_r (z := (pb i).2.2)
  refine g_lload_n C dX6_mixPair_0 rfl ?_
  refine g_aload_n C dX6_mixPair_1 rfl ?_
  refine g_get (ci := 4) C rfl inTX2 0 (by decide) fl_RX6_205 rfl (hC.P i (by omega)).1.1 rfl dX6_mixPair_2 ?_
  refine g_i2l C dX6_mixPair_5 (by omega) ?_
  refine g_callS C (s_X6_mix _) ml_RX6_331 sm_yX6_mix in_RX6 co_yX6_mix hd_X6_mix rfl ⟨by omega, by omega⟩ rfl (Nat.le_of_ble_eq_true rfl) ⟨by omega, by omega⟩ dX6_mixPair_6 (fun v6 w6 hp6 => ?_)
  obtain ⟨rfl, hw6⟩ := hp6
  subst w6
  refine g_lstore_n C dX6_mixPair_9 (by decide) rfl ?_
  refine g_lload_n C dX6_mixPair_10 rfl ?_
  refine g_aload_n C dX6_mixPair_11 rfl ?_
  refine g_get (ci := 4) C rfl inTX2 1 (by decide) fl_RX6_224 rfl (hC.P i (by omega)).1.1 rfl dX6_mixPair_12 ?_
  refine g_callV C (v_X5_lowBits _ (hC.P i (by omega)).1.2.1 ) (ci := 7) rfl (hC.N.W (j := 4 + 2 * i) (by omega)).o rfl ml_RX6_362 im_yX5_lowBits se_RX5_yX5_lowBits in_RX5 co_yX5_lowBits hd_X5_lowBits rfl ⟨by omega, by omega⟩ rfl (Nat.le_of_ble_eq_true rfl) ⟨by omega, by omega⟩ dX6_mixPair_15 (fun v15 w15 hp15 => ?_)
  obtain ⟨rfl, hw15⟩ := hp15
  subst w15
  refine g_callS C (s_X6_mix _) ml_RX6_331 sm_yX6_mix in_RX6 co_yX6_mix hd_X6_mix rfl ⟨by omega, by omega⟩ rfl (Nat.le_of_ble_eq_true rfl) ⟨by omega, by omega⟩ dX6_mixPair_18 (fun v18 w18 hp18 => ?_)
  obtain ⟨rfl, hw18⟩ := hp18
  subst w18
  refine g_aload_n C dX6_mixPair_21 rfl ?_
  refine g_get (ci := 4) C rfl inTX2 2 (by decide) fl_RX6_217 rfl (hC.P i (by omega)).1.1 rfl dX6_mixPair_22 ?_
  refine g_callV C (v_X5_lowBits _ (hC.P i (by omega)).1.2.2 ) (ci := 7) rfl (hC.N.W (j := 5 + 2 * i) (by omega)).o rfl ml_RX6_362 im_yX5_lowBits se_RX5_yX5_lowBits in_RX5 co_yX5_lowBits hd_X5_lowBits rfl ⟨by omega, by omega⟩ rfl (Nat.le_of_ble_eq_true rfl) ⟨by omega, by omega⟩ dX6_mixPair_25 (fun v25 w25 hp25 => ?_)
  obtain ⟨rfl, hw25⟩ := hp25
  subst w25
  refine g_callS C (s_X6_mix _) ml_RX6_331 sm_yX6_mix in_RX6 co_yX6_mix hd_X6_mix rfl ⟨by omega, by omega⟩ rfl (Nat.le_of_ble_eq_true rfl) ⟨by omega, by omega⟩ dX6_mixPair_28 (fun v28 w28 hp28 => ?_)
  obtain ⟨rfl, hw28⟩ := hp28
  subst w28
  refine g_lstore_n C dX6_mixPair_31 (by decide) rfl ?_
  refine g_lload_n C dX6_mixPair_32 rfl ?_
  refine g_aload_n C dX6_mixPair_33 rfl ?_
  refine g_get (ci := 4) C rfl inTX2 1 (by decide) fl_RX6_224 rfl (hC.P i (by omega)).1.1 rfl dX6_mixPair_34 ?_
  refine g_callV C (u_X5_bits _ (hC.P i (by omega)).1.2.1 ) (ci := 7) rfl (hC.N.W (j := 4 + 2 * i) (by omega)).o rfl ml_RX6_374 im_yX5_bits se_RX5_yX5_bits in_RX5 co_yX5_bits hd_X5_bits rfl ⟨by omega, by omega⟩ rfl (Nat.le_of_ble_eq_true rfl) ⟨by omega, by omega⟩ dX6_mixPair_37 (fun v37 w37 hp37 => ?_)
  obtain ⟨rfl, hw37⟩ := hp37
  subst w37
  refine g_i2l C dX6_mixPair_40 (by omega) ?_
  refine g_callS C (s_X6_mix _) ml_RX6_331 sm_yX6_mix in_RX6 co_yX6_mix hd_X6_mix rfl ⟨by omega, by omega⟩ rfl (Nat.le_of_ble_eq_true rfl) ⟨by omega, by omega⟩ dX6_mixPair_41 (fun v41 w41 hp41 => ?_)
  obtain ⟨rfl, hw41⟩ := hp41
  subst w41
  refine g_aload_n C dX6_mixPair_44 rfl ?_
  refine g_get (ci := 4) C rfl inTX2 2 (by decide) fl_RX6_217 rfl (hC.P i (by omega)).1.1 rfl dX6_mixPair_45 ?_
  refine g_callV C (u_X5_bits _ (hC.P i (by omega)).1.2.2 ) (ci := 7) rfl (hC.N.W (j := 5 + 2 * i) (by omega)).o rfl ml_RX6_374 im_yX5_bits se_RX5_yX5_bits in_RX5 co_yX5_bits hd_X5_bits rfl ⟨by omega, by omega⟩ rfl (Nat.le_of_ble_eq_true rfl) ⟨by omega, by omega⟩ dX6_mixPair_48 (fun v48 w48 hp48 => ?_)
  obtain ⟨rfl, hw48⟩ := hp48
  subst w48
  refine g_i2l C dX6_mixPair_51 (by omega) ?_
  refine g_callS C (s_X6_mix _) ml_RX6_331 sm_yX6_mix in_RX6 co_yX6_mix hd_X6_mix rfl ⟨by omega, by omega⟩ rfl (Nat.le_of_ble_eq_true rfl) ⟨by omega, by omega⟩ dX6_mixPair_52 (fun v52 w52 hp52 => ?_)
  obtain ⟨rfl, hw52⟩ := hp52
  subst w52
  exact g_lreturn C hQ dX6_mixPair_55 (Nat.le_refl _) (Nat.le_refl _) ⟨rfl, rfl⟩
theorem prV_b {b r s : Int} {m d a : Nat → Int} (hV : FV b r m d a) (hs : 0 ≤ s) {k : Int} (hk : 0 ≤ k ∧ k ≤ 5) (h24 : s ≤ 24 := by omega) : -2147483648 ≤ prV b r s k ∧ prV b r s k < 2147483648 := by
  have h1 := hV.1.1
  have h2 := hV.1.2.1
  have h3 := RT_le hV.1 hV.2.1
  have h4 := hV.2.1.1
  have h5 := cf_good hV.1 hV.2.1 (k := s.toNat) (by omega)
  unfold prV
  split
  · omega
  · split
    · omega
    · split
      · omega
      · split
        · omega
        · split <;> omega
set_option maxHeartbeats 4000000 in
set_option maxRecDepth 100000 in
theorem s_X6_mixWalk (l : Launch) {E : GE} {w : Wd} {τ ad : Nat → Nat} {bs ss : Nat → Int} {pb : Nat → PT} {P Q : Nat → Nat} {ct : Nat → Int} (hC0 : CS τ ad w bs ss pb P Q ct) {i : Nat} (hi : i < 3) {r : Int} {m d a : Nat → Int} (hF0 : FS ad w (bs i) r m d a) (hV : FV (bs i) r m d a) (hG0 : FN ad w (bs i) r) {x : Int} : Sp E l yX6_mixWalk cX6_mixWalk 7 (some .long) 5 (0) (0) [.ref (ad 100), jJ x, .ref (ad (120 + i))] w (fun r' w' => r' = some (jJ (mxW (bs i) r (ss i) x)) ∧ CS τ ad w' (bs) (ss) (pb) (P) (Q) (ct) ∧ KO τ w w') := by
  refine sp_intro [some (.ref (ad 100)), some (jJ x), none, some (.ref (ad (120 + i))), none, none, none] rfl (Nat.le_of_ble_eq_true rfl) pn_X6 ?_
  intro X C hRm hl hnm hQ
  obtain ⟨hRf, hRl, hRc, hRs⟩ := hRm
  refine g_wf (fun hwf => ?_)
  have hC := hC0
  have hK : KO τ w w := KO.rf _ _
  have hF := hF0
  have hG := hG0
  have hs := (hC.W i (by omega)).2.2
  have hgb := (hC.W i (by omega)).2.1
  have hbl := hgb.1
  have hbh := hgb.2.1
  have hr09 := RT_le hV.1 hV.2.1
  refine g_lload_n C dX6_mixWalk_0 rfl ?_
  refine g_lstore C dX6_mixWalk_1 (by decide) rfl ?_
  refine g_iconst C dX6_mixWalk_3 ?_
  refine g_istore C dX6_mixWalk_4 (by decide) rfl ?_
  refine g_loop (σ := Nat × Int) (fun s => s.1 ≤ 6 ∧ s.2 = mx6 (bs i) r (ss i) s.1 x) (fun s => G E X 7 6 [some (.ref (ad 100)), some (jJ x), none, some (.ref (ad (120 + i))), some (jJ s.2), none, some (iI (s.1 : Int))] [] w 0 0) (fun s => 6 - s.1) ?_ (0, x) ⟨by dsimp only; omega, rfl⟩
  rintro ⟨k, z⟩ ⟨hk, hz⟩ ih
  dsimp only at hk hz ⊢
  refine g_iload C dX6_mixWalk_6 rfl ?_
  refine g_iconst C dX6_mixWalk_8 ?_
  refine g_icmp_gt (tgt := 33) C dX6_mixWalk_9 (by decide) (by omega) (by omega) (fun h9 => ?_) (fun h9 => ?_)
  · refine g_iconst C dX6_mixWalk_33 ?_
    refine g_istore C dX6_mixWalk_34 (by decide) rfl ?_
    have hk6 : k = 6 := by omega
    subst hk6
    clear ih hk
    refine g_loop (σ := Nat × Int) (fun s => s.1 ≤ 4 ∧ s.2 = mx4 (bs i) r (ss i) s.1 (mx6 (bs i) r (ss i) 6 x)) (fun s => G E X 7 36 [some (.ref (ad 100)), some (jJ x), none, some (.ref (ad (120 + i))), some (jJ s.2), none, some (iI (s.1 : Int))] [] w 0 0) (fun s => 4 - s.1) ?_ (0, z) ⟨by dsimp only; omega, hz⟩
    clear h9 hz z
    rintro ⟨k, z⟩ ⟨hk, hz⟩ ih
    dsimp only at hk hz ⊢
    refine g_iload C dX6_mixWalk_36 rfl ?_
    refine g_iconst C dX6_mixWalk_38 ?_
    refine g_icmp_gt (tgt := 65) C dX6_mixWalk_39 (by decide) (by omega) (by omega) (fun h39 => ?_) (fun h39 => ?_)
    · refine g_lload C dX6_mixWalk_65 rfl ?_
      refine g_aload_n C dX6_mixWalk_67 rfl ?_
      refine g_aload_n C dX6_mixWalk_68 rfl ?_
      refine g_iconst C dX6_mixWalk_69 ?_
      refine g_callV C (s_X6_walkTest _ hC hi hF hV hG (z := 1) (by omega)) (ci := 8) rfl hC.o rfl ml_RX6_106 im_yX6_walkTest se_RX6_yX6_walkTest in_RX6 co_yX6_walkTest hd_X6_walkTest rfl ⟨by omega, by omega⟩ rfl (Nat.le_of_ble_eq_true rfl) ⟨by omega, by omega⟩ dX6_mixWalk_70 (fun v70 w70 hp70 => ?_)
      obtain ⟨rfl, hf70, hg70, hc70, hk70⟩ := hp70
      replace hC := hc70
      replace hK := hK.tr hk70
      replace hF := hf70
      replace hG := hg70
      have ht70 := tst_r hV.1 hV.2.1 (k := (ss i).toNat) (by omega) 1
      refine g_i2l C dX6_mixWalk_73 (by omega) ?_
      refine g_callS C (s_X6_mix _) ml_RX6_331 sm_yX6_mix in_RX6 co_yX6_mix hd_X6_mix rfl ⟨by omega, by omega⟩ rfl (Nat.le_of_ble_eq_true rfl) ⟨by omega, by omega⟩ dX6_mixWalk_74 (fun v74 w74 hp74 => ?_)
      obtain ⟨rfl, hw74⟩ := hp74
      subst w74
      refine g_aload_n C dX6_mixWalk_77 rfl ?_
      refine g_aload_n C dX6_mixWalk_78 rfl ?_
      refine g_iconst C dX6_mixWalk_79 ?_
      refine g_callV C (s_X6_walkTest _ hC hi hF hV hG (z := 2) (by omega)) (ci := 8) rfl hC.o rfl ml_RX6_106 im_yX6_walkTest se_RX6_yX6_walkTest in_RX6 co_yX6_walkTest hd_X6_walkTest rfl ⟨by omega, by omega⟩ rfl (Nat.le_of_ble_eq_true rfl) ⟨by omega, by omega⟩ dX6_mixWalk_80 (fun v80 w80 hp80 => ?_)
      obtain ⟨rfl, hf80, hg80, hc80, hk80⟩ := hp80
      replace hC := hc80
      replace hK := hK.tr hk80
      replace hF := hf80
      replace hG := hg80
      have ht80 := tst_r hV.1 hV.2.1 (k := (ss i).toNat) (by omega) 2
      refine g_i2l C dX6_mixWalk_83 (by omega) ?_
      refine g_callS C (s_X6_mix _) ml_RX6_331 sm_yX6_mix in_RX6 co_yX6_mix hd_X6_mix rfl ⟨by omega, by omega⟩ rfl (Nat.le_of_ble_eq_true rfl) ⟨by omega, by omega⟩ dX6_mixWalk_84 (fun v84 w84 hp84 => ?_)
      obtain ⟨rfl, hw84⟩ := hp84
      subst w84
      exact g_lreturn C hQ dX6_mixWalk_87 (Nat.le_refl _) (Nat.le_refl _) ⟨by rw [hz, show k = 4 by omega]; rfl, hC, hK⟩
    · refine g_lload C dX6_mixWalk_42 rfl ?_
      refine g_aload_n C dX6_mixWalk_44 rfl ?_
      refine g_aload_n C dX6_mixWalk_45 rfl ?_
      refine g_iload C dX6_mixWalk_46 rfl ?_
      refine g_callV C (s_X6_walkNumber _ hC hi hF hV hG (z := (k : Int)) (by omega)) (ci := 8) rfl hC.o rfl ml_RX6_98 im_yX6_walkNumber se_RX6_yX6_walkNumber in_RX6 co_yX6_walkNumber hd_X6_walkNumber rfl ⟨by omega, by omega⟩ rfl (Nat.le_of_ble_eq_true rfl) ⟨by omega, by omega⟩ dX6_mixWalk_48 (fun v48 w48 hp48 => ?_)
      obtain ⟨⟨j48, rfl, hj48, f48⟩, hw48⟩ := hp48
      subst w48
      refine g_callV C (v_X5_lowBits _ f48 ) (ci := 7) rfl (hC.N.W (j := j48) (by omega)).o rfl ml_RX6_362 im_yX5_lowBits se_RX5_yX5_lowBits in_RX5 co_yX5_lowBits hd_X5_lowBits rfl ⟨by omega, by omega⟩ rfl (Nat.le_of_ble_eq_true rfl) ⟨by omega, by omega⟩ dX6_mixWalk_51 (fun v51 w51 hp51 => ?_)
      obtain ⟨rfl, hw51⟩ := hp51
      subst w51
      refine g_callS C (s_X6_mix _) ml_RX6_331 sm_yX6_mix in_RX6 co_yX6_mix hd_X6_mix rfl ⟨by omega, by omega⟩ rfl (Nat.le_of_ble_eq_true rfl) ⟨by omega, by omega⟩ dX6_mixWalk_54 (fun v54 w54 hp54 => ?_)
      obtain ⟨rfl, hw54⟩ := hp54
      subst w54
      refine g_lstore C dX6_mixWalk_57 (by decide) rfl ?_
      refine g_iinc C dX6_mixWalk_59 rfl (by decide) rfl ?_
      refine g_goto (tgt := 36) C dX6_mixWalk_62 (by decide) ?_
      rw [show (k : Int) + 1 = ((k + 1 : Nat) : Int) by omega]
      exact ih (k + 1, _) ⟨by dsimp only; omega, by dsimp only; rw [hz]; rfl⟩ (by dsimp only; omega)
  · refine g_lload C dX6_mixWalk_12 rfl ?_
    refine g_aload_n C dX6_mixWalk_14 rfl ?_
    refine g_aload_n C dX6_mixWalk_15 rfl ?_
    refine g_iload C dX6_mixWalk_16 rfl ?_
    refine g_callV C (s_X6_walkPart _ hC hi hF hV hG (z := (k : Int)) (by omega)) (ci := 8) rfl hC.o rfl ml_RX6_94 im_yX6_walkPart se_RX6_yX6_walkPart in_RX6 co_yX6_walkPart hd_X6_walkPart rfl ⟨by omega, by omega⟩ rfl (Nat.le_of_ble_eq_true rfl) ⟨by omega, by omega⟩ dX6_mixWalk_18 (fun v18 w18 hp18 => ?_)
    obtain ⟨rfl, hw18⟩ := hp18
    subst w18
    have hpr := prV_b hV hs.1 (k := (k : Int)) (by omega)
    refine g_i2l C dX6_mixWalk_21 (by omega) ?_
    refine g_callS C (s_X6_mix _) ml_RX6_331 sm_yX6_mix in_RX6 co_yX6_mix hd_X6_mix rfl ⟨by omega, by omega⟩ rfl (Nat.le_of_ble_eq_true rfl) ⟨by omega, by omega⟩ dX6_mixWalk_22 (fun v22 w22 hp22 => ?_)
    obtain ⟨rfl, hw22⟩ := hp22
    subst w22
    refine g_lstore C dX6_mixWalk_25 (by decide) rfl ?_
    refine g_iinc C dX6_mixWalk_27 rfl (by decide) rfl ?_
    refine g_goto (tgt := 6) C dX6_mixWalk_30 (by decide) ?_
    rw [show (k : Int) + 1 = ((k + 1 : Nat) : Int) by omega]
    exact ih (k + 1, _) ⟨by dsimp only; omega, by dsimp only; rw [hz]; rfl⟩ (by dsimp only; omega)
