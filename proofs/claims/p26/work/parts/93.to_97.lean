theorem lg_sm0 {x : Int} (h : -2147483648 ≤ x ∧ x ≤ 2147483648) : ¬ LGN ≤ aB x := by
  unfold aB
  split <;> (show ¬ (1208925819614629174706176 : Int) ≤ _; omega)
theorem sm_of {b x y : Int} (hx : -2147483648 ≤ x ∧ x ≤ 2147483648) (hy : -2147483648 ≤ y ∧ y ≤ 2147483648) : sm (b, x, y) := fun c => c.elim (lg_sm0 hx) (lg_sm0 hy)
set_option maxHeartbeats 4000000 in
set_option maxRecDepth 100000 in
theorem s_X6_setSolution (l : Launch) {K : KC} {E : GE} {w : Wd} {τ ad : Nat → Nat} {bs ss : Nat → Int} {pb : Nat → PT} {P Q : Nat → Nat} {ct : Nat → Int} (hC0 : CS τ ad w bs ss pb P Q ct) {i : Nat} (hi : i < 6) {b : Int} (hb : GB b) : St K E l yX6_setSolution cX6_setSolution 4 none 5 (0) (0) [.ref (ad 100), .ref (ad (140 + i)), iI b] w (fun r' w' => r' = none ∧ ∃ r, RT b r ∧ CS τ ad w' (bs) (ss) (pup pb i (b, leaP b r, leaQ b r)) (P) (Q) (ct) ∧ KO τ w w') := by
  refine st_intro [some (.ref (ad 100)), some (.ref (ad (140 + i))), some (iI b), none] rfl (Nat.le_of_ble_eq_true rfl) pn_X6 ?_
  intro X C hT hRm hl hnm hQ
  obtain ⟨hRf, hRl, hRc, hRs⟩ := hRm
  refine g_wf (fun hwf => ?_)
  have hC := hC0
  have hK : KO τ w w := KO.rf _ _
  obtain ⟨fb, fr, m0, d0, a0, hF0, hv0, hb0⟩ := hC.F
  have hbl := hb.1
  have hbh := hb.2.1
  refine g_aload_n C dX6_setSolution_0 rfl ?_
  refine g_get (ci := 8) C rfl inTX6 3 (by decide) fl_RX6_30 rfl hC.o rfl dX6_setSolution_1 ?_
  refine g_iload_n C dX6_setSolution_4 rfl ?_
  refine t_callV C hT (s_X1_expand _ hC.N hF0 hv0 hb0 hb) (RcV.ob (ci := 3) C rfl hF0.1) rfl ml_RX6_152 im_yX1_expand se_RX1_yX1_expand in_RX1 co_yX1_expand hd_X1_expand rfl ⟨by omega, by omega⟩ rfl (Nat.le_of_ble_eq_true rfl) ⟨by omega, by omega⟩ dX6_setSolution_5 (fun v5 w5 hp5 => ?_)
  obtain ⟨rfl, r1, m1, d1, a1, hF, V1, hG, N1, K1⟩ := hp5
  replace hC := hC.kf K1 N1 ⟨_, _, _, _, _, hF, Or.inr ⟨V1, hG⟩, by omega⟩
  replace hK := hK.tr K1.kc
  refine g_aload_n C dX6_setSolution_8 rfl ?_
  refine g_get (ci := 8) C rfl inTX6 3 (by decide) fl_RX6_30 rfl hC.o rfl dX6_setSolution_9 ?_
  refine g_callV C (s_X1_solutionStep _ hF (fun k hk => by have := V1.a k hk; omega)) (ci := 3) rfl hF.1 rfl ml_RX6_175 im_yX1_solutionStep se_RX1_yX1_solutionStep in_RX1 co_yX1_solutionStep hd_X1_solutionStep rfl ⟨by omega, by omega⟩ rfl (Nat.le_of_ble_eq_true rfl) ⟨by omega, by omega⟩ dX6_setSolution_12 (fun v12 w12 hp12 => ?_)
  obtain ⟨⟨p, rfl, hp1, hp2, hp3⟩, hw12⟩ := hp12
  subst w12
  have hper := V1.per hp1 hp2 hp3
  have hlk : leaK p ≤ 25 := by
    have h16 := hper.2.1
    have h11 := fun ho => per_odd V1.1 V1.2.1 hper ho
    unfold leaK
    split
    · omega
    · have := h11 (by omega); omega
  have e1 : (pq b r1 1 r1 (leaK p)).1 = leaP b r1 := by unfold leaP; rw [perF_eq hper]
  have e2 : (pq b r1 0 1 (leaK p)).1 = leaQ b r1 := by unfold leaQ; rw [perF_eq hper]
  refine g_istore_n C dX6_setSolution_15 (by decide) rfl ?_
  refine g_aload_n C dX6_setSolution_16 rfl ?_
  refine g_iload_n C dX6_setSolution_17 rfl ?_
  refine g_aload_n C dX6_setSolution_18 rfl ?_
  refine g_get (ci := 8) C rfl inTX6 3 (by decide) fl_RX6_30 rfl hC.o rfl dX6_setSolution_19 ?_
  refine g_iload_n C dX6_setSolution_22 rfl ?_
  refine g_callV C (s_X1_top _ hF (k := ((leaK p : Nat) : Int)) (by omega)) (ci := 3) rfl hF.1 rfl ml_RX6_119 im_yX1_top se_RX1_yX1_top in_RX1 co_yX1_top hd_X1_top rfl ⟨by omega, by omega⟩ rfl (Nat.le_of_ble_eq_true rfl) ⟨by omega, by omega⟩ dX6_setSolution_23 (fun v23 w23 hp23 => ?_)
  obtain ⟨⟨j23, rfl, hj23a, hj23b, hj23⟩, hw23⟩ := hp23
  subst w23
  have f23 := hG.top (k := ((leaK p : Nat) : Int)) (j := j23) (by omega) (by have := hj23 (by omega); omega)
  refine g_aload_n C dX6_setSolution_26 rfl ?_
  refine g_get (ci := 8) C rfl inTX6 3 (by decide) fl_RX6_30 rfl hC.o rfl dX6_setSolution_27 ?_
  refine g_iload_n C dX6_setSolution_30 rfl ?_
  refine g_callV C (s_X1_bottom _ hF (k := ((leaK p : Nat) : Int)) (by omega)) (ci := 3) rfl hF.1 rfl ml_RX6_123 im_yX1_bottom se_RX1_yX1_bottom in_RX1 co_yX1_bottom hd_X1_bottom rfl ⟨by omega, by omega⟩ rfl (Nat.le_of_ble_eq_true rfl) ⟨by omega, by omega⟩ dX6_setSolution_31 (fun v31 w31 hp31 => ?_)
  obtain ⟨⟨j31, rfl, hj31a, hj31b, hj31⟩, hw31⟩ := hp31
  subst w31
  have f31 := hG.bot (k := ((leaK p : Nat) : Int)) (j := j31) (by omega) (by have := hj31 (by omega); omega)
  rw [Int.toNat_natCast] at f23 f31
  rw [e1] at f23
  rw [e2] at f31
  refine g_callV C (s_X2_setWholes _ hC.N (i := i) (by omega) (hC.P i (by omega)).1.1 (b := b) (j := j23) (k := j31) (by omega) (by omega) f23 f31) (ci := 4) rfl (hC.P i (by omega)).1.1 rfl ml_RX6_197 im_yX2_setWholes se_RX2_yX2_setWholes in_RX2 co_yX2_setWholes hd_X2_setWholes rfl ⟨by omega, by omega⟩ rfl (Nat.le_of_ble_eq_true rfl) ⟨by omega, by omega⟩ dX6_setSolution_34 (fun v34 w34 hp34 => ?_)
  obtain ⟨rfl, hN34, hP34, hk34⟩ := hp34
  replace hC := hC.kx (i := i) (p := (b, leaP b r1, leaQ b r1)) (by omega) hk34 hN34 hP34 hb (fun _ => sm_of (by have l := lea_ok V1.1 V1.2.1; omega) (by have l := lea_ok V1.1 V1.2.1; omega))
  replace hK := hK.tr (hk34.kc (by omega))
  exact g_return C hQ dX6_setSolution_37 (by omega) (by omega) ⟨rfl, r1, V1.2.1, hC, hK⟩
theorem pup_id {f : Nat → PT} {i : Nat} {x : PT} (h : f i = x) : pup f i x = f := by
  funext j
  unfold pup
  split
  · rename_i e; rw [e, h]
  · rfl
set_option maxHeartbeats 4000000 in
set_option maxRecDepth 100000 in
theorem s_X6_becomeDraft (l : Launch) {E : GE} {w : Wd} {τ ad : Nat → Nat} {bs ss : Nat → Int} {pb : Nat → PT} {P Q : Nat → Nat} {ct : Nat → Int} (hC0 : CS τ ad w bs ss pb P Q ct) {i : Nat} (hi : i < 3) : Sp E l yX6_becomeDraft cX6_becomeDraft 2 (some .int) 4 (0) (0) [.ref (ad 100), .ref (ad (140 + i))] w (fun r' w' => ((¬ sm (pb 3) ∧ r' = some (iI (-9)) ∧ CS τ ad w' (bs) (ss) (pb) (P) (Q) (iup ct 3 (ct 3 + 1))) ∨ (sm (pb 3) ∧ r' = some (iI (bI (¬ pb i = pb 3))) ∧ CS τ ad w' (bs) (ss) (pup pb i (pb 3)) (P) (Q) (iup ct 1 (ct 1 + 1)))) ∧ KO τ w w') := by
  refine sp_intro [some (.ref (ad 100)), some (.ref (ad (140 + i)))] rfl (Nat.le_of_ble_eq_true rfl) pn_X6 ?_
  intro X C hRm hl hnm hQ
  obtain ⟨hRf, hRl, hRc, hRs⟩ := hRm
  refine g_wf (fun hwf => ?_)
  have hC := hC0
  have hK : KO τ w w := KO.rf _ _
  refine g_aload_n C dX6_becomeDraft_0 rfl ?_
  refine g_get (ci := 8) C rfl inTX6 5 (by decide) fl_RX6_42 rfl hC.o rfl dX6_becomeDraft_1 ?_
  refine g_callV C (s_X2_isTooLong _ hC.N (i := 3) (by omega) (hC.P 3 (by omega)).1) (ci := 4) rfl (hC.P 3 (by omega)).1.1 rfl ml_RX6_387 im_yX2_isTooLong se_RX2_yX2_isTooLong in_RX2 co_yX2_isTooLong hd_X2_isTooLong rfl ⟨by omega, by omega⟩ rfl (Nat.le_of_ble_eq_true rfl) ⟨by omega, by omega⟩ dX6_becomeDraft_4 (fun v4 w4 hp4 => ?_)
  obtain ⟨rfl, hw4⟩ := hp4
  subst w4
  refine g_if_eq (tgt := 15) C dX6_becomeDraft_7 (by decide) (bI_r _) (fun h7 => ?_) (fun h7 => ?_)
  · have hsm := bI_0 h7
    refine g_aload_n C dX6_becomeDraft_15 rfl ?_
    refine g_dup C dX6_becomeDraft_16 rfl ?_
    refine g_get (ci := 8) C rfl inTX6 11 (by decide) fl_RX6_302 rfl hC.o rfl dX6_becomeDraft_17 ?_
    refine g_iconst C dX6_becomeDraft_20 ?_
    refine g_iadd C dX6_becomeDraft_21 ?_
    refine g_put (ci := 8) C rfl inTX6 tyX6 tyX6_ok nmX6 11 (by decide) fl_RX6_302 rfl rfl hC.o (Nat.le_of_ble_eq_true rfl) rfl rfl dX6_becomeDraft_22 ?_
    refine g_gen (fun v22 hv22 => ?_)
    replace hv22 : v22 = wset _ (ad 100) (true, oX ad (iup ct 1 (ct 1 + 1))) := hv22
    have hq22 := hC.so (iup ct 1 (ct 1 + 1))
    rw [← hv22] at hq22
    replace hC := hq22.1
    replace hK := hK.tr hq22.2
    refine g_aload_n C dX6_becomeDraft_25 rfl ?_
    refine g_aload_n C dX6_becomeDraft_26 rfl ?_
    refine g_get (ci := 8) C rfl inTX6 5 (by decide) fl_RX6_42 rfl hC.o rfl dX6_becomeDraft_27 ?_
    refine g_callV C (s_X2_isLike _ hC.N (i := i) (by omega) (hC.P i (by omega)).1 (by have := (hC.P i (by omega)).2.1; have h1 := this.1; have h2 := this.2.1; omega) (by have := (hC.P 3 (by omega)).2.1; have h1 := this.1; have h2 := this.2.1; omega) (m := 3) (by omega) (hC.P 3 (by omega)).1) (ci := 4) rfl (hC.P i (by omega)).1.1 rfl ml_RX6_248 im_yX2_isLike se_RX2_yX2_isLike in_RX2 co_yX2_isLike hd_X2_isLike rfl ⟨by omega, by omega⟩ rfl (Nat.le_of_ble_eq_true rfl) ⟨by omega, by omega⟩ dX6_becomeDraft_30 (fun v30 w30 hp30 => ?_)
    obtain ⟨rfl, hw30⟩ := hp30
    subst w30
    refine g_if_eq (tgt := 38) C dX6_becomeDraft_33 (by decide) (bI_r _) (fun h33 => ?_) (fun h33 => ?_)
    · refine g_aload_n C dX6_becomeDraft_38 rfl ?_
      refine g_aload_n C dX6_becomeDraft_39 rfl ?_
      refine g_get (ci := 8) C rfl inTX6 5 (by decide) fl_RX6_42 rfl hC.o rfl dX6_becomeDraft_40 ?_
      refine g_callV C (s_X2_setPair _ hC.N (i := i) (by omega) (hC.P i (by omega)).1.1 (m := 3) (by omega) (hC.P 3 (by omega)).1) (ci := 4) rfl (hC.P i (by omega)).1.1 rfl ml_RX6_214 im_yX2_setPair se_RX2_yX2_setPair in_RX2 co_yX2_setPair hd_X2_setPair rfl ⟨by omega, by omega⟩ rfl (Nat.le_of_ble_eq_true rfl) ⟨by omega, by omega⟩ dX6_becomeDraft_43 (fun v43 w43 hp43 => ?_)
      obtain ⟨rfl, hN43, hP43, hk43⟩ := hp43
      replace hC := hC.kx (i := i) (p := (pb 3)) (by omega) hk43 hN43 hP43 (hC0.P 3 (by omega)).2.1 (fun _ => hsm)
      replace hK := hK.tr (hk43.kc (by omega))
      refine g_iconst C dX6_becomeDraft_46 ?_
      exact g_ireturn C hQ dX6_becomeDraft_47 (Nat.le_refl _) (Nat.le_refl _) (by
        have he := bI_0 h33
        exact ⟨Or.inr ⟨hsm, by rw [bI_t (show ¬ pb i = pb 3 from fun c => he (by rw [c]; exact ⟨rfl, rfl, rfl⟩))], hC⟩, hK⟩)
    · refine g_iconst C dX6_becomeDraft_36 ?_
      exact g_ireturn C hQ dX6_becomeDraft_37 (Nat.le_refl _) (Nat.le_refl _) (by
        have he := bI_1 h33
        have e2 : pb i = pb 3 := Prod.ext he.1 (Prod.ext he.2.1 he.2.2)
        exact ⟨Or.inr ⟨hsm, by rw [bI_f (fun c => c e2)], by rw [pup_id e2]; exact hC⟩, hK⟩)
  · refine g_aload_n C dX6_becomeDraft_10 rfl ?_
    refine g_callV C (s_X6_refuse _ hC) (ci := 8) rfl hC.o rfl ml_RX6_86 im_yX6_refuse se_RX6_yX6_refuse in_RX6 co_yX6_refuse hd_X6_refuse rfl ⟨by omega, by omega⟩ rfl (Nat.le_of_ble_eq_true rfl) ⟨by omega, by omega⟩ dX6_becomeDraft_11 (fun v11 w11 hp11 => ?_)
    obtain ⟨rfl, hc11, hk11⟩ := hp11
    replace hC := hc11
    replace hK := hK.tr hk11
    exact g_ireturn C hQ dX6_becomeDraft_14 (Nat.le_refl _) (Nat.le_refl _) ⟨Or.inl ⟨fun c => c (bI_1 h7), rfl, hC⟩, hK⟩
/-- the product of two pairs -/
def mulP (p q : PT) : PT := (p.1, p.2.1 * q.2.1 + p.1 * (p.2.2 * q.2.2), p.2.1 * q.2.2 + p.2.2 * q.2.1)
set_option maxHeartbeats 4000000 in
set_option maxRecDepth 100000 in
theorem s_X6_multiplyDraft (l : Launch) {E : GE} {w : Wd} {τ ad : Nat → Nat} {bs ss : Nat → Int} {pb : Nat → PT} {P Q : Nat → Nat} {ct : Nat → Int} (hC0 : CS τ ad w bs ss pb P Q ct) {i : Nat} (hi : i < 6 ∧ i ≠ 4) {B1 B2 : Int} (bx : aB (pb 3).2.1 ≤ B1) (by_ : aB (pb 3).2.2 ≤ B1) (bu : aB (pb i).2.1 ≤ B2) (bv : aB (pb i).2.2 ≤ B2) (hB : B1 * B2 * 2000 < B28 ^ 18) : Sp E l yX6_multiplyDraft cX6_multiplyDraft 2 none 4 (0) (0) [.ref (ad 100), .ref (ad (140 + i))] w (fun r' w' => r' = none ∧ CS τ ad w' (bs) (ss) (pup (pup pb 4 (mulP (pb 3) (pb i))) 3 (mulP (pb 3) (pb i))) (P) (Q) (ct) ∧ KO τ w w') := by
  refine sp_intro [some (.ref (ad 100)), some (.ref (ad (140 + i)))] rfl (Nat.le_of_ble_eq_true rfl) pn_X6 ?_
  intro X C hRm hl hnm hQ
  obtain ⟨hRf, hRl, hRc, hRs⟩ := hRm
  refine g_wf (fun hwf => ?_)
  have hC := hC0
  have hK : KO τ w w := KO.rf _ _
  refine g_aload_n C dX6_multiplyDraft_0 rfl ?_
  refine g_get (ci := 8) C rfl inTX6 4 (by decide) fl_RX6_37 rfl hC.o rfl dX6_multiplyDraft_1 ?_
  refine g_aload_n C dX6_multiplyDraft_4 rfl ?_
  refine g_get (ci := 8) C rfl inTX6 5 (by decide) fl_RX6_42 rfl hC.o rfl dX6_multiplyDraft_5 ?_
  refine g_aload_n C dX6_multiplyDraft_8 rfl ?_
  refine g_aload_n C dX6_multiplyDraft_9 rfl ?_
  refine g_get (ci := 8) C rfl inTX6 6 (by decide) fl_RX6_46 rfl hC.o rfl dX6_multiplyDraft_10 ?_
  refine g_callV C (s_X0_multiply _ hC.N hC.D (i := 4) (by omega) (hC.P 4 (by omega)).1.1 (m := 3) (n := i) (b := (pb 3).1) (b2 := (pb i).1) (by omega) (by omega) (by have := (hC.P 3 (by omega)).2.1; have h1 := this.1; have h2 := this.2.1; omega) (hC.P 3 (by omega)).1 (hC.P i (by omega)).1 bx by_ bu bv hB) (ci := 2) rfl hC.D rfl ml_RX6_206 im_yX0_multiply se_RX0_yX0_multiply in_RX0 co_yX0_multiply hd_X0_multiply rfl ⟨by omega, by omega⟩ rfl (Nat.le_of_ble_eq_true rfl) ⟨by omega, by omega⟩ dX6_multiplyDraft_13 (fun v13 w13 hp13 => ?_)
  obtain ⟨rfl, hN13, hP13, hk13⟩ := hp13
  replace hC := hC.kx (i := 4) (p := (mulP (pb 3) (pb i))) (by omega) hk13 hN13 hP13 (hC0.P 3 (by omega)).2.1 (fun h => by omega)
  replace hK := hK.tr (hk13.kc (by omega))
  refine g_aload_n C dX6_multiplyDraft_16 rfl ?_
  refine g_get (ci := 8) C rfl inTX6 5 (by decide) fl_RX6_42 rfl hC.o rfl dX6_multiplyDraft_17 ?_
  refine g_aload_n C dX6_multiplyDraft_20 rfl ?_
  refine g_get (ci := 8) C rfl inTX6 6 (by decide) fl_RX6_46 rfl hC.o rfl dX6_multiplyDraft_21 ?_
  refine g_callV C (s_X2_setPair _ hC.N (i := 3) (by omega) (hC.P 3 (by omega)).1.1 (m := 4) (by omega) (hC.P 4 (by omega)).1) (ci := 4) rfl (hC.P 3 (by omega)).1.1 rfl ml_RX6_214 im_yX2_setPair se_RX2_yX2_setPair in_RX2 co_yX2_setPair hd_X2_setPair rfl ⟨by omega, by omega⟩ rfl (Nat.le_of_ble_eq_true rfl) ⟨by omega, by omega⟩ dX6_multiplyDraft_24 (fun v24 w24 hp24 => ?_)
  have hg24 := (hC.P 4 (by omega)).2.1
  obtain ⟨rfl, hN24, hP24, hk24⟩ := hp24
  replace hC := hC.kx (i := 3) (p := (pup pb 4 (mulP (pb 3) (pb i)) 4)) (by omega) hk24 hN24 hP24 hg24 (fun h => by omega)
  replace hK := hK.tr (hk24.kc (by omega))
  rw [pup_s] at hC
  exact g_return C hQ dX6_multiplyDraft_27 (by omega) (by omega) ⟨rfl, hC, hK⟩
/-! roots digit by digit -/
theorem rd_le {b R : Int} {k : Nat} (hb : 1 ≤ b ∧ b ≤ 99) (hk : k ≤ 16) (h : RT (b * 100 ^ k) R) : 0 ≤ R ∧ R < 100000000000000000 := by
  obtain ⟨h0, h1, h2⟩ := h
  refine ⟨h0, ?_⟩
  rcases Int.lt_or_le R 100000000000000000 with q | q
  · exact q
  · have e1 := Int.mul_le_mul q q (by omega) (by omega)
    have e2 : (100 : Int) ^ 16 = 100 ^ k * 100 ^ (16 - k) := by rw [← Int.pow_add]; congr 1; omega
    have p1 : (1 : Int) ≤ 100 ^ (16 - k) := Int.pow_pos (n := 100) (by decide)
    have p2 : (0 : Int) < 100 ^ k := Int.pow_pos (by decide)
    have e3 := Int.mul_le_mul_of_nonneg_left p1 (Int.le_of_lt p2)
    rw [← e2, show (100 : Int) ^ 16 = 100000000000000000000000000000000 by decide +kernel] at e3
    have e4 := Int.mul_le_mul hb.2 (show (100 : Int) ^ k ≤ 100000000000000000000000000000000 by omega) (by omega) (by decide)
    omega
theorem rd_le2 {b R : Int} {k : Nat} (hb : 1 ≤ b ∧ b ≤ 99) (hk : k ≤ 15) (h : RT (b * 100 ^ k) R) : 0 ≤ R ∧ R < 10000000000000000 := by
  obtain ⟨h0, h1, h2⟩ := h
  refine ⟨h0, ?_⟩
  rcases Int.lt_or_le R 10000000000000000 with q | q
  · exact q
  · have e1 := Int.mul_le_mul q q (by omega) (by omega)
    have e2 : (100 : Int) ^ 15 = 100 ^ k * 100 ^ (15 - k) := by rw [← Int.pow_add]; congr 1; omega
    have p1 : (1 : Int) ≤ 100 ^ (15 - k) := Int.pow_pos (n := 100) (by decide)
    have p2 : (0 : Int) < 100 ^ k := Int.pow_pos (by decide)
    have e3 := Int.mul_le_mul_of_nonneg_left p1 (Int.le_of_lt p2)
    rw [← e2, show (100 : Int) ^ 15 = 1000000000000000000000000000000 by decide +kernel] at e3
    have e4 := Int.mul_le_mul hb.2 (show (100 : Int) ^ k ≤ 1000000000000000000000000000000 by omega) (by omega) (by decide)
    omega
theorem rd_step {N R D : Int} (h : RT N R) (hD : 0 ≤ D ∧ D ≤ 9) (h1 : (20 * R + D) * D ≤ (N - R * R) * 100) (h2 : D = 9 ∨ (N - R * R) * 100 < (20 * R + (D + 1)) * (D + 1)) : RT (N * 100) (10 * R + D) := by
  obtain ⟨a1, a2, a3⟩ := h
  have e1 : (10 * R + D) * (10 * R + D) = 100 * (R * R) + (20 * R + D) * D := by grind
  have e2 : (10 * R + D + 1) * (10 * R + D + 1) = 100 * (R * R) + (20 * R + (D + 1)) * (D + 1) := by grind
  refine ⟨by omega, by rw [e1]; omega, ?_⟩
  rw [e2]
  rcases h2 with q | q
  · subst q
    have e3 : (R + 1) * (R + 1) = R * R + 2 * R + 1 := by grind
    omega
  · omega
set_option maxHeartbeats 4000000 in
set_option maxRecDepth 100000 in
theorem s_X6_rootDecimals (l : Launch) {E : GE} {w : Wd} {b : Int} {n : Nat} (hb : 1 ≤ b ∧ b ≤ 99) (hn : n ≤ 16) : Sp E l yX6_rootDecimals cX6_rootDecimals 11 (some .long) 1 (0) (0) [iI b, iI (n : Int)] w (fun r' w' => (∃ q : Int, r' = some (jJ q) ∧ RT (b * 100 ^ n) q) ∧ w' = w) := by
  refine sp_intro [some (iI b), some (iI (n : Int)), none, none, none, none, none, none, none, none, none] rfl (Nat.le_of_ble_eq_true rfl) pn_X6 ?_
  intro X C hRm hl hnm hQ
  obtain ⟨hRf, hRl, hRc, hRs⟩ := hRm
  refine g_wf (fun hwf => ?_)
  refine g_iload_n C dX6_rootDecimals_0 rfl ?_
  refine g_callS C (s_X6_rootOf _ (b := b) (by omega)) ml_RX6_78 sm_yX6_rootOf in_RX6 co_yX6_rootOf hd_X6_rootOf rfl ⟨by omega, by omega⟩ rfl (Nat.le_of_ble_eq_true rfl) ⟨by omega, by omega⟩ dX6_rootDecimals_1 (fun v1 w1 hp1 => ?_)
  obtain ⟨⟨r1, rfl, hr1⟩, hw1⟩ := hp1
  subst w1
  have hr1b : -2147483648 ≤ r1 ∧ r1 < 2147483648 := by
    have h0 := hr1.1
    have h1 := hr1.2.1
    rcases Int.lt_or_le 9 r1 with q | q
    · have := Int.mul_le_mul (show (10 : Int) ≤ r1 by omega) (show (10 : Int) ≤ r1 by omega) (by omega) (by omega)
      omega
    · omega
  refine g_i2l C dX6_rootDecimals_4 hr1b ?_
  refine g_lstore_n C dX6_rootDecimals_5 (by decide) rfl ?_
  refine g_iload_n C dX6_rootDecimals_6 rfl ?_
  refine g_i2l C dX6_rootDecimals_7 (by omega) ?_
  refine g_lload_n C dX6_rootDecimals_8 rfl ?_
  refine g_lload_n C dX6_rootDecimals_9 rfl ?_
  refine g_lmul C dX6_rootDecimals_10 ?_
  refine g_lsub C dX6_rootDecimals_11 ?_
  refine g_lstore C dX6_rootDecimals_12 (by decide) rfl ?_
  refine g_iconst C dX6_rootDecimals_14 ?_
  refine g_istore C dX6_rootDecimals_15 (by decide) rfl ?_
  refine g_eq (L' := [some (iI b), some (iI (n : Int)), some (jJ r1), none, some (jJ (b * 100 ^ 0 - r1 * r1)), none, some (iI ((0 : Nat) : Int)), none, none, none, none]) (st' := []) (by rw [Int.pow_zero, Int.mul_one]; rfl) rfl ?_
  refine g_loop (σ := Nat × Int) (fun s => s.1 ≤ n ∧ RT (b * 100 ^ s.1) s.2) (fun s => G E X 11 17 [some (iI b), some (iI (n : Int)), some (jJ s.2), none, some (jJ (b * 100 ^ s.1 - s.2 * s.2)), none, some (iI (s.1 : Int)), none, none, none, none] [] w 0 0) (fun s => n - s.1) ?_ (0, r1) ⟨by dsimp only; omega, by show RT (b * 100 ^ 0) r1; rw [Int.pow_zero, Int.mul_one]; exact hr1⟩
  rintro ⟨k, R⟩ ⟨hk, hR⟩ ih
  dsimp only at hk hR ⊢
  have hRb := rd_le hb (by omega) hR
  refine g_iload C dX6_rootDecimals_17 rfl ?_
  refine g_iload_n C dX6_rootDecimals_19 rfl ?_
  refine g_icmp_ge (tgt := 107) C dX6_rootDecimals_20 (by decide) (by omega) (by omega) (fun h20 => ?_) (fun h20 => ?_)
  · refine g_lload_n C dX6_rootDecimals_107 rfl ?_
    exact g_lreturn C hQ dX6_rootDecimals_108 (Nat.le_refl _) (Nat.le_refl _) ⟨⟨R, rfl, by rw [show n = k by omega]; exact hR⟩, rfl⟩
  · refine g_lload C dX6_rootDecimals_23 rfl ?_
    refine g_ldc2 (z := 100) C kj_RX6_383 (by decide) dX6_rootDecimals_25 ?_
    refine g_lmul C dX6_rootDecimals_28 ?_
    refine g_lstore C dX6_rootDecimals_29 (by decide) rfl ?_
    refine g_lconst (z := 0) C dX6_rootDecimals_31 (by decide) ?_
    refine g_lstore C dX6_rootDecimals_32 (by decide) rfl ?_
    refine g_lconst (z := 1) C dX6_rootDecimals_34 (by decide) ?_
    refine g_lstore C dX6_rootDecimals_35 (by decide) rfl ?_
    have hRb := rd_le2 hb (by omega) hR
    have hsq : (R + 1) * (R + 1) = R * R + 2 * R + 1 := by grind
    have hL0 : 0 ≤ b * 100 ^ k - R * R ∧ b * 100 ^ k - R * R ≤ 2 * R := by
      have h1 := hR.2.1
      have h2 := hR.2.2
      omega
    have J76 : ∀ (D : Int) (y : Int), (0 ≤ D ∧ D ≤ 9) → (20 * R + D) * D ≤ (b * 100 ^ k - R * R) * 100 → (D = 9 ∨ (b * 100 ^ k - R * R) * 100 < (20 * R + (D + 1)) * (D + 1)) → G E X 11 76 [some (iI b), some (iI (n : Int)), some (jJ R), none, some (jJ ((b * 100 ^ k - R * R) * 100)), none, some (iI (k : Int)), some (jJ D), none, some (jJ (y)), none] [] w 0 0 := by
      intro D y hD1 hD2 hD3
      refine g_lload C dX6_rootDecimals_76 rfl ?_
      refine g_ldc2 (z := 20) C kj_RX6_385 (by decide) dX6_rootDecimals_78 ?_
      refine g_lload_n C dX6_rootDecimals_81 rfl ?_
      refine g_lmul C dX6_rootDecimals_82 ?_
      refine g_lload C dX6_rootDecimals_83 rfl ?_
      refine g_ladd C dX6_rootDecimals_85 ?_
      refine g_lload C dX6_rootDecimals_86 rfl ?_
      refine g_lmul C dX6_rootDecimals_88 ?_
      refine g_lsub C dX6_rootDecimals_89 ?_
      refine g_lstore C dX6_rootDecimals_90 (by decide) rfl ?_
      refine g_ldc2 (z := 10) C kj_RX6_150 (by decide) dX6_rootDecimals_92 ?_
      refine g_lload_n C dX6_rootDecimals_95 rfl ?_
      refine g_lmul C dX6_rootDecimals_96 ?_
      refine g_lload C dX6_rootDecimals_97 rfl ?_
      refine g_ladd C dX6_rootDecimals_99 ?_
      refine g_lstore_n C dX6_rootDecimals_100 (by decide) rfl ?_
      refine g_iinc C dX6_rootDecimals_101 rfl (by decide) rfl ?_
      refine g_goto (tgt := 17) C dX6_rootDecimals_104 (by decide) ?_
      rw [show (k : Int) + 1 = ((k + 1 : Nat) : Int) by omega]
      refine g_drop 7 ?_
      refine g_drop 9 ?_
      refine g_eq ?_ rfl (ih (k + 1, 10 * R + D) ⟨by dsimp only; omega, by show RT (b * 100 ^ (k + 1)) (10 * R + D); rw [Int.pow_succ, ← Int.mul_assoc]; exact rd_step hR hD1 hD2 hD3⟩ (by dsimp only; omega))
      have e9 : (b * 100 ^ k - R * R) * 100 - (20 * R + D) * D = b * 100 ^ (k + 1) - (10 * R + D) * (10 * R + D) := by rw [Int.pow_succ]; grind
      rw [e9]
      rfl
    refine g_loop (σ := Nat) (fun s => s ≤ 9 ∧ (20 * R + (s : Int)) * (s : Int) ≤ (b * 100 ^ k - R * R) * 100) (fun s => G E X 11 37 [some (iI b), some (iI (n : Int)), some (jJ R), none, some (jJ ((b * 100 ^ k - R * R) * 100)), none, some (iI (k : Int)), some (jJ (s : Int)), none, some (jJ ((s : Int) + 1)), none] [] w 0 0) (fun s => 9 - s) ?_ 0 ⟨by omega, by show (20 * R + (0 : Int)) * (0 : Int) ≤ _; rw [Int.mul_zero]; omega⟩
    rintro x ⟨hx1, hx2⟩ ih2
    refine g_lload C dX6_rootDecimals_37 rfl ?_
    refine g_ldc2 (z := 10) C kj_RX6_150 (by decide) dX6_rootDecimals_39 ?_
    refine g_lcmp C dX6_rootDecimals_42 (by omega) (by omega) (fun c42 hc42 => ?_)
    refine g_if_ge (tgt := 76) C dX6_rootDecimals_43 (by decide) (by omega) (fun h43 => ?_) (fun h43 => ?_)
    · exact J76 _ _ (by omega) hx2 (by omega)
    · have hnl : (20 * R + ((x : Int) + 1)) * ((x : Int) + 1) = 20 * (R * ((x : Int) + 1)) + ((x : Int) + 1) * ((x : Int) + 1) := by grind
      have hn1 : 0 ≤ R * ((x : Int) + 1) ∧ R * ((x : Int) + 1) ≤ 10000000000000000 * 10 := ⟨Int.mul_nonneg hRb.1 (by omega), Int.mul_le_mul (by omega) (by omega) (by omega) (by decide)⟩
      have hn2 : 0 ≤ ((x : Int) + 1) * ((x : Int) + 1) ∧ ((x : Int) + 1) * ((x : Int) + 1) ≤ 10 * 10 := ⟨Int.mul_nonneg (by omega) (by omega), Int.mul_le_mul (by omega) (by omega) (by omega) (by decide)⟩
      refine g_ldc2 (z := 20) C kj_RX6_385 (by decide) dX6_rootDecimals_46 ?_
      refine g_lload_n C dX6_rootDecimals_49 rfl ?_
      refine g_lmul C dX6_rootDecimals_50 ?_
      refine g_lload C dX6_rootDecimals_51 rfl ?_
      refine g_ladd C dX6_rootDecimals_53 ?_
      refine g_lload C dX6_rootDecimals_54 rfl ?_
      refine g_lmul C dX6_rootDecimals_56 ?_
      refine g_lload C dX6_rootDecimals_57 rfl ?_
      refine g_lcmp C dX6_rootDecimals_59 (by omega) (by omega) (fun c59 hc59 => ?_)
      refine g_if_gt (tgt := 76) C dX6_rootDecimals_60 (by decide) (by omega) (fun h60 => ?_) (fun h60 => ?_)
      · exact J76 _ _ (by omega) hx2 (by omega)
      · refine g_lload C dX6_rootDecimals_63 rfl ?_
        refine g_lstore C dX6_rootDecimals_65 (by decide) rfl ?_
        refine g_lload C dX6_rootDecimals_67 rfl ?_
        refine g_lconst (z := 1) C dX6_rootDecimals_69 (by decide) ?_
        refine g_ladd C dX6_rootDecimals_70 ?_
        refine g_lstore C dX6_rootDecimals_71 (by decide) rfl ?_
        refine g_goto (tgt := 37) C dX6_rootDecimals_73 (by decide) ?_
        rw [show (x : Int) + 1 = ((x + 1 : Nat) : Int) by omega]
        exact ih2 (x + 1) ⟨by omega, by rw [show ((x + 1 : Nat) : Int) = (x : Int) + 1 by omega]; omega⟩ (by omega)
set_option maxHeartbeats 4000000 in
set_option maxRecDepth 100000 in
theorem s_X6_mix (l : Launch) {E : GE} {w : Wd} {x y : Int} : Sp E l yX6_mix cX6_mix 4 (some .long) 0 (0) (0) [jJ x, jJ y] w (fun r' w' => r' = some (jJ (x * 31 + y)) ∧ w' = w) := by
  refine sp_intro [some (jJ x), none, some (jJ y), none] rfl (Nat.le_of_ble_eq_true rfl) pn_X6 ?_
  intro X C hRm hl hnm hQ
  obtain ⟨hRf, hRl, hRc, hRs⟩ := hRm
  refine g_wf (fun hwf => ?_)
  refine g_lload_n C dX6_mix_0 rfl ?_
  refine g_ldc2 (z := 31) C kj_RX6_399 (by decide) dX6_mix_1 ?_
  refine g_lmul C dX6_mix_4 ?_
  refine g_lload_n C dX6_mix_5 rfl ?_
  refine g_ladd C dX6_mix_6 ?_
  exact g_lreturn C hQ dX6_mix_7 (Nat.le_refl _) (Nat.le_refl _) ⟨rfl, rfl⟩
set_option maxHeartbeats 4000000 in
set_option maxRecDepth 100000 in
theorem s_X6_isWalkSound (l : Launch) {E : GE} {w : Wd} {τ ad : Nat → Nat} {bs ss : Nat → Int} {pb : Nat → PT} {P Q : Nat → Nat} {ct : Nat → Int} (hC0 : CS τ ad w bs ss pb P Q ct) {i : Nat} (hi : i < 3) {r : Int} {m d a : Nat → Int} (hF0 : FS ad w (bs i) r m d a) (hV : FV (bs i) r m d a) (hG0 : FN ad w (bs i) r) : Sp E l yX6_isWalkSound cX6_isWalkSound 8 (some .boolean) 4 (0) (0) [.ref (ad 100), .ref (ad (120 + i))] w (fun r' w' => r' = some (iI 1) ∧ CS τ ad w' (bs) (ss) (pb) (P) (Q) (ct) ∧ KO τ w w') := by
  refine sp_intro [some (.ref (ad 100)), some (.ref (ad (120 + i))), none, none, none, none, none, none] rfl (Nat.le_of_ble_eq_true rfl) pn_X6 ?_
  intro X C hRm hl hnm hQ
  obtain ⟨hRf, hRl, hRc, hRs⟩ := hRm
  refine g_wf (fun hwf => ?_)
  have hC := hC0
  have hK : KO τ w w := KO.rf _ _
  have hF := hF0
  have hG := hG0
  have hs := (hC.W i (by omega)).2.2
  have hgb := (hC.W i (by omega)).2.1
  have hbl := hgb.1
  have hbh := hgb.2.1
  have hr09 := RT_le hV.1 hV.2.1
  have hw := wk_f hV.1 hV.2.1 (k := (ss i).toNat) (by omega)
  refine g_aload_n C dX6_isWalkSound_0 rfl ?_
  refine g_get (ci := 6) C rfl inTX4 1 (by decide) fl_RX6_72 rfl (hC.W i (by omega)).1 rfl dX6_isWalkSound_1 ?_
  refine g_istore_n C dX6_isWalkSound_4 (by decide) rfl ?_
  obtain ⟨k, hk⟩ : ∃ k : Nat, ss i = (k : Int) := ⟨(ss i).toNat, by omega⟩
  have J17 : ∀ z : Int, (k % 2 = 1 ∧ z = 1 ∨ ¬ k % 2 = 1 ∧ z = -1) → G E X 8 17 [some (.ref (ad 100)), some (.ref (ad (120 + i))), some (iI (ss i)), none, none, none, none, none] [iI z] w 0 0 := by
    intro z hz
    refine g_istore_n C dX6_isWalkSound_17 (by decide) rfl ?_
    refine g_aload_n C dX6_isWalkSound_18 rfl ?_
    refine g_get (ci := 8) C rfl inTX6 3 (by decide) fl_RX6_30 rfl hC.o rfl dX6_isWalkSound_19 ?_
    refine g_iload_n C dX6_isWalkSound_22 rfl ?_
    refine g_callV C (s_X1_partM _ hF (k := ss i) (by omega)) (ci := 3) rfl hF.1 rfl ml_RX6_184 im_yX1_partM se_RX1_yX1_partM in_RX1 co_yX1_partM hd_X1_partM rfl ⟨by omega, by omega⟩ rfl (Nat.le_of_ble_eq_true rfl) ⟨by omega, by omega⟩ dX6_isWalkSound_23 (fun v23 w23 hp23 => ?_)
    obtain ⟨⟨p23, rfl, hp23a, hp23b⟩, hw23⟩ := hp23
    subst w23
    have e23 := (hV.2.2 p23 (by omega)).1
    have c23 := cf_good hV.1 hV.2.1 (k := p23) (by omega)
    refine g_istore C dX6_isWalkSound_26 (by decide) rfl ?_
    refine g_aload_n C dX6_isWalkSound_28 rfl ?_
    refine g_get (ci := 8) C rfl inTX6 3 (by decide) fl_RX6_30 rfl hC.o rfl dX6_isWalkSound_29 ?_
    refine g_iload_n C dX6_isWalkSound_32 rfl ?_
    refine g_callV C (s_X1_partD _ hF (k := ss i) (by omega)) (ci := 3) rfl hF.1 rfl ml_RX6_187 im_yX1_partD se_RX1_yX1_partD in_RX1 co_yX1_partD hd_X1_partD rfl ⟨by omega, by omega⟩ rfl (Nat.le_of_ble_eq_true rfl) ⟨by omega, by omega⟩ dX6_isWalkSound_33 (fun v33 w33 hp33 => ?_)
    obtain ⟨⟨p33, rfl, hp33a, hp33b⟩, hw33⟩ := hp33
    subst w33
    have e33 := (hV.2.2 p33 (by omega)).2.1
    have c33 := cf_good hV.1 hV.2.1 (k := p33) (by omega)
    refine g_istore C dX6_isWalkSound_36 (by decide) rfl ?_
    refine g_aload_n C dX6_isWalkSound_38 rfl ?_
    refine g_get (ci := 8) C rfl inTX6 3 (by decide) fl_RX6_30 rfl hC.o rfl dX6_isWalkSound_39 ?_
    refine g_iload_n C dX6_isWalkSound_42 rfl ?_
    refine g_callV C (s_X1_top _ hF (k := ss i) (by omega)) (ci := 3) rfl hF.1 rfl ml_RX6_119 im_yX1_top se_RX1_yX1_top in_RX1 co_yX1_top hd_X1_top rfl ⟨by omega, by omega⟩ rfl (Nat.le_of_ble_eq_true rfl) ⟨by omega, by omega⟩ dX6_isWalkSound_43 (fun v43 w43 hp43 => ?_)
    obtain ⟨⟨j43, rfl, hj43a, hj43b, hj43⟩, hw43⟩ := hp43
    subst w43
    have f43 := hG.top (k := ss i) (j := j43) (by omega) (by have := hj43 (by omega); omega)
    refine g_astore C dX6_isWalkSound_46 (by decide) rfl ?_
    refine g_aload_n C dX6_isWalkSound_48 rfl ?_
    refine g_get (ci := 8) C rfl inTX6 3 (by decide) fl_RX6_30 rfl hC.o rfl dX6_isWalkSound_49 ?_
    refine g_iload_n C dX6_isWalkSound_52 rfl ?_
    refine g_callV C (s_X1_bottom _ hF (k := ss i) (by omega)) (ci := 3) rfl hF.1 rfl ml_RX6_123 im_yX1_bottom se_RX1_yX1_bottom in_RX1 co_yX1_bottom hd_X1_bottom rfl ⟨by omega, by omega⟩ rfl (Nat.le_of_ble_eq_true rfl) ⟨by omega, by omega⟩ dX6_isWalkSound_53 (fun v53 w53 hp53 => ?_)
    obtain ⟨⟨j53, rfl, hj53a, hj53b, hj53⟩, hw53⟩ := hp53
    subst w53
    have f53 := hG.bot (k := ss i) (j := j53) (by omega) (by have := hj53 (by omega); omega)
    refine g_astore C dX6_isWalkSound_56 (by decide) rfl ?_
    refine g_iload C dX6_isWalkSound_58 rfl ?_
    refine g_if_lt (tgt := 187) C dX6_isWalkSound_60 (by decide) (by omega) (fun h60 => ?_) (fun h60 => ?_)
    · omega
    · refine g_iload C dX6_isWalkSound_63 rfl ?_
      refine g_aload_n C dX6_isWalkSound_65 rfl ?_
      refine g_get (ci := 8) C rfl inTX6 3 (by decide) fl_RX6_30 rfl hC.o rfl dX6_isWalkSound_66 ?_
      refine g_get (ci := 3) C rfl inTX1 1 (by decide) fl_RX6_355 rfl hF.1 rfl dX6_isWalkSound_69 ?_
      refine g_icmp_gt (tgt := 187) C dX6_isWalkSound_72 (by decide) (by omega) (by omega) (fun h72 => ?_) (fun h72 => ?_)
      · omega
      · refine g_iload C dX6_isWalkSound_75 rfl ?_
        refine g_iconst C dX6_isWalkSound_77 ?_
        refine g_icmp_lt (tgt := 187) C dX6_isWalkSound_78 (by decide) (by omega) (by omega) (fun h78 => ?_) (fun h78 => ?_)
        · omega
        · refine g_iload C dX6_isWalkSound_81 rfl ?_
          refine g_iconst C dX6_isWalkSound_83 ?_
          refine g_aload_n C dX6_isWalkSound_84 rfl ?_
          refine g_get (ci := 8) C rfl inTX6 3 (by decide) fl_RX6_30 rfl hC.o rfl dX6_isWalkSound_85 ?_
          refine g_get (ci := 3) C rfl inTX1 1 (by decide) fl_RX6_355 rfl hF.1 rfl dX6_isWalkSound_88 ?_
          refine g_imul C dX6_isWalkSound_91 ?_
          refine g_icmp_gt (tgt := 187) C dX6_isWalkSound_92 (by decide) (by omega) (by omega) (fun h92 => ?_) (fun h92 => ?_)
          · omega
          · refine g_aload_n C dX6_isWalkSound_95 rfl ?_
            refine g_get (ci := 8) C rfl inTX6 4 (by decide) fl_RX6_37 rfl hC.o rfl dX6_isWalkSound_96 ?_
            refine g_aload C dX6_isWalkSound_99 rfl ?_
            refine g_aload C dX6_isWalkSound_101 rfl ?_
            refine g_callV C (s_X0_divisor _ hC.N hC.D (j := j43) (k := j53) (by omega) (by omega) f43 hw.1.1 f53 hw.2.1.1 hw.2.2.2.2.1 hw.2.2.2.2.2.1) (ci := 2) rfl hC.D rfl ml_RX6_358 im_yX0_divisor se_RX0_yX0_divisor in_RX0 co_yX0_divisor hd_X0_divisor rfl ⟨by omega, by omega⟩ rfl (Nat.le_of_ble_eq_true rfl) ⟨by omega, by omega⟩ dX6_isWalkSound_103 (fun v103 w103 hp103 => ?_)
            obtain ⟨g103, z103, rfl, hg103, f103, z103a, z103b, z103c, hN103, hk103⟩ := hp103
            have hz103 := wk_cop hV.1 hV.2.1 (k := (ss i).toNat) (by omega) z103a z103b z103c
            subst hz103
            replace hC := hC.kn hk103 hN103
            replace hK := hK.tr hk103.kc
            replace hF := hF.kn hk103 hN103
            replace hG := hG.kn hk103 hN103
            replace f43 := hk103.nw hN103 (by omega) f43
            replace f53 := hk103.nw hN103 (by omega) f53
            refine g_callV C (c_X5_isOne _ f103 ) (ci := 7) rfl (hC.N.W (j := g103) (by omega)).o rfl ml_RX6_238 im_yX5_isOne se_RX5_yX5_isOne in_RX5 co_yX5_isOne hd_X5_isOne rfl ⟨by omega, by omega⟩ rfl (Nat.le_of_ble_eq_true rfl) ⟨by omega, by omega⟩ dX6_isWalkSound_106 (fun v106 w106 hp106 => ?_)
            obtain ⟨rfl, hw106⟩ := hp106
            subst w106
            refine g_if_eq (tgt := 187) C dX6_isWalkSound_109 (by decide) (bI_r _) (fun h109 => ?_) (fun h109 => ?_)
            · exact absurd rfl (bI_0 h109)
            · refine g_aload_n C dX6_isWalkSound_112 rfl ?_
              refine g_get (ci := 8) C rfl inTX6 4 (by decide) fl_RX6_37 rfl hC.o rfl dX6_isWalkSound_113 ?_
              refine g_aload C dX6_isWalkSound_116 rfl ?_
              refine g_aload C dX6_isWalkSound_118 rfl ?_
              refine g_aload_n C dX6_isWalkSound_120 rfl ?_
              refine g_get (ci := 8) C rfl inTX6 3 (by decide) fl_RX6_30 rfl hC.o rfl dX6_isWalkSound_121 ?_
              refine g_iload_n C dX6_isWalkSound_124 rfl ?_
              refine g_iconst C dX6_isWalkSound_125 ?_
              refine g_isub C dX6_isWalkSound_126 ?_
              refine g_callV C (s_X1_top _ hF (k := ss i - 1) (by omega)) (ci := 3) rfl hF.1 rfl ml_RX6_119 im_yX1_top se_RX1_yX1_top in_RX1 co_yX1_top hd_X1_top rfl ⟨by omega, by omega⟩ rfl (Nat.le_of_ble_eq_true rfl) ⟨by omega, by omega⟩ dX6_isWalkSound_127 (fun v127 w127 hp127 => ?_)
              obtain ⟨⟨j127, rfl, hj127a, hj127b, hj127⟩, hw127⟩ := hp127
              subst w127
              have f127 := hG.topB (k := ss i) (j := j127) (by omega) (by have := hj127 (by omega); omega)
              refine g_aload_n C dX6_isWalkSound_130 rfl ?_
              refine g_get (ci := 8) C rfl inTX6 3 (by decide) fl_RX6_30 rfl hC.o rfl dX6_isWalkSound_131 ?_
              refine g_iload_n C dX6_isWalkSound_134 rfl ?_
              refine g_iconst C dX6_isWalkSound_135 ?_
              refine g_isub C dX6_isWalkSound_136 ?_
              refine g_callV C (s_X1_bottom _ hF (k := ss i - 1) (by omega)) (ci := 3) rfl hF.1 rfl ml_RX6_123 im_yX1_bottom se_RX1_yX1_bottom in_RX1 co_yX1_bottom hd_X1_bottom rfl ⟨by omega, by omega⟩ rfl (Nat.le_of_ble_eq_true rfl) ⟨by omega, by omega⟩ dX6_isWalkSound_137 (fun v137 w137 hp137 => ?_)
              obtain ⟨⟨j137, rfl, hj137a, hj137b, hj137⟩, hw137⟩ := hp137
              subst w137
              have f137 := hG.botB (k := ss i) (j := j137) (by omega) (by have := hj137 (by omega); omega)
              refine g_callV C (s_X0_cross _ hC.N hC.D (i := j43) (j := j53) (k := j127) (m := j137) (by omega) (by omega) (by omega) (by omega) f43 hw.1.1 f53 hw.2.1.1 f127 hw.1.2 f137 hw.2.1.2) (ci := 2) rfl hC.D rfl ml_RX6_366 im_yX0_cross se_RX0_yX0_cross in_RX0 co_yX0_cross hd_X0_cross rfl ⟨by omega, by omega⟩ rfl (Nat.le_of_ble_eq_true rfl) ⟨by omega, by omega⟩ dX6_isWalkSound_140 (fun v140 w140 hp140 => ?_)
              obtain ⟨rfl, f140, hN140, hk140⟩ := hp140
              replace hC := hC.kn hk140 hN140
              replace hK := hK.tr hk140.kc
              replace hF := hF.kn hk140 hN140
              replace hG := hG.kn hk140 hN140
              replace f43 := hk140.nw hN140 (by omega) f43
              replace f53 := hk140.nw hN140 (by omega) f53
              replace f127 := hk140.nw hN140 (by omega) f127
              replace f137 := hk140.nw hN140 (by omega) f137
              rw [hw.2.2.1, hk, Int.toNat_natCast] at f140
              refine g_iload_n C dX6_isWalkSound_143 rfl ?_
              refine g_callV C (c_X5_isNumber _ f140 (v := z) (by omega)) (ci := 7) rfl (hC.N.W (j := 0) (by omega)).o rfl ml_RX6_393 im_yX5_isNumber se_RX5_yX5_isNumber in_RX5 co_yX5_isNumber hd_X5_isNumber rfl ⟨by omega, by omega⟩ rfl (Nat.le_of_ble_eq_true rfl) ⟨by omega, by omega⟩ dX6_isWalkSound_144 (fun v144 w144 hp144 => ?_)
              obtain ⟨rfl, hw144⟩ := hp144
              subst w144
              refine g_if_eq (tgt := 187) C dX6_isWalkSound_147 (by decide) (bI_r _) (fun h147 => ?_) (fun h147 => ?_)
              · exact absurd (by rcases hz with ⟨q1, q2⟩ | ⟨q1, q2⟩; (rw [if_pos q1, q2]); (rw [if_neg q1, q2])) (bI_0 h147)
              · refine g_aload_n C dX6_isWalkSound_150 rfl ?_
                refine g_get (ci := 8) C rfl inTX6 4 (by decide) fl_RX6_37 rfl hC.o rfl dX6_isWalkSound_151 ?_
                refine g_aload_n C dX6_isWalkSound_154 rfl ?_
                refine g_get (ci := 6) C rfl inTX4 0 (by decide) fl_RX6_68 rfl (hC.W i (by omega)).1 rfl dX6_isWalkSound_155 ?_
                refine g_aload C dX6_isWalkSound_158 rfl ?_
                refine g_aload C dX6_isWalkSound_160 rfl ?_
                refine g_callV C (s_X0_norm _ hC.N hC.D (b := bs i) (by omega) (j := j43) (k := j53) (by omega) (by omega) f43 hw.1.1 f53 hw.2.1.1) (ci := 2) rfl hC.D rfl ml_RX6_234 im_yX0_norm se_RX0_yX0_norm in_RX0 co_yX0_norm hd_X0_norm rfl ⟨by omega, by omega⟩ rfl (Nat.le_of_ble_eq_true rfl) ⟨by omega, by omega⟩ dX6_isWalkSound_162 (fun v162 w162 hp162 => ?_)
                obtain ⟨rfl, f162, hN162, hk162⟩ := hp162
                replace hC := hC.kn hk162 hN162
                replace hK := hK.tr hk162.kc
                replace hF := hF.kn hk162 hN162
                replace hG := hG.kn hk162 hN162
                replace f43 := hk162.nw hN162 (by omega) f43
                replace f53 := hk162.nw hN162 (by omega) f53
                replace f127 := hk162.nw hN162 (by omega) f127
                replace f137 := hk162.nw hN162 (by omega) f137
                rw [hw.2.2.2.1, hk, Int.toNat_natCast] at f162
                refine g_iload_n C dX6_isWalkSound_165 rfl ?_
                refine g_aload_n C dX6_isWalkSound_166 rfl ?_
                refine g_get (ci := 8) C rfl inTX6 3 (by decide) fl_RX6_30 rfl hC.o rfl dX6_isWalkSound_167 ?_
                refine g_iload_n C dX6_isWalkSound_170 rfl ?_
                refine g_iconst C dX6_isWalkSound_171 ?_
                refine g_iadd C dX6_isWalkSound_172 ?_
                refine g_callV C (s_X1_partD _ hF (k := ss i + 1) (by omega)) (ci := 3) rfl hF.1 rfl ml_RX6_187 im_yX1_partD se_RX1_yX1_partD in_RX1 co_yX1_partD hd_X1_partD rfl ⟨by omega, by omega⟩ rfl (Nat.le_of_ble_eq_true rfl) ⟨by omega, by omega⟩ dX6_isWalkSound_173 (fun v173 w173 hp173 => ?_)
                obtain ⟨⟨p173, rfl, hp173a, hp173b⟩, hw173⟩ := hp173
                subst w173
                have hd173 := (hV.a p173 (by omega)).2.1
                have e173 := (hV.2.2 p173 (by omega)).2.1
                rw [show p173 = k + 1 by have := hp173b (by omega); omega] at e173 hd173 ⊢
                refine g_imul C dX6_isWalkSound_176 ?_
                refine g_callV C (c_X5_isNumber _ f162 (v := z * d (k + 1)) (by rcases hz with ⟨-, q⟩ | ⟨-, q⟩ <;> rw [q] <;> omega)) (ci := 7) rfl (hC.N.W (j := 1) (by omega)).o rfl ml_RX6_393 im_yX5_isNumber se_RX5_yX5_isNumber in_RX5 co_yX5_isNumber hd_X5_isNumber rfl ⟨by omega, by omega⟩ rfl (Nat.le_of_ble_eq_true rfl) ⟨by omega, by omega⟩ dX6_isWalkSound_177 (fun v177 w177 hp177 => ?_)
                obtain ⟨rfl, hw177⟩ := hp177
                subst w177
                refine g_if_eq (tgt := 187) C dX6_isWalkSound_180 (by decide) (bI_r _) (fun h180 => ?_) (fun h180 => ?_)
                · exact absurd (by rw [e173]; rcases hz with ⟨q1, q2⟩ | ⟨q1, q2⟩; (rw [if_pos q1, q2, Int.one_mul]); (rw [if_neg q1, q2, Int.neg_mul, Int.one_mul])) (bI_0 h180)
                · refine g_iconst C dX6_isWalkSound_183 ?_
                  refine g_goto (tgt := 188) C dX6_isWalkSound_184 (by decide) ?_
                  exact g_zreturn C hQ dX6_isWalkSound_188 (by rfl) (by omega) (by omega) ⟨rfl, hC, hK⟩
  refine g_iload_n C dX6_isWalkSound_5 rfl ?_
  refine g_iconst C dX6_isWalkSound_6 ?_
  refine g_iremN C dX6_isWalkSound_7 (by omega) (by omega) ?_
  refine g_iconst C dX6_isWalkSound_8 ?_
  refine g_icmp_ne (tgt := 16) C dX6_isWalkSound_9 (by decide) (by omega) (by omega) (fun h9 => ?_) (fun h9 => ?_)
  · refine g_iconst C dX6_isWalkSound_16 ?_
    exact J17 _ (by omega)
  · refine g_iconst C dX6_isWalkSound_12 ?_
    refine g_goto (tgt := 17) C dX6_isWalkSound_13 (by decide) ?_
    exact J17 _ (by omega)
theorem sm_125 {p : PT} (h : sm p) : aB p.2.1 < M125 ∧ aB p.2.2 < M125 := by
  have e2 : LGN = 1208925819614629174706176 := rfl
  unfold sm at h
  unfold M125
  omega
set_option maxHeartbeats 4000000 in
set_option maxRecDepth 100000 in
theorem s_X6_isPairSound (l : Launch) {E : GE} {w : Wd} {τ ad : Nat → Nat} {bs ss : Nat → Int} {pb : Nat → PT} {P Q : Nat → Nat} {ct : Nat → Int} (hC0 : CS τ ad w bs ss pb P Q ct) {i : Nat} (hi : i < 3) : Sp E l yX6_isPairSound cX6_isPairSound 3 (some .boolean) 4 (0) (0) [.ref (ad 100), .ref (ad (140 + i))] w (fun r' w' => r' = some (iI 1) ∧ CS τ ad w' (bs) (ss) (pb) (P) (Q) (ct) ∧ KO τ w w') := by
  refine sp_intro [some (.ref (ad 100)), some (.ref (ad (140 + i))), none] rfl (Nat.le_of_ble_eq_true rfl) pn_X6 ?_
  intro X C hRm hl hnm hQ
  obtain ⟨hRf, hRl, hRc, hRs⟩ := hRm
  refine g_wf (fun hwf => ?_)
  have hC := hC0
  have hK : KO τ w w := KO.rf _ _
  have hgb := (hC.P i (by omega)).2.1
  have hsm := (hC.P i (by omega)).2.2 hi
  obtain ⟨b1, b2⟩ := sm_125 hsm
  have hbl := hgb.1
  have hbh := hgb.2.1
  have J25 : ∀ z : Int, (z = 1 ∧ ((pb i).2.1 = 0 ∧ (pb i).2.2 = 0) ∨ z = 0 ∧ ¬ ((pb i).2.1 = 0 ∧ (pb i).2.2 = 0)) → G E X 3 25 [some (.ref (ad 100)), some (.ref (ad (140 + i))), none] [iI z] w 0 0 := by
    intro z hz
    refine g_istore_n C dX6_isPairSound_25 (by decide) rfl ?_
    refine g_aload_n C dX6_isPairSound_26 rfl ?_
    refine g_callV C (s_X2_isTooLong _ hC.N (i := i) (by omega) (hC.P i (by omega)).1) (ci := 4) rfl (hC.P i (by omega)).1.1 rfl ml_RX6_387 im_yX2_isTooLong se_RX2_yX2_isTooLong in_RX2 co_yX2_isTooLong hd_X2_isTooLong rfl ⟨by omega, by omega⟩ rfl (Nat.le_of_ble_eq_true rfl) ⟨by omega, by omega⟩ dX6_isPairSound_27 (fun v27 w27 hp27 => ?_)
    obtain ⟨rfl, hw27⟩ := hp27
    subst w27
    refine g_if_ne (tgt := 63) C dX6_isPairSound_30 (by decide) (bI_r _) (fun h30 => ?_) (fun h30 => ?_)
    · exact absurd (bI_1 h30) hsm
    · refine g_aload_n C dX6_isPairSound_33 rfl ?_
      refine g_get (ci := 8) C rfl inTX6 4 (by decide) fl_RX6_37 rfl hC.o rfl dX6_isPairSound_34 ?_
      refine g_aload_n C dX6_isPairSound_37 rfl ?_
      refine g_get (ci := 4) C rfl inTX2 0 (by decide) fl_RX6_205 rfl (hC.P i (by omega)).1.1 rfl dX6_isPairSound_38 ?_
      refine g_aload_n C dX6_isPairSound_41 rfl ?_
      refine g_get (ci := 4) C rfl inTX2 1 (by decide) fl_RX6_224 rfl (hC.P i (by omega)).1.1 rfl dX6_isPairSound_42 ?_
      refine g_aload_n C dX6_isPairSound_45 rfl ?_
      refine g_get (ci := 4) C rfl inTX2 2 (by decide) fl_RX6_217 rfl (hC.P i (by omega)).1.1 rfl dX6_isPairSound_46 ?_
      refine g_callV C (s_X0_norm _ hC.N hC.D (b := (pb i).1) (by omega) (j := 4 + 2 * i) (k := 5 + 2 * i) (by omega) (by omega) (hC.P i (by omega)).1.2.1 b1 (hC.P i (by omega)).1.2.2 b2) (ci := 2) rfl hC.D rfl ml_RX6_234 im_yX0_norm se_RX0_yX0_norm in_RX0 co_yX0_norm hd_X0_norm rfl ⟨by omega, by omega⟩ rfl (Nat.le_of_ble_eq_true rfl) ⟨by omega, by omega⟩ dX6_isPairSound_49 (fun v49 w49 hp49 => ?_)
      obtain ⟨rfl, f49, hN49, hk49⟩ := hp49
      replace hC := hC.kn hk49 hN49
      replace hK := hK.tr hk49.kc
      refine g_callV C (c_X5_isZero _ f49 ) (ci := 7) rfl (hC.N.W (j := 1) (by omega)).o rfl ml_RX6_396 im_yX5_isZero se_RX5_yX5_isZero in_RX5 co_yX5_isZero hd_X5_isZero rfl ⟨by omega, by omega⟩ rfl (Nat.le_of_ble_eq_true rfl) ⟨by omega, by omega⟩ dX6_isPairSound_52 (fun v52 w52 hp52 => ?_)
      obtain ⟨rfl, hw52⟩ := hp52
      subst w52
      refine g_iload_n C dX6_isPairSound_55 rfl ?_
      refine g_icmp_ne (tgt := 63) C dX6_isPairSound_56 (by decide) (bI_r _) (by omega) (fun h56 => ?_) (fun h56 => ?_)
      · exact absurd (by
          rcases hz with ⟨q1, q2⟩ | ⟨q1, q2⟩
          · rw [q1, bI_t ((nrm0 hgb).mpr q2)]
          · rw [q1, bI_f (fun c => q2 ((nrm0 hgb).mp c))]) h56
      · refine g_iconst C dX6_isPairSound_59 ?_
        refine g_goto (tgt := 64) C dX6_isPairSound_60 (by decide) ?_
        exact g_zreturn C hQ dX6_isPairSound_64 rfl (by omega) (by omega) ⟨rfl, hC, hK⟩
  refine g_aload_n C dX6_isPairSound_0 rfl ?_
  refine g_get (ci := 4) C rfl inTX2 1 (by decide) fl_RX6_224 rfl (hC.P i (by omega)).1.1 rfl dX6_isPairSound_1 ?_
  refine g_callV C (c_X5_isZero _ (hC.P i (by omega)).1.2.1 ) (ci := 7) rfl (hC.N.W (j := 4 + 2 * i) (by omega)).o rfl ml_RX6_396 im_yX5_isZero se_RX5_yX5_isZero in_RX5 co_yX5_isZero hd_X5_isZero rfl ⟨by omega, by omega⟩ rfl (Nat.le_of_ble_eq_true rfl) ⟨by omega, by omega⟩ dX6_isPairSound_4 (fun v4 w4 hp4 => ?_)
  obtain ⟨rfl, hw4⟩ := hp4
  subst w4
  refine g_if_eq (tgt := 24) C dX6_isPairSound_7 (by decide) (bI_r _) (fun h7 => ?_) (fun h7 => ?_)
  · refine g_iconst C dX6_isPairSound_24 ?_
    first
    | exact J25 1 (Or.inl ⟨rfl, bI_1 h7, bI_1 h17⟩)
    | exact J25 0 (Or.inr ⟨rfl, fun c => bI_0 h7 c.1⟩)
    | exact J25 0 (Or.inr ⟨rfl, fun c => bI_0 h17 c.2⟩)
  · refine g_aload_n C dX6_isPairSound_10 rfl ?_
    refine g_get (ci := 4) C rfl inTX2 2 (by decide) fl_RX6_217 rfl (hC.P i (by omega)).1.1 rfl dX6_isPairSound_11 ?_
    refine g_callV C (c_X5_isZero _ (hC.P i (by omega)).1.2.2 ) (ci := 7) rfl (hC.N.W (j := 5 + 2 * i) (by omega)).o rfl ml_RX6_396 im_yX5_isZero se_RX5_yX5_isZero in_RX5 co_yX5_isZero hd_X5_isZero rfl ⟨by omega, by omega⟩ rfl (Nat.le_of_ble_eq_true rfl) ⟨by omega, by omega⟩ dX6_isPairSound_14 (fun v14 w14 hp14 => ?_)
    obtain ⟨rfl, hw14⟩ := hp14
    subst w14
    refine g_if_eq (tgt := 24) C dX6_isPairSound_17 (by decide) (bI_r _) (fun h17 => ?_) (fun h17 => ?_)
    · refine g_iconst C dX6_isPairSound_24 ?_
      first
      | exact J25 1 (Or.inl ⟨rfl, bI_1 h7, bI_1 h17⟩)
      | exact J25 0 (Or.inr ⟨rfl, fun c => bI_0 h7 c.1⟩)
      | exact J25 0 (Or.inr ⟨rfl, fun c => bI_0 h17 c.2⟩)
    · refine g_iconst C dX6_isPairSound_20 ?_
      refine g_goto (tgt := 25) C dX6_isPairSound_21 (by decide) ?_
      first
      | exact J25 1 (Or.inl ⟨rfl, bI_1 h7, bI_1 h17⟩)
      | exact J25 0 (Or.inr ⟨rfl, fun c => bI_0 h7 c.1⟩)
      | exact J25 0 (Or.inr ⟨rfl, fun c => bI_0 h17 c.2⟩)
/-- what the checksum becomes by a pair, by a walk -/
def mxP (x : Int) (p : PT) : Int := ((((x * 31 + p.1) * 31 + p.2.1) * 31 + p.2.2) * 31 + (hiB (aB p.2.1) 504 + 1)) * 31 + (hiB (aB p.2.2) 504 + 1)
def mx6 (b r s : Int) : Nat → Int → Int
  | 0, x => x
  | k + 1, x => mx6 b r s k x * 31 + prV b r s (k : Int)
def mx4 (b r s : Int) : Nat → Int → Int
  | 0, x => x
  | k + 1, x => mx4 b r s k x * 31 + wnV b r s.toNat (k : Int)
def mxW (b r s x : Int) : Int := (mx4 b r s 4 (mx6 b r s 6 x) * 31 + tstV b r s.toNat 1) * 31 + tstV b r s.toNat 2
set_option maxHeartbeats 4000000 in
set_option maxRecDepth 100000 in
theorem s_X6_mixPair (l : Launch) {E : GE} {w : Wd} {τ ad : Nat → Nat} {bs ss : Nat → Int} {pb : Nat → PT} {P Q : Nat → Nat} {ct : Nat → Int} (hC0 : CS τ ad w bs ss pb P Q ct) {i : Nat} (hi : i < 6) {x : Int} : Sp E l yX6_mixPair cX6_mixPair 5 (some .long) 2 (0) (0) [jJ x, .ref (ad (140 + i))] w (fun r' w' => r' = some (jJ (mxP x (pb i))) ∧ w' = w) := by
  refine sp_intro [some (jJ x), none, some (.ref (ad (140 + i))), none, none] rfl (Nat.le_of_ble_eq_true rfl) pn_X6 ?_
  intro X C hRm hl hnm hQ
  obtain ⟨hRf, hRl, hRc, hRs⟩ := hRm
  refine g_wf (fun hwf => ?_)
  have hC := hC0
  have hK : KO τ w w := KO.rf _ _
  have hgb := (hC.P i (by omega)).2.1
  have hbl := hgb.1
  have hbh := hgb.2.1
  have r1 := bits_r (z := (pb i).2.1)
  have r2 := bits_r (z := (pb i).2.2)
  refine g_lload_n C dX6_mixPair_0 rfl ?_
  refine g_aload_n C dX6_mixPair_1 rfl ?_
  refine g_get (ci := 4) C rfl inTX2 0 (by decide) fl_RX6_205 rfl (hC.P i (by omega)).1.1 rfl dX6_mixPair_2 ?_
  refine g_i2l C dX6_mixPair_5 (by omega) ?_
  refine g_callS C (s_X6_mix _) ml_RX6_331 sm_yX6_mix in_RX6 co_yX6_mix hd_X6_mix rfl ⟨by omega, by omega⟩ rfl (Nat.le_of_ble_eq_true rfl) ⟨by omega, by omega⟩ dX6_mixPair_6 (fun v6 w6 hp6 => ?_)
  obtain ⟨rfl, hw6⟩ := hp6
  subst w6
  refine g_lstore_n C dX6_mixPair_9 (by decide) rfl ?_
  refine g_lload_n C dX6_mixPair_10 rfl ?_
  refine g_aload_n C dX6_mixPair_11 rfl ?_
  refine g_get (ci := 4) C rfl inTX2 1 (by decide) fl_RX6_224 rfl (hC.P i (by omega)).1.1 rfl dX6_mixPair_12 ?_
  refine g_callV C (v_X5_lowBits _ (hC.P i (by omega)).1.2.1 ) (ci := 7) rfl (hC.N.W (j := 4 + 2 * i) (by omega)).o rfl ml_RX6_362 im_yX5_lowBits se_RX5_yX5_lowBits in_RX5 co_yX5_lowBits hd_X5_lowBits rfl ⟨by omega, by omega⟩ rfl (Nat.le_of_ble_eq_true rfl) ⟨by omega, by omega⟩ dX6_mixPair_15 (fun v15 w15 hp15 => ?_)
  obtain ⟨rfl, hw15⟩ := hp15
  subst w15
  refine g_callS C (s_X6_mix _) ml_RX6_331 sm_yX6_mix in_RX6 co_yX6_mix hd_X6_mix rfl ⟨by omega, by omega⟩ rfl (Nat.le_of_ble_eq_true rfl) ⟨by omega, by omega⟩ dX6_mixPair_18 (fun v18 w18 hp18 => ?_)
  obtain ⟨rfl, hw18⟩ := hp18
  subst w18
  refine g_aload_n C dX6_mixPair_21 rfl ?_
  refine g_get (ci := 4) C rfl inTX2 2 (by decide) fl_RX6_217 rfl (hC.P i (by omega)).1.1 rfl dX6_mixPair_22 ?_
  refine g_callV C (v_X5_lowBits _ (hC.P i (by omega)).1.2.2 ) (ci := 7) rfl (hC.N.W (j := 5 + 2 * i) (by omega)).o rfl ml_RX6_362 im_yX5_lowBits se_RX5_yX5_lowBits in_RX5 co_yX5_lowBits hd_X5_lowBits rfl ⟨by omega, by omega⟩ rfl (Nat.le_of_ble_eq_true rfl) ⟨by omega, by omega⟩ dX6_mixPair_25 (fun v25 w25 hp25 => ?_)
  obtain ⟨rfl, hw25⟩ := hp25
  subst w25
  refine g_callS C (s_X6_mix _) ml_RX6_331 sm_yX6_mix in_RX6 co_yX6_mix hd_X6_mix rfl ⟨by omega, by omega⟩ rfl (Nat.le_of_ble_eq_true rfl) ⟨by omega, by omega⟩ dX6_mixPair_28 (fun v28 w28 hp28 => ?_)
  obtain ⟨rfl, hw28⟩ := hp28
  subst w28
  refine g_lstore_n C dX6_mixPair_31 (by decide) rfl ?_
  refine g_lload_n C dX6_mixPair_32 rfl ?_
  refine g_aload_n C dX6_mixPair_33 rfl ?_
  refine g_get (ci := 4) C rfl inTX2 1 (by decide) fl_RX6_224 rfl (hC.P i (by omega)).1.1 rfl dX6_mixPair_34 ?_
  refine g_callV C (u_X5_bits _ (hC.P i (by omega)).1.2.1 ) (ci := 7) rfl (hC.N.W (j := 4 + 2 * i) (by omega)).o rfl ml_RX6_374 im_yX5_bits se_RX5_yX5_bits in_RX5 co_yX5_bits hd_X5_bits rfl ⟨by omega, by omega⟩ rfl (Nat.le_of_ble_eq_true rfl) ⟨by omega, by omega⟩ dX6_mixPair_37 (fun v37 w37 hp37 => ?_)
  obtain ⟨rfl, hw37⟩ := hp37
  subst w37
  refine g_i2l C dX6_mixPair_40 (by omega) ?_
  refine g_callS C (s_X6_mix _) ml_RX6_331 sm_yX6_mix in_RX6 co_yX6_mix hd_X6_mix rfl ⟨by omega, by omega⟩ rfl (Nat.le_of_ble_eq_true rfl) ⟨by omega, by omega⟩ dX6_mixPair_41 (fun v41 w41 hp41 => ?_)
  obtain ⟨rfl, hw41⟩ := hp41
  subst w41
  refine g_aload_n C dX6_mixPair_44 rfl ?_
  refine g_get (ci := 4) C rfl inTX2 2 (by decide) fl_RX6_217 rfl (hC.P i (by omega)).1.1 rfl dX6_mixPair_45 ?_
  refine g_callV C (u_X5_bits _ (hC.P i (by omega)).1.2.2 ) (ci := 7) rfl (hC.N.W (j := 5 + 2 * i) (by omega)).o rfl ml_RX6_374 im_yX5_bits se_RX5_yX5_bits in_RX5 co_yX5_bits hd_X5_bits rfl ⟨by omega, by omega⟩ rfl (Nat.le_of_ble_eq_true rfl) ⟨by omega, by omega⟩ dX6_mixPair_48 (fun v48 w48 hp48 => ?_)
  obtain ⟨rfl, hw48⟩ := hp48
  subst w48
  refine g_i2l C dX6_mixPair_51 (by omega) ?_
  refine g_callS C (s_X6_mix _) ml_RX6_331 sm_yX6_mix in_RX6 co_yX6_mix hd_X6_mix rfl ⟨by omega, by omega⟩ rfl (Nat.le_of_ble_eq_true rfl) ⟨by omega, by omega⟩ dX6_mixPair_52 (fun v52 w52 hp52 => ?_)
  obtain ⟨rfl, hw52⟩ := hp52
  subst w52
  exact g_lreturn C hQ dX6_mixPair_55 (Nat.le_refl _) (Nat.le_refl _) ⟨rfl, rfl⟩
theorem prV_b {b r s : Int} {m d a : Nat → Int} (hV : FV b r m d a) (hs : 0 ≤ s) {k : Int} (hk : 0 ≤ k ∧ k ≤ 5) (h24 : s ≤ 24 := by omega) : -2147483648 ≤ prV b r s k ∧ prV b r s k < 2147483648 := by
  have h1 := hV.1.1
  have h2 := hV.1.2.1
  have h3 := RT_le hV.1 hV.2.1
  have h4 := hV.2.1.1
  have h5 := cf_good hV.1 hV.2.1 (k := s.toNat) (by omega)
  unfold prV
  split
  · omega
  · split
    · omega
    · split
      · omega
      · split
        · omega
        · split <;> omega
set_option maxHeartbeats 4000000 in
set_option maxRecDepth 100000 in
theorem s_X6_mixWalk (l : Launch) {E : GE} {w : Wd} {τ ad : Nat → Nat} {bs ss : Nat → Int} {pb : Nat → PT} {P Q : Nat → Nat} {ct : Nat → Int} (hC0 : CS τ ad w bs ss pb P Q ct) {i : Nat} (hi : i < 3) {r : Int} {m d a : Nat → Int} (hF0 : FS ad w (bs i) r m d a) (hV : FV (bs i) r m d a) (hG0 : FN ad w (bs i) r) {x : Int} : Sp E l yX6_mixWalk cX6_mixWalk 7 (some .long) 5 (0) (0) [.ref (ad 100), jJ x, .ref (ad (120 + i))] w (fun r' w' => r' = some (jJ (mxW (bs i) r (ss i) x)) ∧ CS τ ad w' (bs) (ss) (pb) (P) (Q) (ct) ∧ KO τ w w') := by
  refine sp_intro [some (.ref (ad 100)), some (jJ x), none, some (.ref (ad (120 + i))), none, none, none] rfl (Nat.le_of_ble_eq_true rfl) pn_X6 ?_
  intro X C hRm hl hnm hQ
  obtain ⟨hRf, hRl, hRc, hRs⟩ := hRm
  refine g_wf (fun hwf => ?_)
  have hC := hC0
  have hK : KO τ w w := KO.rf _ _
  have hF := hF0
  have hG := hG0
  have hs := (hC.W i (by omega)).2.2
  have hgb := (hC.W i (by omega)).2.1
  have hbl := hgb.1
  have hbh := hgb.2.1
  have hr09 := RT_le hV.1 hV.2.1
  refine g_lload_n C dX6_mixWalk_0 rfl ?_
  refine g_lstore C dX6_mixWalk_1 (by decide) rfl ?_
  refine g_iconst C dX6_mixWalk_3 ?_
  refine g_istore C dX6_mixWalk_4 (by decide) rfl ?_
  refine g_loop (σ := Nat × Int) (fun s => s.1 ≤ 6 ∧ s.2 = mx6 (bs i) r (ss i) s.1 x) (fun s => G E X 7 6 [some (.ref (ad 100)), some (jJ x), none, some (.ref (ad (120 + i))), some (jJ s.2), none, some (iI (s.1 : Int))] [] w 0 0) (fun s => 6 - s.1) ?_ (0, x) ⟨by dsimp only; omega, rfl⟩
  rintro ⟨k, z⟩ ⟨hk, hz⟩ ih
  dsimp only at hk hz ⊢
  refine g_iload C dX6_mixWalk_6 rfl ?_
  refine g_iconst C dX6_mixWalk_8 ?_
  refine g_icmp_gt (tgt := 33) C dX6_mixWalk_9 (by decide) (by omega) (by omega) (fun h9 => ?_) (fun h9 => ?_)
  · refine g_iconst C dX6_mixWalk_33 ?_
    refine g_istore C dX6_mixWalk_34 (by decide) rfl ?_
    have hk6 : k = 6 := by omega
    subst hk6
    clear ih hk
    refine g_loop (σ := Nat × Int) (fun s => s.1 ≤ 4 ∧ s.2 = mx4 (bs i) r (ss i) s.1 (mx6 (bs i) r (ss i) 6 x)) (fun s => G E X 7 36 [some (.ref (ad 100)), some (jJ x), none, some (.ref (ad (120 + i))), some (jJ s.2), none, some (iI (s.1 : Int))] [] w 0 0) (fun s => 4 - s.1) ?_ (0, z) ⟨by dsimp only; omega, hz⟩
    clear h9 hz z
    rintro ⟨k, z⟩ ⟨hk, hz⟩ ih
    dsimp only at hk hz ⊢
    refine g_iload C dX6_mixWalk_36 rfl ?_
    refine g_iconst C dX6_mixWalk_38 ?_
    refine g_icmp_gt (tgt := 65) C dX6_mixWalk_39 (by decide) (by omega) (by omega) (fun h39 => ?_) (fun h39 => ?_)
    · refine g_lload C dX6_mixWalk_65 rfl ?_
      refine g_aload_n C dX6_mixWalk_67 rfl ?_
      refine g_aload_n C dX6_mixWalk_68 rfl ?_
      refine g_iconst C dX6_mixWalk_69 ?_
      refine g_callV C (s_X6_walkTest _ hC hi hF hV hG (z := 1) (by omega)) (ci := 8) rfl hC.o rfl ml_RX6_106 im_yX6_walkTest se_RX6_yX6_walkTest in_RX6 co_yX6_walkTest hd_X6_walkTest rfl ⟨by omega, by omega⟩ rfl (Nat.le_of_ble_eq_true rfl) ⟨by omega, by omega⟩ dX6_mixWalk_70 (fun v70 w70 hp70 => ?_)
      obtain ⟨rfl, hf70, hg70, hc70, hk70⟩ := hp70
      replace hC := hc70
      replace hK := hK.tr hk70
      replace hF := hf70
      replace hG := hg70
      have ht70 := tst_r hV.1 hV.2.1 (k := (ss i).toNat) (by omega) 1
      refine g_i2l C dX6_mixWalk_73 (by omega) ?_
      refine g_callS C (s_X6_mix _) ml_RX6_331 sm_yX6_mix in_RX6 co_yX6_mix hd_X6_mix rfl ⟨by omega, by omega⟩ rfl (Nat.le_of_ble_eq_true rfl) ⟨by omega, by omega⟩ dX6_mixWalk_74 (fun v74 w74 hp74 => ?_)
      obtain ⟨rfl, hw74⟩ := hp74
      subst w74
      refine g_aload_n C dX6_mixWalk_77 rfl ?_
      refine g_aload_n C dX6_mixWalk_78 rfl ?_
      refine g_iconst C dX6_mixWalk_79 ?_
      refine g_callV C (s_X6_walkTest _ hC hi hF hV hG (z := 2) (by omega)) (ci := 8) rfl hC.o rfl ml_RX6_106 im_yX6_walkTest se_RX6_yX6_walkTest in_RX6 co_yX6_walkTest hd_X6_walkTest rfl ⟨by omega, by omega⟩ rfl (Nat.le_of_ble_eq_true rfl) ⟨by omega, by omega⟩ dX6_mixWalk_80 (fun v80 w80 hp80 => ?_)
      obtain ⟨rfl, hf80, hg80, hc80, hk80⟩ := hp80
      replace hC := hc80
      replace hK := hK.tr hk80
      replace hF := hf80
      replace hG := hg80
      have ht80 := tst_r hV.1 hV.2.1 (k := (ss i).toNat) (by omega) 2
      refine g_i2l C dX6_mixWalk_83 (by omega) ?_
      refine g_callS C (s_X6_mix _) ml_RX6_331 sm_yX6_mix in_RX6 co_yX6_mix hd_X6_mix rfl ⟨by omega, by omega⟩ rfl (Nat.le_of_ble_eq_true rfl) ⟨by omega, by omega⟩ dX6_mixWalk_84 (fun v84 w84 hp84 => ?_)
      obtain ⟨rfl, hw84⟩ := hp84
      subst w84
      exact g_lreturn C hQ dX6_mixWalk_87 (Nat.le_refl _) (Nat.le_refl _) ⟨by rw [hz, show k = 4 by omega]; rfl, hC, hK⟩
    · refine g_lload C dX6_mixWalk_42 rfl ?_
      refine g_aload_n C dX6_mixWalk_44 rfl ?_
      refine g_aload_n C dX6_mixWalk_45 rfl ?_
      refine g_iload C dX6_mixWalk_46 rfl ?_
      refine g_callV C (s_X6_walkNumber _ hC hi hF hV hG (z := (k : Int)) (by omega)) (ci := 8) rfl hC.o rfl ml_RX6_98 im_yX6_walkNumber se_RX6_yX6_walkNumber in_RX6 co_yX6_walkNumber hd_X6_walkNumber rfl ⟨by omega, by omega⟩ rfl (Nat.le_of_ble_eq_true rfl) ⟨by omega, by omega⟩ dX6_mixWalk_48 (fun v48 w48 hp48 => ?_)
      obtain ⟨⟨j48, rfl, hj48, f48⟩, hw48⟩ := hp48
      subst w48
      refine g_callV C (v_X5_lowBits _ f48 ) (ci := 7) rfl (hC.N.W (j := j48) (by omega)).o rfl ml_RX6_362 im_yX5_lowBits se_RX5_yX5_lowBits in_RX5 co_yX5_lowBits hd_X5_lowBits rfl ⟨by omega, by omega⟩ rfl (Nat.le_of_ble_eq_true rfl) ⟨by omega, by omega⟩ dX6_mixWalk_51 (fun v51 w51 hp51 => ?_)
      obtain ⟨rfl, hw51⟩ := hp51
      subst w51
      refine g_callS C (s_X6_mix _) ml_RX6_331 sm_yX6_mix in_RX6 co_yX6_mix hd_X6_mix rfl ⟨by omega, by omega⟩ rfl (Nat.le_of_ble_eq_true rfl) ⟨by omega, by omega⟩ dX6_mixWalk_54 (fun v54 w54 hp54 => ?_)
      obtain ⟨rfl, hw54⟩ := hp54
      subst w54
      refine g_lstore C dX6_mixWalk_57 (by decide) rfl ?_
      refine g_iinc C dX6_mixWalk_59 rfl (by decide) rfl ?_
      refine g_goto (tgt := 36) C dX6_mixWalk_62 (by decide) ?_
      rw [show (k : Int) + 1 = ((k + 1 : Nat) : Int) by omega]
      exact ih (k + 1, _) ⟨by dsimp only; omega, by dsimp only; rw [hz]; rfl⟩ (by dsimp only; omega)
  · refine g_lload C dX6_mixWalk_12 rfl ?_
    refine g_aload_n C dX6_mixWalk_14 rfl ?_
    refine g_aload_n C dX6_mixWalk_15 rfl ?_
    refine g_iload C dX6_mixWalk_16 rfl ?_
    refine g_callV C (s_X6_walkPart _ hC hi hF hV hG (z := (k : Int)) (by omega)) (ci := 8) rfl hC.o rfl ml_RX6_94 im_yX6_walkPart se_RX6_yX6_walkPart in_RX6 co_yX6_walkPart hd_X6_walkPart rfl ⟨by omega, by omega⟩ rfl (Nat.le_of_ble_eq_true rfl) ⟨by omega, by omega⟩ dX6_mixWalk_18 (fun v18 w18 hp18 => ?_)
    obtain ⟨rfl, hw18⟩ := hp18
    subst w18
    have hpr := prV_b hV hs.1 (k := (k : Int)) (by omega)
    refine g_i2l C dX6_mixWalk_21 (by omega) ?_
    refine g_callS C (s_X6_mix _) ml_RX6_331 sm_yX6_mix in_RX6 co_yX6_mix hd_X6_mix rfl ⟨by omega, by omega⟩ rfl (Nat.le_of_ble_eq_true rfl) ⟨by omega, by omega⟩ dX6_mixWalk_22 (fun v22 w22 hp22 => ?_)
    obtain ⟨rfl, hw22⟩ := hp22
    subst w22
    refine g_lstore C dX6_mixWalk_25 (by decide) rfl ?_
    refine g_iinc C dX6_mixWalk_27 rfl (by decide) rfl ?_
    refine g_goto (tgt := 6) C dX6_mixWalk_30 (by decide) ?_
    rw [show (k : Int) + 1 = ((k + 1 : Nat) : Int) by omega]
    exact ih (k + 1, _) ⟨by dsimp only; omega, by dsimp only; rw [hz]; rfl⟩ (by dsimp only; omega)
/-! where the class's cells lie behind one another -/
def off (t : Nat) : Nat :=
  if t < 110 then t - 101 else if t = 110 then 117
  else if 120 ≤ t ∧ t < 123 then 144 + 7 * (t - 120)
  else if 130 ≤ t ∧ t < 133 then 150 + 7 * (t - 130)
  else if t = 133 then 142 else if t = 134 then 143
  else if 140 ≤ t ∧ t < 143 then 145 + 7 * (t - 140)
  else if 143 ≤ t ∧ t < 146 then 127 + 5 * (t - 143)
  else if 200 ≤ t ∧ t < 208 then t - 82
  else if 208 ≤ t ∧ t < 220 then 146 + 7 * ((t - 208) / 4) + (t - 208) % 4
  else if 220 ≤ t ∧ t < 232 then 128 + 5 * ((t - 220) / 4) + (t - 220) % 4
  else if 232 ≤ t ∧ t < 286 then 9 + 4 * ((t - 232) / 2) + (t - 232) % 2
  else if 286 ≤ t ∧ t < 340 then 11 + 4 * ((t - 286) / 2) + (t - 286) % 2
  else if t = 340 then 126 else 1000 + t
def offI (n : Nat) : Nat := ((List.range 341).find? (fun t => decide (101 ≤ t) && off t == n)).getD 9
theorem off_chk : ((List.range 341).all fun t => decide (t < 101) || offI (off t) == t) = true := by decide +kernel
theorem offI_off {t : Nat} (h1 : 101 ≤ t) (h2 : t ≤ 340) : offI (off t) = t := by
  have := List.all_eq_true.mp off_chk t (List.mem_range.mpr (by omega))
  simp only [Bool.or_eq_true, decide_eq_true_eq, beq_iff_eq] at this
  omega
theorem off_w (i : Nat) (hi : i < 3) : off (120 + i) = 144 + 7 * i ∧ off (130 + i) = 150 + 7 * i ∧ off (140 + i) = 145 + 7 * i ∧ off (143 + i) = 127 + 5 * i ∧ off (208 + 4 * i) = 146 + 7 * i ∧ off (209 + 4 * i) = 147 + 7 * i ∧ off (210 + 4 * i) = 148 + 7 * i ∧ off (211 + 4 * i) = 149 + 7 * i ∧ off (220 + 4 * i) = 128 + 5 * i ∧ off (221 + 4 * i) = 129 + 5 * i ∧ off (222 + 4 * i) = 130 + 5 * i ∧ off (223 + 4 * i) = 131 + 5 * i := by
  rcases (show i = 0 ∨ i = 1 ∨ i = 2 by omega) with q | q | q <;> subst q <;> decide
theorem off_chk2 : ((List.range 27).all fun k => off (232 + 2 * k) == 9 + 4 * k && off (233 + 2 * k) == 10 + 4 * k && off (286 + 2 * k) == 11 + 4 * k && off (287 + 2 * k) == 12 + 4 * k) = true := by decide +kernel
theorem off_k (k : Nat) (hk : k < 27) : off (232 + 2 * k) = 9 + 4 * k ∧ off (233 + 2 * k) = 10 + 4 * k ∧ off (286 + 2 * k) = 11 + 4 * k ∧ off (287 + 2 * k) = 12 + 4 * k := by
  have := List.all_eq_true.mp off_chk2 k (List.mem_range.mpr hk)
  simp only [Bool.and_eq_true, beq_iff_eq] at this
  omega
def adB (x B : Nat) : Nat → Nat := fun t => if t = 100 then x else B + off t
def taB (τ : Nat → Nat) (x B : Nat) : Nat → Nat := fun a => if a = x then 100 else if a < B then τ a else offI (a - B)
theorem adB_n {x B t : Nat} (h : t ≠ 100) : adB x B t = B + off t := if_neg h
theorem GB2 : GB 2 := ⟨by omega, by omega, fun m h => by
  rcases Int.lt_or_le m 0 with q | q
  · rcases Int.lt_or_le (-2) m with c | c
    · have : m = -1 := by omega
      subst this
      omega
    · have := Int.mul_le_mul (show 2 ≤ -m by omega) (show 2 ≤ -m by omega) (by omega) (by omega)
      rw [Int.neg_mul_neg] at this
      omega
  · rcases Int.lt_or_le m 2 with c | c
    · rcases (show m = 0 ∨ m = 1 by omega) with e | e <;> subst e <;> omega
    · have := Int.mul_le_mul c c (by omega) (by omega)
      omega⟩
theorem SV50 : SV 5 0 := ⟨by decide +kernel, fun i hi => absurd hi (Nat.not_lt_zero _)⟩
theorem cs_init {τ : Nat → Nat} {u : Wd} {x B : Nat} (hx : x < B) {R1 R2 R3 T1 T2 : Nat → Option Nat}
    (ho : u.2 x = some (true, eO 8 [.ref B, .ref (B + 1), .ref (B + 2), .ref (B + 3), .ref (B + 117), .ref (B + 127), .ref (B + 132), .ref (B + 137), .ref (B + 142), .ref (B + 143), iI 0, iI 0, iI 0, iI 0, iI 0]))
    (h1 : u.2 B = some (true, eR 3 3 R1)) (h2 : u.2 (B + 1) = some (true, eR 4 3 R2)) (h3 : u.2 (B + 2) = some (true, eR 5 3 R3))
    (hL : ∀ j, j < 3 → R1 j = some (B + 144 + 7 * j) ∧ R2 j = some (B + 145 + 7 * j) ∧ R3 j = some (B + 150 + 7 * j) ∧ u.2 (B + 144 + 7 * j) = some (true, eO 6 [iI 2, iI 0]) ∧ u.2 (B + 145 + 7 * j) = some (true, eO 4 [iI 2, .ref (B + 146 + 7 * j), .ref (B + 148 + 7 * j)]) ∧ WA u (B + 146 + 7 * j) (B + 147 + 7 * j) 1 ∧ WA u (B + 148 + 7 * j) (B + 149 + 7 * j) 0 ∧ u.2 (B + 150 + 7 * j) = some (true, oS 5 0))
    (hf : u.2 (B + 3) = some (true, eO 3 [iI 0, iI 0, .ref (B + 4), .ref (B + 5), .ref (B + 6), .ref (B + 7), .ref (B + 8)])) (f1 : u.2 (B + 4) = some (true, eI 26 (fun _ => 0))) (f2 : u.2 (B + 5) = some (true, eI 26 (fun _ => 0))) (f3 : u.2 (B + 6) = some (true, eI 26 (fun _ => 0)))
    (f4 : u.2 (B + 7) = some (true, eR 6 27 T1)) (f5 : u.2 (B + 8) = some (true, eR 6 27 T2)) (hT : ∀ k, k < 27 → T1 k = some (B + 9 + 4 * k) ∧ T2 k = some (B + 11 + 4 * k) ∧ WS u (B + 9 + 4 * k) (B + 10 + 4 * k) ∧ WS u (B + 11 + 4 * k) (B + 12 + 4 * k))
    (hd : u.2 (B + 117) = some (true, eO 2 [.ref (B + 118), .ref (B + 120), .ref (B + 122), .ref (B + 124), .ref (B + 126)])) (d0 : WS u (B + 118) (B + 119)) (d1 : WS u (B + 120) (B + 121)) (d2 : WS u (B + 122) (B + 123)) (d3 : WS u (B + 124) (B + 125)) (d4 : u.2 (B + 126) = some (true, eB 63 (fun _ => 0)))
    (hp : ∀ j, j < 3 → u.2 (B + 127 + 5 * j) = some (true, eO 4 [iI 2, .ref (B + 128 + 5 * j), .ref (B + 130 + 5 * j)]) ∧ WA u (B + 128 + 5 * j) (B + 129 + 5 * j) 1 ∧ WA u (B + 130 + 5 * j) (B + 131 + 5 * j) 0)
    (hr : u.2 (B + 142) = some (true, oS 5 0)) (hr2 : u.2 (B + 143) = some (true, oS 5 0)) : CS (taB τ x B) (adB x B) u (fun _ => 2) (fun _ => 0) (fun _ => (2, 1, 0)) (fun _ => 5) (fun _ => 0) (fun _ => 0) := by
  have an : ∀ {t : Nat}, t ≠ 100 → adB x B t = B + off t := fun h => adB_n h
  have e : ∀ (t n : Nat), t ≠ 100 → off t = n → adB x B t = B + n := fun t n h g => by rw [an h, g]
  have hnum : ∀ i, i < 6 → NW (adB x B) u (4 + 2 * i) 1 ∧ NW (adB x B) u (5 + 2 * i) 0 := fun i hi => by
    unfold NW wo wr
    by_cases c2 : i < 3
    · have g := off_w i c2
      have l := hL i c2
      constructor
      · rw [show 200 + 2 * (4 + 2 * i) = 208 + 4 * i by omega, show 201 + 2 * (4 + 2 * i) = 209 + 4 * i by omega, an (by omega), an (by omega), g.2.2.2.2.1, g.2.2.2.2.2.1]
        have := l.2.2.2.2.2.1
        rw [Nat.add_assoc, Nat.add_assoc] at this
        exact this
      · rw [show 200 + 2 * (5 + 2 * i) = 210 + 4 * i by omega, show 201 + 2 * (5 + 2 * i) = 211 + 4 * i by omega, an (by omega), an (by omega), g.2.2.2.2.2.2.1, g.2.2.2.2.2.2.2.1]
        have := l.2.2.2.2.2.2.1
        rw [Nat.add_assoc, Nat.add_assoc] at this
        exact this
    · obtain ⟨q, rfl⟩ : ∃ q, i = 3 + q := ⟨i - 3, by omega⟩
      have g := off_w q (by omega)
      have l := hp q (by omega)
      constructor
      · rw [show 200 + 2 * (4 + 2 * (3 + q)) = 220 + 4 * q by omega, show 201 + 2 * (4 + 2 * (3 + q)) = 221 + 4 * q by omega, an (by omega), an (by omega), g.2.2.2.2.2.2.2.2.1, g.2.2.2.2.2.2.2.2.2.1]
        have := l.2.1
        rw [Nat.add_assoc, Nat.add_assoc] at this
        exact this
      · rw [show 200 + 2 * (5 + 2 * (3 + q)) = 222 + 4 * q by omega, show 201 + 2 * (5 + 2 * (3 + q)) = 223 + 4 * q by omega, an (by omega), an (by omega), g.2.2.2.2.2.2.2.2.2.2.1, g.2.2.2.2.2.2.2.2.2.2.2]
        have := l.2.2
        rw [Nat.add_assoc, Nat.add_assoc] at this
        exact this
  refine ⟨⟨fun t t1 t2 => ?_, fun j hj => ?_, fun _ => 0, ?_, ?_⟩, ?_, ⟨⟨R1, ?_, fun i hi => ?_⟩, ⟨R2, ?_, fun i hi => ?_⟩, ⟨R3, ?_, fun i hi => ?_⟩⟩, fun i hi => ⟨?_, GB2, Int.le_refl 0, show (0 : Int) ≤ 24 by omega⟩, fun i hi => ⟨⟨?_, hnum i hi⟩, GB2, fun _ => by show ¬ (LGN ≤ aB 1 ∨ LGN ≤ aB 0); decide⟩, fun i hi => ⟨?_, SV50⟩, ?_, ⟨0, 0, fun _ => 0, fun _ => 0, fun _ => 0, ⟨?_, ?_, ?_, ?_, ⟨T1, ?_, fun k hk => ?_⟩, ⟨T2, ?_, fun k hk => ?_⟩⟩, Or.inl rfl, by omega, by omega⟩⟩
  · by_cases q : t = 100
    · subst q
      rw [show adB x B 100 = x from rfl]
      exact if_pos rfl
    · rw [an q]
      unfold taB
      rw [if_neg (by omega), if_neg (by omega), show B + off t - B = off t by omega]
      exact offI_off (by omega) t2
  · unfold wo wr
    rw [an (by omega), an (by omega)]
    by_cases c1 : j < 4
    · rcases (show j = 0 ∨ j = 1 ∨ j = 2 ∨ j = 3 by omega) with q | q | q | q <;> subst q
      · exact d0
      · exact d1
      · exact d2
      · exact d3
    · by_cases c3 : j < 16
      · have l := hnum ((j - 4) / 2) (by omega)
        unfold NW wo wr at l
        rw [an (by omega), an (by omega), an (by omega), an (by omega)] at l
        rcases (show j % 2 = 0 ∨ j % 2 = 1 by omega) with q | q
        · have := l.1.ws
          rw [show 4 + 2 * ((j - 4) / 2) = j by omega] at this
          exact this
        · have := l.2.ws
          rw [show 5 + 2 * ((j - 4) / 2) = j by omega] at this
          exact this
      · by_cases c4 : j < 43
        · have g := off_k (j - 16) (by omega)
          have l := hT (j - 16) (by omega)
          rw [show 200 + 2 * j = 232 + 2 * (j - 16) by omega, show 201 + 2 * j = 233 + 2 * (j - 16) by omega, g.1, g.2.1]
          have := l.2.2.1
          rw [Nat.add_assoc, Nat.add_assoc] at this
          exact this
        · have g := off_k (j - 43) (by omega)
          have l := hT (j - 43) (by omega)
          rw [show 200 + 2 * j = 286 + 2 * (j - 43) by omega, show 201 + 2 * j = 287 + 2 * (j - 43) by omega, g.2.2.1, g.2.2.2]
          have := l.2.2.2
          rw [Nat.add_assoc, Nat.add_assoc] at this
          exact this
  · exact d4
  · intro q; exact ⟨show (-128 : Int) ≤ 0 by omega, show (0 : Int) ≤ 127 by omega⟩
  · exact ho
  · exact h1
  · rw [e _ _ (by omega) (off_w i hi).1, (hL i hi).1, Nat.add_assoc]
  · exact h2
  · rw [e _ _ (by omega) (off_w i hi).2.2.1, (hL i hi).2.1, Nat.add_assoc]
  · exact h3
  · rw [e _ _ (by omega) (off_w i hi).2.1, (hL i hi).2.2.1, Nat.add_assoc]
  · have := (hL i hi).2.2.2.1
    rw [e _ _ (by omega) (off_w i hi).1, ← Nat.add_assoc]
    exact this
  · unfold PO wo
    by_cases c : i < 3
    · have g := off_w i c
      have := (hL i c).2.2.2.2.1
      rw [e _ _ (by omega) g.2.2.1, show 200 + 2 * (4 + 2 * i) = 208 + 4 * i by omega, show 200 + 2 * (5 + 2 * i) = 210 + 4 * i by omega, e _ _ (by omega) g.2.2.2.2.1, e _ _ (by omega) g.2.2.2.2.2.2.1, ← Nat.add_assoc, ← Nat.add_assoc, ← Nat.add_assoc]
      exact this
    · obtain ⟨q, rfl⟩ : ∃ q, i = 3 + q := ⟨i - 3, by omega⟩
      have g := off_w q (by omega)
      have := (hp q (by omega)).1
      rw [show 140 + (3 + q) = 143 + q by omega, e _ _ (by omega) g.2.2.2.1, show 200 + 2 * (4 + 2 * (3 + q)) = 220 + 4 * q by omega, show 200 + 2 * (5 + 2 * (3 + q)) = 222 + 4 * q by omega, e _ _ (by omega) g.2.2.2.2.2.2.2.2.1, e _ _ (by omega) g.2.2.2.2.2.2.2.2.2.2.1, ← Nat.add_assoc, ← Nat.add_assoc, ← Nat.add_assoc]
      exact this
  · by_cases c : i < 3
    · have := (hL i c).2.2.2.2.2.2.2
      rw [e _ _ (by omega) (off_w i c).2.1, ← Nat.add_assoc]
      exact this
    · rcases (show i = 3 ∨ i = 4 by omega) with q | q <;> subst q
      · exact hr
      · exact hr2
  · exact hd
  · exact hf
  · exact f1
  · exact f2
  · exact f3
  · exact f4
  · unfold wo
    rw [show 200 + 2 * (16 + k) = 232 + 2 * k by omega, e _ _ (by omega) (off_k k hk).1, (hT k hk).1, Nat.add_assoc]
  · exact f5
  · unfold wo
    rw [show 200 + 2 * (43 + k) = 286 + 2 * k by omega, e _ _ (by omega) (off_k k hk).2.2.1, (hT k hk).2.1, Nat.add_assoc]
set_option maxHeartbeats 4000000 in
set_option maxRecDepth 100000 in
theorem s_X6_init (l : Launch) {K : KC} {E : GE} {w : Wd} {a : Nat} (oB : w.2 a = some (true, eO 8 [.null, .null, .null, .null, .null, .null, .null, .null, .null, .null, iI 0, iI 0, iI 0, iI 0, iI 0])) {τ : Nat → Nat} : St K E l yX6_init cX6_init 2 none 6 (165) (1750) [.ref a] w (fun r' w' => r' = none ∧ w'.1 = w.1 + 165 ∧ CS (taB τ a w.1) (adB a w.1) w' (fun _ => 2) (fun _ => 0) (fun _ => (2, 1, 0)) (fun _ => 5) (fun _ => 0) (fun _ => 0) ∧ ExX w w' a) := by
  refine st_intro [some (.ref a), none] rfl (Nat.le_of_ble_eq_true rfl) pn_X6 ?_
  intro X C hT hRm hl hnm hQ
  obtain ⟨hRf, hRl, hRc, hRs⟩ := hRm
  refine g_wf (fun hwf => ?_)
  have hmw : a < w.1 := hwf a _ oB
  refine g_aload_n C dX6_init_0 rfl ?_
  refine g_objInit C ml_RX6_1 (by omega) (by omega) (Nat.le_of_ble_eq_true rfl) dX6_init_1 ?_
  refine g_aload_n C dX6_init_4 rfl ?_
  refine g_iconst C dX6_init_5 ?_
  refine g_anewO C 3 rfl C.kt.2.2.2.1 kl_RX6_9 (N := 3) rfl (by omega) (by omega) dX6_init_6 ?_
  obtain ⟨u1, hu1⟩ : ∃ u1, u1 = wpush w (true, eR 3 3 (fun _ => none)) := ⟨_, rfl⟩
  refine g_eqw (w' := u1) (by rw [hu1]; first | done | rfl) ?_
  have nu1 : u1.1 = w.1 + 1 := by
    have e0 : w.1 = w.1 + 0 := rfl
    rw [hu1]; show w.1 + 1 = _; omega
  have zu1 : Ex w u1 := by rw [hu1]; exact Ex.push hwf _
  have yu1 : ExX w u1 a := zu1.exx _
  have ou1 := zu1.2 _ _ oB
  have c0 : u1.2 w.1 = some (true, eR 3 3 (fun _ => none)) := by
    have e0 : (wpush w (true, eR 3 3 (fun _ => none))).2 w.1 = some (true, eR 3 3 (fun _ => none)) := wpush_s
    rw [← hu1] at e0
    exact e0
  refine g_wf (fun fu1 => ?_)
  refine g_putF (ci := 8) C rfl inTX6 tyX6 tyX6_ok nmX6 0 (by decide) fl_RX6_11 rfl rfl hnm rfl ou1 (Nat.le_of_ble_eq_true rfl) rfl rfl dX6_init_9 ?_
  obtain ⟨u2, hu2⟩ : ∃ u2, u2 = wset u1 a (true, eO 8 [.ref w.1, .null, .null, .null, .null, .null, .null, .null, .null, .null, iI 0, iI 0, iI 0, iI 0, iI 0]) := ⟨_, rfl⟩
  refine g_eqw (w' := u2) hu2.symm ?_
  have nu2 : u2.1 = w.1 + 1 := by rw [hu2]; exact nu1
  have yu2 : ExX u1 u2 a := by rw [hu2]; exact ExX.set _ _ _
  have ou2 : u2.2 a = some (true, eO 8 [.ref w.1, .null, .null, .null, .null, .null, .null, .null, .null, .null, iI 0, iI 0, iI 0, iI 0, iI 0]) := by rw [hu2]; exact wset_s
  refine g_wf (fun fu2 => ?_)
  refine g_aload_n C dX6_init_12 rfl ?_
  refine g_iconst C dX6_init_13 ?_
  refine g_anewO C 4 rfl C.kt.2.2.2.2.1 kl_RX6_15 (N := 3) rfl (by omega) (by omega) dX6_init_14 ?_
  obtain ⟨u3, hu3⟩ : ∃ u3, u3 = wpush u2 (true, eR 4 3 (fun _ => none)) := ⟨_, rfl⟩
  refine g_eqw (w' := u3) (by rw [hu3]; first | done | rfl) ?_
  have nu3 : u3.1 = w.1 + 2 := by
    have e0 : u2.1 = w.1 + 1 := nu2
    rw [hu3]; show u2.1 + 1 = _; omega
  have zu3 : Ex u2 u3 := by rw [hu3]; exact Ex.push fu2 _
  have yu3 : ExX u2 u3 a := zu3.exx _
  have ou3 := zu3.2 _ _ ou2
  have c1 : u3.2 (w.1 + 1) = some (true, eR 4 3 (fun _ => none)) := by
    have e0 : (wpush u2 (true, eR 4 3 (fun _ => none))).2 u2.1 = some (true, eR 4 3 (fun _ => none)) := wpush_s
    rw [← hu3, nu2] at e0
    exact e0
  refine g_wf (fun fu3 => ?_)
  rw [nu2]
  refine g_putF (ci := 8) C rfl inTX6 tyX6 tyX6_ok nmX6 1 (by decide) fl_RX6_17 rfl rfl hnm rfl ou3 (Nat.le_of_ble_eq_true rfl) rfl rfl dX6_init_17 ?_
  obtain ⟨u4, hu4⟩ : ∃ u4, u4 = wset u3 a (true, eO 8 [.ref w.1, .ref (w.1 + 1), .null, .null, .null, .null, .null, .null, .null, .null, iI 0, iI 0, iI 0, iI 0, iI 0]) := ⟨_, rfl⟩
  refine g_eqw (w' := u4) hu4.symm ?_
  have nu4 : u4.1 = w.1 + 2 := by rw [hu4]; exact nu3
  have yu4 : ExX u3 u4 a := by rw [hu4]; exact ExX.set _ _ _
  have ou4 : u4.2 a = some (true, eO 8 [.ref w.1, .ref (w.1 + 1), .null, .null, .null, .null, .null, .null, .null, .null, iI 0, iI 0, iI 0, iI 0, iI 0]) := by rw [hu4]; exact wset_s
  refine g_wf (fun fu4 => ?_)
  refine g_aload_n C dX6_init_20 rfl ?_
  refine g_iconst C dX6_init_21 ?_
  refine g_anewO C 5 rfl C.kt.2.2.2.2.2.1 kl_RX6_21 (N := 3) rfl (by omega) (by omega) dX6_init_22 ?_
  obtain ⟨u5, hu5⟩ : ∃ u5, u5 = wpush u4 (true, eR 5 3 (fun _ => none)) := ⟨_, rfl⟩
  refine g_eqw (w' := u5) (by rw [hu5]; first | done | rfl) ?_
  have nu5 : u5.1 = w.1 + 3 := by
    have e0 : u4.1 = w.1 + 2 := nu4
    rw [hu5]; show u4.1 + 1 = _; omega
  have zu5 : Ex u4 u5 := by rw [hu5]; exact Ex.push fu4 _
  have yu5 : ExX u4 u5 a := zu5.exx _
  have ou5 := zu5.2 _ _ ou4
  have c2 : u5.2 (w.1 + 2) = some (true, eR 5 3 (fun _ => none)) := by
    have e0 : (wpush u4 (true, eR 5 3 (fun _ => none))).2 u4.1 = some (true, eR 5 3 (fun _ => none)) := wpush_s
    rw [← hu5, nu4] at e0
    exact e0
  refine g_wf (fun fu5 => ?_)
  rw [nu4]
  refine g_putF (ci := 8) C rfl inTX6 tyX6 tyX6_ok nmX6 2 (by decide) fl_RX6_23 rfl rfl hnm rfl ou5 (Nat.le_of_ble_eq_true rfl) rfl rfl dX6_init_25 ?_
  obtain ⟨u6, hu6⟩ : ∃ u6, u6 = wset u5 a (true, eO 8 [.ref w.1, .ref (w.1 + 1), .ref (w.1 + 2), .null, .null, .null, .null, .null, .null, .null, iI 0, iI 0, iI 0, iI 0, iI 0]) := ⟨_, rfl⟩
  refine g_eqw (w' := u6) hu6.symm ?_
  have nu6 : u6.1 = w.1 + 3 := by rw [hu6]; exact nu5
  have yu6 : ExX u5 u6 a := by rw [hu6]; exact ExX.set _ _ _
  have ou6 : u6.2 a = some (true, eO 8 [.ref w.1, .ref (w.1 + 1), .ref (w.1 + 2), .null, .null, .null, .null, .null, .null, .null, iI 0, iI 0, iI 0, iI 0, iI 0]) := by rw [hu6]; exact wset_s
  refine g_wf (fun fu6 => ?_)
  have kst : ∀ q x, q ≠ a → w.2 q = some x → u6.2 q = some x := fun q x h0 e => (yu6.2 _ _ (by assumption) (yu5.2 _ _ (by assumption) (yu4.2 _ _ (by assumption) (yu3.2 _ _ (by assumption) (yu2.2 _ _ (by assumption) (yu1.2 _ _ (by assumption) e))))))
  replace c0 : u6.2 w.1 = some (true, eR 3 3 (fun _ => none)) := (yu6.2 _ _ (by omega) (yu5.2 _ _ (by omega) (yu4.2 _ _ (by omega) (yu3.2 _ _ (by omega) (yu2.2 _ _ (by omega) c0)))))
  replace c1 : u6.2 (w.1 + 1) = some (true, eR 4 3 (fun _ => none)) := (yu6.2 _ _ (by omega) (yu5.2 _ _ (by omega) (yu4.2 _ _ (by omega) c1)))
  replace c2 : u6.2 (w.1 + 2) = some (true, eR 5 3 (fun _ => none)) := (yu6.2 _ _ (by omega) c2)
  have hkeep : ∀ b x, b ≠ a → w.2 b = some x → u6.2 b = some x := fun b x hb e => by
    have hbl := hwf b x e
    exact kst _ _ (by omega) e
  clear kst
  try clear hu6
  try clear zu6
  try clear yu6
  try clear hu5
  try clear zu5
  try clear yu5
  try clear nu5
  try clear fu5
  try clear ou5
  try clear hu4
  try clear zu4
  try clear yu4
  try clear nu4
  try clear fu4
  try clear ou4
  try clear hu3
  try clear zu3
  try clear yu3
  try clear nu3
  try clear fu3
  try clear ou3
  try clear hu2
  try clear zu2
  try clear yu2
  try clear nu2
  try clear fu2
  try clear ou2
  try clear hu1
  try clear zu1
  try clear yu1
  try clear nu1
  try clear fu1
  try clear ou1
  try clear u5
  try clear u4
  try clear u3
  try clear u2
  try clear u1
  refine g_aload_n C dX6_init_28 rfl ?_
  refine g_new (ci := 3) C rfl inTX1 tyX1 tyX1_ok kl_RX6_27 ib_RX1 in_RX1 (fs := [iI 0, iI 0, .null, .null, .null, .null, .null]) (by intro j hj; repeat (first | rfl | (cases j; rfl) | (rename_i j; cases j; rfl) | omega)) (by omega) dX6_init_29 ?_
  obtain ⟨u7, hu7⟩ : ∃ u7, u7 = wpush u6 (true, eO 3 [iI 0, iI 0, .null, .null, .null, .null, .null]) := ⟨_, rfl⟩
  refine g_eqw (w' := u7) (by rw [hu7]; first | done | rfl) ?_
  have nu7 : u7.1 = w.1 + 4 := by
    have e0 : u6.1 = w.1 + 3 := nu6
    rw [hu7]; show u6.1 + 1 = _; omega
  have zu7 : Ex u6 u7 := by rw [hu7]; exact Ex.push fu6 _
  have yu7 : ExX u6 u7 a := zu7.exx _
  have ou7 := zu7.2 _ _ ou6
  have c3 : u7.2 (w.1 + 3) = some (true, eO 3 [iI 0, iI 0, .null, .null, .null, .null, .null]) := by
    have e0 : (wpush u6 (true, eO 3 [iI 0, iI 0, .null, .null, .null, .null, .null])).2 u6.1 = some (true, eO 3 [iI 0, iI 0, .null, .null, .null, .null, .null]) := wpush_s
    rw [← hu7, nu6] at e0
    exact e0
  refine g_wf (fun fu7 => ?_)
  rw [nu6]
  refine g_dup C dX6_init_32 rfl ?_
  refine t_callI C hT (s_X1_init _ (w := u7) (a := w.1 + 3) c3) ml_RX6_29 im_yX1_init in_RX1 co_yX1_init rfl hd_X1_init rfl ⟨by omega, by omega⟩ rfl (Nat.le_of_ble_eq_true rfl) ⟨by omega, by omega⟩ dX6_init_33 (fun v33 w33 hp33 => ?_)
  obtain ⟨rfl, z33, o33, r33a, r33b, r33c, ⟨T1, t33a, t33b⟩, ⟨T2, t33c, t33d⟩, v33, x33⟩ := hp33
  have nw33 : w33.1 = w.1 + 117 := by have g1 := z33; have g2 := nu7; omega
  have yw33 : ExX u7 w33 (w.1 + 3) := by rw [show w.1 + 3 = w.1 + 3 from rfl]; exact x33
  have ow33 := yw33.2 _ _ (by omega) ou7
  refine g_wf (fun fw33 => ?_)
  have c3f : w33.2 (w.1 + 3) = some (true, eO 3 [iI 0, iI 0, .ref (w.1 + 4), .ref (w.1 + 5), .ref (w.1 + 6), .ref (w.1 + 7), .ref (w.1 + 8)]) := by rw [nu7] at o33; exact o33
  have c4 : w33.2 (w.1 + 4) = some (true, eI 26 (fun _ => 0)) := by rw [nu7] at r33a; exact r33a
  have c5 : w33.2 (w.1 + 5) = some (true, eI 26 (fun _ => 0)) := by rw [nu7] at r33b; exact r33b
  have c6 : w33.2 (w.1 + 6) = some (true, eI 26 (fun _ => 0)) := by rw [nu7] at r33c; exact r33c
  have c7 : w33.2 (w.1 + 7) = some (true, eR 6 27 T1) := by rw [nu7] at t33a; exact t33a
  have c8 : w33.2 (w.1 + 8) = some (true, eR 6 27 T2) := by rw [nu7] at t33c; exact t33c
  have p9 : ∀ k, k < 27 → T1 k = some (w.1 + 9 + 4 * k) ∧ T2 k = some (w.1 + 11 + 4 * k) ∧ WS w33 (w.1 + 9 + 4 * k) (w.1 + 10 + 4 * k) ∧ WS w33 (w.1 + 11 + 4 * k) (w.1 + 12 + 4 * k) := fun k hk => by
    have g1 := t33b k hk
    have g2 := t33d k hk
    have g3 := v33 k hk
    rw [nu7] at g1 g2 g3
    exact ⟨g1, g2, g3.1, g3.2⟩
  refine g_putF (ci := 8) C rfl inTX6 tyX6 tyX6_ok nmX6 3 (by decide) fl_RX6_30 rfl rfl hnm rfl ow33 (Nat.le_of_ble_eq_true rfl) rfl rfl dX6_init_36 ?_
  obtain ⟨u8, hu8⟩ : ∃ u8, u8 = wset w33 a (true, eO 8 [.ref w.1, .ref (w.1 + 1), .ref (w.1 + 2), .ref (w.1 + 3), .null, .null, .null, .null, .null, .null, iI 0, iI 0, iI 0, iI 0, iI 0]) := ⟨_, rfl⟩
  refine g_eqw (w' := u8) hu8.symm ?_
  have nu8 : u8.1 = w.1 + 117 := by rw [hu8]; exact nw33
  have yu8 : ExX w33 u8 a := by rw [hu8]; exact ExX.set _ _ _
  have ou8 : u8.2 a = some (true, eO 8 [.ref w.1, .ref (w.1 + 1), .ref (w.1 + 2), .ref (w.1 + 3), .null, .null, .null, .null, .null, .null, iI 0, iI 0, iI 0, iI 0, iI 0]) := by rw [hu8]; exact wset_s
  refine g_wf (fun fu8 => ?_)
  have kst : ∀ q x, q ≠ a → q ≠ w.1 + 3 → u6.2 q = some x → u8.2 q = some x := fun q x h0 h1 e => (yu8.2 _ _ (by assumption) (yw33.2 _ _ (by assumption) (yu7.2 _ _ (by assumption) e)))
  replace c0 : u8.2 w.1 = some (true, eR 3 3 (fun _ => none)) := kst _ _ (by omega) (by omega) c0
  replace c1 : u8.2 (w.1 + 1) = some (true, eR 4 3 (fun _ => none)) := kst _ _ (by omega) (by omega) c1
  replace c2 : u8.2 (w.1 + 2) = some (true, eR 5 3 (fun _ => none)) := kst _ _ (by omega) (by omega) c2
  replace c3f : u8.2 (w.1 + 3) = some (true, eO 3 [iI 0, iI 0, .ref (w.1 + 4), .ref (w.1 + 5), .ref (w.1 + 6), .ref (w.1 + 7), .ref (w.1 + 8)]) := (yu8.2 _ _ (by omega) c3f)
  replace c4 : u8.2 (w.1 + 4) = some (true, eI 26 (fun _ => 0)) := (yu8.2 _ _ (by omega) c4)
  replace c5 : u8.2 (w.1 + 5) = some (true, eI 26 (fun _ => 0)) := (yu8.2 _ _ (by omega) c5)
  replace c6 : u8.2 (w.1 + 6) = some (true, eI 26 (fun _ => 0)) := (yu8.2 _ _ (by omega) c6)
  replace c7 : u8.2 (w.1 + 7) = some (true, eR 6 27 T1) := (yu8.2 _ _ (by omega) c7)
  replace c8 : u8.2 (w.1 + 8) = some (true, eR 6 27 T2) := (yu8.2 _ _ (by omega) c8)
  replace p9 : ∀ k, k < 27 → T1 k = some (w.1 + 9 + 4 * k) ∧ T2 k = some (w.1 + 11 + 4 * k) ∧ WS u8 (w.1 + 9 + 4 * k) (w.1 + 10 + 4 * k) ∧ WS u8 (w.1 + 11 + 4 * k) (w.1 + 12 + 4 * k) := fun k hk => by
    have g := p9 k hk
    exact ⟨g.1, g.2.1, (g.2.2.1.exx yu8 (by first | exact Nat.ne_of_gt (Nat.lt_of_lt_of_le hmw (Nat.le_add_right _ _)) | exact Nat.ne_of_gt hmw | omega) (by first | exact Nat.ne_of_gt (Nat.lt_of_lt_of_le hmw (Nat.le_add_right _ _)) | exact Nat.ne_of_gt hmw | omega)), (g.2.2.2.exx yu8 (by first | exact Nat.ne_of_gt (Nat.lt_of_lt_of_le hmw (Nat.le_add_right _ _)) | exact Nat.ne_of_gt hmw | omega) (by first | exact Nat.ne_of_gt (Nat.lt_of_lt_of_le hmw (Nat.le_add_right _ _)) | exact Nat.ne_of_gt hmw | omega))⟩
  replace hkeep : ∀ b x, b ≠ a → w.2 b = some x → u8.2 b = some x := fun b x hb e => by
    have hbl := hwf b x e
    exact kst _ _ (by omega) (by omega) (hkeep _ _ hb e)
  clear kst
  try clear hu8
  try clear zu8
  try clear yu8
  try clear hw33
  try clear zw33
  try clear yw33
  try clear nw33
  try clear fw33
  try clear ow33
  try clear hu7
  try clear zu7
  try clear yu7
  try clear nu7
  try clear fu7
  try clear ou7
  try clear ou6
  try clear nu6
  try clear fu6
  try clear w33
  try clear u7
  try clear u6
  refine g_aload_n C dX6_init_39 rfl ?_
  refine g_new (ci := 2) C rfl inTX0 tyX0 tyX0_ok kl_RX6_34 ib_RX0 in_RX0 (fs := [.null, .null, .null, .null, .null]) (by intro j hj; repeat (first | rfl | (cases j; rfl) | (rename_i j; cases j; rfl) | omega)) (by omega) dX6_init_40 ?_
  obtain ⟨u9, hu9⟩ : ∃ u9, u9 = wpush u8 (true, eO 2 [.null, .null, .null, .null, .null]) := ⟨_, rfl⟩
  refine g_eqw (w' := u9) (by rw [hu9]; first | done | rfl) ?_
  have nu9 : u9.1 = w.1 + 118 := by
    have e0 : u8.1 = w.1 + 117 := nu8
    rw [hu9]; show u8.1 + 1 = _; omega
  have zu9 : Ex u8 u9 := by rw [hu9]; exact Ex.push fu8 _
  have yu9 : ExX u8 u9 a := zu9.exx _
  have ou9 := zu9.2 _ _ ou8
  have c117 : u9.2 (w.1 + 117) = some (true, eO 2 [.null, .null, .null, .null, .null]) := by
    have e0 : (wpush u8 (true, eO 2 [.null, .null, .null, .null, .null])).2 u8.1 = some (true, eO 2 [.null, .null, .null, .null, .null]) := wpush_s
    rw [← hu9, nu8] at e0
    exact e0
  refine g_wf (fun fu9 => ?_)
  rw [nu8]
  refine g_dup C dX6_init_43 rfl ?_
  refine t_nI C hT (s_X0_init _ (w := u9) (a := w.1 + 117) c117) 1 rfl im_yX0_init in_RX0 co_yX0_init rfl hd_X0_init rfl ⟨by omega, by omega⟩ rfl (Nat.le_of_ble_eq_true rfl) ⟨by omega, by omega⟩ dX6_init_44 (fun v44 w44 hp44 => ?_)
  obtain ⟨rfl, z44, o44, q44a, q44b, q44c, q44d, b44, x44⟩ := hp44
  have nw44 : w44.1 = w.1 + 127 := by have g1 := z44; have g2 := nu9; omega
  have yw44 : ExX u9 w44 (w.1 + 117) := x44
  have ow44 := yw44.2 _ _ (by omega) ou9
  refine g_wf (fun fw44 => ?_)
  have c117f : w44.2 (w.1 + 117) = some (true, eO 2 [.ref (w.1 + 118), .ref (w.1 + 120), .ref (w.1 + 122), .ref (w.1 + 124), .ref (w.1 + 126)]) := by rw [nu9] at o44; exact o44
  have q118 : WS w44 (w.1 + 118) (w.1 + 119) := by rw [nu9] at q44a; exact q44a
  have q120 : WS w44 (w.1 + 120) (w.1 + 121) := by rw [nu9] at q44b; exact q44b
  have q122 : WS w44 (w.1 + 122) (w.1 + 123) := by rw [nu9] at q44c; exact q44c
  have q124 : WS w44 (w.1 + 124) (w.1 + 125) := by rw [nu9] at q44d; exact q44d
  have c126 : w44.2 (w.1 + 126) = some (true, eB 63 (fun _ => 0)) := by rw [nu9] at b44; exact b44
  refine g_putF (ci := 8) C rfl inTX6 tyX6 tyX6_ok nmX6 4 (by decide) fl_RX6_37 rfl rfl hnm rfl ow44 (Nat.le_of_ble_eq_true rfl) rfl rfl dX6_init_47 ?_
  obtain ⟨u10, hu10⟩ : ∃ u10, u10 = wset w44 a (true, eO 8 [.ref w.1, .ref (w.1 + 1), .ref (w.1 + 2), .ref (w.1 + 3), .ref (w.1 + 117), .null, .null, .null, .null, .null, iI 0, iI 0, iI 0, iI 0, iI 0]) := ⟨_, rfl⟩
  refine g_eqw (w' := u10) hu10.symm ?_
  have nu10 : u10.1 = w.1 + 127 := by rw [hu10]; exact nw44
  have yu10 : ExX w44 u10 a := by rw [hu10]; exact ExX.set _ _ _
  have ou10 : u10.2 a = some (true, eO 8 [.ref w.1, .ref (w.1 + 1), .ref (w.1 + 2), .ref (w.1 + 3), .ref (w.1 + 117), .null, .null, .null, .null, .null, iI 0, iI 0, iI 0, iI 0, iI 0]) := by rw [hu10]; exact wset_s
  refine g_wf (fun fu10 => ?_)
  have kst : ∀ q x, q ≠ a → q ≠ w.1 + 117 → u8.2 q = some x → u10.2 q = some x := fun q x h0 h1 e => (yu10.2 _ _ (by assumption) (yw44.2 _ _ (by assumption) (yu9.2 _ _ (by assumption) e)))
  replace c0 : u10.2 w.1 = some (true, eR 3 3 (fun _ => none)) := kst _ _ (by omega) (by omega) c0
  replace c1 : u10.2 (w.1 + 1) = some (true, eR 4 3 (fun _ => none)) := kst _ _ (by omega) (by omega) c1
  replace c2 : u10.2 (w.1 + 2) = some (true, eR 5 3 (fun _ => none)) := kst _ _ (by omega) (by omega) c2
  replace c3f : u10.2 (w.1 + 3) = some (true, eO 3 [iI 0, iI 0, .ref (w.1 + 4), .ref (w.1 + 5), .ref (w.1 + 6), .ref (w.1 + 7), .ref (w.1 + 8)]) := kst _ _ (by omega) (by omega) c3f
  replace c4 : u10.2 (w.1 + 4) = some (true, eI 26 (fun _ => 0)) := kst _ _ (by omega) (by omega) c4
  replace c5 : u10.2 (w.1 + 5) = some (true, eI 26 (fun _ => 0)) := kst _ _ (by omega) (by omega) c5
  replace c6 : u10.2 (w.1 + 6) = some (true, eI 26 (fun _ => 0)) := kst _ _ (by omega) (by omega) c6
  replace c7 : u10.2 (w.1 + 7) = some (true, eR 6 27 T1) := kst _ _ (by omega) (by omega) c7
  replace c8 : u10.2 (w.1 + 8) = some (true, eR 6 27 T2) := kst _ _ (by omega) (by omega) c8
  replace p9 : ∀ k, k < 27 → T1 k = some (w.1 + 9 + 4 * k) ∧ T2 k = some (w.1 + 11 + 4 * k) ∧ WS u10 (w.1 + 9 + 4 * k) (w.1 + 10 + 4 * k) ∧ WS u10 (w.1 + 11 + 4 * k) (w.1 + 12 + 4 * k) := fun k hk => by
    have g := p9 k hk
    exact ⟨g.1, g.2.1, g.2.2.1.kp (fun q x hq e => kst q x (by omega) (by omega) e), g.2.2.2.kp (fun q x hq e => kst q x (by omega) (by omega) e)⟩
  replace c117f : u10.2 (w.1 + 117) = some (true, eO 2 [.ref (w.1 + 118), .ref (w.1 + 120), .ref (w.1 + 122), .ref (w.1 + 124), .ref (w.1 + 126)]) := (yu10.2 _ _ (by omega) c117f)
  replace q118 : WS u10 (w.1 + 118) (w.1 + 119) := (q118.exx yu10 (by first | exact Nat.ne_of_gt (Nat.lt_of_lt_of_le hmw (Nat.le_add_right _ _)) | exact Nat.ne_of_gt hmw | omega) (by first | exact Nat.ne_of_gt (Nat.lt_of_lt_of_le hmw (Nat.le_add_right _ _)) | exact Nat.ne_of_gt hmw | omega))
  replace q120 : WS u10 (w.1 + 120) (w.1 + 121) := (q120.exx yu10 (by first | exact Nat.ne_of_gt (Nat.lt_of_lt_of_le hmw (Nat.le_add_right _ _)) | exact Nat.ne_of_gt hmw | omega) (by first | exact Nat.ne_of_gt (Nat.lt_of_lt_of_le hmw (Nat.le_add_right _ _)) | exact Nat.ne_of_gt hmw | omega))
  replace q122 : WS u10 (w.1 + 122) (w.1 + 123) := (q122.exx yu10 (by first | exact Nat.ne_of_gt (Nat.lt_of_lt_of_le hmw (Nat.le_add_right _ _)) | exact Nat.ne_of_gt hmw | omega) (by first | exact Nat.ne_of_gt (Nat.lt_of_lt_of_le hmw (Nat.le_add_right _ _)) | exact Nat.ne_of_gt hmw | omega))
  replace q124 : WS u10 (w.1 + 124) (w.1 + 125) := (q124.exx yu10 (by first | exact Nat.ne_of_gt (Nat.lt_of_lt_of_le hmw (Nat.le_add_right _ _)) | exact Nat.ne_of_gt hmw | omega) (by first | exact Nat.ne_of_gt (Nat.lt_of_lt_of_le hmw (Nat.le_add_right _ _)) | exact Nat.ne_of_gt hmw | omega))
  replace c126 : u10.2 (w.1 + 126) = some (true, eB 63 (fun _ => 0)) := (yu10.2 _ _ (by omega) c126)
  replace hkeep : ∀ b x, b ≠ a → w.2 b = some x → u10.2 b = some x := fun b x hb e => by
    have hbl := hwf b x e
    exact kst _ _ (by omega) (by omega) (hkeep _ _ hb e)
  clear kst
  try clear hu10
  try clear zu10
  try clear yu10
  try clear hw44
  try clear zw44
  try clear yw44
  try clear nw44
  try clear fw44
  try clear ow44
  try clear hu9
  try clear zu9
  try clear yu9
  try clear nu9
  try clear fu9
  try clear ou9
  try clear ou8
  try clear nu8
  try clear fu8
  try clear w44
  try clear u9
  try clear u8
  refine g_aload_n C dX6_init_50 rfl ?_
  refine g_new (ci := 4) C rfl inTX2 tyX2 tyX2_ok kl_RX6_15 ib_RX2 in_RX2 (fs := [iI 0, .null, .null]) (by intro j hj; repeat (first | rfl | (cases j; rfl) | (rename_i j; cases j; rfl) | omega)) (by omega) dX6_init_51 ?_
  obtain ⟨u11, hu11⟩ : ∃ u11, u11 = wpush u10 (true, eO 4 [iI 0, .null, .null]) := ⟨_, rfl⟩
  refine g_eqw (w' := u11) (by rw [hu11]; first | done | rfl) ?_
  have nu11 : u11.1 = w.1 + 128 := by
    have e0 : u10.1 = w.1 + 127 := nu10
    rw [hu11]; show u10.1 + 1 = _; omega
  have zu11 : Ex u10 u11 := by rw [hu11]; exact Ex.push fu10 _
  have yu11 : ExX u10 u11 a := zu11.exx _
  have ou11 := zu11.2 _ _ ou10
  have c127 : u11.2 (w.1 + 127) = some (true, eO 4 [iI 0, .null, .null]) := by
    have e0 : (wpush u10 (true, eO 4 [iI 0, .null, .null])).2 u10.1 = some (true, eO 4 [iI 0, .null, .null]) := wpush_s
    rw [← hu11, nu10] at e0
    exact e0
  refine g_wf (fun fu11 => ?_)
  rw [nu10]
  refine g_dup C dX6_init_54 rfl ?_
  refine t_callI C hT (s_X2_init _ (w := u11) (a := w.1 + 127) c127) ml_RX6_41 im_yX2_init in_RX2 co_yX2_init rfl hd_X2_init rfl ⟨by omega, by omega⟩ rfl (Nat.le_of_ble_eq_true rfl) ⟨by omega, by omega⟩ dX6_init_55 (fun v55 w55 hp55 => ?_)
  obtain ⟨rfl, z55, o55, q55a, q55b, x55⟩ := hp55
  have nw55 : w55.1 = w.1 + 132 := by have g1 := z55; have g2 := nu11; omega
  have yw55 : ExX u11 w55 (w.1 + 127) := x55
  have ow55 := yw55.2 _ _ (by omega) ou11
  refine g_wf (fun fw55 => ?_)
  have c127f : w55.2 (w.1 + 127) = some (true, eO 4 [iI 2, .ref (w.1 + 128), .ref (w.1 + 130)]) := by rw [nu11] at o55; exact o55
  have q128 : WA w55 (w.1 + 128) (w.1 + 129) 1 := by rw [nu11] at q55a; exact q55a
  have q130 : WA w55 (w.1 + 130) (w.1 + 131) 0 := by rw [nu11] at q55b; exact q55b
  refine g_putF (ci := 8) C rfl inTX6 tyX6 tyX6_ok nmX6 5 (by decide) fl_RX6_42 rfl rfl hnm rfl ow55 (Nat.le_of_ble_eq_true rfl) rfl rfl dX6_init_58 ?_
  obtain ⟨u12, hu12⟩ : ∃ u12, u12 = wset w55 a (true, eO 8 [.ref w.1, .ref (w.1 + 1), .ref (w.1 + 2), .ref (w.1 + 3), .ref (w.1 + 117), .ref (w.1 + 127), .null, .null, .null, .null, iI 0, iI 0, iI 0, iI 0, iI 0]) := ⟨_, rfl⟩
  refine g_eqw (w' := u12) hu12.symm ?_
  have nu12 : u12.1 = w.1 + 132 := by rw [hu12]; exact nw55
  have yu12 : ExX w55 u12 a := by rw [hu12]; exact ExX.set _ _ _
  have ou12 : u12.2 a = some (true, eO 8 [.ref w.1, .ref (w.1 + 1), .ref (w.1 + 2), .ref (w.1 + 3), .ref (w.1 + 117), .ref (w.1 + 127), .null, .null, .null, .null, iI 0, iI 0, iI 0, iI 0, iI 0]) := by rw [hu12]; exact wset_s
  refine g_wf (fun fu12 => ?_)
  have kst : ∀ q x, q ≠ a → q ≠ w.1 + 127 → u10.2 q = some x → u12.2 q = some x := fun q x h0 h1 e => (yu12.2 _ _ (by assumption) (yw55.2 _ _ (by assumption) (yu11.2 _ _ (by assumption) e)))
  replace c0 : u12.2 w.1 = some (true, eR 3 3 (fun _ => none)) := kst _ _ (by omega) (by omega) c0
  replace c1 : u12.2 (w.1 + 1) = some (true, eR 4 3 (fun _ => none)) := kst _ _ (by omega) (by omega) c1
  replace c2 : u12.2 (w.1 + 2) = some (true, eR 5 3 (fun _ => none)) := kst _ _ (by omega) (by omega) c2
  replace c3f : u12.2 (w.1 + 3) = some (true, eO 3 [iI 0, iI 0, .ref (w.1 + 4), .ref (w.1 + 5), .ref (w.1 + 6), .ref (w.1 + 7), .ref (w.1 + 8)]) := kst _ _ (by omega) (by omega) c3f
  replace c4 : u12.2 (w.1 + 4) = some (true, eI 26 (fun _ => 0)) := kst _ _ (by omega) (by omega) c4
  replace c5 : u12.2 (w.1 + 5) = some (true, eI 26 (fun _ => 0)) := kst _ _ (by omega) (by omega) c5
  replace c6 : u12.2 (w.1 + 6) = some (true, eI 26 (fun _ => 0)) := kst _ _ (by omega) (by omega) c6
  replace c7 : u12.2 (w.1 + 7) = some (true, eR 6 27 T1) := kst _ _ (by omega) (by omega) c7
  replace c8 : u12.2 (w.1 + 8) = some (true, eR 6 27 T2) := kst _ _ (by omega) (by omega) c8
  replace p9 : ∀ k, k < 27 → T1 k = some (w.1 + 9 + 4 * k) ∧ T2 k = some (w.1 + 11 + 4 * k) ∧ WS u12 (w.1 + 9 + 4 * k) (w.1 + 10 + 4 * k) ∧ WS u12 (w.1 + 11 + 4 * k) (w.1 + 12 + 4 * k) := fun k hk => by
    have g := p9 k hk
    exact ⟨g.1, g.2.1, g.2.2.1.kp (fun q x hq e => kst q x (by omega) (by omega) e), g.2.2.2.kp (fun q x hq e => kst q x (by omega) (by omega) e)⟩
  replace c117f : u12.2 (w.1 + 117) = some (true, eO 2 [.ref (w.1 + 118), .ref (w.1 + 120), .ref (w.1 + 122), .ref (w.1 + 124), .ref (w.1 + 126)]) := kst _ _ (by omega) (by omega) c117f
  replace q118 : WS u12 (w.1 + 118) (w.1 + 119) := q118.kp (fun q x hq e => kst q x (by omega) (by omega) e)
  replace q120 : WS u12 (w.1 + 120) (w.1 + 121) := q120.kp (fun q x hq e => kst q x (by omega) (by omega) e)
  replace q122 : WS u12 (w.1 + 122) (w.1 + 123) := q122.kp (fun q x hq e => kst q x (by omega) (by omega) e)
  replace q124 : WS u12 (w.1 + 124) (w.1 + 125) := q124.kp (fun q x hq e => kst q x (by omega) (by omega) e)
  replace c126 : u12.2 (w.1 + 126) = some (true, eB 63 (fun _ => 0)) := kst _ _ (by omega) (by omega) c126
  replace c127f : u12.2 (w.1 + 127) = some (true, eO 4 [iI 2, .ref (w.1 + 128), .ref (w.1 + 130)]) := (yu12.2 _ _ (by omega) c127f)
  replace q128 : WA u12 (w.1 + 128) (w.1 + 129) 1 := (q128.exx yu12 (by first | exact Nat.ne_of_gt (Nat.lt_of_lt_of_le hmw (Nat.le_add_right _ _)) | exact Nat.ne_of_gt hmw | omega) (by first | exact Nat.ne_of_gt (Nat.lt_of_lt_of_le hmw (Nat.le_add_right _ _)) | exact Nat.ne_of_gt hmw | omega))
  replace q130 : WA u12 (w.1 + 130) (w.1 + 131) 0 := (q130.exx yu12 (by first | exact Nat.ne_of_gt (Nat.lt_of_lt_of_le hmw (Nat.le_add_right _ _)) | exact Nat.ne_of_gt hmw | omega) (by first | exact Nat.ne_of_gt (Nat.lt_of_lt_of_le hmw (Nat.le_add_right _ _)) | exact Nat.ne_of_gt hmw | omega))
  replace hkeep : ∀ b x, b ≠ a → w.2 b = some x → u12.2 b = some x := fun b x hb e => by
    have hbl := hwf b x e
    exact kst _ _ (by omega) (by omega) (hkeep _ _ hb e)
  clear kst
  try clear hu12
  try clear zu12
  try clear yu12
  try clear hw55
  try clear zw55
  try clear yw55
  try clear nw55
  try clear fw55
  try clear ow55
  try clear hu11
  try clear zu11
  try clear yu11
  try clear nu11
  try clear fu11
  try clear ou11
  try clear ou10
  try clear nu10
  try clear fu10
  try clear w55
  try clear u11
  try clear u10
  refine g_aload_n C dX6_init_61 rfl ?_
  refine g_new (ci := 4) C rfl inTX2 tyX2 tyX2_ok kl_RX6_15 ib_RX2 in_RX2 (fs := [iI 0, .null, .null]) (by intro j hj; repeat (first | rfl | (cases j; rfl) | (rename_i j; cases j; rfl) | omega)) (by omega) dX6_init_62 ?_
  obtain ⟨u13, hu13⟩ : ∃ u13, u13 = wpush u12 (true, eO 4 [iI 0, .null, .null]) := ⟨_, rfl⟩
  refine g_eqw (w' := u13) (by rw [hu13]; first | done | rfl) ?_
  have nu13 : u13.1 = w.1 + 133 := by
    have e0 : u12.1 = w.1 + 132 := nu12
    rw [hu13]; show u12.1 + 1 = _; omega
  have zu13 : Ex u12 u13 := by rw [hu13]; exact Ex.push fu12 _
  have yu13 : ExX u12 u13 a := zu13.exx _
  have ou13 := zu13.2 _ _ ou12
  have c132 : u13.2 (w.1 + 132) = some (true, eO 4 [iI 0, .null, .null]) := by
    have e0 : (wpush u12 (true, eO 4 [iI 0, .null, .null])).2 u12.1 = some (true, eO 4 [iI 0, .null, .null]) := wpush_s
    rw [← hu13, nu12] at e0
    exact e0
  refine g_wf (fun fu13 => ?_)
  rw [nu12]
  refine g_dup C dX6_init_65 rfl ?_
  refine t_callI C hT (s_X2_init _ (w := u13) (a := w.1 + 132) c132) ml_RX6_41 im_yX2_init in_RX2 co_yX2_init rfl hd_X2_init rfl ⟨by omega, by omega⟩ rfl (Nat.le_of_ble_eq_true rfl) ⟨by omega, by omega⟩ dX6_init_66 (fun v66 w66 hp66 => ?_)
  obtain ⟨rfl, z66, o66, q66a, q66b, x66⟩ := hp66
  have nw66 : w66.1 = w.1 + 137 := by have g1 := z66; have g2 := nu13; omega
  have yw66 : ExX u13 w66 (w.1 + 132) := x66
  have ow66 := yw66.2 _ _ (by omega) ou13
  refine g_wf (fun fw66 => ?_)
  have c132f : w66.2 (w.1 + 132) = some (true, eO 4 [iI 2, .ref (w.1 + 133), .ref (w.1 + 135)]) := by rw [nu13] at o66; exact o66
  have q133 : WA w66 (w.1 + 133) (w.1 + 134) 1 := by rw [nu13] at q66a; exact q66a
  have q135 : WA w66 (w.1 + 135) (w.1 + 136) 0 := by rw [nu13] at q66b; exact q66b
  refine g_putF (ci := 8) C rfl inTX6 tyX6 tyX6_ok nmX6 6 (by decide) fl_RX6_46 rfl rfl hnm rfl ow66 (Nat.le_of_ble_eq_true rfl) rfl rfl dX6_init_69 ?_
  obtain ⟨u14, hu14⟩ : ∃ u14, u14 = wset w66 a (true, eO 8 [.ref w.1, .ref (w.1 + 1), .ref (w.1 + 2), .ref (w.1 + 3), .ref (w.1 + 117), .ref (w.1 + 127), .ref (w.1 + 132), .null, .null, .null, iI 0, iI 0, iI 0, iI 0, iI 0]) := ⟨_, rfl⟩
  refine g_eqw (w' := u14) hu14.symm ?_
  have nu14 : u14.1 = w.1 + 137 := by rw [hu14]; exact nw66
  have yu14 : ExX w66 u14 a := by rw [hu14]; exact ExX.set _ _ _
  have ou14 : u14.2 a = some (true, eO 8 [.ref w.1, .ref (w.1 + 1), .ref (w.1 + 2), .ref (w.1 + 3), .ref (w.1 + 117), .ref (w.1 + 127), .ref (w.1 + 132), .null, .null, .null, iI 0, iI 0, iI 0, iI 0, iI 0]) := by rw [hu14]; exact wset_s
  refine g_wf (fun fu14 => ?_)
  have kst : ∀ q x, q ≠ a → q ≠ w.1 + 132 → u12.2 q = some x → u14.2 q = some x := fun q x h0 h1 e => (yu14.2 _ _ (by assumption) (yw66.2 _ _ (by assumption) (yu13.2 _ _ (by assumption) e)))
  replace c0 : u14.2 w.1 = some (true, eR 3 3 (fun _ => none)) := kst _ _ (by omega) (by omega) c0
  replace c1 : u14.2 (w.1 + 1) = some (true, eR 4 3 (fun _ => none)) := kst _ _ (by omega) (by omega) c1
  replace c2 : u14.2 (w.1 + 2) = some (true, eR 5 3 (fun _ => none)) := kst _ _ (by omega) (by omega) c2
  replace c3f : u14.2 (w.1 + 3) = some (true, eO 3 [iI 0, iI 0, .ref (w.1 + 4), .ref (w.1 + 5), .ref (w.1 + 6), .ref (w.1 + 7), .ref (w.1 + 8)]) := kst _ _ (by omega) (by omega) c3f
  replace c4 : u14.2 (w.1 + 4) = some (true, eI 26 (fun _ => 0)) := kst _ _ (by omega) (by omega) c4
  replace c5 : u14.2 (w.1 + 5) = some (true, eI 26 (fun _ => 0)) := kst _ _ (by omega) (by omega) c5
  replace c6 : u14.2 (w.1 + 6) = some (true, eI 26 (fun _ => 0)) := kst _ _ (by omega) (by omega) c6
  replace c7 : u14.2 (w.1 + 7) = some (true, eR 6 27 T1) := kst _ _ (by omega) (by omega) c7
  replace c8 : u14.2 (w.1 + 8) = some (true, eR 6 27 T2) := kst _ _ (by omega) (by omega) c8
  replace p9 : ∀ k, k < 27 → T1 k = some (w.1 + 9 + 4 * k) ∧ T2 k = some (w.1 + 11 + 4 * k) ∧ WS u14 (w.1 + 9 + 4 * k) (w.1 + 10 + 4 * k) ∧ WS u14 (w.1 + 11 + 4 * k) (w.1 + 12 + 4 * k) := fun k hk => by
    have g := p9 k hk
    exact ⟨g.1, g.2.1, g.2.2.1.kp (fun q x hq e => kst q x (by omega) (by omega) e), g.2.2.2.kp (fun q x hq e => kst q x (by omega) (by omega) e)⟩
  replace c117f : u14.2 (w.1 + 117) = some (true, eO 2 [.ref (w.1 + 118), .ref (w.1 + 120), .ref (w.1 + 122), .ref (w.1 + 124), .ref (w.1 + 126)]) := kst _ _ (by omega) (by omega) c117f
  replace q118 : WS u14 (w.1 + 118) (w.1 + 119) := q118.kp (fun q x hq e => kst q x (by omega) (by omega) e)
  replace q120 : WS u14 (w.1 + 120) (w.1 + 121) := q120.kp (fun q x hq e => kst q x (by omega) (by omega) e)
  replace q122 : WS u14 (w.1 + 122) (w.1 + 123) := q122.kp (fun q x hq e => kst q x (by omega) (by omega) e)
  replace q124 : WS u14 (w.1 + 124) (w.1 + 125) := q124.kp (fun q x hq e => kst q x (by omega) (by omega) e)
  replace c126 : u14.2 (w.1 + 126) = some (true, eB 63 (fun _ => 0)) := kst _ _ (by omega) (by omega) c126
  replace c127f : u14.2 (w.1 + 127) = some (true, eO 4 [iI 2, .ref (w.1 + 128), .ref (w.1 + 130)]) := kst _ _ (by omega) (by omega) c127f
  replace q128 : WA u14 (w.1 + 128) (w.1 + 129) 1 := q128.kp (fun q x hq e => kst q x (by omega) (by omega) e)
  replace q130 : WA u14 (w.1 + 130) (w.1 + 131) 0 := q130.kp (fun q x hq e => kst q x (by omega) (by omega) e)
  replace c132f : u14.2 (w.1 + 132) = some (true, eO 4 [iI 2, .ref (w.1 + 133), .ref (w.1 + 135)]) := (yu14.2 _ _ (by omega) c132f)
  replace q133 : WA u14 (w.1 + 133) (w.1 + 134) 1 := (q133.exx yu14 (by first | exact Nat.ne_of_gt (Nat.lt_of_lt_of_le hmw (Nat.le_add_right _ _)) | exact Nat.ne_of_gt hmw | omega) (by first | exact Nat.ne_of_gt (Nat.lt_of_lt_of_le hmw (Nat.le_add_right _ _)) | exact Nat.ne_of_gt hmw | omega))
  replace q135 : WA u14 (w.1 + 135) (w.1 + 136) 0 := (q135.exx yu14 (by first | exact Nat.ne_of_gt (Nat.lt_of_lt_of_le hmw (Nat.le_add_right _ _)) | exact Nat.ne_of_gt hmw | omega) (by first | exact Nat.ne_of_gt (Nat.lt_of_lt_of_le hmw (Nat.le_add_right _ _)) | exact Nat.ne_of_gt hmw | omega))
  replace hkeep : ∀ b x, b ≠ a → w.2 b = some x → u14.2 b = some x := fun b x hb e => by
    have hbl := hwf b x e
    exact kst _ _ (by omega) (by omega) (hkeep _ _ hb e)
  clear kst
  try clear hu14
  try clear zu14
  try clear yu14
  try clear hw66
  try clear zw66
  try clear yw66
  try clear nw66
  try clear fw66
  try clear ow66
  try clear hu13
  try clear zu13
  try clear yu13
  try clear nu13
  try clear fu13
  try clear ou13
  try clear ou12
  try clear nu12
  try clear fu12
  try clear w66
  try clear u13
  try clear u12
  refine g_aload_n C dX6_init_72 rfl ?_
  refine g_new (ci := 4) C rfl inTX2 tyX2 tyX2_ok kl_RX6_15 ib_RX2 in_RX2 (fs := [iI 0, .null, .null]) (by intro j hj; repeat (first | rfl | (cases j; rfl) | (rename_i j; cases j; rfl) | omega)) (by omega) dX6_init_73 ?_
  obtain ⟨u15, hu15⟩ : ∃ u15, u15 = wpush u14 (true, eO 4 [iI 0, .null, .null]) := ⟨_, rfl⟩
  refine g_eqw (w' := u15) (by rw [hu15]; first | done | rfl) ?_
  have nu15 : u15.1 = w.1 + 138 := by
    have e0 : u14.1 = w.1 + 137 := nu14
    rw [hu15]; show u14.1 + 1 = _; omega
  have zu15 : Ex u14 u15 := by rw [hu15]; exact Ex.push fu14 _
  have yu15 : ExX u14 u15 a := zu15.exx _
  have ou15 := zu15.2 _ _ ou14
  have c137 : u15.2 (w.1 + 137) = some (true, eO 4 [iI 0, .null, .null]) := by
    have e0 : (wpush u14 (true, eO 4 [iI 0, .null, .null])).2 u14.1 = some (true, eO 4 [iI 0, .null, .null]) := wpush_s
    rw [← hu15, nu14] at e0
    exact e0
  refine g_wf (fun fu15 => ?_)
  rw [nu14]
  refine g_dup C dX6_init_76 rfl ?_
  refine t_callI C hT (s_X2_init _ (w := u15) (a := w.1 + 137) c137) ml_RX6_41 im_yX2_init in_RX2 co_yX2_init rfl hd_X2_init rfl ⟨by omega, by omega⟩ rfl (Nat.le_of_ble_eq_true rfl) ⟨by omega, by omega⟩ dX6_init_77 (fun v77 w77 hp77 => ?_)
  obtain ⟨rfl, z77, o77, q77a, q77b, x77⟩ := hp77
  have nw77 : w77.1 = w.1 + 142 := by have g1 := z77; have g2 := nu15; omega
  have yw77 : ExX u15 w77 (w.1 + 137) := x77
  have ow77 := yw77.2 _ _ (by omega) ou15
  refine g_wf (fun fw77 => ?_)
  have c137f : w77.2 (w.1 + 137) = some (true, eO 4 [iI 2, .ref (w.1 + 138), .ref (w.1 + 140)]) := by rw [nu15] at o77; exact o77
  have q138 : WA w77 (w.1 + 138) (w.1 + 139) 1 := by rw [nu15] at q77a; exact q77a
  have q140 : WA w77 (w.1 + 140) (w.1 + 141) 0 := by rw [nu15] at q77b; exact q77b
  refine g_putF (ci := 8) C rfl inTX6 tyX6 tyX6_ok nmX6 7 (by decide) fl_RX6_49 rfl rfl hnm rfl ow77 (Nat.le_of_ble_eq_true rfl) rfl rfl dX6_init_80 ?_
  obtain ⟨u16, hu16⟩ : ∃ u16, u16 = wset w77 a (true, eO 8 [.ref w.1, .ref (w.1 + 1), .ref (w.1 + 2), .ref (w.1 + 3), .ref (w.1 + 117), .ref (w.1 + 127), .ref (w.1 + 132), .ref (w.1 + 137), .null, .null, iI 0, iI 0, iI 0, iI 0, iI 0]) := ⟨_, rfl⟩
  refine g_eqw (w' := u16) hu16.symm ?_
  have nu16 : u16.1 = w.1 + 142 := by rw [hu16]; exact nw77
  have yu16 : ExX w77 u16 a := by rw [hu16]; exact ExX.set _ _ _
  have ou16 : u16.2 a = some (true, eO 8 [.ref w.1, .ref (w.1 + 1), .ref (w.1 + 2), .ref (w.1 + 3), .ref (w.1 + 117), .ref (w.1 + 127), .ref (w.1 + 132), .ref (w.1 + 137), .null, .null, iI 0, iI 0, iI 0, iI 0, iI 0]) := by rw [hu16]; exact wset_s
  refine g_wf (fun fu16 => ?_)
  have kst : ∀ q x, q ≠ a → q ≠ w.1 + 137 → u14.2 q = some x → u16.2 q = some x := fun q x h0 h1 e => (yu16.2 _ _ (by assumption) (yw77.2 _ _ (by assumption) (yu15.2 _ _ (by assumption) e)))
  replace c0 : u16.2 w.1 = some (true, eR 3 3 (fun _ => none)) := kst _ _ (by omega) (by omega) c0
  replace c1 : u16.2 (w.1 + 1) = some (true, eR 4 3 (fun _ => none)) := kst _ _ (by omega) (by omega) c1
  replace c2 : u16.2 (w.1 + 2) = some (true, eR 5 3 (fun _ => none)) := kst _ _ (by omega) (by omega) c2
  replace c3f : u16.2 (w.1 + 3) = some (true, eO 3 [iI 0, iI 0, .ref (w.1 + 4), .ref (w.1 + 5), .ref (w.1 + 6), .ref (w.1 + 7), .ref (w.1 + 8)]) := kst _ _ (by omega) (by omega) c3f
  replace c4 : u16.2 (w.1 + 4) = some (true, eI 26 (fun _ => 0)) := kst _ _ (by omega) (by omega) c4
  replace c5 : u16.2 (w.1 + 5) = some (true, eI 26 (fun _ => 0)) := kst _ _ (by omega) (by omega) c5
  replace c6 : u16.2 (w.1 + 6) = some (true, eI 26 (fun _ => 0)) := kst _ _ (by omega) (by omega) c6
  replace c7 : u16.2 (w.1 + 7) = some (true, eR 6 27 T1) := kst _ _ (by omega) (by omega) c7
  replace c8 : u16.2 (w.1 + 8) = some (true, eR 6 27 T2) := kst _ _ (by omega) (by omega) c8
  replace p9 : ∀ k, k < 27 → T1 k = some (w.1 + 9 + 4 * k) ∧ T2 k = some (w.1 + 11 + 4 * k) ∧ WS u16 (w.1 + 9 + 4 * k) (w.1 + 10 + 4 * k) ∧ WS u16 (w.1 + 11 + 4 * k) (w.1 + 12 + 4 * k) := fun k hk => by
    have g := p9 k hk
    exact ⟨g.1, g.2.1, g.2.2.1.kp (fun q x hq e => kst q x (by omega) (by omega) e), g.2.2.2.kp (fun q x hq e => kst q x (by omega) (by omega) e)⟩
  replace c117f : u16.2 (w.1 + 117) = some (true, eO 2 [.ref (w.1 + 118), .ref (w.1 + 120), .ref (w.1 + 122), .ref (w.1 + 124), .ref (w.1 + 126)]) := kst _ _ (by omega) (by omega) c117f
  replace q118 : WS u16 (w.1 + 118) (w.1 + 119) := q118.kp (fun q x hq e => kst q x (by omega) (by omega) e)
  replace q120 : WS u16 (w.1 + 120) (w.1 + 121) := q120.kp (fun q x hq e => kst q x (by omega) (by omega) e)
  replace q122 : WS u16 (w.1 + 122) (w.1 + 123) := q122.kp (fun q x hq e => kst q x (by omega) (by omega) e)
  replace q124 : WS u16 (w.1 + 124) (w.1 + 125) := q124.kp (fun q x hq e => kst q x (by omega) (by omega) e)
  replace c126 : u16.2 (w.1 + 126) = some (true, eB 63 (fun _ => 0)) := kst _ _ (by omega) (by omega) c126
  replace c127f : u16.2 (w.1 + 127) = some (true, eO 4 [iI 2, .ref (w.1 + 128), .ref (w.1 + 130)]) := kst _ _ (by omega) (by omega) c127f
  replace q128 : WA u16 (w.1 + 128) (w.1 + 129) 1 := q128.kp (fun q x hq e => kst q x (by omega) (by omega) e)
  replace q130 : WA u16 (w.1 + 130) (w.1 + 131) 0 := q130.kp (fun q x hq e => kst q x (by omega) (by omega) e)
  replace c132f : u16.2 (w.1 + 132) = some (true, eO 4 [iI 2, .ref (w.1 + 133), .ref (w.1 + 135)]) := kst _ _ (by omega) (by omega) c132f
  replace q133 : WA u16 (w.1 + 133) (w.1 + 134) 1 := q133.kp (fun q x hq e => kst q x (by omega) (by omega) e)
  replace q135 : WA u16 (w.1 + 135) (w.1 + 136) 0 := q135.kp (fun q x hq e => kst q x (by omega) (by omega) e)
  replace c137f : u16.2 (w.1 + 137) = some (true, eO 4 [iI 2, .ref (w.1 + 138), .ref (w.1 + 140)]) := (yu16.2 _ _ (by omega) c137f)
  replace q138 : WA u16 (w.1 + 138) (w.1 + 139) 1 := (q138.exx yu16 (by first | exact Nat.ne_of_gt (Nat.lt_of_lt_of_le hmw (Nat.le_add_right _ _)) | exact Nat.ne_of_gt hmw | omega) (by first | exact Nat.ne_of_gt (Nat.lt_of_lt_of_le hmw (Nat.le_add_right _ _)) | exact Nat.ne_of_gt hmw | omega))
  replace q140 : WA u16 (w.1 + 140) (w.1 + 141) 0 := (q140.exx yu16 (by first | exact Nat.ne_of_gt (Nat.lt_of_lt_of_le hmw (Nat.le_add_right _ _)) | exact Nat.ne_of_gt hmw | omega) (by first | exact Nat.ne_of_gt (Nat.lt_of_lt_of_le hmw (Nat.le_add_right _ _)) | exact Nat.ne_of_gt hmw | omega))
  replace hkeep : ∀ b x, b ≠ a → w.2 b = some x → u16.2 b = some x := fun b x hb e => by
    have hbl := hwf b x e
    exact kst _ _ (by omega) (by omega) (hkeep _ _ hb e)
  clear kst
  try clear hu16
  try clear zu16
  try clear yu16
  try clear hw77
  try clear zw77
  try clear yw77
  try clear nw77
  try clear fw77
  try clear ow77
  try clear hu15
  try clear zu15
  try clear yu15
  try clear nu15
  try clear fu15
  try clear ou15
  try clear ou14
  try clear nu14
  try clear fu14
  try clear w77
  try clear u15
  try clear u14
  refine g_aload_n C dX6_init_83 rfl ?_
  refine g_new (ci := 5) C rfl inTX3 tyX3 tyX3_ok kl_RX6_21 ib_RX3 in_RX3 (fs := [iI 0, iI 0, iI 0, iI 0, iI 0, iI 0, iI 0, iI 0]) (by intro j hj; repeat (first | rfl | (cases j; rfl) | (rename_i j; cases j; rfl) | omega)) (by omega) dX6_init_84 ?_
  obtain ⟨u17, hu17⟩ : ∃ u17, u17 = wpush u16 (true, eO 5 [iI 0, iI 0, iI 0, iI 0, iI 0, iI 0, iI 0, iI 0]) := ⟨_, rfl⟩
  refine g_eqw (w' := u17) (by rw [hu17]; first | done | rfl) ?_
  have nu17 : u17.1 = w.1 + 143 := by
    have e0 : u16.1 = w.1 + 142 := nu16
    rw [hu17]; show u16.1 + 1 = _; omega
  have zu17 : Ex u16 u17 := by rw [hu17]; exact Ex.push fu16 _
  have yu17 : ExX u16 u17 a := zu17.exx _
  have ou17 := zu17.2 _ _ ou16
  have c142 : u17.2 (w.1 + 142) = some (true, eO 5 [iI 0, iI 0, iI 0, iI 0, iI 0, iI 0, iI 0, iI 0]) := by
    have e0 : (wpush u16 (true, eO 5 [iI 0, iI 0, iI 0, iI 0, iI 0, iI 0, iI 0, iI 0])).2 u16.1 = some (true, eO 5 [iI 0, iI 0, iI 0, iI 0, iI 0, iI 0, iI 0, iI 0]) := wpush_s
    rw [← hu17, nu16] at e0
    exact e0
  refine g_wf (fun fu17 => ?_)
  rw [nu16]
  refine g_dup C dX6_init_87 rfl ?_
  refine t_callI C hT (s_X3_init _ (w := u17) (a := w.1 + 142) c142) ml_RX6_52 im_yX3_init in_RX3 co_yX3_init rfl hd_X3_init rfl ⟨by omega, by omega⟩ rfl (Nat.le_of_ble_eq_true rfl) ⟨by omega, by omega⟩ dX6_init_88 (fun v88 w88 hp88 => ?_)
  obtain ⟨rfl, hz88⟩ := hp88
  have nw88 : w88.1 = w.1 + 143 := by have g1 := (show w88.1 = u17.1 from by rw [hz88]; rfl); have g2 := nu17; omega
  have yw88 : ExX u17 w88 (w.1 + 142) := (by rw [hz88]; exact ExX.set _ _ _)
  have ow88 := yw88.2 _ _ (by omega) ou17
  refine g_wf (fun fw88 => ?_)
  have c142f : w88.2 (w.1 + 142) = some (true, oS 5 0) := by rw [hz88]; exact wset_s
  refine g_putF (ci := 8) C rfl inTX6 tyX6 tyX6_ok nmX6 8 (by decide) fl_RX6_53 rfl rfl hnm rfl ow88 (Nat.le_of_ble_eq_true rfl) rfl rfl dX6_init_91 ?_
  obtain ⟨u18, hu18⟩ : ∃ u18, u18 = wset w88 a (true, eO 8 [.ref w.1, .ref (w.1 + 1), .ref (w.1 + 2), .ref (w.1 + 3), .ref (w.1 + 117), .ref (w.1 + 127), .ref (w.1 + 132), .ref (w.1 + 137), .ref (w.1 + 142), .null, iI 0, iI 0, iI 0, iI 0, iI 0]) := ⟨_, rfl⟩
  refine g_eqw (w' := u18) hu18.symm ?_
  have nu18 : u18.1 = w.1 + 143 := by rw [hu18]; exact nw88
  have yu18 : ExX w88 u18 a := by rw [hu18]; exact ExX.set _ _ _
  have ou18 : u18.2 a = some (true, eO 8 [.ref w.1, .ref (w.1 + 1), .ref (w.1 + 2), .ref (w.1 + 3), .ref (w.1 + 117), .ref (w.1 + 127), .ref (w.1 + 132), .ref (w.1 + 137), .ref (w.1 + 142), .null, iI 0, iI 0, iI 0, iI 0, iI 0]) := by rw [hu18]; exact wset_s
  refine g_wf (fun fu18 => ?_)
  have kst : ∀ q x, q ≠ a → q ≠ w.1 + 142 → u16.2 q = some x → u18.2 q = some x := fun q x h0 h1 e => (yu18.2 _ _ (by assumption) (yw88.2 _ _ (by assumption) (yu17.2 _ _ (by assumption) e)))
  replace c0 : u18.2 w.1 = some (true, eR 3 3 (fun _ => none)) := kst _ _ (by omega) (by omega) c0
  replace c1 : u18.2 (w.1 + 1) = some (true, eR 4 3 (fun _ => none)) := kst _ _ (by omega) (by omega) c1
  replace c2 : u18.2 (w.1 + 2) = some (true, eR 5 3 (fun _ => none)) := kst _ _ (by omega) (by omega) c2
  replace c3f : u18.2 (w.1 + 3) = some (true, eO 3 [iI 0, iI 0, .ref (w.1 + 4), .ref (w.1 + 5), .ref (w.1 + 6), .ref (w.1 + 7), .ref (w.1 + 8)]) := kst _ _ (by omega) (by omega) c3f
  replace c4 : u18.2 (w.1 + 4) = some (true, eI 26 (fun _ => 0)) := kst _ _ (by omega) (by omega) c4
  replace c5 : u18.2 (w.1 + 5) = some (true, eI 26 (fun _ => 0)) := kst _ _ (by omega) (by omega) c5
  replace c6 : u18.2 (w.1 + 6) = some (true, eI 26 (fun _ => 0)) := kst _ _ (by omega) (by omega) c6
  replace c7 : u18.2 (w.1 + 7) = some (true, eR 6 27 T1) := kst _ _ (by omega) (by omega) c7
  replace c8 : u18.2 (w.1 + 8) = some (true, eR 6 27 T2) := kst _ _ (by omega) (by omega) c8
  replace p9 : ∀ k, k < 27 → T1 k = some (w.1 + 9 + 4 * k) ∧ T2 k = some (w.1 + 11 + 4 * k) ∧ WS u18 (w.1 + 9 + 4 * k) (w.1 + 10 + 4 * k) ∧ WS u18 (w.1 + 11 + 4 * k) (w.1 + 12 + 4 * k) := fun k hk => by
    have g := p9 k hk
    exact ⟨g.1, g.2.1, g.2.2.1.kp (fun q x hq e => kst q x (by omega) (by omega) e), g.2.2.2.kp (fun q x hq e => kst q x (by omega) (by omega) e)⟩
  replace c117f : u18.2 (w.1 + 117) = some (true, eO 2 [.ref (w.1 + 118), .ref (w.1 + 120), .ref (w.1 + 122), .ref (w.1 + 124), .ref (w.1 + 126)]) := kst _ _ (by omega) (by omega) c117f
  replace q118 : WS u18 (w.1 + 118) (w.1 + 119) := q118.kp (fun q x hq e => kst q x (by omega) (by omega) e)
  replace q120 : WS u18 (w.1 + 120) (w.1 + 121) := q120.kp (fun q x hq e => kst q x (by omega) (by omega) e)
  replace q122 : WS u18 (w.1 + 122) (w.1 + 123) := q122.kp (fun q x hq e => kst q x (by omega) (by omega) e)
  replace q124 : WS u18 (w.1 + 124) (w.1 + 125) := q124.kp (fun q x hq e => kst q x (by omega) (by omega) e)
  replace c126 : u18.2 (w.1 + 126) = some (true, eB 63 (fun _ => 0)) := kst _ _ (by omega) (by omega) c126
  replace c127f : u18.2 (w.1 + 127) = some (true, eO 4 [iI 2, .ref (w.1 + 128), .ref (w.1 + 130)]) := kst _ _ (by omega) (by omega) c127f
  replace q128 : WA u18 (w.1 + 128) (w.1 + 129) 1 := q128.kp (fun q x hq e => kst q x (by omega) (by omega) e)
  replace q130 : WA u18 (w.1 + 130) (w.1 + 131) 0 := q130.kp (fun q x hq e => kst q x (by omega) (by omega) e)
  replace c132f : u18.2 (w.1 + 132) = some (true, eO 4 [iI 2, .ref (w.1 + 133), .ref (w.1 + 135)]) := kst _ _ (by omega) (by omega) c132f
  replace q133 : WA u18 (w.1 + 133) (w.1 + 134) 1 := q133.kp (fun q x hq e => kst q x (by omega) (by omega) e)
  replace q135 : WA u18 (w.1 + 135) (w.1 + 136) 0 := q135.kp (fun q x hq e => kst q x (by omega) (by omega) e)
  replace c137f : u18.2 (w.1 + 137) = some (true, eO 4 [iI 2, .ref (w.1 + 138), .ref (w.1 + 140)]) := kst _ _ (by omega) (by omega) c137f
  replace q138 : WA u18 (w.1 + 138) (w.1 + 139) 1 := q138.kp (fun q x hq e => kst q x (by omega) (by omega) e)
  replace q140 : WA u18 (w.1 + 140) (w.1 + 141) 0 := q140.kp (fun q x hq e => kst q x (by omega) (by omega) e)
  replace c142f : u18.2 (w.1 + 142) = some (true, oS 5 0) := (yu18.2 _ _ (by omega) c142f)
  replace hkeep : ∀ b x, b ≠ a → w.2 b = some x → u18.2 b = some x := fun b x hb e => by
    have hbl := hwf b x e
    exact kst _ _ (by omega) (by omega) (hkeep _ _ hb e)
  clear kst
  try clear hu18
  try clear zu18
  try clear yu18
  try clear hw88
  try clear zw88
  try clear yw88
  try clear nw88
  try clear fw88
  try clear ow88
  try clear hu17
  try clear zu17
  try clear yu17
  try clear nu17
  try clear fu17
  try clear ou17
  try clear ou16
  try clear nu16
  try clear fu16
  try clear w88
  try clear u17
  try clear u16
  refine g_aload_n C dX6_init_94 rfl ?_
  refine g_new (ci := 5) C rfl inTX3 tyX3 tyX3_ok kl_RX6_21 ib_RX3 in_RX3 (fs := [iI 0, iI 0, iI 0, iI 0, iI 0, iI 0, iI 0, iI 0]) (by intro j hj; repeat (first | rfl | (cases j; rfl) | (rename_i j; cases j; rfl) | omega)) (by omega) dX6_init_95 ?_
  obtain ⟨u19, hu19⟩ : ∃ u19, u19 = wpush u18 (true, eO 5 [iI 0, iI 0, iI 0, iI 0, iI 0, iI 0, iI 0, iI 0]) := ⟨_, rfl⟩
  refine g_eqw (w' := u19) (by rw [hu19]; first | done | rfl) ?_
  have nu19 : u19.1 = w.1 + 144 := by
    have e0 : u18.1 = w.1 + 143 := nu18
    rw [hu19]; show u18.1 + 1 = _; omega
  have zu19 : Ex u18 u19 := by rw [hu19]; exact Ex.push fu18 _
  have yu19 : ExX u18 u19 a := zu19.exx _
  have ou19 := zu19.2 _ _ ou18
  have c143 : u19.2 (w.1 + 143) = some (true, eO 5 [iI 0, iI 0, iI 0, iI 0, iI 0, iI 0, iI 0, iI 0]) := by
    have e0 : (wpush u18 (true, eO 5 [iI 0, iI 0, iI 0, iI 0, iI 0, iI 0, iI 0, iI 0])).2 u18.1 = some (true, eO 5 [iI 0, iI 0, iI 0, iI 0, iI 0, iI 0, iI 0, iI 0]) := wpush_s
    rw [← hu19, nu18] at e0
    exact e0
  refine g_wf (fun fu19 => ?_)
  rw [nu18]
  refine g_dup C dX6_init_98 rfl ?_
  refine t_callI C hT (s_X3_init _ (w := u19) (a := w.1 + 143) c143) ml_RX6_52 im_yX3_init in_RX3 co_yX3_init rfl hd_X3_init rfl ⟨by omega, by omega⟩ rfl (Nat.le_of_ble_eq_true rfl) ⟨by omega, by omega⟩ dX6_init_99 (fun v99 w99 hp99 => ?_)
  obtain ⟨rfl, hz99⟩ := hp99
  have nw99 : w99.1 = w.1 + 144 := by have g1 := (show w99.1 = u19.1 from by rw [hz99]; rfl); have g2 := nu19; omega
  have yw99 : ExX u19 w99 (w.1 + 143) := (by rw [hz99]; exact ExX.set _ _ _)
  have ow99 := yw99.2 _ _ (by omega) ou19
  refine g_wf (fun fw99 => ?_)
  have c143f : w99.2 (w.1 + 143) = some (true, oS 5 0) := by rw [hz99]; exact wset_s
  refine g_putF (ci := 8) C rfl inTX6 tyX6 tyX6_ok nmX6 9 (by decide) fl_RX6_57 rfl rfl hnm rfl ow99 (Nat.le_of_ble_eq_true rfl) rfl rfl dX6_init_102 ?_
  obtain ⟨u20, hu20⟩ : ∃ u20, u20 = wset w99 a (true, eO 8 [.ref w.1, .ref (w.1 + 1), .ref (w.1 + 2), .ref (w.1 + 3), .ref (w.1 + 117), .ref (w.1 + 127), .ref (w.1 + 132), .ref (w.1 + 137), .ref (w.1 + 142), .ref (w.1 + 143), iI 0, iI 0, iI 0, iI 0, iI 0]) := ⟨_, rfl⟩
  refine g_eqw (w' := u20) hu20.symm ?_
  have nu20 : u20.1 = w.1 + 144 := by rw [hu20]; exact nw99
  have yu20 : ExX w99 u20 a := by rw [hu20]; exact ExX.set _ _ _
  have ou20 : u20.2 a = some (true, eO 8 [.ref w.1, .ref (w.1 + 1), .ref (w.1 + 2), .ref (w.1 + 3), .ref (w.1 + 117), .ref (w.1 + 127), .ref (w.1 + 132), .ref (w.1 + 137), .ref (w.1 + 142), .ref (w.1 + 143), iI 0, iI 0, iI 0, iI 0, iI 0]) := by rw [hu20]; exact wset_s
  refine g_wf (fun fu20 => ?_)
  have kst : ∀ q x, q ≠ a → q ≠ w.1 + 143 → u18.2 q = some x → u20.2 q = some x := fun q x h0 h1 e => (yu20.2 _ _ (by assumption) (yw99.2 _ _ (by assumption) (yu19.2 _ _ (by assumption) e)))
  replace c0 : u20.2 w.1 = some (true, eR 3 3 (fun _ => none)) := kst _ _ (by omega) (by omega) c0
  replace c1 : u20.2 (w.1 + 1) = some (true, eR 4 3 (fun _ => none)) := kst _ _ (by omega) (by omega) c1
  replace c2 : u20.2 (w.1 + 2) = some (true, eR 5 3 (fun _ => none)) := kst _ _ (by omega) (by omega) c2
  replace c3f : u20.2 (w.1 + 3) = some (true, eO 3 [iI 0, iI 0, .ref (w.1 + 4), .ref (w.1 + 5), .ref (w.1 + 6), .ref (w.1 + 7), .ref (w.1 + 8)]) := kst _ _ (by omega) (by omega) c3f
  replace c4 : u20.2 (w.1 + 4) = some (true, eI 26 (fun _ => 0)) := kst _ _ (by omega) (by omega) c4
  replace c5 : u20.2 (w.1 + 5) = some (true, eI 26 (fun _ => 0)) := kst _ _ (by omega) (by omega) c5
  replace c6 : u20.2 (w.1 + 6) = some (true, eI 26 (fun _ => 0)) := kst _ _ (by omega) (by omega) c6
  replace c7 : u20.2 (w.1 + 7) = some (true, eR 6 27 T1) := kst _ _ (by omega) (by omega) c7
  replace c8 : u20.2 (w.1 + 8) = some (true, eR 6 27 T2) := kst _ _ (by omega) (by omega) c8
  replace p9 : ∀ k, k < 27 → T1 k = some (w.1 + 9 + 4 * k) ∧ T2 k = some (w.1 + 11 + 4 * k) ∧ WS u20 (w.1 + 9 + 4 * k) (w.1 + 10 + 4 * k) ∧ WS u20 (w.1 + 11 + 4 * k) (w.1 + 12 + 4 * k) := fun k hk => by
    have g := p9 k hk
    exact ⟨g.1, g.2.1, g.2.2.1.kp (fun q x hq e => kst q x (by omega) (by omega) e), g.2.2.2.kp (fun q x hq e => kst q x (by omega) (by omega) e)⟩
  replace c117f : u20.2 (w.1 + 117) = some (true, eO 2 [.ref (w.1 + 118), .ref (w.1 + 120), .ref (w.1 + 122), .ref (w.1 + 124), .ref (w.1 + 126)]) := kst _ _ (by omega) (by omega) c117f
  replace q118 : WS u20 (w.1 + 118) (w.1 + 119) := q118.kp (fun q x hq e => kst q x (by omega) (by omega) e)
  replace q120 : WS u20 (w.1 + 120) (w.1 + 121) := q120.kp (fun q x hq e => kst q x (by omega) (by omega) e)
  replace q122 : WS u20 (w.1 + 122) (w.1 + 123) := q122.kp (fun q x hq e => kst q x (by omega) (by omega) e)
  replace q124 : WS u20 (w.1 + 124) (w.1 + 125) := q124.kp (fun q x hq e => kst q x (by omega) (by omega) e)
  replace c126 : u20.2 (w.1 + 126) = some (true, eB 63 (fun _ => 0)) := kst _ _ (by omega) (by omega) c126
  replace c127f : u20.2 (w.1 + 127) = some (true, eO 4 [iI 2, .ref (w.1 + 128), .ref (w.1 + 130)]) := kst _ _ (by omega) (by omega) c127f
  replace q128 : WA u20 (w.1 + 128) (w.1 + 129) 1 := q128.kp (fun q x hq e => kst q x (by omega) (by omega) e)
  replace q130 : WA u20 (w.1 + 130) (w.1 + 131) 0 := q130.kp (fun q x hq e => kst q x (by omega) (by omega) e)
  replace c132f : u20.2 (w.1 + 132) = some (true, eO 4 [iI 2, .ref (w.1 + 133), .ref (w.1 + 135)]) := kst _ _ (by omega) (by omega) c132f
  replace q133 : WA u20 (w.1 + 133) (w.1 + 134) 1 := q133.kp (fun q x hq e => kst q x (by omega) (by omega) e)
  replace q135 : WA u20 (w.1 + 135) (w.1 + 136) 0 := q135.kp (fun q x hq e => kst q x (by omega) (by omega) e)
  replace c137f : u20.2 (w.1 + 137) = some (true, eO 4 [iI 2, .ref (w.1 + 138), .ref (w.1 + 140)]) := kst _ _ (by omega) (by omega) c137f
  replace q138 : WA u20 (w.1 + 138) (w.1 + 139) 1 := q138.kp (fun q x hq e => kst q x (by omega) (by omega) e)
  replace q140 : WA u20 (w.1 + 140) (w.1 + 141) 0 := q140.kp (fun q x hq e => kst q x (by omega) (by omega) e)
  replace c142f : u20.2 (w.1 + 142) = some (true, oS 5 0) := kst _ _ (by omega) (by omega) c142f
  replace c143f : u20.2 (w.1 + 143) = some (true, oS 5 0) := (yu20.2 _ _ (by omega) c143f)
  replace hkeep : ∀ b x, b ≠ a → w.2 b = some x → u20.2 b = some x := fun b x hb e => by
    have hbl := hwf b x e
    exact kst _ _ (by omega) (by omega) (hkeep _ _ hb e)
  clear kst
  try clear hu20
  try clear zu20
  try clear yu20
  try clear hw99
  try clear zw99
  try clear yw99
  try clear nw99
  try clear fw99
  try clear ow99
  try clear hu19
  try clear zu19
  try clear yu19
  try clear nu19
  try clear fu19
  try clear ou19
  try clear ou18
  try clear nu18
  try clear fu18
  try clear w99
  try clear u19
  try clear u18
  refine g_iconst C dX6_init_105 ?_
  refine g_istore_n C dX6_init_106 (by decide) rfl ?_
  have hB : u20.1 = w.1 + 144 := nu20
  refine g_loop (σ := Nat × Wd × (Nat → Option Nat) × (Nat → Option Nat) × (Nat → Option Nat)) (fun s => s.1 ≤ 3 ∧ s.2.1.1 = w.1 + 144 + 7 * s.1 ∧ s.2.1.2 w.1 = some (true, eR 3 3 s.2.2.1) ∧ s.2.1.2 (w.1 + 1) = some (true, eR 4 3 s.2.2.2.1) ∧ s.2.1.2 (w.1 + 2) = some (true, eR 5 3 s.2.2.2.2) ∧ (∀ j, j < s.1 → s.2.2.1 j = some (w.1 + 144 + 7 * j) ∧ s.2.2.2.1 j = some (w.1 + 145 + 7 * j) ∧ s.2.2.2.2 j = some (w.1 + 150 + 7 * j) ∧ s.2.1.2 (w.1 + 144 + 7 * j) = some (true, eO 6 [iI 2, iI 0]) ∧ s.2.1.2 (w.1 + 145 + 7 * j) = some (true, eO 4 [iI 2, .ref (w.1 + 146 + 7 * j), .ref (w.1 + 148 + 7 * j)]) ∧ WA s.2.1 (w.1 + 146 + 7 * j) (w.1 + 147 + 7 * j) 1 ∧ WA s.2.1 (w.1 + 148 + 7 * j) (w.1 + 149 + 7 * j) 0 ∧ s.2.1.2 (w.1 + 150 + 7 * j) = some (true, oS 5 0)) ∧ (∀ q x, q ≠ w.1 → q ≠ w.1 + 1 → q ≠ w.1 + 2 → u20.2 q = some x → s.2.1.2 q = some x)) (fun s => G E X 2 107 [some (.ref a), some (iI (s.1 : Int))] [] s.2.1 (144 + 7 * s.1) (1585 + 55 * s.1)) (fun s => 3 - s.1) ?_ (0, u20, fun _ => none, fun _ => none, fun _ => none) ⟨by dsimp only; omega, by dsimp only; omega, c0, c1, c2, fun j hj => by dsimp only at hj; omega, fun q x _ _ _ e => e⟩
  rintro ⟨k, u, R1, R2, R3⟩ hq ih
  obtain ⟨hk, hn, hR1, hR2, hR3, hW, hX⟩ := hq
  dsimp only at hk hn hR1 hR2 hR3 hW hX ⊢
  have oU := hX a _ (by omega) (by omega) (by omega) ou20
  refine g_wf (fun fu => ?_)
  refine g_iload_n C dX6_init_107 rfl ?_
  refine g_iconst C dX6_init_108 ?_
  refine g_icmp_ge (tgt := 157) C dX6_init_109 (by decide) (by omega) (by omega) (fun h109 => ?_) (fun h109 => ?_)
  · have hk3 : k = 3 := by omega
    subst hk3
    exact g_return C hQ dX6_init_157 (by omega) (by omega) ⟨rfl, by omega, cs_init hmw oU hR1 hR2 hR3 hW (hX _ _ (by omega) (by omega) (by omega) c3f) (hX _ _ (by omega) (by omega) (by omega) c4) (hX _ _ (by omega) (by omega) (by omega) c5) (hX _ _ (by omega) (by omega) (by omega) c6) (hX _ _ (by omega) (by omega) (by omega) c7) (hX _ _ (by omega) (by omega) (by omega) c8) (fun k hk => ⟨(p9 k hk).1, (p9 k hk).2.1, ((p9 k hk).2.2.1.kp (fun q x hq e => hX q x (by omega) (by omega) (by omega) e)), ((p9 k hk).2.2.2.kp (fun q x hq e => hX q x (by omega) (by omega) (by omega) e))⟩) (hX _ _ (by omega) (by omega) (by omega) c117f) (q118.kp (fun q x hq e => hX q x (by omega) (by omega) (by omega) e)) (q120.kp (fun q x hq e => hX q x (by omega) (by omega) (by omega) e)) (q122.kp (fun q x hq e => hX q x (by omega) (by omega) (by omega) e)) (q124.kp (fun q x hq e => hX q x (by omega) (by omega) (by omega) e)) (hX _ _ (by omega) (by omega) (by omega) c126) (fun j hj => by
      rcases (show j = 0 ∨ j = 1 ∨ j = 2 by omega) with q | q | q <;> subst q
      · exact ⟨hX _ _ (by omega) (by omega) (by omega) c127f, (q128.kp (fun q x hq e => hX q x (by omega) (by omega) (by omega) e)), (q130.kp (fun q x hq e => hX q x (by omega) (by omega) (by omega) e))⟩
      · exact ⟨hX _ _ (by omega) (by omega) (by omega) c132f, (q133.kp (fun q x hq e => hX q x (by omega) (by omega) (by omega) e)), (q135.kp (fun q x hq e => hX q x (by omega) (by omega) (by omega) e))⟩
      · exact ⟨hX _ _ (by omega) (by omega) (by omega) c137f, (q138.kp (fun q x hq e => hX q x (by omega) (by omega) (by omega) e)), (q140.kp (fun q x hq e => hX q x (by omega) (by omega) (by omega) e))⟩) (hX _ _ (by omega) (by omega) (by omega) c142f) (hX _ _ (by omega) (by omega) (by omega) c143f), ⟨by omega, fun b x hb e => by
      have hbl := hwf b x e
      exact hX _ _ (by omega) (by omega) (by omega) (hkeep _ _ hb e)⟩⟩
  · refine g_aload_n C dX6_init_112 rfl ?_
    refine g_get (ci := 8) C rfl inTX6 0 (by decide) fl_RX6_11 rfl oU rfl dX6_init_113 ?_
    refine g_iload_n C dX6_init_116 rfl ?_
    refine g_new (ci := 6) C rfl inTX4 tyX4 tyX4_ok kl_RX6_9 ib_RX4 in_RX4 (fs := [iI 0, iI 0]) (by intro j hj; repeat (first | rfl | (cases j; rfl) | (rename_i j; cases j; rfl) | omega)) ⟨by omega, by omega⟩ dX6_init_117 ?_
    refine g_dup C dX6_init_120 rfl ?_
    refine t_nI C hT ((s_X4_init (l := xl X) (w := wpush u _) (a := u.1) wpush_s).st) 5 rfl im_yX4_init in_RX4 co_yX4_init rfl hd_X4_init rfl ⟨by omega, by omega⟩ rfl (Nat.le_of_ble_eq_true rfl) ⟨by omega, by omega⟩ dX6_init_121 (fun v121 w121 hp121 => ?_)
    obtain ⟨rfl, hw121⟩ := hp121
    subst w121
    rw [wset_push]
    refine g_gen (fun ub hub => ?_)
    have nub : ub.1 = u.1 + 1 := by rw [hub]; rfl
    have zub : Ex u ub := by rw [hub]; exact Ex.push fu _
    have eub : ub.2 u.1 = some (true, eO 6 [iI 2, iI 0]) := by rw [hub]; exact wpush_s
    refine g_wf (fun fub => ?_)
    refine g_aastoreO C 3 6 rfl rfl (k) (zub.2 _ _ hR1) eub (by omega) (by omega) dX6_init_124 ?_
    refine g_gen (fun uc huc => ?_)
    have nuc : uc.1 = ub.1 := by rw [huc]; rfl
    have yuc : ExX ub uc w.1 := by rw [huc]; exact ExX.set _ _ _
    have hR1c : uc.2 w.1 = some (true, eR 3 3 (rup R1 k (some u.1))) := by rw [huc]; exact wset_s
    refine g_wf (fun fuc => ?_)
    have oC := yuc.2 _ _ (by omega) (zub.2 _ _ oU)
    refine g_aload_n C dX6_init_125 rfl ?_
    refine g_get (ci := 8) C rfl inTX6 1 (by decide) fl_RX6_17 rfl oC rfl dX6_init_126 ?_
    refine g_iload_n C dX6_init_129 rfl ?_
    refine g_new (ci := 4) C rfl inTX2 tyX2 tyX2_ok kl_RX6_15 ib_RX2 in_RX2 (fs := [iI 0, .null, .null]) (by intro j hj; repeat (first | rfl | (cases j; rfl) | (rename_i j; cases j; rfl) | omega)) ⟨by omega, by omega⟩ dX6_init_130 ?_
    refine g_gen (fun ud hud => ?_)
    have nud : ud.1 = uc.1 + 1 := by rw [hud]; rfl
    have zud : Ex uc ud := by rw [hud]; exact Ex.push fuc _
    have eud : ud.2 uc.1 = some (true, eO 4 [iI 0, .null, .null]) := by rw [hud]; exact wpush_s
    refine g_wf (fun fud => ?_)
    refine g_dup C dX6_init_133 rfl ?_
    refine t_callI C hT (s_X2_init _ (w := ud) (a := uc.1) eud) ml_RX6_41 im_yX2_init in_RX2 co_yX2_init rfl hd_X2_init rfl ⟨by omega, by omega⟩ rfl (Nat.le_of_ble_eq_true rfl) ⟨by omega, by omega⟩ dX6_init_134 (fun v134 w134 hp134 => ?_)
    obtain ⟨rfl, z134, o134, q134a, q134b, x134⟩ := hp134
    refine g_wf (fun f134 => ?_)
    refine g_aastoreO C 4 4 rfl rfl (k) (x134.2 _ _ (by omega) (zud.2 _ _ (yuc.2 _ _ (by omega) (zub.2 _ _ hR2)))) o134 (by omega) (by omega) dX6_init_137 ?_
    refine g_gen (fun uf huf => ?_)
    have nuf : uf.1 = w134.1 := by rw [huf]; rfl
    have yuf : ExX w134 uf (w.1 + 1) := by rw [huf]; exact ExX.set _ _ _
    have hR2f : uf.2 (w.1 + 1) = some (true, eR 4 3 (rup R2 k (some uc.1))) := by rw [huf]; exact wset_s
    refine g_wf (fun fuf => ?_)
    have oF := yuf.2 _ _ (by omega) (x134.2 _ _ (by omega) (zud.2 _ _ oC))
    refine g_aload_n C dX6_init_138 rfl ?_
    refine g_get (ci := 8) C rfl inTX6 2 (by decide) fl_RX6_23 rfl oF rfl dX6_init_139 ?_
    refine g_iload_n C dX6_init_142 rfl ?_
    refine g_new (ci := 5) C rfl inTX3 tyX3 tyX3_ok kl_RX6_21 ib_RX3 in_RX3 (fs := [iI 0, iI 0, iI 0, iI 0, iI 0, iI 0, iI 0, iI 0]) (by intro j hj; repeat (first | rfl | (cases j; rfl) | (rename_i j; cases j; rfl) | omega)) ⟨by omega, by omega⟩ dX6_init_143 ?_
    refine g_dup C dX6_init_146 rfl ?_
    refine t_callI C hT (s_X3_init _ (w := wpush uf _) (a := uf.1) wpush_s) ml_RX6_52 im_yX3_init in_RX3 co_yX3_init rfl hd_X3_init rfl ⟨by omega, by omega⟩ rfl (Nat.le_of_ble_eq_true rfl) ⟨by omega, by omega⟩ dX6_init_147 (fun v147 w147 hp147 => ?_)
    obtain ⟨rfl, hw147⟩ := hp147
    subst w147
    rw [wset_push]
    refine g_gen (fun uh huh => ?_)
    have nuh : uh.1 = uf.1 + 1 := by rw [huh]; rfl
    have zuh : Ex uf uh := by rw [huh]; exact Ex.push fuf _
    have euh : uh.2 uf.1 = some (true, oS 5 0) := by rw [huh]; exact wpush_s
    refine g_wf (fun fuh => ?_)
    refine g_aastoreO C 5 5 rfl rfl (k) (zuh.2 _ _ (yuf.2 _ _ (by omega) (x134.2 _ _ (by omega) (zud.2 _ _ (yuc.2 _ _ (by omega) (zub.2 _ _ hR3)))))) euh (by omega) (by omega) dX6_init_150 ?_
    refine g_gen (fun ui hui => ?_)
    have nui : ui.1 = uh.1 := by rw [hui]; rfl
    have yui : ExX uh ui (w.1 + 2) := by rw [hui]; exact ExX.set _ _ _
    have hR3i : ui.2 (w.1 + 2) = some (true, eR 5 3 (rup R3 k (some uf.1))) := by rw [hui]; exact wset_s
    have m1 : u.1 = w.1 + 144 + 7 * k := hn
    have m2 : uc.1 = w.1 + 145 + 7 * k := by omega
    have m3 : ud.1 = w.1 + 146 + 7 * k := by omega
    have m4 : uf.1 = w.1 + 150 + 7 * k := by omega
    have kI : ∀ q x, q ≠ w.1 → q ≠ w.1 + 1 → q ≠ w.1 + 2 → q ≠ uc.1 → u.2 q = some x → ui.2 q = some x := fun q x h0 h1 h2 h3 e => yui.2 _ _ h2 (zuh.2 _ _ (yuf.2 _ _ h1 (x134.2 _ _ h3 (zud.2 _ _ (yuc.2 _ _ h0 (zub.2 _ _ e))))))
    have kF : ∀ q x, q ≠ w.1 + 1 → q ≠ w.1 + 2 → w134.2 q = some x → ui.2 q = some x := fun q x h1 h2 e => yui.2 _ _ h2 (zuh.2 _ _ (yuf.2 _ _ h1 e))
    have kC : ∀ q x, q ≠ w.1 + 1 → q ≠ w.1 + 2 → q ≠ uc.1 → uc.2 q = some x → ui.2 q = some x := fun q x h1 h2 h3 e => kF q x h1 h2 (x134.2 _ _ h3 (zud.2 _ _ e))
    have hR1i := kC w.1 _ (by omega) (by omega) (by omega) hR1c
    have hR2i := yui.2 _ _ (by omega) (zuh.2 _ _ hR2f)
    have eW := kC u.1 _ (by omega) (by omega) (by omega) (yuc.2 _ _ (by omega) eub)
    have eP := kF uc.1 _ (by omega) (by omega) o134
    have eL : WA ui ud.1 (ud.1 + 1) 1 := q134a.kp (fun q x hq e => kF q x (by omega) (by omega) e)
    have eR' : WA ui (ud.1 + 2) (ud.1 + 3) 0 := q134b.kp (fun q x hq e => kF q x (by omega) (by omega) e)
    have eS := yui.2 _ _ (by omega) euh
    clear kC kF huc hud huf huh hui hub yuc yuf yui zub zud zuh x134 q134a q134b o134 eub eud euh hR1c hR2f oC oF
    refine g_iinc C dX6_init_151 rfl (by decide) rfl ?_
    refine g_goto (tgt := 107) C dX6_init_154 (by decide) ?_
    rw [show (k : Int) + 1 = ((k + 1 : Nat) : Int) by omega]
    refine g_widen (k' := 144 + 7 * (k + 1)) (n' := 1585 + 55 * (k + 1)) (by omega) (by omega) ?_
    exact ih (k + 1, ui, rup R1 k (some u.1), rup R2 k (some uc.1), rup R3 k (some uf.1)) ⟨by dsimp only; omega, by dsimp only; omega, hR1i, hR2i, hR3i, fun j hj => by
      dsimp only at hj ⊢
      by_cases q : j = k
      · subst q
        rw [rup_s, rup_s, rup_s]
        rw [m1] at eW ⊢
        rw [m2] at eP ⊢
        rw [m3] at eP eL eR'
        rw [m4] at eS ⊢
        refine ⟨rfl, rfl, rfl, eW, ?_, ?_, ?_, eS⟩
        · rw [show w.1 + 148 + 7 * j = w.1 + 146 + 7 * j + 2 by omega]; exact eP
        · rw [show w.1 + 147 + 7 * j = w.1 + 146 + 7 * j + 1 by omega]; exact eL
        · rw [show w.1 + 148 + 7 * j = w.1 + 146 + 7 * j + 2 by omega, show w.1 + 149 + 7 * j = w.1 + 146 + 7 * j + 3 by omega]; exact eR'
      · rw [rup_n q, rup_n q, rup_n q]
        obtain ⟨g1, g2, g3, g4, g5, g6, g7, g8⟩ := hW j (by omega)
        exact ⟨g1, g2, g3, kI _ _ (by omega) (by omega) (by omega) (by omega) g4, kI _ _ (by omega) (by omega) (by omega) (by omega) g5, g6.kp (fun q x hq e => kI q x (by omega) (by omega) (by omega) (by omega) e), g7.kp (fun q x hq e => kI q x (by omega) (by omega) (by omega) (by omega) e), kI _ _ (by omega) (by omega) (by omega) (by omega) g8⟩, fun q x h0 h1 h2 e => kI q x h0 h1 h2 (fun c => by
          have := fu20 q x e
          omega) (hX q x h0 h1 h2 e)⟩ (by dsimp only; omega)
theorem iup_ii {f : Nat → Int} {i : Nat} {x y : Int} : iup (iup f i x) i y = iup f i y := by
  funext j
  unfold iup
  split <;> rfl
theorem iup_id {f : Nat → Int} {i : Nat} : iup f i (f i) = f := by
  funext j
  unfold iup
  split
  · rename_i h; rw [h]
  · rfl
set_option maxHeartbeats 4000000 in
set_option maxRecDepth 100000 in
theorem s_X6_open (l : Launch) {K : KC} {E : GE} {w : Wd} {τ ad : Nat → Nat} {bs ss : Nat → Int} {pb : Nat → PT} {P Q : Nat → Nat} {ct : Nat → Int} (hC0 : CS τ ad w bs ss pb P Q ct) {i : Nat} (hi : i < 3) {b : Int} (hb : GB b) : St K E l yX6_open cX6_open 3 (some .int) 6 (0) (0) [.ref (ad 100), iI (i : Int), iI b] w (fun r' w' => ∃ r, r' = some (iI r) ∧ RT b r ∧ CS τ ad w' (iup bs i b) (iup ss i 0) (pb) (P) (Q) (iup ct 0 (ct 0 + 1)) ∧ KO τ w w') := by
  refine st_intro [some (.ref (ad 100)), some (iI (i : Int)), some (iI b)] rfl (Nat.le_of_ble_eq_true rfl) pn_X6 ?_
  intro X C hT hRm hl hnm hQ
  obtain ⟨hRf, hRl, hRc, hRs⟩ := hRm
  refine g_wf (fun hwf => ?_)
  have hC := hC0
  have hK : KO τ w w := KO.rf _ _
  have hb1 := hb.1
  have hb2 := hb.2.1
  refine g_iload_n C dX6_open_0 rfl ?_
  refine g_callS C (s_X6_checkThing _ (v := (i : Int)) (by omega)) ml_RX6_61 sm_yX6_checkThing in_RX6 co_yX6_checkThing hd_X6_checkThing rfl ⟨by omega, by omega⟩ rfl (Nat.le_of_ble_eq_true rfl) ⟨by omega, by omega⟩ dX6_open_1 (fun v1 w1 hp1 => ?_)
  obtain ⟨rfl, hw1⟩ := hp1
  subst w1
  refine g_iload_n C dX6_open_4 rfl ?_
  refine g_callS C (s_X6_checkBase _ (v := b) hb) ml_RX6_65 sm_yX6_checkBase in_RX6 co_yX6_checkBase hd_X6_checkBase rfl ⟨by omega, by omega⟩ rfl (Nat.le_of_ble_eq_true rfl) ⟨by omega, by omega⟩ dX6_open_5 (fun v5 w5 hp5 => ?_)
  obtain ⟨rfl, hw5⟩ := hp5
  subst w5
  refine g_aload_n C dX6_open_8 rfl ?_
  refine g_get (ci := 8) C rfl inTX6 0 (by decide) fl_RX6_11 rfl hC.o rfl dX6_open_9 ?_
  refine g_iload_n C dX6_open_12 rfl ?_
  refine g_aaloadN (i) C rfl rfl hC.A.1.choose_spec.1 (by omega) (by omega) (hC.A.1.choose_spec.2 _ (by omega)) dX6_open_13 ?_
  refine g_iload_n C dX6_open_14 rfl ?_
  refine g_put (ci := 6) C rfl inTX4 tyX4 tyX4_ok nmX4 0 (by decide) fl_RX6_68 rfl rfl (hC.W i (by omega)).1 (Nat.le_of_ble_eq_true rfl) rfl rfl dX6_open_15 ?_
  refine g_gen (fun v15 hv15 => ?_)
  replace hv15 : v15 = wset _ (ad (120 + i)) (true, eO 6 [iI (b), iI (ss i)]) := hv15
  have hq15 := hC.sw (i := i) (b := b) (s := ss i) (by omega) hb (hC.W i (by omega)).2.2
  rw [← hv15] at hq15
  replace hC := hq15.1
  replace hK := hK.tr hq15.2
  rw [iup_id] at hC
  refine g_aload_n C dX6_open_18 rfl ?_
  refine g_get (ci := 8) C rfl inTX6 0 (by decide) fl_RX6_11 rfl hC.o rfl dX6_open_19 ?_
  refine g_iload_n C dX6_open_22 rfl ?_
  refine g_aaloadN (i) C rfl rfl hC.A.1.choose_spec.1 (by omega) (by omega) (hC.A.1.choose_spec.2 _ (by omega)) dX6_open_23 ?_
  refine g_iconst C dX6_open_24 ?_
  refine g_put (ci := 6) C rfl inTX4 tyX4 tyX4_ok nmX4 1 (by decide) fl_RX6_72 rfl rfl (hC.W i (by omega)).1 (Nat.le_of_ble_eq_true rfl) rfl rfl dX6_open_25 ?_
  refine g_gen (fun v25 hv25 => ?_)
  replace hv25 : v25 = wset _ (ad (120 + i)) (true, eO 6 [iI (iup bs i b i), iI (0)]) := hv25
  have hq25 := hC.sw (i := i) (b := iup bs i b i) (s := 0) (by omega) (by rw [iup_s]; exact hb) (by omega)
  rw [← hv25] at hq25
  replace hC := hq25.1
  replace hK := hK.tr hq25.2
  rw [iup_s, iup_ii] at hC
  refine g_aload_n C dX6_open_28 rfl ?_
  refine g_dup C dX6_open_29 rfl ?_
  refine g_get (ci := 8) C rfl inTX6 10 (by decide) fl_RX6_75 rfl hC.o rfl dX6_open_30 ?_
  refine g_iconst C dX6_open_33 ?_
  refine g_iadd C dX6_open_34 ?_
  refine g_put (ci := 8) C rfl inTX6 tyX6 tyX6_ok nmX6 10 (by decide) fl_RX6_75 rfl rfl hC.o (Nat.le_of_ble_eq_true rfl) rfl rfl dX6_open_35 ?_
  refine g_gen (fun v35 hv35 => ?_)
  replace hv35 : v35 = wset _ (ad 100) (true, oX ad (iup ct 0 (ct 0 + 1))) := hv35
  have hq35 := hC.so (iup ct 0 (ct 0 + 1))
  rw [← hv35] at hq35
  replace hC := hq35.1
  replace hK := hK.tr hq35.2
  refine g_iload_n C dX6_open_38 rfl ?_
  refine g_callS C (s_X6_rootOf _ (b := b) (by omega)) ml_RX6_78 sm_yX6_rootOf in_RX6 co_yX6_rootOf hd_X6_rootOf rfl ⟨by omega, by omega⟩ rfl (Nat.le_of_ble_eq_true rfl) ⟨by omega, by omega⟩ dX6_open_39 (fun v39 w39 hp39 => ?_)
  obtain ⟨⟨r39, rfl, hr39⟩, hw39⟩ := hp39
  subst w39
  exact g_ireturn C hQ dX6_open_42 (by omega) (by omega) ⟨r39, rfl, hr39, hC, hK⟩
set_option maxHeartbeats 4000000 in
set_option maxRecDepth 100000 in
theorem s_X6_forth (l : Launch) {K : KC} {E : GE} {w : Wd} {τ ad : Nat → Nat} {bs ss : Nat → Int} {pb : Nat → PT} {P Q : Nat → Nat} {ct : Nat → Int} (hC0 : CS τ ad w bs ss pb P Q ct) {i : Nat} (hi : i < 3) {x : Int} (hx : 1 ≤ x ∧ x ≤ 6) : St K E l yX6_forth cX6_forth 4 (some .int) 6 (0) (0) [.ref (ad 100), iI (i : Int), iI x] w (fun r' w' => ((24 < ss i + x ∧ r' = some (iI (-9)) ∧ CS τ ad w' (bs) (ss) (pb) (P) (Q) (iup ct 3 (ct 3 + 1))) ∨ (ss i + x ≤ 24 ∧ r' = some (iI (ss i + x)) ∧ CS τ ad w' (bs) (iup ss i (ss i + x)) (pb) (P) (Q) (iup ct 0 (ct 0 + 1)))) ∧ KO τ w w') := by
  refine st_intro [some (.ref (ad 100)), some (iI (i : Int)), some (iI x), none] rfl (Nat.le_of_ble_eq_true rfl) pn_X6 ?_
  intro X C hT hRm hl hnm hQ
  obtain ⟨hRf, hRl, hRc, hRs⟩ := hRm
  refine g_wf (fun hwf => ?_)
  have hC := hC0
  have hK : KO τ w w := KO.rf _ _
  have hs := (hC.W i (by omega)).2.2
  refine g_iload_n C dX6_forth_0 rfl ?_
  refine g_callS C (s_X6_checkThing _ (v := (i : Int)) (by omega)) ml_RX6_61 sm_yX6_checkThing in_RX6 co_yX6_checkThing hd_X6_checkThing rfl ⟨by omega, by omega⟩ rfl (Nat.le_of_ble_eq_true rfl) ⟨by omega, by omega⟩ dX6_forth_1 (fun v1 w1 hp1 => ?_)
  obtain ⟨rfl, hw1⟩ := hp1
  subst w1
  refine g_iload_n C dX6_forth_4 rfl ?_
  refine g_iconst C dX6_forth_5 ?_
  refine g_bipush C dX6_forth_6 (by decide) ?_
  refine g_callS C (s_X6_checkRange _ (v := x) (lo := 1) (hi := 6) (by omega) (by omega) (by omega)) ml_RX6_82 sm_yX6_checkRange in_RX6 co_yX6_checkRange hd_X6_checkRange rfl ⟨by omega, by omega⟩ rfl (Nat.le_of_ble_eq_true rfl) ⟨by omega, by omega⟩ dX6_forth_8 (fun v8 w8 hp8 => ?_)
  obtain ⟨rfl, hw8⟩ := hp8
  subst w8
  refine g_aload_n C dX6_forth_11 rfl ?_
  refine g_get (ci := 8) C rfl inTX6 0 (by decide) fl_RX6_11 rfl hC.o rfl dX6_forth_12 ?_
  refine g_iload_n C dX6_forth_15 rfl ?_
  refine g_aaloadN (i) C rfl rfl hC.A.1.choose_spec.1 (by omega) (by omega) (hC.A.1.choose_spec.2 _ (by omega)) dX6_forth_16 ?_
  refine g_astore_n C dX6_forth_17 (by decide) rfl ?_
  refine g_aload_n C dX6_forth_18 rfl ?_
  refine g_get (ci := 6) C rfl inTX4 1 (by decide) fl_RX6_72 rfl (hC.W i (by omega)).1 rfl dX6_forth_19 ?_
  refine g_iload_n C dX6_forth_22 rfl ?_
  refine g_iadd C dX6_forth_23 ?_
  refine g_bipush C dX6_forth_24 (by decide) ?_
  refine g_icmp_le (tgt := 34) C dX6_forth_26 (by decide) (by omega) (by omega) (fun h26 => ?_) (fun h26 => ?_)
  · refine g_aload_n C dX6_forth_34 rfl ?_
    refine g_dup C dX6_forth_35 rfl ?_
    refine g_get (ci := 6) C rfl inTX4 1 (by decide) fl_RX6_72 rfl (hC.W i (by omega)).1 rfl dX6_forth_36 ?_
    refine g_iload_n C dX6_forth_39 rfl ?_
    refine g_iadd C dX6_forth_40 ?_
    refine g_put (ci := 6) C rfl inTX4 tyX4 tyX4_ok nmX4 1 (by decide) fl_RX6_72 rfl rfl (hC.W i (by omega)).1 (Nat.le_of_ble_eq_true rfl) rfl rfl dX6_forth_41 ?_
    refine g_gen (fun v41 hv41 => ?_)
    replace hv41 : v41 = wset _ (ad (120 + i)) (true, eO 6 [iI (bs i), iI (ss i + x)]) := hv41
    have hq41 := hC.sw (i := i) (b := bs i) (s := ss i + x) (by omega) (hC.W i (by omega)).2.1 (by omega)
    rw [← hv41] at hq41
    replace hC := hq41.1
    replace hK := hK.tr hq41.2
    rw [iup_id] at hC
    refine g_aload_n C dX6_forth_44 rfl ?_
    refine g_dup C dX6_forth_45 rfl ?_
    refine g_get (ci := 8) C rfl inTX6 10 (by decide) fl_RX6_75 rfl hC.o rfl dX6_forth_46 ?_
    refine g_iconst C dX6_forth_49 ?_
    refine g_iadd C dX6_forth_50 ?_
    refine g_put (ci := 8) C rfl inTX6 tyX6 tyX6_ok nmX6 10 (by decide) fl_RX6_75 rfl rfl hC.o (Nat.le_of_ble_eq_true rfl) rfl rfl dX6_forth_51 ?_
    refine g_gen (fun v51 hv51 => ?_)
    replace hv51 : v51 = wset _ (ad 100) (true, oX ad (iup ct 0 (ct 0 + 1))) := hv51
    have hq51 := hC.so (iup ct 0 (ct 0 + 1))
    rw [← hv51] at hq51
    replace hC := hq51.1
    replace hK := hK.tr hq51.2
    refine g_aload_n C dX6_forth_54 rfl ?_
    refine g_get (ci := 6) C rfl inTX4 1 (by decide) fl_RX6_72 rfl (hC.W i (by omega)).1 rfl dX6_forth_55 ?_
    rw [iup_s]
    exact g_ireturn C hQ dX6_forth_58 (Nat.le_refl _) (Nat.le_refl _) ⟨Or.inr ⟨by omega, rfl, hC⟩, hK⟩
  · refine g_aload_n C dX6_forth_29 rfl ?_
    refine g_callV C (s_X6_refuse _ hC) (ci := 8) rfl hC.o rfl ml_RX6_86 im_yX6_refuse se_RX6_yX6_refuse in_RX6 co_yX6_refuse hd_X6_refuse rfl ⟨by omega, by omega⟩ rfl (Nat.le_of_ble_eq_true rfl) ⟨by omega, by omega⟩ dX6_forth_30 (fun v30 w30 hp30 => ?_)
    obtain ⟨rfl, hc30, hk30⟩ := hp30
    replace hC := hc30
    replace hK := hK.tr hk30
    exact g_ireturn C hQ dX6_forth_33 (Nat.le_refl _) (Nat.le_refl _) ⟨Or.inl ⟨by omega, rfl, hC⟩, hK⟩
set_option maxHeartbeats 4000000 in
set_option maxRecDepth 100000 in
theorem s_X6_back (l : Launch) {K : KC} {E : GE} {w : Wd} {τ ad : Nat → Nat} {bs ss : Nat → Int} {pb : Nat → PT} {P Q : Nat → Nat} {ct : Nat → Int} (hC0 : CS τ ad w bs ss pb P Q ct) {i : Nat} (hi : i < 3) : St K E l yX6_back cX6_back 3 (some .int) 6 (0) (0) [.ref (ad 100), iI (i : Int)] w (fun r' w' => ((ss i = 0 ∧ r' = some (iI (-9)) ∧ CS τ ad w' (bs) (ss) (pb) (P) (Q) (iup ct 3 (ct 3 + 1))) ∨ (0 < ss i ∧ r' = some (iI (ss i - 1)) ∧ CS τ ad w' (bs) (iup ss i (ss i - 1)) (pb) (P) (Q) (iup ct 0 (ct 0 + 1)))) ∧ KO τ w w') := by
  refine st_intro [some (.ref (ad 100)), some (iI (i : Int)), none] rfl (Nat.le_of_ble_eq_true rfl) pn_X6 ?_
  intro X C hT hRm hl hnm hQ
  obtain ⟨hRf, hRl, hRc, hRs⟩ := hRm
  refine g_wf (fun hwf => ?_)
  have hC := hC0
  have hK : KO τ w w := KO.rf _ _
  have hs := (hC.W i (by omega)).2.2
  refine g_iload_n C dX6_back_0 rfl ?_
  refine g_callS C (s_X6_checkThing _ (v := (i : Int)) (by omega)) ml_RX6_61 sm_yX6_checkThing in_RX6 co_yX6_checkThing hd_X6_checkThing rfl ⟨by omega, by omega⟩ rfl (Nat.le_of_ble_eq_true rfl) ⟨by omega, by omega⟩ dX6_back_1 (fun v1 w1 hp1 => ?_)
  obtain ⟨rfl, hw1⟩ := hp1
  subst w1
  refine g_aload_n C dX6_back_4 rfl ?_
  refine g_get (ci := 8) C rfl inTX6 0 (by decide) fl_RX6_11 rfl hC.o rfl dX6_back_5 ?_
  refine g_iload_n C dX6_back_8 rfl ?_
  refine g_aaloadN (i) C rfl rfl hC.A.1.choose_spec.1 (by omega) (by omega) (hC.A.1.choose_spec.2 _ (by omega)) dX6_back_9 ?_
  refine g_astore_n C dX6_back_10 (by decide) rfl ?_
  refine g_aload_n C dX6_back_11 rfl ?_
  refine g_get (ci := 6) C rfl inTX4 1 (by decide) fl_RX6_72 rfl (hC.W i (by omega)).1 rfl dX6_back_12 ?_
  refine g_if_ne (tgt := 23) C dX6_back_15 (by decide) (by omega) (fun h15 => ?_) (fun h15 => ?_)
  · refine g_aload_n C dX6_back_23 rfl ?_
    refine g_dup C dX6_back_24 rfl ?_
    refine g_get (ci := 6) C rfl inTX4 1 (by decide) fl_RX6_72 rfl (hC.W i (by omega)).1 rfl dX6_back_25 ?_
    refine g_iconst C dX6_back_28 ?_
    refine g_isub C dX6_back_29 ?_
    refine g_put (ci := 6) C rfl inTX4 tyX4 tyX4_ok nmX4 1 (by decide) fl_RX6_72 rfl rfl (hC.W i (by omega)).1 (Nat.le_of_ble_eq_true rfl) rfl rfl dX6_back_30 ?_
    refine g_gen (fun v30 hv30 => ?_)
    replace hv30 : v30 = wset _ (ad (120 + i)) (true, eO 6 [iI (bs i), iI (ss i - 1)]) := hv30
    have hq30 := hC.sw (i := i) (b := bs i) (s := ss i - 1) (by omega) (hC.W i (by omega)).2.1 (by omega)
    rw [← hv30] at hq30
    replace hC := hq30.1
    replace hK := hK.tr hq30.2
    rw [iup_id] at hC
    refine g_aload_n C dX6_back_33 rfl ?_
    refine g_dup C dX6_back_34 rfl ?_
    refine g_get (ci := 8) C rfl inTX6 10 (by decide) fl_RX6_75 rfl hC.o rfl dX6_back_35 ?_
    refine g_iconst C dX6_back_38 ?_
    refine g_iadd C dX6_back_39 ?_
    refine g_put (ci := 8) C rfl inTX6 tyX6 tyX6_ok nmX6 10 (by decide) fl_RX6_75 rfl rfl hC.o (Nat.le_of_ble_eq_true rfl) rfl rfl dX6_back_40 ?_
    refine g_gen (fun v40 hv40 => ?_)
    replace hv40 : v40 = wset _ (ad 100) (true, oX ad (iup ct 0 (ct 0 + 1))) := hv40
    have hq40 := hC.so (iup ct 0 (ct 0 + 1))
    rw [← hv40] at hq40
    replace hC := hq40.1
    replace hK := hK.tr hq40.2
    refine g_aload_n C dX6_back_43 rfl ?_
    refine g_get (ci := 6) C rfl inTX4 1 (by decide) fl_RX6_72 rfl (hC.W i (by omega)).1 rfl dX6_back_44 ?_
    rw [iup_s]
    exact g_ireturn C hQ dX6_back_47 (Nat.le_refl _) (Nat.le_refl _) ⟨Or.inr ⟨by omega, rfl, hC⟩, hK⟩
  · refine g_aload_n C dX6_back_18 rfl ?_
    refine g_callV C (s_X6_refuse _ hC) (ci := 8) rfl hC.o rfl ml_RX6_86 im_yX6_refuse se_RX6_yX6_refuse in_RX6 co_yX6_refuse hd_X6_refuse rfl ⟨by omega, by omega⟩ rfl (Nat.le_of_ble_eq_true rfl) ⟨by omega, by omega⟩ dX6_back_19 (fun v19 w19 hp19 => ?_)
    obtain ⟨rfl, hc19, hk19⟩ := hp19
    replace hC := hc19
    replace hK := hK.tr hk19
    exact g_ireturn C hQ dX6_back_22 (Nat.le_refl _) (Nat.le_refl _) ⟨Or.inl ⟨by omega, rfl, hC⟩, hK⟩
set_option maxHeartbeats 4000000 in
set_option maxRecDepth 100000 in
theorem s_X6_walkCopy (l : Launch) {K : KC} {E : GE} {w : Wd} {τ ad : Nat → Nat} {bs ss : Nat → Int} {pb : Nat → PT} {P Q : Nat → Nat} {ct : Nat → Int} (hC0 : CS τ ad w bs ss pb P Q ct) {i : Nat} (hi : i < 3) {k : Nat} (hk : k < 3) : St K E l yX6_walkCopy cX6_walkCopy 6 (some .int) 6 (0) (0) [.ref (ad 100), iI (i : Int), iI (k : Int)] w (fun r' w' => r' = some (iI (bI (bs i ≠ bs k ∨ ss i ≠ ss k))) ∧ CS τ ad w' (iup bs k (bs i)) (iup ss k (ss i)) (pb) (P) (Q) (iup ct 0 (ct 0 + 1)) ∧ KO τ w w') := by
  refine st_intro [some (.ref (ad 100)), some (iI (i : Int)), some (iI (k : Int)), none, none, none] rfl (Nat.le_of_ble_eq_true rfl) pn_X6 ?_
  intro X C hT hRm hl hnm hQ
  obtain ⟨hRf, hRl, hRc, hRs⟩ := hRm
  refine g_wf (fun hwf => ?_)
  have hC := hC0
  have hK : KO τ w w := KO.rf _ _
  have hs := (hC.W i (by omega)).2.2
  have hs2 := (hC.W k (by omega)).2.2
  have hg := (hC.W i (by omega)).2.1
  have hg2 := (hC.W k (by omega)).2.1
  have g1 := hg.1
  have g2 := hg.2.1
  have g3 := hg2.1
  have g4 := hg2.2.1
  refine g_iload_n C dX6_walkCopy_0 rfl ?_
  refine g_callS C (s_X6_checkThing _ (v := (i : Int)) (by omega)) ml_RX6_61 sm_yX6_checkThing in_RX6 co_yX6_checkThing hd_X6_checkThing rfl ⟨by omega, by omega⟩ rfl (Nat.le_of_ble_eq_true rfl) ⟨by omega, by omega⟩ dX6_walkCopy_1 (fun v1 w1 hp1 => ?_)
  obtain ⟨rfl, hw1⟩ := hp1
  subst w1
  refine g_iload_n C dX6_walkCopy_4 rfl ?_
  refine g_callS C (s_X6_checkThing _ (v := (k : Int)) (by omega)) ml_RX6_61 sm_yX6_checkThing in_RX6 co_yX6_checkThing hd_X6_checkThing rfl ⟨by omega, by omega⟩ rfl (Nat.le_of_ble_eq_true rfl) ⟨by omega, by omega⟩ dX6_walkCopy_5 (fun v5 w5 hp5 => ?_)
  obtain ⟨rfl, hw5⟩ := hp5
  subst w5
  refine g_aload_n C dX6_walkCopy_8 rfl ?_
  refine g_get (ci := 8) C rfl inTX6 0 (by decide) fl_RX6_11 rfl hC.o rfl dX6_walkCopy_9 ?_
  refine g_iload_n C dX6_walkCopy_12 rfl ?_
  refine g_aaloadN (i) C rfl rfl hC.A.1.choose_spec.1 (by omega) (by omega) (hC.A.1.choose_spec.2 _ (by omega)) dX6_walkCopy_13 ?_
  refine g_astore_n C dX6_walkCopy_14 (by decide) rfl ?_
  refine g_aload_n C dX6_walkCopy_15 rfl ?_
  refine g_get (ci := 8) C rfl inTX6 0 (by decide) fl_RX6_11 rfl hC.o rfl dX6_walkCopy_16 ?_
  refine g_iload_n C dX6_walkCopy_19 rfl ?_
  refine g_aaloadN (k) C rfl rfl hC.A.1.choose_spec.1 (by omega) (by omega) (hC.A.1.choose_spec.2 _ (by omega)) dX6_walkCopy_20 ?_
  refine g_astore C dX6_walkCopy_21 (by decide) rfl ?_
  have J52 : ∀ z : Int, z = bI (bs i ≠ bs k ∨ ss i ≠ ss k) → G E X 6 52 [some (.ref (ad 100)), some (iI (i : Int)), some (iI (k : Int)), some (.ref (ad (120 + i))), some (.ref (ad (120 + k))), none] [iI z] w 0 0 := by
    intro z hz
    have hz01 : z = 0 ∨ z = 1 := by rw [hz]; exact bI_01 _
    refine g_istore C dX6_walkCopy_52 (by decide) rfl ?_
    refine g_aload C dX6_walkCopy_54 rfl ?_
    refine g_aload_n C dX6_walkCopy_56 rfl ?_
    refine g_get (ci := 6) C rfl inTX4 0 (by decide) fl_RX6_68 rfl (hC.W i (by omega)).1 rfl dX6_walkCopy_57 ?_
    refine g_put (ci := 6) C rfl inTX4 tyX4 tyX4_ok nmX4 0 (by decide) fl_RX6_68 rfl rfl (hC.W k (by omega)).1 (Nat.le_of_ble_eq_true rfl) rfl rfl dX6_walkCopy_60 ?_
    refine g_gen (fun v60 hv60 => ?_)
    replace hv60 : v60 = wset _ (ad (120 + k)) (true, eO 6 [iI (bs i), iI (ss k)]) := hv60
    have hq60 := hC.sw (i := k) (b := bs i) (s := ss k) (by omega) (hC.W i (by omega)).2.1 (hC.W k (by omega)).2.2
    rw [← hv60] at hq60
    replace hC := hq60.1
    replace hK := hK.tr hq60.2
    rw [iup_id] at hC
    refine g_aload C dX6_walkCopy_63 rfl ?_
    refine g_aload_n C dX6_walkCopy_65 rfl ?_
    refine g_get (ci := 6) C rfl inTX4 1 (by decide) fl_RX6_72 rfl (hC.W i (by omega)).1 rfl dX6_walkCopy_66 ?_
    refine g_put (ci := 6) C rfl inTX4 tyX4 tyX4_ok nmX4 1 (by decide) fl_RX6_72 rfl rfl (hC.W k (by omega)).1 (Nat.le_of_ble_eq_true rfl) rfl rfl dX6_walkCopy_69 ?_
    refine g_gen (fun v69 hv69 => ?_)
    replace hv69 : v69 = wset _ (ad (120 + k)) (true, eO 6 [iI (iup bs k (bs i) k), iI (ss i)]) := hv69
    have hq69 := hC.sw (i := k) (b := iup bs k (bs i) k) (s := ss i) (by omega) (by rw [iup_s]; exact hg) (by omega)
    rw [← hv69] at hq69
    replace hC := hq69.1
    replace hK := hK.tr hq69.2
    rw [iup_s, iup_ii] at hC
    refine g_aload_n C dX6_walkCopy_72 rfl ?_
    refine g_dup C dX6_walkCopy_73 rfl ?_
    refine g_get (ci := 8) C rfl inTX6 10 (by decide) fl_RX6_75 rfl hC.o rfl dX6_walkCopy_74 ?_
    refine g_iconst C dX6_walkCopy_77 ?_
    refine g_iadd C dX6_walkCopy_78 ?_
    refine g_put (ci := 8) C rfl inTX6 tyX6 tyX6_ok nmX6 10 (by decide) fl_RX6_75 rfl rfl hC.o (Nat.le_of_ble_eq_true rfl) rfl rfl dX6_walkCopy_79 ?_
    refine g_gen (fun v79 hv79 => ?_)
    replace hv79 : v79 = wset _ (ad 100) (true, oX ad (iup ct 0 (ct 0 + 1))) := hv79
    have hq79 := hC.so (iup ct 0 (ct 0 + 1))
    rw [← hv79] at hq79
    replace hC := hq79.1
    replace hK := hK.tr hq79.2
    refine g_iload C dX6_walkCopy_82 rfl ?_
    refine g_if_eq (tgt := 91) C dX6_walkCopy_84 (by decide) (by omega) (fun h84 => ?_) (fun h84 => ?_)
    · refine g_iconst C dX6_walkCopy_91 ?_
      exact g_ireturn C hQ dX6_walkCopy_92 (Nat.le_refl _) (Nat.le_refl _) ⟨by rw [← hz]; first | rw [show z = 1 by omega] | rw [show z = 0 by omega], hC, hK⟩
    · refine g_iconst C dX6_walkCopy_87 ?_
      refine g_goto (tgt := 92) C dX6_walkCopy_88 (by decide) ?_
      exact g_ireturn C hQ dX6_walkCopy_92 (Nat.le_refl _) (Nat.le_refl _) ⟨by rw [← hz]; first | rw [show z = 1 by omega] | rw [show z = 0 by omega], hC, hK⟩
  refine g_aload C dX6_walkCopy_23 rfl ?_
  refine g_get (ci := 6) C rfl inTX4 0 (by decide) fl_RX6_68 rfl (hC.W k (by omega)).1 rfl dX6_walkCopy_25 ?_
  refine g_aload_n C dX6_walkCopy_28 rfl ?_
  refine g_get (ci := 6) C rfl inTX4 0 (by decide) fl_RX6_68 rfl (hC.W i (by omega)).1 rfl dX6_walkCopy_29 ?_
  refine g_icmp_ne (tgt := 47) C dX6_walkCopy_32 (by decide) (by omega) (by omega) (fun h32 => ?_) (fun h32 => ?_)
  · refine g_iconst C dX6_walkCopy_47 ?_
    refine g_goto (tgt := 52) C dX6_walkCopy_48 (by decide) ?_
    first
    | exact J52 1 (bI_t (by omega)).symm
    | exact J52 0 (bI_f (by omega)).symm
  · refine g_aload C dX6_walkCopy_35 rfl ?_
    refine g_get (ci := 6) C rfl inTX4 1 (by decide) fl_RX6_72 rfl (hC.W k (by omega)).1 rfl dX6_walkCopy_37 ?_
    refine g_aload_n C dX6_walkCopy_40 rfl ?_
    refine g_get (ci := 6) C rfl inTX4 1 (by decide) fl_RX6_72 rfl (hC.W i (by omega)).1 rfl dX6_walkCopy_41 ?_
    refine g_icmp_eq (tgt := 51) C dX6_walkCopy_44 (by decide) (by omega) (by omega) (fun h44 => ?_) (fun h44 => ?_)
    · refine g_iconst C dX6_walkCopy_51 ?_
      first
      | exact J52 1 (bI_t (by omega)).symm
      | exact J52 0 (bI_f (by omega)).symm
    · refine g_iconst C dX6_walkCopy_47 ?_
      refine g_goto (tgt := 52) C dX6_walkCopy_48 (by decide) ?_
      first
      | exact J52 1 (bI_t (by omega)).symm
      | exact J52 0 (bI_f (by omega)).symm
set_option maxHeartbeats 4000000 in
set_option maxRecDepth 100000 in
theorem s_X6_part (l : Launch) {K : KC} {E : GE} {w : Wd} {τ ad : Nat → Nat} {bs ss : Nat → Int} {pb : Nat → PT} {P Q : Nat → Nat} {ct : Nat → Int} (hC0 : CS τ ad w bs ss pb P Q ct) {i : Nat} (hi : i < 3) {z : Int} (hz : 0 ≤ z ∧ z ≤ 5) : St K E l yX6_part cX6_part 3 (some .int) 6 (0) (0) [.ref (ad 100), iI (i : Int), iI z] w (fun r' w' => ∃ r, r' = some (iI (prV (bs i) r (ss i) z)) ∧ RT (bs i) r ∧ CS τ ad w' (bs) (ss) (pb) (P) (Q) (ct) ∧ KO τ w w') := by
  refine st_intro [some (.ref (ad 100)), some (iI (i : Int)), some (iI z)] rfl (Nat.le_of_ble_eq_true rfl) pn_X6 ?_
  intro X C hT hRm hl hnm hQ
  obtain ⟨hRf, hRl, hRc, hRs⟩ := hRm
  refine g_wf (fun hwf => ?_)
  have hC := hC0
  have hK : KO τ w w := KO.rf _ _
  refine g_iload_n C dX6_part_0 rfl ?_
  refine g_callS C (s_X6_checkThing _ (v := (i : Int)) (by omega)) ml_RX6_61 sm_yX6_checkThing in_RX6 co_yX6_checkThing hd_X6_checkThing rfl ⟨by omega, by omega⟩ rfl (Nat.le_of_ble_eq_true rfl) ⟨by omega, by omega⟩ dX6_part_1 (fun v1 w1 hp1 => ?_)
  obtain ⟨rfl, hw1⟩ := hp1
  subst w1
  refine g_iload_n C dX6_part_4 rfl ?_
  refine g_iconst C dX6_part_5 ?_
  refine g_iconst C dX6_part_6 ?_
  refine g_callS C (s_X6_checkRange _ (v := z) (lo := 0) (hi := 5) (by omega) (by omega) (by omega)) ml_RX6_82 sm_yX6_checkRange in_RX6 co_yX6_checkRange hd_X6_checkRange rfl ⟨by omega, by omega⟩ rfl (Nat.le_of_ble_eq_true rfl) ⟨by omega, by omega⟩ dX6_part_7 (fun v7 w7 hp7 => ?_)
  obtain ⟨rfl, hw7⟩ := hp7
  subst w7
  refine g_aload_n C dX6_part_10 rfl ?_
  refine g_aload_n C dX6_part_11 rfl ?_
  refine g_iload_n C dX6_part_12 rfl ?_
  refine t_callV C hT (s_X6_unfold _ hC (i := i) (by omega)) (RcV.ob (ci := 8) C rfl hC.o) rfl ml_RX6_90 im_yX6_unfold se_RX6_yX6_unfold in_RX6 co_yX6_unfold hd_X6_unfold rfl ⟨by omega, by omega⟩ rfl (Nat.le_of_ble_eq_true rfl) ⟨by omega, by omega⟩ dX6_part_13 (fun v13 w13 hp13 => ?_)
  obtain ⟨rfl, ⟨r, m, d, a, hF, hV, hG⟩, hc13, hk13⟩ := hp13
  replace hC := hc13
  replace hK := hK.tr hk13
  have hs := (hC.W i (by omega)).2.2
  have hgb := hV.1
  have hbl := hgb.1
  have hbh := hgb.2.1
  have hr9 := RT_le hV.1 hV.2.1
  have hr0 := hV.2.1.1
  have hw := wk_f hV.1 hV.2.1 (k := (ss i).toNat) (by omega)
  refine g_iload_n C dX6_part_16 rfl ?_
  refine g_callV C (s_X6_walkPart _ hC hi hF hV hG (z := z) hz) (ci := 8) rfl hC.o rfl ml_RX6_94 im_yX6_walkPart se_RX6_yX6_walkPart in_RX6 co_yX6_walkPart hd_X6_walkPart rfl ⟨by omega, by omega⟩ rfl (Nat.le_of_ble_eq_true rfl) ⟨by omega, by omega⟩ dX6_part_17 (fun v17 w17 hp17 => ?_)
  obtain ⟨rfl, hw17⟩ := hp17
  subst w17
  exact g_ireturn C hQ dX6_part_20 (by omega) (by omega) ⟨r, rfl, hV.2.1, hC, hK⟩
set_option maxHeartbeats 4000000 in
set_option maxRecDepth 100000 in
theorem s_X6_walkText (l : Launch) {K : KC} {E : GE} {w : Wd} {τ ad : Nat → Nat} {bs ss : Nat → Int} {pb : Nat → PT} {P Q : Nat → Nat} {ct : Nat → Int} (hC0 : CS τ ad w bs ss pb P Q ct) {i : Nat} (hi : i < 3) {z rx : Int} (hz : 0 ≤ z ∧ z ≤ 3) (hrx : 2 ≤ rx ∧ rx ≤ 16) : St K E l yX6_walkText cX6_walkText 4 (some (.object "java/lang/String")) 9 (61) (2600) [.ref (ad 100), iI (i : Int), iI z, iI rx] w (fun r' w' => (∃ s : Nat, r' = some (.ref s)) ∧ CS τ ad w' (bs) (ss) (pb) (P) (Q) (ct) ∧ KO τ w w') := by
  refine st_intro [some (.ref (ad 100)), some (iI (i : Int)), some (iI z), some (iI rx)] rfl (Nat.le_of_ble_eq_true rfl) pn_X6 ?_
  intro X C hT hRm hl hnm hQ
  obtain ⟨hRf, hRl, hRc, hRs⟩ := hRm
  refine g_wf (fun hwf => ?_)
  have hC := hC0
  have hK : KO τ w w := KO.rf _ _
  refine g_iload_n C dX6_walkText_0 rfl ?_
  refine g_callS C (s_X6_checkThing _ (v := (i : Int)) (by omega)) ml_RX6_61 sm_yX6_checkThing in_RX6 co_yX6_checkThing hd_X6_checkThing rfl ⟨by omega, by omega⟩ rfl (Nat.le_of_ble_eq_true rfl) ⟨by omega, by omega⟩ dX6_walkText_1 (fun v1 w1 hp1 => ?_)
  obtain ⟨rfl, hw1⟩ := hp1
  subst w1
  refine g_iload_n C dX6_walkText_4 rfl ?_
  refine g_iconst C dX6_walkText_5 ?_
  refine g_iconst C dX6_walkText_6 ?_
  refine g_callS C (s_X6_checkRange _ (v := z) (lo := 0) (hi := 3) (by omega) (by omega) (by omega)) ml_RX6_82 sm_yX6_checkRange in_RX6 co_yX6_checkRange hd_X6_checkRange rfl ⟨by omega, by omega⟩ rfl (Nat.le_of_ble_eq_true rfl) ⟨by omega, by omega⟩ dX6_walkText_7 (fun v7 w7 hp7 => ?_)
  obtain ⟨rfl, hw7⟩ := hp7
  subst w7
  refine g_iload_n C dX6_walkText_10 rfl ?_
  refine g_iconst C dX6_walkText_11 ?_
  refine g_bipush C dX6_walkText_12 (by decide) ?_
  refine g_callS C (s_X6_checkRange _ (v := rx) (lo := 2) (hi := 16) (by omega) (by omega) (by omega)) ml_RX6_82 sm_yX6_checkRange in_RX6 co_yX6_checkRange hd_X6_checkRange rfl ⟨by omega, by omega⟩ rfl (Nat.le_of_ble_eq_true rfl) ⟨by omega, by omega⟩ dX6_walkText_14 (fun v14 w14 hp14 => ?_)
  obtain ⟨rfl, hw14⟩ := hp14
  subst w14
  refine g_aload_n C dX6_walkText_17 rfl ?_
  refine g_get (ci := 8) C rfl inTX6 4 (by decide) fl_RX6_37 rfl hC.o rfl dX6_walkText_18 ?_
  refine g_aload_n C dX6_walkText_21 rfl ?_
  refine g_aload_n C dX6_walkText_22 rfl ?_
  refine g_iload_n C dX6_walkText_23 rfl ?_
  refine t_callV C hT (s_X6_unfold _ hC (i := i) (by omega)) (RcV.ob (ci := 8) C rfl hC.o) rfl ml_RX6_90 im_yX6_unfold se_RX6_yX6_unfold in_RX6 co_yX6_unfold hd_X6_unfold rfl ⟨by omega, by omega⟩ rfl (Nat.le_of_ble_eq_true rfl) ⟨by omega, by omega⟩ dX6_walkText_24 (fun v24 w24 hp24 => ?_)
  obtain ⟨rfl, ⟨r, m, d, a, hF, hV, hG⟩, hc24, hk24⟩ := hp24
  replace hC := hc24
  replace hK := hK.tr hk24
  have hs := (hC.W i (by omega)).2.2
  have hgb := hV.1
  have hbl := hgb.1
  have hbh := hgb.2.1
  have hr9 := RT_le hV.1 hV.2.1
  have hr0 := hV.2.1.1
  have hw := wk_f hV.1 hV.2.1 (k := (ss i).toNat) (by omega)
  refine g_iload_n C dX6_walkText_27 rfl ?_
  refine g_callV C (s_X6_walkNumber _ hC hi hF hV hG (z := z) (by omega)) (ci := 8) rfl hC.o rfl ml_RX6_98 im_yX6_walkNumber se_RX6_yX6_walkNumber in_RX6 co_yX6_walkNumber hd_X6_walkNumber rfl ⟨by omega, by omega⟩ rfl (Nat.le_of_ble_eq_true rfl) ⟨by omega, by omega⟩ dX6_walkText_28 (fun v28 w28 hp28 => ?_)
  obtain ⟨⟨j28, rfl, hj28, f28⟩, hw28⟩ := hp28
  subst w28
  refine g_iload_n C dX6_walkText_31 rfl ?_
  refine t_callV C hT (s_X0_text _ hC.N hC.D (j := j28) (by omega) (rx := rx) (by omega)) (RcV.ob (ci := 2) C rfl hC.D) rfl ml_RX6_102 im_yX0_text se_RX0_yX0_text in_RX0 co_yX0_text hd_X0_text rfl ⟨by omega, by omega⟩ rfl (Nat.le_of_ble_eq_true rfl) ⟨by omega, by omega⟩ dX6_walkText_32 (fun v32 w32 hp32 => ?_)
  obtain ⟨⟨s32, rfl⟩, hN32, hk32⟩ := hp32
  replace hC := hC.kn hk32 hN32
  replace hK := hK.tr hk32.kc
  exact g_areturn C (Or.inl ⟨_, rfl⟩) hQ (Or.inr ⟨_, rfl⟩) dX6_walkText_35 (by omega) (by omega) ⟨⟨s32, rfl⟩, hC, hK⟩
set_option maxHeartbeats 4000000 in
set_option maxRecDepth 100000 in
theorem s_X6_test (l : Launch) {K : KC} {E : GE} {w : Wd} {τ ad : Nat → Nat} {bs ss : Nat → Int} {pb : Nat → PT} {P Q : Nat → Nat} {ct : Nat → Int} (hC0 : CS τ ad w bs ss pb P Q ct) {i : Nat} (hi : i < 3) {z : Int} (hz : 0 ≤ z ∧ z ≤ 2) : St K E l yX6_test cX6_test 3 (some .int) 6 (0) (0) [.ref (ad 100), iI (i : Int), iI z] w (fun r' w' => (∃ x : Int, r' = some (iI x) ∧ ∃ r, RT (bs i) r ∧ x = tstV (bs i) r (ss i).toNat z) ∧ CS τ ad w' (bs) (ss) (pb) (P) (Q) (ct) ∧ KO τ w w') := by
  refine st_intro [some (.ref (ad 100)), some (iI (i : Int)), some (iI z)] rfl (Nat.le_of_ble_eq_true rfl) pn_X6 ?_
  intro X C hT hRm hl hnm hQ
  obtain ⟨hRf, hRl, hRc, hRs⟩ := hRm
  refine g_wf (fun hwf => ?_)
  have hC := hC0
  have hK : KO τ w w := KO.rf _ _
  refine g_iload_n C dX6_test_0 rfl ?_
  refine g_callS C (s_X6_checkThing _ (v := (i : Int)) (by omega)) ml_RX6_61 sm_yX6_checkThing in_RX6 co_yX6_checkThing hd_X6_checkThing rfl ⟨by omega, by omega⟩ rfl (Nat.le_of_ble_eq_true rfl) ⟨by omega, by omega⟩ dX6_test_1 (fun v1 w1 hp1 => ?_)
  obtain ⟨rfl, hw1⟩ := hp1
  subst w1
  refine g_iload_n C dX6_test_4 rfl ?_
  refine g_iconst C dX6_test_5 ?_
  refine g_iconst C dX6_test_6 ?_
  refine g_callS C (s_X6_checkRange _ (v := z) (lo := 0) (hi := 2) (by omega) (by omega) (by omega)) ml_RX6_82 sm_yX6_checkRange in_RX6 co_yX6_checkRange hd_X6_checkRange rfl ⟨by omega, by omega⟩ rfl (Nat.le_of_ble_eq_true rfl) ⟨by omega, by omega⟩ dX6_test_7 (fun v7 w7 hp7 => ?_)
  obtain ⟨rfl, hw7⟩ := hp7
  subst w7
  refine g_aload_n C dX6_test_10 rfl ?_
  refine g_aload_n C dX6_test_11 rfl ?_
  refine g_iload_n C dX6_test_12 rfl ?_
  refine t_callV C hT (s_X6_unfold _ hC (i := i) (by omega)) (RcV.ob (ci := 8) C rfl hC.o) rfl ml_RX6_90 im_yX6_unfold se_RX6_yX6_unfold in_RX6 co_yX6_unfold hd_X6_unfold rfl ⟨by omega, by omega⟩ rfl (Nat.le_of_ble_eq_true rfl) ⟨by omega, by omega⟩ dX6_test_13 (fun v13 w13 hp13 => ?_)
  obtain ⟨rfl, ⟨r, m, d, a, hF, hV, hG⟩, hc13, hk13⟩ := hp13
  replace hC := hc13
  replace hK := hK.tr hk13
  have hs := (hC.W i (by omega)).2.2
  have hgb := hV.1
  have hbl := hgb.1
  have hbh := hgb.2.1
  have hr9 := RT_le hV.1 hV.2.1
  have hr0 := hV.2.1.1
  have hw := wk_f hV.1 hV.2.1 (k := (ss i).toNat) (by omega)
  refine g_iload_n C dX6_test_16 rfl ?_
  refine g_callV C (s_X6_walkTest _ hC hi hF hV hG (z := z) hz) (ci := 8) rfl hC.o rfl ml_RX6_106 im_yX6_walkTest se_RX6_yX6_walkTest in_RX6 co_yX6_walkTest hd_X6_walkTest rfl ⟨by omega, by omega⟩ rfl (Nat.le_of_ble_eq_true rfl) ⟨by omega, by omega⟩ dX6_test_17 (fun v17 w17 hp17 => ?_)
  obtain ⟨rfl, hf17, hg17, hc17, hk17⟩ := hp17
  replace hC := hc17
  replace hK := hK.tr hk17
  exact g_ireturn C hQ dX6_test_20 (by omega) (by omega) ⟨⟨_, rfl, r, hV.2.1, rfl⟩, hC, hK⟩
set_option maxHeartbeats 4000000 in
set_option maxRecDepth 100000 in
theorem s_X6_walkBits (l : Launch) {K : KC} {E : GE} {w : Wd} {τ ad : Nat → Nat} {bs ss : Nat → Int} {pb : Nat → PT} {P Q : Nat → Nat} {ct : Nat → Int} (hC0 : CS τ ad w bs ss pb P Q ct) {i : Nat} (hi : i < 3) {y z : Int} (hy : y = 0 ∨ y = 1) (hz : 0 ≤ z ∧ z ≤ 2) : St K E l yX6_walkBits cX6_walkBits 4 (some .int) 6 (0) (0) [.ref (ad 100), iI (i : Int), iI y, iI z] w (fun r' w' => (∃ x : Int, r' = some (iI x) ∧ ∃ r, RT (bs i) r ∧ x = bitV (if y = 1 then (pq (bs i) r 1 r (ss i).toNat).1 else (pq (bs i) r 0 1 (ss i).toNat).1) z) ∧ CS τ ad w' (bs) (ss) (pb) (P) (Q) (ct) ∧ KO τ w w') := by
  refine st_intro [some (.ref (ad 100)), some (iI (i : Int)), some (iI y), some (iI z)] rfl (Nat.le_of_ble_eq_true rfl) pn_X6 ?_
  intro X C hT hRm hl hnm hQ
  obtain ⟨hRf, hRl, hRc, hRs⟩ := hRm
  refine g_wf (fun hwf => ?_)
  have hC := hC0
  have hK : KO τ w w := KO.rf _ _
  refine g_iload_n C dX6_walkBits_0 rfl ?_
  refine g_callS C (s_X6_checkThing _ (v := (i : Int)) (by omega)) ml_RX6_61 sm_yX6_checkThing in_RX6 co_yX6_checkThing hd_X6_checkThing rfl ⟨by omega, by omega⟩ rfl (Nat.le_of_ble_eq_true rfl) ⟨by omega, by omega⟩ dX6_walkBits_1 (fun v1 w1 hp1 => ?_)
  obtain ⟨rfl, hw1⟩ := hp1
  subst w1
  refine g_iload_n C dX6_walkBits_4 rfl ?_
  refine g_iconst C dX6_walkBits_5 ?_
  refine g_iconst C dX6_walkBits_6 ?_
  refine g_callS C (s_X6_checkRange _ (v := z) (lo := 0) (hi := 2) (by omega) (by omega) (by omega)) ml_RX6_82 sm_yX6_checkRange in_RX6 co_yX6_checkRange hd_X6_checkRange rfl ⟨by omega, by omega⟩ rfl (Nat.le_of_ble_eq_true rfl) ⟨by omega, by omega⟩ dX6_walkBits_7 (fun v7 w7 hp7 => ?_)
  obtain ⟨rfl, hw7⟩ := hp7
  subst w7
  refine g_aload_n C dX6_walkBits_10 rfl ?_
  refine g_aload_n C dX6_walkBits_11 rfl ?_
  refine g_iload_n C dX6_walkBits_12 rfl ?_
  refine t_callV C hT (s_X6_unfold _ hC (i := i) (by omega)) (RcV.ob (ci := 8) C rfl hC.o) rfl ml_RX6_90 im_yX6_unfold se_RX6_yX6_unfold in_RX6 co_yX6_unfold hd_X6_unfold rfl ⟨by omega, by omega⟩ rfl (Nat.le_of_ble_eq_true rfl) ⟨by omega, by omega⟩ dX6_walkBits_13 (fun v13 w13 hp13 => ?_)
  obtain ⟨rfl, ⟨r, m, d, a, hF, hV, hG⟩, hc13, hk13⟩ := hp13
  replace hC := hc13
  replace hK := hK.tr hk13
  have hs := (hC.W i (by omega)).2.2
  have hgb := hV.1
  have hbl := hgb.1
  have hbh := hgb.2.1
  have hr9 := RT_le hV.1 hV.2.1
  have hr0 := hV.2.1.1
  have hw := wk_f hV.1 hV.2.1 (k := (ss i).toNat) (by omega)
  refine g_iload_n C dX6_walkBits_16 rfl ?_
  have J : ∀ z0 : Int, (y = 1 ∧ z0 = 0 ∨ y = 0 ∧ z0 = 1) → G E X 4 25 [some (.ref (ad 100)), some (iI (i : Int)), some (iI y), some (iI z)] [iI z0, .ref (ad (120 + i)), .ref (ad 100)] w13 0 0 := by
    intro z0 hz0
    have hwv : wnV (bs i) r (ss i).toNat z0 = (if y = 1 then (pq (bs i) r 1 r (ss i).toNat).1 else (pq (bs i) r 0 1 (ss i).toNat).1) := by
      rcases hz0 with ⟨q1, q2⟩ | ⟨q1, q2⟩
      · rw [q1, q2]; rfl
      · rw [q1, q2]; rfl
    have hw120 : aB (wnV (bs i) r (ss i).toNat z0) < 2 ^ 120 := by
      rw [hwv]
      split
      · exact pq_120 hV.1 hV.2.1 (x := 1) (y := r) (by omega) (by omega) (k := (ss i).toNat + 1) (by omega)
      · exact pq_120 hV.1 hV.2.1 (x := 0) (y := 1) (by omega) (by omega) (k := (ss i).toNat + 1) (by omega)
    refine g_callV C (s_X6_walkNumber _ hC hi hF hV hG (z := z0) (by omega)) (ci := 8) rfl hC.o rfl ml_RX6_98 im_yX6_walkNumber se_RX6_yX6_walkNumber in_RX6 co_yX6_walkNumber hd_X6_walkNumber rfl ⟨by omega, by omega⟩ rfl (Nat.le_of_ble_eq_true rfl) ⟨by omega, by omega⟩ dX6_walkBits_25 (fun v25 w25 hp25 => ?_)
    obtain ⟨⟨j25, rfl, hj25, f25⟩, hw25⟩ := hp25
    subst w25
    refine g_iload_n C dX6_walkBits_28 rfl ?_
    refine g_callS C (s_X6_countBits _ hC (j := j25) (by omega) f25 hw120 (z := z) hz) ml_RX6_109 sm_yX6_countBits in_RX6 co_yX6_countBits hd_X6_countBits rfl ⟨by omega, by omega⟩ rfl (Nat.le_of_ble_eq_true rfl) ⟨by omega, by omega⟩ dX6_walkBits_29 (fun v29 w29 hp29 => ?_)
    obtain ⟨rfl, hw29⟩ := hp29
    subst w29
    exact g_ireturn C hQ dX6_walkBits_32 (by omega) (by omega) ⟨⟨_, rfl, r, hV.2.1, by rw [hwv]⟩, hC, hK⟩
  refine g_if_eq (tgt := 24) C dX6_walkBits_17 (by decide) (by omega) (fun h17 => ?_) (fun h17 => ?_)
  · refine g_iconst C dX6_walkBits_24 ?_
    exact J _ (by omega)
  · refine g_iconst C dX6_walkBits_20 ?_
    refine g_goto (tgt := 25) C dX6_walkBits_21 (by decide) ?_
    exact J _ (by omega)
set_option maxHeartbeats 4000000 in
set_option maxRecDepth 100000 in
theorem s_X6_bit (l : Launch) {K : KC} {E : GE} {w : Wd} {τ ad : Nat → Nat} {bs ss : Nat → Int} {pb : Nat → PT} {P Q : Nat → Nat} {ct : Nat → Int} (hC0 : CS τ ad w bs ss pb P Q ct) {i : Nat} (hi : i < 3) {y : Int} {z : Nat} (hy : y = 0 ∨ y = 1) (hz : z ≤ 119) : St K E l yX6_bit cX6_bit 4 (some .boolean) 6 (0) (0) [.ref (ad 100), iI (i : Int), iI y, iI (z : Int)] w (fun r' w' => (∃ x : Int, r' = some (iI x) ∧ (x = 0 ∨ x = 1) ∧ ∃ r, RT (bs i) r ∧ x = bI (bt (aB (if y = 1 then (pq (bs i) r 1 r (ss i).toNat).1 else (pq (bs i) r 0 1 (ss i).toNat).1)) z = 1)) ∧ CS τ ad w' (bs) (ss) (pb) (P) (Q) (ct) ∧ KO τ w w') := by
  refine st_intro [some (.ref (ad 100)), some (iI (i : Int)), some (iI y), some (iI (z : Int))] rfl (Nat.le_of_ble_eq_true rfl) pn_X6 ?_
  intro X C hT hRm hl hnm hQ
  obtain ⟨hRf, hRl, hRc, hRs⟩ := hRm
  refine g_wf (fun hwf => ?_)
  have hC := hC0
  have hK : KO τ w w := KO.rf _ _
  refine g_iload_n C dX6_bit_0 rfl ?_
  refine g_callS C (s_X6_checkThing _ (v := (i : Int)) (by omega)) ml_RX6_61 sm_yX6_checkThing in_RX6 co_yX6_checkThing hd_X6_checkThing rfl ⟨by omega, by omega⟩ rfl (Nat.le_of_ble_eq_true rfl) ⟨by omega, by omega⟩ dX6_bit_1 (fun v1 w1 hp1 => ?_)
  obtain ⟨rfl, hw1⟩ := hp1
  subst w1
  refine g_iload_n C dX6_bit_4 rfl ?_
  refine g_iconst C dX6_bit_5 ?_
  refine g_bipush C dX6_bit_6 (by decide) ?_
  refine g_callS C (s_X6_checkRange _ (v := (z : Int)) (lo := 0) (hi := 119) (by omega) (by omega) (by omega)) ml_RX6_82 sm_yX6_checkRange in_RX6 co_yX6_checkRange hd_X6_checkRange rfl ⟨by omega, by omega⟩ rfl (Nat.le_of_ble_eq_true rfl) ⟨by omega, by omega⟩ dX6_bit_8 (fun v8 w8 hp8 => ?_)
  obtain ⟨rfl, hw8⟩ := hp8
  subst w8
  refine g_aload_n C dX6_bit_11 rfl ?_
  refine g_aload_n C dX6_bit_12 rfl ?_
  refine g_iload_n C dX6_bit_13 rfl ?_
  refine t_callV C hT (s_X6_unfold _ hC (i := i) (by omega)) (RcV.ob (ci := 8) C rfl hC.o) rfl ml_RX6_90 im_yX6_unfold se_RX6_yX6_unfold in_RX6 co_yX6_unfold hd_X6_unfold rfl ⟨by omega, by omega⟩ rfl (Nat.le_of_ble_eq_true rfl) ⟨by omega, by omega⟩ dX6_bit_14 (fun v14 w14 hp14 => ?_)
  obtain ⟨rfl, ⟨r, m, d, a, hF, hV, hG⟩, hc14, hk14⟩ := hp14
  replace hC := hc14
  replace hK := hK.tr hk14
  have hs := (hC.W i (by omega)).2.2
  have hgb := hV.1
  have hbl := hgb.1
  have hbh := hgb.2.1
  have hr9 := RT_le hV.1 hV.2.1
  have hr0 := hV.2.1.1
  have hw := wk_f hV.1 hV.2.1 (k := (ss i).toNat) (by omega)
  refine g_iload_n C dX6_bit_17 rfl ?_
  have J : ∀ z0 : Int, (y = 1 ∧ z0 = 0 ∨ y = 0 ∧ z0 = 1) → G E X 4 26 [some (.ref (ad 100)), some (iI (i : Int)), some (iI y), some (iI (z : Int))] [iI z0, .ref (ad (120 + i)), .ref (ad 100)] w14 0 0 := by
    intro z0 hz0
    have hwv : wnV (bs i) r (ss i).toNat z0 = (if y = 1 then (pq (bs i) r 1 r (ss i).toNat).1 else (pq (bs i) r 0 1 (ss i).toNat).1) := by
      rcases hz0 with ⟨q1, q2⟩ | ⟨q1, q2⟩
      · rw [q1, q2]; rfl
      · rw [q1, q2]; rfl
    have hw120 : aB (wnV (bs i) r (ss i).toNat z0) < 2 ^ 120 := by
      rw [hwv]
      split
      · exact pq_120 hV.1 hV.2.1 (x := 1) (y := r) (by omega) (by omega) (k := (ss i).toNat + 1) (by omega)
      · exact pq_120 hV.1 hV.2.1 (x := 0) (y := 1) (by omega) (by omega) (k := (ss i).toNat + 1) (by omega)
    refine g_callV C (s_X6_walkNumber _ hC hi hF hV hG (z := z0) (by omega)) (ci := 8) rfl hC.o rfl ml_RX6_98 im_yX6_walkNumber se_RX6_yX6_walkNumber in_RX6 co_yX6_walkNumber hd_X6_walkNumber rfl ⟨by omega, by omega⟩ rfl (Nat.le_of_ble_eq_true rfl) ⟨by omega, by omega⟩ dX6_bit_26 (fun v26 w26 hp26 => ?_)
    obtain ⟨⟨j26, rfl, hj26, f26⟩, hw26⟩ := hp26
    subst w26
    refine g_iload_n C dX6_bit_29 rfl ?_
    refine g_callV C (u_X5_hasBit _ f26 (p := z) (by omega)) (ci := 7) rfl (hC.N.W (j := j26) (by omega)).o rfl ml_RX6_113 im_yX5_hasBit se_RX5_yX5_hasBit in_RX5 co_yX5_hasBit hd_X5_hasBit rfl ⟨by omega, by omega⟩ rfl (Nat.le_of_ble_eq_true rfl) ⟨by omega, by omega⟩ dX6_bit_30 (fun v30 w30 hp30 => ?_)
    obtain ⟨rfl, hw30⟩ := hp30
    subst w30
    exact g_zreturn C hQ dX6_bit_33 (nar01 (bI_01 _)) (by omega) (by omega) ⟨⟨_, rfl, bI_01 _, r, hV.2.1, by rw [hwv]⟩, hC, hK⟩
  refine g_if_eq (tgt := 25) C dX6_bit_18 (by decide) (by omega) (fun h18 => ?_) (fun h18 => ?_)
  · refine g_iconst C dX6_bit_25 ?_
    exact J _ (by omega)
  · refine g_iconst C dX6_bit_21 ?_
    refine g_goto (tgt := 26) C dX6_bit_22 (by decide) ?_
    exact J _ (by omega)
set_option maxHeartbeats 4000000 in
set_option maxRecDepth 100000 in
theorem s_X6_isRead (l : Launch) {K : KC} {E : GE} {w : Wd} {τ ad : Nat → Nat} {bs ss : Nat → Int} {pb : Nat → PT} {P Q : Nat → Nat} {ct : Nat → Int} (hC0 : CS τ ad w bs ss pb P Q ct) {i : Nat} (hi : i < 3) {z : Int} (hz : z = 0 ∨ 2 ≤ z ∧ z ≤ 16) : St K E l yX6_isRead cX6_isRead 6 (some .boolean) 8 (120) (4200) [.ref (ad 100), iI (i : Int), iI z] w (fun r' w' => (∃ x : Int, r' = some (iI x) ∧ (x = 0 ∨ x = 1)) ∧ CS τ ad w' (bs) (ss) (pb) (P) (Q) (ct) ∧ KO τ w w') := by
  refine st_intro [some (.ref (ad 100)), some (iI (i : Int)), some (iI z), none, none, none] rfl (Nat.le_of_ble_eq_true rfl) pn_X6 ?_
  intro X C hT hRm hl hnm hQ
  obtain ⟨hRf, hRl, hRc, hRs⟩ := hRm
  refine g_wf (fun hwf => ?_)
  have hC := hC0
  have hK : KO τ w w := KO.rf _ _
  refine g_iload_n C dX6_isRead_0 rfl ?_
  refine g_callS C (s_X6_checkThing _ (v := (i : Int)) (by omega)) ml_RX6_61 sm_yX6_checkThing in_RX6 co_yX6_checkThing hd_X6_checkThing rfl ⟨by omega, by omega⟩ rfl (Nat.le_of_ble_eq_true rfl) ⟨by omega, by omega⟩ dX6_isRead_1 (fun v1 w1 hp1 => ?_)
  obtain ⟨rfl, hw1⟩ := hp1
  subst w1
  have J15 : G E X 6 15 [some (.ref (ad 100)), some (iI (i : Int)), some (iI z), none, none, none] [] w 0 0 := by
    refine g_aload_n C dX6_isRead_15 rfl ?_
    refine g_iload_n C dX6_isRead_16 rfl ?_
    refine t_callV C hT (s_X6_unfold _ hC (i := i) (by omega)) (RcV.ob (ci := 8) C rfl hC.o) rfl ml_RX6_90 im_yX6_unfold se_RX6_yX6_unfold in_RX6 co_yX6_unfold hd_X6_unfold rfl ⟨by omega, by omega⟩ rfl (Nat.le_of_ble_eq_true rfl) ⟨by omega, by omega⟩ dX6_isRead_17 (fun v17 w17 hp17 => ?_)
    obtain ⟨rfl, ⟨r, m, d, a, hF, hV, hG⟩, hc17, hk17⟩ := hp17
    replace hC := hc17
    replace hK := hK.tr hk17
    have hs := (hC.W i (by omega)).2.2
    have hgb := hV.1
    have hbl := hgb.1
    have hbh := hgb.2.1
    have hr9 := RT_le hV.1 hV.2.1
    have hr0 := hV.2.1.1
    have hw := wk_f hV.1 hV.2.1 (k := (ss i).toNat) (by omega)
    refine g_astore_n C dX6_isRead_20 (by decide) rfl ?_
    refine g_aload_n C dX6_isRead_21 rfl ?_
    refine g_get (ci := 8) C rfl inTX6 3 (by decide) fl_RX6_30 rfl hC.o rfl dX6_isRead_22 ?_
    refine g_aload_n C dX6_isRead_25 rfl ?_
    refine g_get (ci := 6) C rfl inTX4 1 (by decide) fl_RX6_72 rfl (hC.W i (by omega)).1 rfl dX6_isRead_26 ?_
    refine g_callV C (s_X1_top _ hF (k := ss i) (by omega)) (ci := 3) rfl hF.1 rfl ml_RX6_119 im_yX1_top se_RX1_yX1_top in_RX1 co_yX1_top hd_X1_top rfl ⟨by omega, by omega⟩ rfl (Nat.le_of_ble_eq_true rfl) ⟨by omega, by omega⟩ dX6_isRead_29 (fun v29 w29 hp29 => ?_)
    obtain ⟨⟨j29, rfl, hj29a, hj29b, hj29⟩, hw29⟩ := hp29
    subst w29
    refine g_astore C dX6_isRead_32 (by decide) rfl ?_
    refine g_aload_n C dX6_isRead_34 rfl ?_
    refine g_get (ci := 8) C rfl inTX6 3 (by decide) fl_RX6_30 rfl hC.o rfl dX6_isRead_35 ?_
    refine g_aload_n C dX6_isRead_38 rfl ?_
    refine g_get (ci := 6) C rfl inTX4 1 (by decide) fl_RX6_72 rfl (hC.W i (by omega)).1 rfl dX6_isRead_39 ?_
    refine g_callV C (s_X1_bottom _ hF (k := ss i) (by omega)) (ci := 3) rfl hF.1 rfl ml_RX6_123 im_yX1_bottom se_RX1_yX1_bottom in_RX1 co_yX1_bottom hd_X1_bottom rfl ⟨by omega, by omega⟩ rfl (Nat.le_of_ble_eq_true rfl) ⟨by omega, by omega⟩ dX6_isRead_42 (fun v42 w42 hp42 => ?_)
    obtain ⟨⟨j42, rfl, hj42a, hj42b, hj42⟩, hw42⟩ := hp42
    subst w42
    refine g_astore C dX6_isRead_45 (by decide) rfl ?_
    refine g_iload_n C dX6_isRead_47 rfl ?_
    refine g_if_ne (tgt := 83) C dX6_isRead_48 (by decide) (by omega) (fun h48 => ?_) (fun h48 => ?_)
    · refine g_aload_n C dX6_isRead_83 rfl ?_
      refine g_get (ci := 8) C rfl inTX6 4 (by decide) fl_RX6_37 rfl hC.o rfl dX6_isRead_84 ?_
      refine g_aload C dX6_isRead_87 rfl ?_
      refine g_aload C dX6_isRead_89 rfl ?_
      refine g_iload_n C dX6_isRead_91 rfl ?_
      refine t_callV C hT (s_X0_areReadFromText _ hC.N hC.D (j := j29) (k := j42) (by omega) (by omega) (rx := z) (by omega)) (RcV.ob (ci := 2) C rfl hC.D) rfl ml_RX6_130 im_yX0_areReadFromText se_RX0_yX0_areReadFromText in_RX0 co_yX0_areReadFromText hd_X0_areReadFromText rfl ⟨by omega, by omega⟩ rfl (Nat.le_of_ble_eq_true rfl) ⟨by omega, by omega⟩ dX6_isRead_92 (fun v92 w92 hp92 => ?_)
      obtain ⟨⟨d92, rfl, hd92⟩, hN92, hk92⟩ := hp92
      replace hC := hC.kn hk92 hN92
      replace hK := hK.tr hk92.kc
      replace hF := hF.kn hk92 hN92
      replace hG := hG.kn hk92 hN92
      exact g_zreturn C hQ dX6_isRead_95 (nar01 (by omega)) (by omega) (by omega) ⟨⟨_, rfl, by omega⟩, hC, hK⟩
    · refine g_aload_n C dX6_isRead_51 rfl ?_
      refine g_get (ci := 8) C rfl inTX6 4 (by decide) fl_RX6_37 rfl hC.o rfl dX6_isRead_52 ?_
      refine g_aload C dX6_isRead_55 rfl ?_
      refine g_callV C (s_X0_isReadFromBytes _ hC.N hC.D (j := j29) (by omega)) (ci := 2) rfl hC.D rfl ml_RX6_126 im_yX0_isReadFromBytes se_RX0_yX0_isReadFromBytes in_RX0 co_yX0_isReadFromBytes hd_X0_isReadFromBytes rfl ⟨by omega, by omega⟩ rfl (Nat.le_of_ble_eq_true rfl) ⟨by omega, by omega⟩ dX6_isRead_57 (fun v57 w57 hp57 => ?_)
      obtain ⟨⟨d57, rfl, hd57⟩, hN57, hk57⟩ := hp57
      replace hC := hC.kn hk57 hN57
      replace hK := hK.tr hk57.kc
      replace hF := hF.kn hk57 hN57
      replace hG := hG.kn hk57 hN57
      refine g_if_eq (tgt := 79) C dX6_isRead_60 (by decide) (by omega) (fun h60 => ?_) (fun h60 => ?_)
      · refine g_iconst C dX6_isRead_79 ?_
        refine g_goto (tgt := 95) C dX6_isRead_80 (by decide) ?_
        exact g_zreturn C hQ dX6_isRead_95 (nar01 (by omega)) (by omega) (by omega) ⟨⟨_, rfl, by omega⟩, hC, hK⟩
      · refine g_aload_n C dX6_isRead_63 rfl ?_
        refine g_get (ci := 8) C rfl inTX6 4 (by decide) fl_RX6_37 rfl hC.o rfl dX6_isRead_64 ?_
        refine g_aload C dX6_isRead_67 rfl ?_
        refine g_callV C (s_X0_isReadFromBytes _ hC.N hC.D (j := j42) (by omega)) (ci := 2) rfl hC.D rfl ml_RX6_126 im_yX0_isReadFromBytes se_RX0_yX0_isReadFromBytes in_RX0 co_yX0_isReadFromBytes hd_X0_isReadFromBytes rfl ⟨by omega, by omega⟩ rfl (Nat.le_of_ble_eq_true rfl) ⟨by omega, by omega⟩ dX6_isRead_69 (fun v69 w69 hp69 => ?_)
        obtain ⟨⟨d69, rfl, hd69⟩, hN69, hk69⟩ := hp69
        replace hC := hC.kn hk69 hN69
        replace hK := hK.tr hk69.kc
        replace hF := hF.kn hk69 hN69
        replace hG := hG.kn hk69 hN69
        refine g_if_eq (tgt := 79) C dX6_isRead_72 (by decide) (by omega) (fun h72 => ?_) (fun h72 => ?_)
        · refine g_iconst C dX6_isRead_79 ?_
          refine g_goto (tgt := 95) C dX6_isRead_80 (by decide) ?_
          exact g_zreturn C hQ dX6_isRead_95 (nar01 (by omega)) (by omega) (by omega) ⟨⟨_, rfl, by omega⟩, hC, hK⟩
        · refine g_iconst C dX6_isRead_75 ?_
          refine g_goto (tgt := 95) C dX6_isRead_76 (by decide) ?_
          exact g_zreturn C hQ dX6_isRead_95 (nar01 (by omega)) (by omega) (by omega) ⟨⟨_, rfl, by omega⟩, hC, hK⟩
  refine g_iload_n C dX6_isRead_4 rfl ?_
  refine g_if_eq (tgt := 15) C dX6_isRead_5 (by decide) (by omega) (fun h5 => ?_) (fun h5 => ?_)
  · exact J15
  · refine g_iload_n C dX6_isRead_8 rfl ?_
    refine g_iconst C dX6_isRead_9 ?_
    refine g_bipush C dX6_isRead_10 (by decide) ?_
    refine g_callS C (s_X6_checkRange _ (v := z) (lo := 2) (hi := 16) (by omega) (by omega) (by omega)) ml_RX6_82 sm_yX6_checkRange in_RX6 co_yX6_checkRange hd_X6_checkRange rfl ⟨by omega, by omega⟩ rfl (Nat.le_of_ble_eq_true rfl) ⟨by omega, by omega⟩ dX6_isRead_12 (fun v12 w12 hp12 => ?_)
    obtain ⟨rfl, hw12⟩ := hp12
    subst w12
    exact J15
set_option maxHeartbeats 4000000 in
set_option maxRecDepth 100000 in
theorem s_X6_isNear (l : Launch) {K : KC} {E : GE} {w : Wd} {τ ad : Nat → Nat} {bs ss : Nat → Int} {pb : Nat → PT} {P Q : Nat → Nat} {ct : Nat → Int} (hC0 : CS τ ad w bs ss pb P Q ct) {i : Nat} (hi : i < 3) {z : Int} (hz : 1 ≤ z ∧ z ≤ 3) : St K E l yX6_isNear cX6_isNear 5 (some .boolean) 6 (0) (0) [.ref (ad 100), iI (i : Int), iI z] w (fun r' w' => (∃ x : Int, r' = some (iI x) ∧ (x = 0 ∨ x = 1) ∧ ∃ r, RT (bs i) r ∧ (x = 1 ∧ nearP (bs i) r z (ss i).toNat ∨ x = 0 ∧ ¬ nearP (bs i) r z (ss i).toNat)) ∧ CS τ ad w' (bs) (ss) (pb) (P) (Q) (ct) ∧ KO τ w w') := by
  refine st_intro [some (.ref (ad 100)), some (iI (i : Int)), some (iI z), none, none] rfl (Nat.le_of_ble_eq_true rfl) pn_X6 ?_
  intro X C hT hRm hl hnm hQ
  obtain ⟨hRf, hRl, hRc, hRs⟩ := hRm
  refine g_wf (fun hwf => ?_)
  have hC := hC0
  have hK : KO τ w w := KO.rf _ _
  refine g_iload_n C dX6_isNear_0 rfl ?_
  refine g_callS C (s_X6_checkThing _ (v := (i : Int)) (by omega)) ml_RX6_61 sm_yX6_checkThing in_RX6 co_yX6_checkThing hd_X6_checkThing rfl ⟨by omega, by omega⟩ rfl (Nat.le_of_ble_eq_true rfl) ⟨by omega, by omega⟩ dX6_isNear_1 (fun v1 w1 hp1 => ?_)
  obtain ⟨rfl, hw1⟩ := hp1
  subst w1
  refine g_iload_n C dX6_isNear_4 rfl ?_
  refine g_iconst C dX6_isNear_5 ?_
  refine g_iconst C dX6_isNear_6 ?_
  refine g_callS C (s_X6_checkRange _ (v := z) (lo := 1) (hi := 3) (by omega) (by omega) (by omega)) ml_RX6_82 sm_yX6_checkRange in_RX6 co_yX6_checkRange hd_X6_checkRange rfl ⟨by omega, by omega⟩ rfl (Nat.le_of_ble_eq_true rfl) ⟨by omega, by omega⟩ dX6_isNear_7 (fun v7 w7 hp7 => ?_)
  obtain ⟨rfl, hw7⟩ := hp7
  subst w7
  refine g_aload_n C dX6_isNear_10 rfl ?_
  refine g_iload_n C dX6_isNear_11 rfl ?_
  refine t_callV C hT (s_X6_unfold _ hC (i := i) (by omega)) (RcV.ob (ci := 8) C rfl hC.o) rfl ml_RX6_90 im_yX6_unfold se_RX6_yX6_unfold in_RX6 co_yX6_unfold hd_X6_unfold rfl ⟨by omega, by omega⟩ rfl (Nat.le_of_ble_eq_true rfl) ⟨by omega, by omega⟩ dX6_isNear_12 (fun v12 w12 hp12 => ?_)
  obtain ⟨rfl, ⟨r, m, d, a, hF, hV, hG⟩, hc12, hk12⟩ := hp12
  replace hC := hc12
  replace hK := hK.tr hk12
  have hs := (hC.W i (by omega)).2.2
  have hgb := hV.1
  have hbl := hgb.1
  have hbh := hgb.2.1
  have hr9 := RT_le hV.1 hV.2.1
  have hr0 := hV.2.1.1
  have hw := wk_f hV.1 hV.2.1 (k := (ss i).toNat) (by omega)
  refine g_astore_n C dX6_isNear_15 (by decide) rfl ?_
  refine g_aload_n C dX6_isNear_16 rfl ?_
  refine g_get (ci := 8) C rfl inTX6 3 (by decide) fl_RX6_30 rfl hC.o rfl dX6_isNear_17 ?_
  refine g_aload_n C dX6_isNear_20 rfl ?_
  refine g_get (ci := 6) C rfl inTX4 1 (by decide) fl_RX6_72 rfl (hC.W i (by omega)).1 rfl dX6_isNear_21 ?_
  refine g_iconst C dX6_isNear_24 ?_
  refine g_iadd C dX6_isNear_25 ?_
  refine g_callV C (s_X1_bottom _ hF (k := (ss i + 1)) (by omega)) (ci := 3) rfl hF.1 rfl ml_RX6_123 im_yX1_bottom se_RX1_yX1_bottom in_RX1 co_yX1_bottom hd_X1_bottom rfl ⟨by omega, by omega⟩ rfl (Nat.le_of_ble_eq_true rfl) ⟨by omega, by omega⟩ dX6_isNear_26 (fun v26 w26 hp26 => ?_)
  obtain ⟨⟨j26, rfl, hj26a, hj26b, hj26⟩, hw26⟩ := hp26
  subst w26
  have f26 := hG.bot (k := (ss i + 1)) (j := j26) (by omega) (by have := hj26 (by omega); omega)
  rw [show (ss i + 1).toNat = (ss i).toNat + 1 by omega] at f26
  have bu := row_a hV.1 hV.2.1 (x := 0) (y := 1) (by omega) (by omega) (k := (ss i).toNat + 2) (by omega)
  have cg := cf_good hV.1 hV.2.1 (k := (ss i).toNat + 1) (by omega)
  have haN : aB ((pq (bs i) r 1 r (ss i).toNat).1 * (pq (bs i) r 1 r (ss i).toNat).1 - bs i * ((pq (bs i) r 0 1 (ss i).toNat).1 * (pq (bs i) r 0 1 (ss i).toNat).1)) = (cf (bs i) r ((ss i).toNat + 1)).2.1 := by
    rw [hw.2.2.2.1]
    split
    · exact aB_p (by omega)
    · rw [aB_neg]; exact aB_p (by omega)
  refine g_astore C dX6_isNear_29 (by decide) rfl ?_
  refine g_aload_n C dX6_isNear_31 rfl ?_
  refine g_get (ci := 8) C rfl inTX6 4 (by decide) fl_RX6_37 rfl hC.o rfl dX6_isNear_32 ?_
  refine g_aload_n C dX6_isNear_35 rfl ?_
  refine g_get (ci := 6) C rfl inTX4 0 (by decide) fl_RX6_68 rfl (hC.W i (by omega)).1 rfl dX6_isNear_36 ?_
  refine g_aload_n C dX6_isNear_39 rfl ?_
  refine g_get (ci := 8) C rfl inTX6 3 (by decide) fl_RX6_30 rfl hC.o rfl dX6_isNear_40 ?_
  refine g_aload_n C dX6_isNear_43 rfl ?_
  refine g_get (ci := 6) C rfl inTX4 1 (by decide) fl_RX6_72 rfl (hC.W i (by omega)).1 rfl dX6_isNear_44 ?_
  refine g_callV C (s_X1_top _ hF (k := ss i) (by omega)) (ci := 3) rfl hF.1 rfl ml_RX6_119 im_yX1_top se_RX1_yX1_top in_RX1 co_yX1_top hd_X1_top rfl ⟨by omega, by omega⟩ rfl (Nat.le_of_ble_eq_true rfl) ⟨by omega, by omega⟩ dX6_isNear_47 (fun v47 w47 hp47 => ?_)
  obtain ⟨⟨j47, rfl, hj47a, hj47b, hj47⟩, hw47⟩ := hp47
  subst w47
  have f47 := hG.top (k := ss i) (j := j47) (by omega) (by have := hj47 (by omega); omega)
  refine g_aload_n C dX6_isNear_50 rfl ?_
  refine g_get (ci := 8) C rfl inTX6 3 (by decide) fl_RX6_30 rfl hC.o rfl dX6_isNear_51 ?_
  refine g_aload_n C dX6_isNear_54 rfl ?_
  refine g_get (ci := 6) C rfl inTX4 1 (by decide) fl_RX6_72 rfl (hC.W i (by omega)).1 rfl dX6_isNear_55 ?_
  refine g_callV C (s_X1_bottom _ hF (k := ss i) (by omega)) (ci := 3) rfl hF.1 rfl ml_RX6_123 im_yX1_bottom se_RX1_yX1_bottom in_RX1 co_yX1_bottom hd_X1_bottom rfl ⟨by omega, by omega⟩ rfl (Nat.le_of_ble_eq_true rfl) ⟨by omega, by omega⟩ dX6_isNear_58 (fun v58 w58 hp58 => ?_)
  obtain ⟨⟨j58, rfl, hj58a, hj58b, hj58⟩, hw58⟩ := hp58
  subst w58
  have f58 := hG.bot (k := ss i) (j := j58) (by omega) (by have := hj58 (by omega); omega)
  refine g_aload C dX6_isNear_61 rfl ?_
  refine g_iload_n C dX6_isNear_63 rfl ?_
  refine g_callV C (s_X0_isWithin _ hC.N hC.D (b := bs i) (n := z) (by omega) (by omega) (j := j47) (k := j58) (m := j26) (by omega) (by omega) (by omega) f47 hw.1.1 f58 hw.2.1.1 f26 bu (by rw [haN]; omega)) (ci := 2) rfl hC.D rfl ml_RX6_134 im_yX0_isWithin se_RX0_yX0_isWithin in_RX0 co_yX0_isWithin hd_X0_isWithin rfl ⟨by omega, by omega⟩ rfl (Nat.le_of_ble_eq_true rfl) ⟨by omega, by omega⟩ dX6_isNear_64 (fun v64 w64 hp64 => ?_)
  obtain ⟨rfl, hN64, hk64⟩ := hp64
  replace hC := hC.kn hk64 hN64
  replace hK := hK.tr hk64.kc
  replace hF := hF.kn hk64 hN64
  replace hG := hG.kn hk64 hN64
  exact g_zreturn C hQ dX6_isNear_67 (nar01 (bI_01 _)) (by omega) (by omega) ⟨⟨_, rfl, bI_01 _, r, hV.2.1, by
    rw [haN]
    have e : (cf (bs i) r ((ss i).toNat + 1)).2.1 * (pq (bs i) r 0 1 ((ss i).toNat + 1)).1 * z - (pq (bs i) r 1 r (ss i).toNat).1 = nearO (bs i) r z (ss i).toNat := by unfold nearO; grind
    rw [e, Int.mul_comm _ (bs i)]
    by_cases c : nearP (bs i) r z (ss i).toNat
    · exact Or.inl ⟨bI_t c, c⟩
    · exact Or.inr ⟨bI_f c, c⟩⟩, hC, hK⟩
set_option maxHeartbeats 4000000 in
set_option maxRecDepth 100000 in
theorem s_X6_decimals (l : Launch) {K : KC} {E : GE} {w : Wd} {τ ad : Nat → Nat} {bs ss : Nat → Int} {pb : Nat → PT} {P Q : Nat → Nat} {ct : Nat → Int} (hC0 : CS τ ad w bs ss pb P Q ct) {i : Nat} (hi : i < 3) {z : Nat} (hz : z ≤ 16) : St K E l yX6_decimals cX6_decimals 3 (some (.object "java/lang/String")) 9 (61) (2600) [.ref (ad 100), iI (i : Int), iI (z : Int)] w (fun r' w' => (∃ s : Nat, r' = some (.ref s)) ∧ CS τ ad w' (bs) (ss) (pb) (P) (Q) (ct) ∧ KO τ w w') := by
  refine st_intro [some (.ref (ad 100)), some (iI (i : Int)), some (iI (z : Int))] rfl (Nat.le_of_ble_eq_true rfl) pn_X6 ?_
  intro X C hT hRm hl hnm hQ
  obtain ⟨hRf, hRl, hRc, hRs⟩ := hRm
  refine g_wf (fun hwf => ?_)
  have hC := hC0
  have hK : KO τ w w := KO.rf _ _
  refine g_iload_n C dX6_decimals_0 rfl ?_
  refine g_callS C (s_X6_checkThing _ (v := (i : Int)) (by omega)) ml_RX6_61 sm_yX6_checkThing in_RX6 co_yX6_checkThing hd_X6_checkThing rfl ⟨by omega, by omega⟩ rfl (Nat.le_of_ble_eq_true rfl) ⟨by omega, by omega⟩ dX6_decimals_1 (fun v1 w1 hp1 => ?_)
  obtain ⟨rfl, hw1⟩ := hp1
  subst w1
  refine g_iload_n C dX6_decimals_4 rfl ?_
  refine g_iconst C dX6_decimals_5 ?_
  refine g_bipush C dX6_decimals_6 (by decide) ?_
  refine g_callS C (s_X6_checkRange _ (v := (z : Int)) (lo := 0) (hi := 16) (by omega) (by omega) (by omega)) ml_RX6_82 sm_yX6_checkRange in_RX6 co_yX6_checkRange hd_X6_checkRange rfl ⟨by omega, by omega⟩ rfl (Nat.le_of_ble_eq_true rfl) ⟨by omega, by omega⟩ dX6_decimals_8 (fun v8 w8 hp8 => ?_)
  obtain ⟨rfl, hw8⟩ := hp8
  subst w8
  refine g_aload_n C dX6_decimals_11 rfl ?_
  refine g_get (ci := 8) C rfl inTX6 4 (by decide) fl_RX6_37 rfl hC.o rfl dX6_decimals_12 ?_
  refine g_aload_n C dX6_decimals_15 rfl ?_
  refine g_aload_n C dX6_decimals_16 rfl ?_
  refine g_iload_n C dX6_decimals_17 rfl ?_
  refine t_callV C hT (s_X6_unfold _ hC (i := i) (by omega)) (RcV.ob (ci := 8) C rfl hC.o) rfl ml_RX6_90 im_yX6_unfold se_RX6_yX6_unfold in_RX6 co_yX6_unfold hd_X6_unfold rfl ⟨by omega, by omega⟩ rfl (Nat.le_of_ble_eq_true rfl) ⟨by omega, by omega⟩ dX6_decimals_18 (fun v18 w18 hp18 => ?_)
  obtain ⟨rfl, ⟨r, m, d, a, hF, hV, hG⟩, hc18, hk18⟩ := hp18
  replace hC := hc18
  replace hK := hK.tr hk18
  have hs := (hC.W i (by omega)).2.2
  have hgb := hV.1
  have hbl := hgb.1
  have hbh := hgb.2.1
  have hr9 := RT_le hV.1 hV.2.1
  have hr0 := hV.2.1.1
  have hw := wk_f hV.1 hV.2.1 (k := (ss i).toNat) (by omega)
  refine g_iload_n C dX6_decimals_21 rfl ?_
  refine g_callV C (s_X6_walkDecimals _ hC hi hF hV hG (z := z) hz) (ci := 8) rfl hC.o rfl ml_RX6_138 im_yX6_walkDecimals se_RX6_yX6_walkDecimals in_RX6 co_yX6_walkDecimals hd_X6_walkDecimals rfl ⟨by omega, by omega⟩ rfl (Nat.le_of_ble_eq_true rfl) ⟨by omega, by omega⟩ dX6_decimals_22 (fun v22 w22 hp22 => ?_)
  obtain ⟨rfl, hc22, hk22⟩ := hp22
  replace hC := hc22
  replace hK := hK.tr hk22
  obtain ⟨x22, ex22, hx22, hx222⟩ := gen64 (Int64.ofInt ((pq (bs i) r 1 r (ss i).toNat).1 * 10 ^ z / (pq (bs i) r 0 1 (ss i).toNat).1))
  rw [show jJ ((pq (bs i) r 1 r (ss i).toNat).1 * 10 ^ z / (pq (bs i) r 0 1 (ss i).toNat).1) = jJ x22 from congrArg Value.long ex22]
  refine t_callV C hT (s_X0_longText _ hC.N hC.D (x := x22) (by omega)) (RcV.ob (ci := 2) C rfl hC.D) rfl ml_RX6_142 im_yX0_longText se_RX0_yX0_longText in_RX0 co_yX0_longText hd_X0_longText rfl ⟨by omega, by omega⟩ rfl (Nat.le_of_ble_eq_true rfl) ⟨by omega, by omega⟩ dX6_decimals_25 (fun v25 w25 hp25 => ?_)
  obtain ⟨⟨s25, rfl⟩, hN25, hk25⟩ := hp25
  replace hC := hC.kn hk25 hN25
  replace hK := hK.tr hk25.kc
  exact g_areturn C (Or.inl ⟨_, rfl⟩) hQ (Or.inr ⟨_, rfl⟩) dX6_decimals_28 (by omega) (by omega) ⟨⟨s25, rfl⟩, hC, hK⟩
theorem rt_dn {b Y : Int} {e : Nat} (h : RT (b * 100 ^ (e + 1)) Y) : RT (b * 100 ^ e) (Y / 10) := by
  obtain ⟨h0, h1, h2⟩ := h
  have q0 : 0 ≤ Y / 10 := Int.ediv_nonneg h0 (by decide)
  have q1 : Y / 10 * 10 ≤ Y := by omega
  have q2 : Y + 1 ≤ (Y / 10 + 1) * 10 := by omega
  have e1 := Int.mul_le_mul q1 q1 (by omega) h0
  have e2 := Int.mul_le_mul q2 q2 (by omega) (by omega)
  rw [Int.pow_succ, ← Int.mul_assoc] at h1 h2
  have g1 : Y / 10 * 10 * (Y / 10 * 10) = Y / 10 * (Y / 10) * 100 := by grind
  have g2 : (Y / 10 + 1) * 10 * ((Y / 10 + 1) * 10) = (Y / 10 + 1) * (Y / 10 + 1) * 100 := by grind
  exact ⟨q0, by omega, by omega⟩
theorem dc_dn {P Q : Int} (hQ : 0 < Q) (e : Nat) : P * 10 ^ (e + 1) / Q / 10 = P * 10 ^ e / Q := by
  rw [Int.ediv_ediv_of_nonneg (Int.le_of_lt hQ), Int.pow_succ, ← Int.mul_assoc, Int.mul_ediv_mul_of_pos_left _ _ (show (0 : Int) < 10 by decide)]
theorem dc_r {P Q : Int} (hP : 0 ≤ P) (hPQ : P ≤ 10 * Q) (hQ : 0 < Q) {e : Nat} (he : e ≤ 16) : 0 ≤ P * 10 ^ e / Q ∧ P * 10 ^ e / Q ≤ 100000000000000000 := by
  have p : (0 : Int) < 10 ^ e := Int.pow_pos (by decide)
  have e2 : (10 : Int) ^ 16 = 10 ^ e * 10 ^ (16 - e) := by rw [← Int.pow_add]; congr 1; omega
  have p2 : (1 : Int) ≤ 10 ^ (16 - e) := Int.pow_pos (n := 10) (by decide)
  have h1 := Int.mul_le_mul_of_nonneg_left p2 (Int.le_of_lt p)
  rw [← e2, show (10 : Int) ^ 16 = 10000000000000000 by decide] at h1
  refine ⟨Int.ediv_nonneg (Int.mul_nonneg hP (Int.le_of_lt p)) (Int.le_of_lt hQ), Int.ediv_le_of_le_mul hQ ?_⟩
  have h2 := Int.mul_le_mul hPQ (show (10 : Int) ^ e ≤ 10000000000000000 by omega) (Int.le_of_lt p) (by omega)
  omega
/-- the last places that agree are n - 1 -/
def alkP (b P Q : Int) (n : Nat) : Prop := ∃ Y : Nat → Int, (∀ e, e ≤ 16 → RT (b * 100 ^ e) (Y e)) ∧ (∀ e, n ≤ e → e < 17 → P * 10 ^ e / Q ≠ Y e) ∧ (1 ≤ n → P * 10 ^ (n - 1) / Q = Y (n - 1))
theorem rt_all {b Y : Int} (h : RT (b * 100 ^ 16) Y) : ∃ f : Nat → Int, f 16 = Y ∧ (∀ e, e ≤ 16 → RT (b * 100 ^ e) (f e)) ∧ ∀ e, e < 16 → f (e + 1) / 10 = f e := by
  have key : ∀ n : Nat, n ≤ 16 → RT (b * 100 ^ (16 - n)) (Y / 10 ^ n) := by
    intro n
    induction n with
    | zero => intro _; rw [Int.pow_zero, Int.ediv_one]; exact h
    | succ n ih =>
      intro hn
      have := ih (by omega)
      rw [show 16 - n = (16 - (n + 1)) + 1 by omega] at this
      have g := rt_dn this
      rw [Int.ediv_ediv_of_nonneg (Int.le_of_lt (Int.pow_pos (by decide))), ← Int.pow_succ] at g
      exact g
  refine ⟨fun e => Y / 10 ^ (16 - e), ?_, fun e he => ?_, fun e he => ?_⟩
  · show Y / 10 ^ 0 = Y
    rw [Int.pow_zero, Int.ediv_one]
  · have := key (16 - e) (by omega)
    rw [show 16 - (16 - e) = e by omega] at this
    exact this
  · show Y / 10 ^ (16 - (e + 1)) / 10 = Y / 10 ^ (16 - e)
    rw [Int.ediv_ediv_of_nonneg (Int.le_of_lt (Int.pow_pos (by decide))), ← Int.pow_succ, show (16 - (e + 1)).succ = 16 - e by omega]
theorem g_ldivT {E X own cc nL ret pc L st w k n} (C : CX E X own cc nL ret) {x y : Int} (d : decode cc pc = .ok (.ldiv, 1)) (hx : -9223372036854775808 ≤ x ∧ x < 9223372036854775808) (hy : 1 < y ∧ y < 9223372036854775808) (kk : G E X nL (pc + 1) L (jJ (x.tdiv y) :: st) w k n) : G E X nL pc L (jJ y :: jJ x :: st) w k n := by
  exact fun H locs ls h1 h2 h3 => lv_ldiv C.ex C.co d (by rw [show (0 : Int64) = Int64.ofInt 0 from rfl, j_eq (by omega) (by omega)]; omega) (by
    rw [show Int64.ofInt x / Int64.ofInt y = Int64.ofInt (x.tdiv y) from (Int64.ofInt_tdiv (by show -9223372036854775808 ≤ x; omega) (by show x ≤ 9223372036854775807; omega) (by show -9223372036854775808 ≤ y; omega) (by show y ≤ 9223372036854775807; omega)).symm]
    exact kk H locs ls h1 h2 h3)
set_option maxHeartbeats 4000000 in
set_option maxRecDepth 100000 in
theorem s_X6_alike (l : Launch) {K : KC} {E : GE} {w : Wd} {τ ad : Nat → Nat} {bs ss : Nat → Int} {pb : Nat → PT} {P Q : Nat → Nat} {ct : Nat → Int} (hC0 : CS τ ad w bs ss pb P Q ct) {i : Nat} (hi : i < 3) : St K E l yX6_alike cX6_alike 8 (some .int) 6 (0) (0) [.ref (ad 100), iI (i : Int)] w (fun r' w' => (∃ x : Int, r' = some (iI x) ∧ ∃ r, RT (bs i) r ∧ ∃ n : Nat, n ≤ 17 ∧ x = (n : Int) - 1 ∧ alkP (bs i) (pq (bs i) r 1 r (ss i).toNat).1 (pq (bs i) r 0 1 (ss i).toNat).1 n) ∧ CS τ ad w' (bs) (ss) (pb) (P) (Q) (ct) ∧ KO τ w w') := by
  refine st_intro [some (.ref (ad 100)), some (iI (i : Int)), none, none, none, none, none, none] rfl (Nat.le_of_ble_eq_true rfl) pn_X6 ?_
  intro X C hT hRm hl hnm hQ
  obtain ⟨hRf, hRl, hRc, hRs⟩ := hRm
  refine g_wf (fun hwf => ?_)
  have hC := hC0
  have hK : KO τ w w := KO.rf _ _
  refine g_iload_n C dX6_alike_0 rfl ?_
  refine g_callS C (s_X6_checkThing _ (v := (i : Int)) (by omega)) ml_RX6_61 sm_yX6_checkThing in_RX6 co_yX6_checkThing hd_X6_checkThing rfl ⟨by omega, by omega⟩ rfl (Nat.le_of_ble_eq_true rfl) ⟨by omega, by omega⟩ dX6_alike_1 (fun v1 w1 hp1 => ?_)
  obtain ⟨rfl, hw1⟩ := hp1
  subst w1
  refine g_aload_n C dX6_alike_4 rfl ?_
  refine g_iload_n C dX6_alike_5 rfl ?_
  refine t_callV C hT (s_X6_unfold _ hC (i := i) (by omega)) (RcV.ob (ci := 8) C rfl hC.o) rfl ml_RX6_90 im_yX6_unfold se_RX6_yX6_unfold in_RX6 co_yX6_unfold hd_X6_unfold rfl ⟨by omega, by omega⟩ rfl (Nat.le_of_ble_eq_true rfl) ⟨by omega, by omega⟩ dX6_alike_6 (fun v6 w6 hp6 => ?_)
  obtain ⟨rfl, ⟨r, m, d, a, hF, hV, hG⟩, hc6, hk6⟩ := hp6
  replace hC := hc6
  replace hK := hK.tr hk6
  have hs := (hC.W i (by omega)).2.2
  have hgb := hV.1
  have hbl := hgb.1
  have hbh := hgb.2.1
  have hr9 := RT_le hV.1 hV.2.1
  have hr0 := hV.2.1.1
  have hw := wk_f hV.1 hV.2.1 (k := (ss i).toNat) (by omega)
  refine g_astore_n C dX6_alike_9 (by decide) rfl ?_
  refine g_aload_n C dX6_alike_10 rfl ?_
  refine g_aload_n C dX6_alike_11 rfl ?_
  refine g_bipush C dX6_alike_12 (by decide) ?_
  refine g_callV C (s_X6_walkDecimals _ hC hi hF hV hG (z := 16) (by omega)) (ci := 8) rfl hC.o rfl ml_RX6_138 im_yX6_walkDecimals se_RX6_yX6_walkDecimals in_RX6 co_yX6_walkDecimals hd_X6_walkDecimals rfl ⟨by omega, by omega⟩ rfl (Nat.le_of_ble_eq_true rfl) ⟨by omega, by omega⟩ dX6_alike_14 (fun v14 w14 hp14 => ?_)
  obtain ⟨rfl, hc14, hk14⟩ := hp14
  replace hC := hc14
  replace hK := hK.tr hk14
  refine g_lstore_n C dX6_alike_17 (by decide) rfl ?_
  refine g_aload_n C dX6_alike_18 rfl ?_
  refine g_get (ci := 6) C rfl inTX4 0 (by decide) fl_RX6_68 rfl (hC.W i (by omega)).1 rfl dX6_alike_19 ?_
  refine g_bipush C dX6_alike_22 (by decide) ?_
  refine g_callS C (s_X6_rootDecimals _ (b := bs i) (n := 16) (by omega) (by omega)) ml_RX6_146 sm_yX6_rootDecimals in_RX6 co_yX6_rootDecimals hd_X6_rootDecimals rfl ⟨by omega, by omega⟩ rfl (Nat.le_of_ble_eq_true rfl) ⟨by omega, by omega⟩ dX6_alike_24 (fun v24 w24 hp24 => ?_)
  obtain ⟨⟨x24, rfl, hx24⟩, hw24⟩ := hp24
  subst w24
  obtain ⟨Yf, hY0, hY1, hY2⟩ := rt_all hx24
  rw [← hY0]
  obtain ⟨Pv, hPv⟩ : ∃ v, v = (pq (bs i) r 1 r (ss i).toNat).1 := ⟨_, rfl⟩
  obtain ⟨Qv, hQv⟩ : ∃ v, v = (pq (bs i) r 0 1 (ss i).toNat).1 := ⟨_, rfl⟩
  obtain ⟨-, -, -, -, wk3, wk4, wk5⟩ := id hw
  rw [← hPv] at wk3 wk5
  rw [← hQv] at wk4 wk5
  rw [← hPv, ← hQv]
  refine g_lstore C dX6_alike_27 (by decide) rfl ?_
  refine g_bipush C dX6_alike_29 (by decide) ?_
  refine g_istore C dX6_alike_31 (by decide) rfl ?_
  refine g_gen (fun u33 hu33 => ?_)
  rw [← hu33] at hC hK
  refine g_loop (σ := Nat × Int × Int) (fun s => s.1 ≤ 17 ∧ (1 ≤ s.1 → s.2.1 = Pv * 10 ^ (s.1 - 1) / Qv ∧ s.2.2 = Yf (s.1 - 1)) ∧ (∀ e, s.1 ≤ e → e < 17 → Pv * 10 ^ e / Qv ≠ Yf e)) (fun s => G E X 8 33 [some (.ref (ad 100)), some (iI (i : Int)), some (.ref (ad (120 + i))), some (jJ (s.2.1)), none, some (jJ (s.2.2)), none, some (iI ((s.1 : Int) - 1))] [] u33 0 0) (fun s => s.1) ?_ (17, Pv * 10 ^ 16 / Qv, Yf 16) ⟨by dsimp only; omega, fun _ => ⟨rfl, rfl⟩, fun e h1 h2 => by dsimp only at h1; omega⟩
  rintro ⟨n, y, z⟩ ⟨hn, hyz, hne⟩ ih
  dsimp only at hn hyz hne ⊢
  refine g_iload C dX6_alike_33 rfl ?_
  refine g_if_lt (tgt := 68) C dX6_alike_35 (by decide) (by omega) (fun h35 => ?_) (fun h35 => ?_)
  · refine g_iconst C dX6_alike_68 ?_
    exact g_ireturn C hQ dX6_alike_69 (by omega) (by omega) ⟨⟨_, rfl, r, hV.2.1, 0, by omega, by omega, by rw [← hPv, ← hQv]; exact ⟨Yf, hY1, fun e h1 h2 => hne e (by omega) h2, fun h => by omega⟩⟩, hC, hK⟩
  · obtain ⟨m9, rfl⟩ : ∃ m, n = m + 1 := ⟨n - 1, by omega⟩
    obtain ⟨hy9, hz9⟩ := hyz (by omega)
    rw [Nat.add_sub_cancel] at hy9 hz9
    have hyr := dc_r (P := Pv) (Q := Qv) (by omega) wk5 wk4 (e := m9) (by omega)
    have hzr := rd_le (b := bs i) (by omega) (by omega) (hY1 m9 (by omega))
    rw [← hy9] at hyr
    rw [← hz9] at hzr
    refine g_lload_n C dX6_alike_38 rfl ?_
    refine g_lload C dX6_alike_39 rfl ?_
    refine g_lcmp C dX6_alike_41 (by omega) (by omega) (fun c41 hc41 => ?_)
    refine g_if_ne (tgt := 48) C dX6_alike_42 (by decide) (by omega) (fun h42 => ?_) (fun h42 => ?_)
    · refine g_lload_n C dX6_alike_48 rfl ?_
      refine g_ldc2 (z := 10) C kj_RX6_150 (by decide) dX6_alike_49 ?_
      refine g_ldivT C dX6_alike_52 (by omega) (by omega) ?_
      rw [show Int.tdiv y 10 = y / 10 from Int.tdiv_eq_ediv_of_nonneg (by omega)]
      refine g_lstore_n C dX6_alike_53 (by decide) rfl ?_
      refine g_lload C dX6_alike_54 rfl ?_
      refine g_ldc2 (z := 10) C kj_RX6_150 (by decide) dX6_alike_56 ?_
      refine g_ldivT C dX6_alike_59 (by omega) (by omega) ?_
      rw [show Int.tdiv z 10 = z / 10 from Int.tdiv_eq_ediv_of_nonneg (by omega)]
      refine g_lstore C dX6_alike_60 (by decide) rfl ?_
      refine g_iinc C dX6_alike_62 rfl (by decide) rfl ?_
      refine g_goto (tgt := 33) C dX6_alike_65 (by decide) ?_
      rw [show ((m9 + 1 : Nat) : Int) - 1 + -1 = ((m9 : Nat) : Int) - 1 by omega]
      exact ih (m9, y / 10, z / 10) ⟨by dsimp only; omega, fun h1 => by
        dsimp only at h1 ⊢
        obtain ⟨m8, rfl⟩ : ∃ m, m9 = m + 1 := ⟨m9 - 1, by omega⟩
        rw [Nat.add_sub_cancel, hy9, hz9]
        exact ⟨dc_dn wk4 m8, hY2 m8 (by omega)⟩, fun e h1 h2 => by
        dsimp only at h1
        by_cases c : e = m9
        · subst c
          rw [← hy9, ← hz9]
          omega
        · exact hne e (by omega) h2⟩ (by dsimp only; omega)
    · refine g_iload C dX6_alike_45 rfl ?_
      exact g_ireturn C hQ dX6_alike_47 (by omega) (by omega) ⟨⟨_, rfl, r, hV.2.1, m9 + 1, by omega, by omega, by rw [← hPv, ← hQv]; exact ⟨Yf, hY1, fun e h1 h2 => hne e h1 h2, fun _ => by rw [Nat.add_sub_cancel, ← hy9, ← hz9]; omega⟩⟩, hC, hK⟩
theorem SBq.chr {W0 w u : Wd} {a v n m N : Nat} (hn : n ≤ N) (hm : m ≤ 2 * n + 16) (hv : W0.1 ≤ v) (ha : W0.1 ≤ a) (hf : Fr W0 w) (h : ∃ v' : Nat, SBw u a v' (n + 1) (capG (n + 1) m) ∧ (v' = v ∨ w.1 ≤ v') ∧ FrY w u a v) : SBq W0 u a (N + 1) := by
  obtain ⟨v', h3, h4, h5⟩ := h
  exact ⟨v', n + 1, _, h3, by omega, capG_up hm, by have := hf.1; omega, ha, FrY.fr hf h5 ha hv⟩
theorem grow1c {n m : Nat} (hm : m ≤ 2 * n + 16) : gC (n + 1) m ≤ 1 ∧ gS (n + 1) m ≤ 2 * n + 18 := by
  have h2 := capG_up (k := 1) hm
  exact ⟨by unfold gC; split <;> omega, by unfold gS; split <;> omega⟩
theorem SBq.f {W0 w : Wd} {a N : Nat} (h : SBq W0 w a N) : Fr W0 w := by
  obtain ⟨v, n, m, -, -, -, -, -, h⟩ := h
  exact h
theorem FS.frm {ad : Nat → Nat} {w w' : Wd} {fb fr : Int} {m d a : Nat → Int} (h : FS ad w fb fr m d a) (g : Fr w w') (hw : wF w) : FS ad w' fb fr m d a := by
  have k : ∀ {q x}, w.2 q = some x → w'.2 q = some x := fun {q x} e => by rw [g.2 q (hw q x e)]; exact e
  obtain ⟨h1, h2, h3, h4, ⟨R, h5, h6⟩, ⟨R2, h7, h8⟩⟩ := h
  exact ⟨k h1, k h2, k h3, k h4, ⟨R, k h5, h6⟩, ⟨R2, k h7, h8⟩⟩
set_option maxHeartbeats 4000000 in
set_option maxRecDepth 100000 in
theorem s_X6_rootText (l : Launch) {K : KC} {E : GE} {w : Wd} {τ ad : Nat → Nat} {bs ss : Nat → Int} {pb : Nat → PT} {P Q : Nat → Nat} {ct : Nat → Int} (hC0 : CS τ ad w bs ss pb P Q ct) {b : Int} {z : Nat} (hb : 1 ≤ b ∧ b ≤ 99) (hz : z ≤ 16) : St K E l yX6_rootText cX6_rootText 3 (some (.object "java/lang/String")) 9 (61) (2600) [.ref (ad 100), iI b, iI (z : Int)] w (fun r' w' => (∃ s : Nat, r' = some (.ref s)) ∧ CS τ ad w' (bs) (ss) (pb) (P) (Q) (ct) ∧ KO τ w w') := by
  refine st_intro [some (.ref (ad 100)), some (iI b), some (iI (z : Int))] rfl (Nat.le_of_ble_eq_true rfl) pn_X6 ?_
  intro X C hT hRm hl hnm hQ
  obtain ⟨hRf, hRl, hRc, hRs⟩ := hRm
  refine g_wf (fun hwf => ?_)
  have hC := hC0
  have hK : KO τ w w := KO.rf _ _
  refine g_iload_n C dX6_rootText_0 rfl ?_
  refine g_iconst C dX6_rootText_1 ?_
  refine g_bipush C dX6_rootText_2 (by decide) ?_
  refine g_callS C (s_X6_checkRange _ (v := b) (lo := 1) (hi := 99) (by omega) (by omega) (by omega)) ml_RX6_82 sm_yX6_checkRange in_RX6 co_yX6_checkRange hd_X6_checkRange rfl ⟨by omega, by omega⟩ rfl (Nat.le_of_ble_eq_true rfl) ⟨by omega, by omega⟩ dX6_rootText_4 (fun v4 w4 hp4 => ?_)
  obtain ⟨rfl, hw4⟩ := hp4
  subst w4
  refine g_iload_n C dX6_rootText_7 rfl ?_
  refine g_iconst C dX6_rootText_8 ?_
  refine g_bipush C dX6_rootText_9 (by decide) ?_
  refine g_callS C (s_X6_checkRange _ (v := (z : Int)) (lo := 0) (hi := 16) (by omega) (by omega) (by omega)) ml_RX6_82 sm_yX6_checkRange in_RX6 co_yX6_checkRange hd_X6_checkRange rfl ⟨by omega, by omega⟩ rfl (Nat.le_of_ble_eq_true rfl) ⟨by omega, by omega⟩ dX6_rootText_11 (fun v11 w11 hp11 => ?_)
  obtain ⟨rfl, hw11⟩ := hp11
  subst w11
  refine g_aload_n C dX6_rootText_14 rfl ?_
  refine g_get (ci := 8) C rfl inTX6 4 (by decide) fl_RX6_37 rfl hC.o rfl dX6_rootText_15 ?_
  refine g_iload_n C dX6_rootText_18 rfl ?_
  refine g_iload_n C dX6_rootText_19 rfl ?_
  refine g_callS C (s_X6_rootDecimals _ (b := b) (n := z) hb hz) ml_RX6_146 sm_yX6_rootDecimals in_RX6 co_yX6_rootDecimals hd_X6_rootDecimals rfl ⟨by omega, by omega⟩ rfl (Nat.le_of_ble_eq_true rfl) ⟨by omega, by omega⟩ dX6_rootText_20 (fun v20 w20 hp20 => ?_)
  obtain ⟨⟨x20, rfl, hx20⟩, hw20⟩ := hp20
  subst w20
  have hx20b := rd_le hb hz hx20
  refine t_callV C hT (s_X0_longText _ hC.N hC.D (x := x20) (by omega)) (RcV.ob (ci := 2) C rfl hC.D) rfl ml_RX6_142 im_yX0_longText se_RX0_yX0_longText in_RX0 co_yX0_longText hd_X0_longText rfl ⟨by omega, by omega⟩ rfl (Nat.le_of_ble_eq_true rfl) ⟨by omega, by omega⟩ dX6_rootText_23 (fun v23 w23 hp23 => ?_)
  obtain ⟨⟨s23, rfl⟩, hN23, hk23⟩ := hp23
  replace hC := hC.kn hk23 hN23
  replace hK := hK.tr hk23.kc
  exact g_areturn C (Or.inl ⟨_, rfl⟩) hQ (Or.inr ⟨_, rfl⟩) dX6_rootText_26 (by omega) (by omega) ⟨⟨s23, rfl⟩, hC, hK⟩
set_option maxHeartbeats 4000000 in
set_option maxRecDepth 100000 in
theorem s_X6_period (l : Launch) {K : KC} {E : GE} {w : Wd} {τ ad : Nat → Nat} {bs ss : Nat → Int} {pb : Nat → PT} {P Q : Nat → Nat} {ct : Nat → Int} (hC0 : CS τ ad w bs ss pb P Q ct) {b : Int} (hb : GB b) : St K E l yX6_period cX6_period 2 (some .int) 6 (0) (0) [.ref (ad 100), iI b] w (fun r' w' => ∃ (r : Int) (p : Nat), r' = some (iI (p : Int)) ∧ RT b r ∧ isPer b r p ∧ CS τ ad w' (bs) (ss) (pb) (P) (Q) (ct) ∧ KO τ w w') := by
  refine st_intro [some (.ref (ad 100)), some (iI b)] rfl (Nat.le_of_ble_eq_true rfl) pn_X6 ?_
  intro X C hT hRm hl hnm hQ
  obtain ⟨hRf, hRl, hRc, hRs⟩ := hRm
  refine g_wf (fun hwf => ?_)
  have hC := hC0
  have hK : KO τ w w := KO.rf _ _
  refine g_iload_n C dX6_period_0 rfl ?_
  refine g_callS C (s_X6_checkBase _ (v := b) hb) ml_RX6_65 sm_yX6_checkBase in_RX6 co_yX6_checkBase hd_X6_checkBase rfl ⟨by omega, by omega⟩ rfl (Nat.le_of_ble_eq_true rfl) ⟨by omega, by omega⟩ dX6_period_1 (fun v1 w1 hp1 => ?_)
  obtain ⟨rfl, hw1⟩ := hp1
  subst w1
  obtain ⟨fb, fr, m0, d0, a0, hF0, hv0, hb0⟩ := hC.F
  refine g_aload_n C dX6_period_4 rfl ?_
  refine g_get (ci := 8) C rfl inTX6 3 (by decide) fl_RX6_30 rfl hC.o rfl dX6_period_5 ?_
  refine g_iload_n C dX6_period_8 rfl ?_
  refine t_callV C hT (s_X1_expand _ hC.N hF0 hv0 hb0 hb) (RcV.ob (ci := 3) C rfl hF0.1) rfl ml_RX6_152 im_yX1_expand se_RX1_yX1_expand in_RX1 co_yX1_expand hd_X1_expand rfl ⟨by omega, by omega⟩ rfl (Nat.le_of_ble_eq_true rfl) ⟨by omega, by omega⟩ dX6_period_9 (fun v9 w9 hp9 => ?_)
  obtain ⟨rfl, r1, m1, d1, a1, hF, V1, G1, N1, K1⟩ := hp9
  have hb1 := hb.1
  have hb2 := hb.2.1
  replace hC := hC.kf K1 N1 ⟨_, _, _, _, _, hF, Or.inr ⟨V1, G1⟩, by omega⟩
  replace hK := hK.tr K1.kc
  have hva := V1.a
  refine g_aload_n C dX6_period_12 rfl ?_
  refine g_get (ci := 8) C rfl inTX6 3 (by decide) fl_RX6_30 rfl hC.o rfl dX6_period_13 ?_
  refine g_callV C (s_X1_turn _ hF (fun k hk => by have := V1.a k hk; omega)) (ci := 3) rfl hF.1 rfl ml_RX6_155 im_yX1_turn se_RX1_yX1_turn in_RX1 co_yX1_turn hd_X1_turn rfl ⟨by omega, by omega⟩ rfl (Nat.le_of_ble_eq_true rfl) ⟨by omega, by omega⟩ dX6_period_16 (fun v16 w16 hp16 => ?_)
  obtain ⟨⟨p, rfl, hp1, hp2, hp3⟩, hw16⟩ := hp16
  subst w16
  exact g_ireturn C hQ dX6_period_19 (by omega) (by omega) ⟨r1, p, rfl, V1.2.1, V1.per hp1 hp2 hp3, hC, hK⟩
set_option maxHeartbeats 4000000 in
set_option maxRecDepth 100000 in
theorem s_X6_solution (l : Launch) {K : KC} {E : GE} {w : Wd} {τ ad : Nat → Nat} {bs ss : Nat → Int} {pb : Nat → PT} {P Q : Nat → Nat} {ct : Nat → Int} (hC0 : CS τ ad w bs ss pb P Q ct) {b : Int} (hb : GB b) {y : Int} (hy : y = 0 ∨ y = 1) : St K E l yX6_solution cX6_solution 4 (some (.object "java/lang/String")) 9 (61) (2600) [.ref (ad 100), iI b, iI y] w (fun r' w' => (∃ s : Nat, r' = some (.ref s)) ∧ CS τ ad w' (bs) (ss) (pb) (P) (Q) (ct) ∧ KO τ w w') := by
  refine st_intro [some (.ref (ad 100)), some (iI b), some (iI y), none] rfl (Nat.le_of_ble_eq_true rfl) pn_X6 ?_
  intro X C hT hRm hl hnm hQ
  obtain ⟨hRf, hRl, hRc, hRs⟩ := hRm
  refine g_wf (fun hwf => ?_)
  have hC := hC0
  have hK : KO τ w w := KO.rf _ _
  refine g_iload_n C dX6_solution_0 rfl ?_
  refine g_callS C (s_X6_checkBase _ (v := b) hb) ml_RX6_65 sm_yX6_checkBase in_RX6 co_yX6_checkBase hd_X6_checkBase rfl ⟨by omega, by omega⟩ rfl (Nat.le_of_ble_eq_true rfl) ⟨by omega, by omega⟩ dX6_solution_1 (fun v1 w1 hp1 => ?_)
  obtain ⟨rfl, hw1⟩ := hp1
  subst w1
  obtain ⟨fb, fr, m0, d0, a0, hF0, hv0, hb0⟩ := hC.F
  refine g_aload_n C dX6_solution_4 rfl ?_
  refine g_get (ci := 8) C rfl inTX6 3 (by decide) fl_RX6_30 rfl hC.o rfl dX6_solution_5 ?_
  refine g_iload_n C dX6_solution_8 rfl ?_
  refine t_callV C hT (s_X1_expand _ hC.N hF0 hv0 hb0 hb) (RcV.ob (ci := 3) C rfl hF0.1) rfl ml_RX6_152 im_yX1_expand se_RX1_yX1_expand in_RX1 co_yX1_expand hd_X1_expand rfl ⟨by omega, by omega⟩ rfl (Nat.le_of_ble_eq_true rfl) ⟨by omega, by omega⟩ dX6_solution_9 (fun v9 w9 hp9 => ?_)
  obtain ⟨rfl, r1, m1, d1, a1, hF, V1, G1, N1, K1⟩ := hp9
  have hb1 := hb.1
  have hb2 := hb.2.1
  replace hC := hC.kf K1 N1 ⟨_, _, _, _, _, hF, Or.inr ⟨V1, G1⟩, by omega⟩
  replace hK := hK.tr K1.kc
  have hva := V1.a
  refine g_aload_n C dX6_solution_12 rfl ?_
  refine g_get (ci := 8) C rfl inTX6 3 (by decide) fl_RX6_30 rfl hC.o rfl dX6_solution_13 ?_
  refine g_callV C (s_X1_solutionStep _ hF (fun k hk => by have := V1.a k hk; omega)) (ci := 3) rfl hF.1 rfl ml_RX6_175 im_yX1_solutionStep se_RX1_yX1_solutionStep in_RX1 co_yX1_solutionStep hd_X1_solutionStep rfl ⟨by omega, by omega⟩ rfl (Nat.le_of_ble_eq_true rfl) ⟨by omega, by omega⟩ dX6_solution_16 (fun v16 w16 hp16 => ?_)
  obtain ⟨⟨p16, rfl, hp16a, hp16b, hp16c⟩, hw16⟩ := hp16
  subst w16
  have hl16 : leaK p16 ≤ 50 := by unfold leaK; split <;> omega
  refine g_istore_n C dX6_solution_19 (by decide) rfl ?_
  refine g_aload_n C dX6_solution_20 rfl ?_
  refine g_get (ci := 8) C rfl inTX6 4 (by decide) fl_RX6_37 rfl hC.o rfl dX6_solution_21 ?_
  refine g_iload_n C dX6_solution_24 rfl ?_
  have J : ∀ j : Nat, (16 ≤ j ∧ j < 70) → G E X 4 47 [some (.ref (ad 100)), some (iI b), some (iI y), some (iI ((leaK p16 : Nat) : Int))] [.ref (wo ad j), .ref (ad 110)] w9 0 0 := by
    intro j hj
    refine g_bipush C dX6_solution_47 (by decide) ?_
    refine t_callV C hT (s_X0_text _ hC.N hC.D (j := j) (by omega) (rx := 10) (by omega)) (RcV.ob (ci := 2) C rfl hC.D) rfl ml_RX6_102 im_yX0_text se_RX0_yX0_text in_RX0 co_yX0_text hd_X0_text rfl ⟨by omega, by omega⟩ rfl (Nat.le_of_ble_eq_true rfl) ⟨by omega, by omega⟩ dX6_solution_49 (fun v49 w49 hp49 => ?_)
    obtain ⟨⟨s49, rfl⟩, hN49, hk49⟩ := hp49
    replace hC := hC.kn hk49 hN49
    replace hK := hK.tr hk49.kc
    exact g_areturn C (Or.inl ⟨_, rfl⟩) hQ (Or.inr ⟨_, rfl⟩) dX6_solution_52 (by omega) (by omega) ⟨⟨s49, rfl⟩, hC, hK⟩
  refine g_if_eq (tgt := 39) C dX6_solution_25 (by decide) (by omega) (fun h25 => ?_) (fun h25 => ?_)
  · refine g_aload_n C dX6_solution_39 rfl ?_
    refine g_get (ci := 8) C rfl inTX6 3 (by decide) fl_RX6_30 rfl hC.o rfl dX6_solution_40 ?_
    refine g_iload_n C dX6_solution_43 rfl ?_
    refine g_callV C (s_X1_bottom _ hF (k := ((leaK p16 : Nat) : Int)) (by omega)) (ci := 3) rfl hF.1 rfl ml_RX6_123 im_yX1_bottom se_RX1_yX1_bottom in_RX1 co_yX1_bottom hd_X1_bottom rfl ⟨by omega, by omega⟩ rfl (Nat.le_of_ble_eq_true rfl) ⟨by omega, by omega⟩ dX6_solution_44 (fun v44 w44 hp44 => ?_)
    obtain ⟨⟨j44, rfl, hj44a, hj44b, hj44⟩, hw44⟩ := hp44
    subst w44
    exact J _ (by omega)
  · refine g_aload_n C dX6_solution_28 rfl ?_
    refine g_get (ci := 8) C rfl inTX6 3 (by decide) fl_RX6_30 rfl hC.o rfl dX6_solution_29 ?_
    refine g_iload_n C dX6_solution_32 rfl ?_
    refine g_callV C (s_X1_top _ hF (k := ((leaK p16 : Nat) : Int)) (by omega)) (ci := 3) rfl hF.1 rfl ml_RX6_119 im_yX1_top se_RX1_yX1_top in_RX1 co_yX1_top hd_X1_top rfl ⟨by omega, by omega⟩ rfl (Nat.le_of_ble_eq_true rfl) ⟨by omega, by omega⟩ dX6_solution_33 (fun v33 w33 hp33 => ?_)
    obtain ⟨⟨j33, rfl, hj33a, hj33b, hj33⟩, hw33⟩ := hp33
    subst w33
    refine g_goto (tgt := 47) C dX6_solution_36 (by decide) ?_
    exact J _ (by omega)
set_option maxHeartbeats 4000000 in
set_option maxRecDepth 100000 in
theorem s_X6_minus (l : Launch) {K : KC} {E : GE} {w : Wd} {τ ad : Nat → Nat} {bs ss : Nat → Int} {pb : Nat → PT} {P Q : Nat → Nat} {ct : Nat → Int} (hC0 : CS τ ad w bs ss pb P Q ct) {b : Int} (hb : GB b) {y : Int} (hy : y = 0 ∨ y = 1) : St K E l yX6_minus cX6_minus 4 (some (.object "java/lang/String")) 9 (61) (2600) [.ref (ad 100), iI b, iI y] w (fun r' w' => (∃ s : Nat, r' = some (.ref s)) ∧ CS τ ad w' (bs) (ss) (pb) (P) (Q) (ct) ∧ KO τ w w') := by
  refine st_intro [some (.ref (ad 100)), some (iI b), some (iI y), none] rfl (Nat.le_of_ble_eq_true rfl) pn_X6 ?_
  intro X C hT hRm hl hnm hQ
  obtain ⟨hRf, hRl, hRc, hRs⟩ := hRm
  refine g_wf (fun hwf => ?_)
  have hC := hC0
  have hK : KO τ w w := KO.rf _ _
  refine g_iload_n C dX6_minus_0 rfl ?_
  refine g_callS C (s_X6_checkBase _ (v := b) hb) ml_RX6_65 sm_yX6_checkBase in_RX6 co_yX6_checkBase hd_X6_checkBase rfl ⟨by omega, by omega⟩ rfl (Nat.le_of_ble_eq_true rfl) ⟨by omega, by omega⟩ dX6_minus_1 (fun v1 w1 hp1 => ?_)
  obtain ⟨rfl, hw1⟩ := hp1
  subst w1
  obtain ⟨fb, fr, m0, d0, a0, hF0, hv0, hb0⟩ := hC.F
  refine g_aload_n C dX6_minus_4 rfl ?_
  refine g_get (ci := 8) C rfl inTX6 3 (by decide) fl_RX6_30 rfl hC.o rfl dX6_minus_5 ?_
  refine g_iload_n C dX6_minus_8 rfl ?_
  refine t_callV C hT (s_X1_expand _ hC.N hF0 hv0 hb0 hb) (RcV.ob (ci := 3) C rfl hF0.1) rfl ml_RX6_152 im_yX1_expand se_RX1_yX1_expand in_RX1 co_yX1_expand hd_X1_expand rfl ⟨by omega, by omega⟩ rfl (Nat.le_of_ble_eq_true rfl) ⟨by omega, by omega⟩ dX6_minus_9 (fun v9 w9 hp9 => ?_)
  obtain ⟨rfl, r1, m1, d1, a1, hF, V1, G1, N1, K1⟩ := hp9
  have hb1 := hb.1
  have hb2 := hb.2.1
  replace hC := hC.kf K1 N1 ⟨_, _, _, _, _, hF, Or.inr ⟨V1, G1⟩, by omega⟩
  replace hK := hK.tr K1.kc
  have hva := V1.a
  refine g_aload_n C dX6_minus_12 rfl ?_
  refine g_get (ci := 8) C rfl inTX6 3 (by decide) fl_RX6_30 rfl hC.o rfl dX6_minus_13 ?_
  refine g_callV C (s_X1_isTurnOdd _ hF (fun k hk => by have := V1.a k hk; omega)) (ci := 3) rfl hF.1 rfl ml_RX6_178 im_yX1_isTurnOdd se_RX1_yX1_isTurnOdd in_RX1 co_yX1_isTurnOdd hd_X1_isTurnOdd rfl ⟨by omega, by omega⟩ rfl (Nat.le_of_ble_eq_true rfl) ⟨by omega, by omega⟩ dX6_minus_16 (fun v16 w16 hp16 => ?_)
  obtain ⟨⟨p, rfl, hp1, hp2, hp3⟩, hw16⟩ := hp16
  subst w16
  refine g_if_ne (tgt := 25) C dX6_minus_19 (by decide) (bI_r _) (fun h19 => ?_) (fun h19 => ?_)
  · refine g_aload_n C dX6_minus_25 rfl ?_
    refine g_get (ci := 8) C rfl inTX6 3 (by decide) fl_RX6_30 rfl hC.o rfl dX6_minus_26 ?_
    refine g_callV C (s_X1_turn _ hF (fun k hk => by have := V1.a k hk; omega)) (ci := 3) rfl hF.1 rfl ml_RX6_155 im_yX1_turn se_RX1_yX1_turn in_RX1 co_yX1_turn hd_X1_turn rfl ⟨by omega, by omega⟩ rfl (Nat.le_of_ble_eq_true rfl) ⟨by omega, by omega⟩ dX6_minus_29 (fun v29 w29 hp29 => ?_)
    obtain ⟨⟨p2, rfl, hp4, hp5, hp6⟩, hw29⟩ := hp29
    subst w29
    refine g_iconst C dX6_minus_32 ?_
    refine g_isub C dX6_minus_33 ?_
    refine g_istore_n C dX6_minus_34 (by decide) rfl ?_
    refine g_aload_n C dX6_minus_35 rfl ?_
    refine g_get (ci := 8) C rfl inTX6 4 (by decide) fl_RX6_37 rfl hC.o rfl dX6_minus_36 ?_
    refine g_iload_n C dX6_minus_39 rfl ?_
    have J : ∀ j : Nat, (16 ≤ j ∧ j < 70) → G E X 4 62 [some (.ref (ad 100)), some (iI b), some (iI y), some (iI ((p2 : Int) - 1))] [.ref (wo ad j), .ref (ad 110)] w9 0 0 := by
      intro j hj
      refine g_bipush C dX6_minus_62 (by decide) ?_
      refine t_callV C hT (s_X0_text _ hC.N hC.D (j := j) (by omega) (rx := 10) (by omega)) (RcV.ob (ci := 2) C rfl hC.D) rfl ml_RX6_102 im_yX0_text se_RX0_yX0_text in_RX0 co_yX0_text hd_X0_text rfl ⟨by omega, by omega⟩ rfl (Nat.le_of_ble_eq_true rfl) ⟨by omega, by omega⟩ dX6_minus_64 (fun v64 w64 hp64 => ?_)
      obtain ⟨⟨s64, rfl⟩, hN64, hk64⟩ := hp64
      replace hC := hC.kn hk64 hN64
      replace hK := hK.tr hk64.kc
      exact g_areturn C (Or.inl ⟨_, rfl⟩) hQ (Or.inr ⟨_, rfl⟩) dX6_minus_67 (by omega) (by omega) ⟨⟨s64, rfl⟩, hC, hK⟩
    refine g_if_eq (tgt := 54) C dX6_minus_40 (by decide) (by omega) (fun h40 => ?_) (fun h40 => ?_)
    · refine g_aload_n C dX6_minus_54 rfl ?_
      refine g_get (ci := 8) C rfl inTX6 3 (by decide) fl_RX6_30 rfl hC.o rfl dX6_minus_55 ?_
      refine g_iload_n C dX6_minus_58 rfl ?_
      refine g_callV C (s_X1_bottom _ hF (k := ((p2 : Int) - 1)) (by omega)) (ci := 3) rfl hF.1 rfl ml_RX6_123 im_yX1_bottom se_RX1_yX1_bottom in_RX1 co_yX1_bottom hd_X1_bottom rfl ⟨by omega, by omega⟩ rfl (Nat.le_of_ble_eq_true rfl) ⟨by omega, by omega⟩ dX6_minus_59 (fun v59 w59 hp59 => ?_)
      obtain ⟨⟨j59, rfl, hj59a, hj59b, hj59⟩, hw59⟩ := hp59
      subst w59
      exact J _ (by omega)
    · refine g_aload_n C dX6_minus_43 rfl ?_
      refine g_get (ci := 8) C rfl inTX6 3 (by decide) fl_RX6_30 rfl hC.o rfl dX6_minus_44 ?_
      refine g_iload_n C dX6_minus_47 rfl ?_
      refine g_callV C (s_X1_top _ hF (k := ((p2 : Int) - 1)) (by omega)) (ci := 3) rfl hF.1 rfl ml_RX6_119 im_yX1_top se_RX1_yX1_top in_RX1 co_yX1_top hd_X1_top rfl ⟨by omega, by omega⟩ rfl (Nat.le_of_ble_eq_true rfl) ⟨by omega, by omega⟩ dX6_minus_48 (fun v48 w48 hp48 => ?_)
      obtain ⟨⟨j48, rfl, hj48a, hj48b, hj48⟩, hw48⟩ := hp48
      subst w48
      refine g_goto (tgt := 62) C dX6_minus_51 (by decide) ?_
      exact J _ (by omega)
  · refine g_ldcS C hT 4 rfl dX6_minus_22 ?_
    exact g_areturn C (Or.inl ⟨_, rfl⟩) hQ (Or.inr ⟨_, rfl⟩) dX6_minus_24 (by omega) (by omega) ⟨⟨_, rfl⟩, hC, hK⟩
theorem SBq.up {W0 w : Wd} {a N N' : Nat} (h : SBq W0 w a N) (hN : N ≤ N') : SBq W0 w a N' := by
  obtain ⟨v, n, m, h1, h2, h3, h4, h5, h6⟩ := h
  exact ⟨v, n, m, h1, by omega, h3, h4, h5, h6⟩
set_option maxHeartbeats 4000000 in
set_option maxRecDepth 100000 in
theorem s_X6_periodText (l : Launch) {K : KC} {E : GE} {w : Wd} {τ ad : Nat → Nat} {bs ss : Nat → Int} {pb : Nat → PT} {P Q : Nat → Nat} {ct : Nat → Int} (hC0 : CS τ ad w bs ss pb P Q ct) {b : Int} (hb : GB b) : St K E l yX6_periodText cX6_periodText 5 (some (.object "java/lang/String")) 7 (50) (27000) [.ref (ad 100), iI b] w (fun r' w' => (∃ s : Nat, r' = some (.ref s)) ∧ CS τ ad w' (bs) (ss) (pb) (P) (Q) (ct) ∧ KO τ w w') := by
  refine st_intro [some (.ref (ad 100)), some (iI b), none, none, none] rfl (Nat.le_of_ble_eq_true rfl) pn_X6 ?_
  intro X C hT hRm hl hnm hQ
  obtain ⟨hRf, hRl, hRc, hRs⟩ := hRm
  refine g_wf (fun hwf => ?_)
  have hC := hC0
  have hK : KO τ w w := KO.rf _ _
  refine g_iload_n C dX6_periodText_0 rfl ?_
  refine g_callS C (s_X6_checkBase _ (v := b) hb) ml_RX6_65 sm_yX6_checkBase in_RX6 co_yX6_checkBase hd_X6_checkBase rfl ⟨by omega, by omega⟩ rfl (Nat.le_of_ble_eq_true rfl) ⟨by omega, by omega⟩ dX6_periodText_1 (fun v1 w1 hp1 => ?_)
  obtain ⟨rfl, hw1⟩ := hp1
  subst w1
  obtain ⟨fb, fr, m0, d0, a0, hF0, hv0, hb0⟩ := hC.F
  refine g_aload_n C dX6_periodText_4 rfl ?_
  refine g_get (ci := 8) C rfl inTX6 3 (by decide) fl_RX6_30 rfl hC.o rfl dX6_periodText_5 ?_
  refine g_iload_n C dX6_periodText_8 rfl ?_
  refine t_callV C hT (s_X1_expand _ hC.N hF0 hv0 hb0 hb) (RcV.ob (ci := 3) C rfl hF0.1) rfl ml_RX6_152 im_yX1_expand se_RX1_yX1_expand in_RX1 co_yX1_expand hd_X1_expand rfl ⟨by omega, by omega⟩ rfl (Nat.le_of_ble_eq_true rfl) ⟨by omega, by omega⟩ dX6_periodText_9 (fun v9 w9 hp9 => ?_)
  obtain ⟨rfl, r1, m1, d1, a1, hF, V1, G1, N1, K1⟩ := hp9
  have hb1 := hb.1
  have hb2 := hb.2.1
  replace hC := hC.kf K1 N1 ⟨_, _, _, _, _, hF, Or.inr ⟨V1, G1⟩, by omega⟩
  replace hK := hK.tr K1.kc
  have hva := V1.a
  refine g_aload_n C dX6_periodText_12 rfl ?_
  refine g_get (ci := 8) C rfl inTX6 3 (by decide) fl_RX6_30 rfl hC.o rfl dX6_periodText_13 ?_
  refine g_callV C (s_X1_turn _ hF (fun k hk => by have := V1.a k hk; omega)) (ci := 3) rfl hF.1 rfl ml_RX6_155 im_yX1_turn se_RX1_yX1_turn in_RX1 co_yX1_turn hd_X1_turn rfl ⟨by omega, by omega⟩ rfl (Nat.le_of_ble_eq_true rfl) ⟨by omega, by omega⟩ dX6_periodText_16 (fun v16 w16 hp16 => ?_)
  obtain ⟨⟨p, rfl, hp1, hp2, hp3⟩, hw16⟩ := hp16
  subst w16
  have hper := (V1.per hp1 hp2 hp3).2.1
  refine g_istore_n C dX6_periodText_19 (by decide) rfl ?_
  refine g_wf (fun hwq => ?_)
  refine g_new (ci := 1) C rfl inTJ4 tyJ4 tyJ4_ok kl_RX6_158 ib_RJ4 in_RJ4 (fs := [.null, iI 0, iI 0, iI 0]) (by intro j hj; repeat (first | rfl | (cases j; rfl) | (rename_i j; cases j; rfl) | omega)) (by omega) dX6_periodText_20 ?_
  refine g_dup C dX6_periodText_23 rfl ?_
  refine t_callI C hT (c_J4_init_da8c8 _ wpush_s) ml_RX6_160 im_yJ4_init_da8c8 in_RJ4 co_yJ4_init_da8c8 rfl hd_J4_init_da8c8 rfl ⟨by omega, by omega⟩ rfl (Nat.le_of_ble_eq_true rfl) ⟨by omega, by omega⟩ dX6_periodText_24 (fun v24 w24 hp24 => ?_)
  obtain ⟨rfl, hq0⟩ := hp24
  have hq := SBq.new hwq hq0
  have hqb := hwq
  have gF := fun (N : Nat) (z : Wd) (hz : SBq w9 z w9.1 N) => hF.frm hz.f hqb
  have gC := fun (N : Nat) (z : Wd) (hz : SBq w9 z w9.1 N) => hC.fr hz.f hqb
  refine g_astore_n C dX6_periodText_27 (by decide) rfl ?_
  refine g_aload_n C dX6_periodText_28 rfl ?_
  refine g_aload_n C dX6_periodText_29 rfl ?_
  refine g_get (ci := 8) C rfl inTX6 3 (by decide) fl_RX6_30 rfl (gC _ _ hq).o rfl dX6_periodText_30 ?_
  refine g_iconst C dX6_periodText_33 ?_
  refine g_callV C (s_X1_partA _ (gF _ _ hq) (k := 0) (by omega)) (ci := 3) rfl (gF _ _ hq).1 rfl ml_RX6_161 im_yX1_partA se_RX1_yX1_partA in_RX1 co_yX1_partA hd_X1_partA rfl ⟨by omega, by omega⟩ rfl (Nat.le_of_ble_eq_true rfl) ⟨by omega, by omega⟩ dX6_periodText_34 (fun v34 w34 hp34 => ?_)
  obtain ⟨⟨p34, rfl, hp34a, hp34b⟩, hw34⟩ := hp34
  subst w34
  have hv34 := hva p34 (by omega)
  obtain ⟨v37, n37, m37, hS37, hn37, hm37, hv37, ha37, hf37⟩ := hq
  refine t_callV C hT (c_J4_append_bf812 _ hS37 (by omega) (by omega) (by omega)) (RcV.sb C hS37) rfl ml_RX6_164 im_yJ4_append_bf812 se_RJ4_yJ4_append_bf812 in_RJ4 co_yJ4_append_bf812 hd_J4_append_bf812 rfl ⟨by omega, by omega⟩ rfl (Nat.le_of_ble_eq_true rfl) ⟨by omega, by omega⟩ dX6_periodText_37 (fun v37 w37 hp37 => ?_)
  obtain ⟨rfl, x37⟩ := hp37
  replace hq := SBq.int hn37 hm37 hv37 ha37 hf37 x37
  refine g_pop C dX6_periodText_40 rfl ?_
  refine g_iconst C dX6_periodText_41 ?_
  refine g_istore C dX6_periodText_42 (by decide) rfl ?_
  refine g_widen (k' := 4 + 2 * 1) (n' := 400 + 1500 * 1) (by omega) (by omega) ?_
  refine g_loop (σ := Nat × Wd) (fun s => 1 ≤ s.1 ∧ s.1 ≤ p + 1 ∧ SBq w9 s.2 w9.1 (12 * s.1)) (fun s => G E X 5 44 [some (.ref (ad 100)), some (iI b), some (iI (p : Int)), some (.ref w9.1), some (iI (s.1 : Int))] [] s.2 (4 + 2 * s.1) (400 + 1500 * s.1)) (fun s => p + 1 - s.1) ?_ (1, w37) ⟨by dsimp only; omega, by dsimp only; omega, hq.up (by omega)⟩
  clear hq
  rintro ⟨j, u⟩ hqq ih
  obtain ⟨hj1, hj2, hq⟩ := hqq
  dsimp only at hj1 hj2 hq ⊢
  refine g_iload C dX6_periodText_44 rfl ?_
  refine g_iload_n C dX6_periodText_46 rfl ?_
  refine g_icmp_gt (tgt := 75) C dX6_periodText_47 (by decide) (by omega) (by omega) (fun h47 => ?_) (fun h47 => ?_)
  · refine g_aload_n C dX6_periodText_75 rfl ?_
    obtain ⟨v76, n76, m76, hS76, hn76, hm76, hv76, ha76, hf76⟩ := hq
    refine t_callV C hT (c_J4_toString_0e30d _ hS76 (by omega)) (RcV.sb C hS76) rfl ml_RX6_171 im_yJ4_toString_0e30d se_RJ4_yJ4_toString_0e30d in_RJ4 co_yJ4_toString_0e30d hd_J4_toString_0e30d rfl ⟨by omega, by omega⟩ rfl (Nat.le_of_ble_eq_true rfl) ⟨by omega, by omega⟩ dX6_periodText_76 (fun v76 w76 hp76 => ?_)
    obtain ⟨rfl, hfr76⟩ := hp76
    have hfx := hf76.tr hfr76
    exact g_areturn C (Or.inl ⟨_, rfl⟩) hQ (Or.inr ⟨_, rfl⟩) dX6_periodText_79 (by omega) (by omega) ⟨⟨_, rfl⟩, hC.fr hfx hqb, hK.tr (KO.fr hfx hqb)⟩
  · refine g_aload_n C dX6_periodText_50 rfl ?_
    refine g_bipush C dX6_periodText_51 (by decide) ?_
    obtain ⟨v53, n53, m53, hS53, hn53, hm53, hv53, ha53, hf53⟩ := hq
    have hg53 := grow1c hm53
    refine t_callV C hT (c_J4_append_cf468 _ hS53 (x := 32) (by omega) (by omega) (by omega)) (RcV.sb C hS53) rfl ml_RX6_168 im_yJ4_append_cf468 se_RJ4_yJ4_append_cf468 in_RJ4 co_yJ4_append_cf468 hd_J4_append_cf468 rfl ⟨by omega, by omega⟩ rfl (Nat.le_of_ble_eq_true rfl) ⟨by omega, by omega⟩ dX6_periodText_53 (fun v53 w53 hp53 => ?_)
    obtain ⟨rfl, x53⟩ := hp53
    replace hq := SBq.chr hn53 hm53 hv53 ha53 hf53 x53
    refine g_aload_n C dX6_periodText_56 rfl ?_
    refine g_get (ci := 8) C rfl inTX6 3 (by decide) fl_RX6_30 rfl (gC _ _ hq).o rfl dX6_periodText_57 ?_
    refine g_iload C dX6_periodText_60 rfl ?_
    refine g_callV C (s_X1_partA _ (gF _ _ hq) (k := (j : Int)) (by omega)) (ci := 3) rfl (gF _ _ hq).1 rfl ml_RX6_161 im_yX1_partA se_RX1_yX1_partA in_RX1 co_yX1_partA hd_X1_partA rfl ⟨by omega, by omega⟩ rfl (Nat.le_of_ble_eq_true rfl) ⟨by omega, by omega⟩ dX6_periodText_62 (fun v62 w62 hp62 => ?_)
    obtain ⟨⟨p62, rfl, hp62a, hp62b⟩, hw62⟩ := hp62
    subst w62
    have hv62 := hva p62 (by omega)
    obtain ⟨v65, n65, m65, hS65, hn65, hm65, hv65, ha65, hf65⟩ := hq
    refine t_callV C hT (c_J4_append_bf812 _ hS65 (by omega) (by omega) (by omega)) (RcV.sb C hS65) rfl ml_RX6_164 im_yJ4_append_bf812 se_RJ4_yJ4_append_bf812 in_RJ4 co_yJ4_append_bf812 hd_J4_append_bf812 rfl ⟨by omega, by omega⟩ rfl (Nat.le_of_ble_eq_true rfl) ⟨by omega, by omega⟩ dX6_periodText_65 (fun v65 w65 hp65 => ?_)
    obtain ⟨rfl, x65⟩ := hp65
    replace hq := SBq.int hn65 hm65 hv65 ha65 hf65 x65
    refine g_pop C dX6_periodText_68 rfl ?_
    refine g_iinc C dX6_periodText_69 rfl (by decide) rfl ?_
    refine g_goto (tgt := 44) C dX6_periodText_72 (by decide) ?_
    rw [show (j : Int) + 1 = ((j + 1 : Nat) : Int) by omega]
    refine g_widen (k' := 4 + 2 * (j + 1)) (n' := 400 + 1500 * (j + 1)) (by omega) (by omega) ?_
    exact ih (j + 1, w65) ⟨by dsimp only; omega, by dsimp only; omega, hq.up (by omega)⟩ (by dsimp only; omega)
set_option maxHeartbeats 4000000 in
set_option maxRecDepth 100000 in
theorem s_X6_middle (l : Launch) {K : KC} {E : GE} {w : Wd} {τ ad : Nat → Nat} {bs ss : Nat → Int} {pb : Nat → PT} {P Q : Nat → Nat} {ct : Nat → Int} (hC0 : CS τ ad w bs ss pb P Q ct) {b : Int} (hb : GB b) : St K E l yX6_middle cX6_middle 4 (some (.object "java/lang/String")) 7 (20) (1000) [.ref (ad 100), iI b] w (fun r' w' => (∃ s : Nat, r' = some (.ref s)) ∧ CS τ ad w' (bs) (ss) (pb) (P) (Q) (ct) ∧ KO τ w w') := by
  refine st_intro [some (.ref (ad 100)), some (iI b), none, none] rfl (Nat.le_of_ble_eq_true rfl) pn_X6 ?_
  intro X C hT hRm hl hnm hQ
  obtain ⟨hRf, hRl, hRc, hRs⟩ := hRm
  refine g_wf (fun hwf => ?_)
  have hC := hC0
  have hK : KO τ w w := KO.rf _ _
  refine g_iload_n C dX6_middle_0 rfl ?_
  refine g_callS C (s_X6_checkBase _ (v := b) hb) ml_RX6_65 sm_yX6_checkBase in_RX6 co_yX6_checkBase hd_X6_checkBase rfl ⟨by omega, by omega⟩ rfl (Nat.le_of_ble_eq_true rfl) ⟨by omega, by omega⟩ dX6_middle_1 (fun v1 w1 hp1 => ?_)
  obtain ⟨rfl, hw1⟩ := hp1
  subst w1
  obtain ⟨fb, fr, m0, d0, a0, hF0, hv0, hb0⟩ := hC.F
  refine g_aload_n C dX6_middle_4 rfl ?_
  refine g_get (ci := 8) C rfl inTX6 3 (by decide) fl_RX6_30 rfl hC.o rfl dX6_middle_5 ?_
  refine g_iload_n C dX6_middle_8 rfl ?_
  refine t_callV C hT (s_X1_expand _ hC.N hF0 hv0 hb0 hb) (RcV.ob (ci := 3) C rfl hF0.1) rfl ml_RX6_152 im_yX1_expand se_RX1_yX1_expand in_RX1 co_yX1_expand hd_X1_expand rfl ⟨by omega, by omega⟩ rfl (Nat.le_of_ble_eq_true rfl) ⟨by omega, by omega⟩ dX6_middle_9 (fun v9 w9 hp9 => ?_)
  obtain ⟨rfl, r1, m1, d1, a1, hF, V1, G1, N1, K1⟩ := hp9
  have hb1 := hb.1
  have hb2 := hb.2.1
  replace hC := hC.kf K1 N1 ⟨_, _, _, _, _, hF, Or.inr ⟨V1, G1⟩, by omega⟩
  replace hK := hK.tr K1.kc
  have hva := V1.a
  refine g_aload_n C dX6_middle_12 rfl ?_
  refine g_get (ci := 8) C rfl inTX6 3 (by decide) fl_RX6_30 rfl hC.o rfl dX6_middle_13 ?_
  refine g_callV C (s_X1_isTurnOdd _ hF (fun k hk => by have := V1.a k hk; omega)) (ci := 3) rfl hF.1 rfl ml_RX6_178 im_yX1_isTurnOdd se_RX1_yX1_isTurnOdd in_RX1 co_yX1_isTurnOdd hd_X1_isTurnOdd rfl ⟨by omega, by omega⟩ rfl (Nat.le_of_ble_eq_true rfl) ⟨by omega, by omega⟩ dX6_middle_16 (fun v16 w16 hp16 => ?_)
  obtain ⟨⟨p, rfl, hp1, hp2, hp3⟩, hw16⟩ := hp16
  subst w16
  refine g_if_ne (tgt := 25) C dX6_middle_19 (by decide) (bI_r _) (fun h19 => ?_) (fun h19 => ?_)
  · refine g_aload_n C dX6_middle_25 rfl ?_
    refine g_get (ci := 8) C rfl inTX6 3 (by decide) fl_RX6_30 rfl hC.o rfl dX6_middle_26 ?_
    refine g_callV C (s_X1_turn _ hF (fun k hk => by have := V1.a k hk; omega)) (ci := 3) rfl hF.1 rfl ml_RX6_155 im_yX1_turn se_RX1_yX1_turn in_RX1 co_yX1_turn hd_X1_turn rfl ⟨by omega, by omega⟩ rfl (Nat.le_of_ble_eq_true rfl) ⟨by omega, by omega⟩ dX6_middle_29 (fun v29 w29 hp29 => ?_)
    obtain ⟨⟨p2, rfl, hp4, hp5, hp6⟩, hw29⟩ := hp29
    subst w29
    refine g_iconst C dX6_middle_32 ?_
    refine g_iadd C dX6_middle_33 ?_
    refine g_iconst C dX6_middle_34 ?_
    refine g_idivN C dX6_middle_35 (by omega) (by omega) ?_
    refine g_istore_n C dX6_middle_36 (by decide) rfl ?_
    refine g_wf (fun hwq => ?_)
    refine g_new (ci := 1) C rfl inTJ4 tyJ4 tyJ4_ok kl_RX6_158 ib_RJ4 in_RJ4 (fs := [.null, iI 0, iI 0, iI 0]) (by intro j hj; repeat (first | rfl | (cases j; rfl) | (rename_i j; cases j; rfl) | omega)) (by omega) dX6_middle_37 ?_
    refine g_dup C dX6_middle_40 rfl ?_
    refine t_callI C hT (c_J4_init_da8c8 _ wpush_s) ml_RX6_160 im_yJ4_init_da8c8 in_RJ4 co_yJ4_init_da8c8 rfl hd_J4_init_da8c8 rfl ⟨by omega, by omega⟩ rfl (Nat.le_of_ble_eq_true rfl) ⟨by omega, by omega⟩ dX6_middle_41 (fun v41 w41 hp41 => ?_)
    obtain ⟨rfl, hq0⟩ := hp41
    have hq := SBq.new hwq hq0
    have hqb := hwq
    have gF := fun (N : Nat) (z : Wd) (hz : SBq w9 z w9.1 N) => hF.frm hz.f hqb
    have gC := fun (N : Nat) (z : Wd) (hz : SBq w9 z w9.1 N) => hC.fr hz.f hqb
    refine g_astore_n C dX6_middle_44 (by decide) rfl ?_
    refine g_aload_n C dX6_middle_45 rfl ?_
    refine g_aload_n C dX6_middle_46 rfl ?_
    refine g_get (ci := 8) C rfl inTX6 3 (by decide) fl_RX6_30 rfl (gC _ _ hq).o rfl dX6_middle_47 ?_
    refine g_iload_n C dX6_middle_50 rfl ?_
    refine g_callV C (s_X1_partM _ (gF _ _ hq) (k := ((p2 : Int) + 1) / 2) (by omega)) (ci := 3) rfl (gF _ _ hq).1 rfl ml_RX6_184 im_yX1_partM se_RX1_yX1_partM in_RX1 co_yX1_partM hd_X1_partM rfl ⟨by omega, by omega⟩ rfl (Nat.le_of_ble_eq_true rfl) ⟨by omega, by omega⟩ dX6_middle_51 (fun v51 w51 hp51 => ?_)
    obtain ⟨⟨p51, rfl, hp51a, hp51b⟩, hw51⟩ := hp51
    subst w51
    have hv51 := hva p51 (by omega)
    obtain ⟨v54, n54, m54, hS54, hn54, hm54, hv54, ha54, hf54⟩ := hq
    refine t_callV C hT (c_J4_append_bf812 _ hS54 (by omega) (by omega) (by omega)) (RcV.sb C hS54) rfl ml_RX6_164 im_yJ4_append_bf812 se_RJ4_yJ4_append_bf812 in_RJ4 co_yJ4_append_bf812 hd_J4_append_bf812 rfl ⟨by omega, by omega⟩ rfl (Nat.le_of_ble_eq_true rfl) ⟨by omega, by omega⟩ dX6_middle_54 (fun v54 w54 hp54 => ?_)
    obtain ⟨rfl, x54⟩ := hp54
    replace hq := SBq.int hn54 hm54 hv54 ha54 hf54 x54
    refine g_bipush C dX6_middle_57 (by decide) ?_
    obtain ⟨v59, n59, m59, hS59, hn59, hm59, hv59, ha59, hf59⟩ := hq
    have hg59 := grow1c hm59
    refine t_callV C hT (c_J4_append_cf468 _ hS59 (x := 32) (by omega) (by omega) (by omega)) (RcV.sb C hS59) rfl ml_RX6_168 im_yJ4_append_cf468 se_RJ4_yJ4_append_cf468 in_RJ4 co_yJ4_append_cf468 hd_J4_append_cf468 rfl ⟨by omega, by omega⟩ rfl (Nat.le_of_ble_eq_true rfl) ⟨by omega, by omega⟩ dX6_middle_59 (fun v59 w59 hp59 => ?_)
    obtain ⟨rfl, x59⟩ := hp59
    replace hq := SBq.chr hn59 hm59 hv59 ha59 hf59 x59
    refine g_aload_n C dX6_middle_62 rfl ?_
    refine g_get (ci := 8) C rfl inTX6 3 (by decide) fl_RX6_30 rfl (gC _ _ hq).o rfl dX6_middle_63 ?_
    refine g_iload_n C dX6_middle_66 rfl ?_
    refine g_callV C (s_X1_partD _ (gF _ _ hq) (k := ((p2 : Int) + 1) / 2) (by omega)) (ci := 3) rfl (gF _ _ hq).1 rfl ml_RX6_187 im_yX1_partD se_RX1_yX1_partD in_RX1 co_yX1_partD hd_X1_partD rfl ⟨by omega, by omega⟩ rfl (Nat.le_of_ble_eq_true rfl) ⟨by omega, by omega⟩ dX6_middle_67 (fun v67 w67 hp67 => ?_)
    obtain ⟨⟨p67, rfl, hp67a, hp67b⟩, hw67⟩ := hp67
    subst w67
    have hv67 := hva p67 (by omega)
    obtain ⟨v70, n70, m70, hS70, hn70, hm70, hv70, ha70, hf70⟩ := hq
    refine t_callV C hT (c_J4_append_bf812 _ hS70 (by omega) (by omega) (by omega)) (RcV.sb C hS70) rfl ml_RX6_164 im_yJ4_append_bf812 se_RJ4_yJ4_append_bf812 in_RJ4 co_yJ4_append_bf812 hd_J4_append_bf812 rfl ⟨by omega, by omega⟩ rfl (Nat.le_of_ble_eq_true rfl) ⟨by omega, by omega⟩ dX6_middle_70 (fun v70 w70 hp70 => ?_)
    obtain ⟨rfl, x70⟩ := hp70
    replace hq := SBq.int hn70 hm70 hv70 ha70 hf70 x70
    refine g_pop C dX6_middle_73 rfl ?_
    refine g_aload_n C dX6_middle_74 rfl ?_
    obtain ⟨v75, n75, m75, hS75, hn75, hm75, hv75, ha75, hf75⟩ := hq
    refine t_callV C hT (c_J4_toString_0e30d _ hS75 (by omega)) (RcV.sb C hS75) rfl ml_RX6_171 im_yJ4_toString_0e30d se_RJ4_yJ4_toString_0e30d in_RJ4 co_yJ4_toString_0e30d hd_J4_toString_0e30d rfl ⟨by omega, by omega⟩ rfl (Nat.le_of_ble_eq_true rfl) ⟨by omega, by omega⟩ dX6_middle_75 (fun v75 w75 hp75 => ?_)
    obtain ⟨rfl, hfr75⟩ := hp75
    have hfx := hf75.tr hfr75
    exact g_areturn C (Or.inl ⟨_, rfl⟩) hQ (Or.inr ⟨_, rfl⟩) dX6_middle_78 (by omega) (by omega) ⟨⟨_, rfl⟩, hC.fr hfx hqb, hK.tr (KO.fr hfx hqb)⟩
  · refine g_ldcS C hT 4 rfl dX6_middle_22 ?_
    exact g_areturn C (Or.inl ⟨_, rfl⟩) hQ (Or.inr ⟨_, rfl⟩) dX6_middle_24 (by omega) (by omega) ⟨⟨_, rfl⟩, hC, hK⟩
