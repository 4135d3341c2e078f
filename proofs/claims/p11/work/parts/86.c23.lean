theorem aB_abs (x : Int) : (if 0 ≤ x then x else 0 - x) = aB x := by unfold aB; split <;> split <;> omega
theorem aB_sqb {x p : Int} (h : aB x ≤ p) (hp : 0 ≤ p) : 0 ≤ x * x ∧ x * x ≤ p * p := by
  have h2 : 0 ≤ aB x := by unfold aB; split <;> omega
  have e : x * x = aB x * aB x := by unfold aB; split <;> first | rfl | exact (Int.neg_mul_neg _ _).symm
  rw [e]
  exact ⟨Int.mul_nonneg h2 h2, Int.mul_le_mul h h h2 hp⟩
set_option maxHeartbeats 4000000 in
set_option maxRecDepth 100000 in
theorem s_X3_isSoundSplit (l : Launch) {K : KC} {E : GE} {w : Wd} {a p k : Nat} (hV : SV p k) (hO : w.2 a = some (true, oS p k)) : St K E l yX3_isSoundSplit cX3_isSoundSplit 1 (some .boolean) 4 (0) (0) [.ref a] w (fun r' w' => r' = some (iI 1) ∧ w' = w) := by
  refine st_intro [some (.ref a)] rfl (Nat.le_of_ble_eq_true rfl) pn_X3 ?_
  intro X C hT hRm hl hnm hQ
  obtain ⟨hRf, hRl, hRc, hRs⟩ := hRm
  refine g_wf (fun hwf => ?_)
  have hp := hV.p
  obtain ⟨v1, v2, v3, v4, v5, v6, v7, v8, v9⟩ := hV.good
  obtain ⟨u1, u2, u3⟩ := hV.wit
  have hi : ima p < p := pmN_lt (by omega) _
  have hO2 := hO
  rw [oS_eq] at hO2
  generalize hq : spS p k = q at *
  obtain ⟨sA, sB, sU, sW⟩ := q
  dsimp only at v1 v2 v3 v4 v5 v6 v7 v8 hO2
  have a1 := aB_sqb (p := 997) (show aB sA ≤ 997 by unfold aB; split <;> omega) (by omega)
  have a2 := aB_sqb (p := 997) (show aB sU ≤ 997 by omega) (by omega)
  have a3 := aB_sqb (p := 997) (show aB ((ima p : Nat) : Int) ≤ 997 by unfold aB; split <;> omega) (by omega)
  have u4 : (((ima p : Nat) : Int) * ((ima p : Nat) : Int) + 1) % (p : Int) = 0 := by
    have := congrArg (fun x : Nat => (x : Int)) u3
    simpa using this
  have aU := (show -sU ≤ aB sU ∧ sU ≤ aB sU ∧ 0 ≤ aB sU by unfold aB; split <;> omega)
  have aV := (show -sW ≤ aB sW ∧ sW ≤ aB sW ∧ 0 ≤ aB sW by unfold aB; split <;> omega)
  have b1 : 0 ≤ sA * aB sW := Int.mul_nonneg (by omega) aV.2.2
  have b2 : 0 ≤ sB * aB sU := Int.mul_nonneg v1 aU.2.2
  refine g_aload_n C dX3_isSoundSplit_0 rfl ?_
  refine g_get (ci := 5) C rfl inTX3 3 (by decide) fl_RX3_33 rfl hO2 rfl dX3_isSoundSplit_1 ?_
  refine g_i2l C dX3_isSoundSplit_4 (by omega) ?_
  refine g_aload_n C dX3_isSoundSplit_5 rfl ?_
  refine g_get (ci := 5) C rfl inTX3 3 (by decide) fl_RX3_33 rfl hO2 rfl dX3_isSoundSplit_6 ?_
  refine g_i2l C dX3_isSoundSplit_9 (by omega) ?_
  refine g_lmul C dX3_isSoundSplit_10 ?_
  refine g_aload_n C dX3_isSoundSplit_11 rfl ?_
  refine g_get (ci := 5) C rfl inTX3 5 (by decide) fl_RX3_39 rfl hO2 rfl dX3_isSoundSplit_12 ?_
  refine g_i2l C dX3_isSoundSplit_15 (by omega) ?_
  refine g_aload_n C dX3_isSoundSplit_16 rfl ?_
  refine g_get (ci := 5) C rfl inTX3 5 (by decide) fl_RX3_39 rfl hO2 rfl dX3_isSoundSplit_17 ?_
  refine g_i2l C dX3_isSoundSplit_20 (by omega) ?_
  refine g_lmul C dX3_isSoundSplit_21 ?_
  refine g_ladd C dX3_isSoundSplit_22 ?_
  refine g_aload_n C dX3_isSoundSplit_23 rfl ?_
  refine g_get (ci := 5) C rfl inTX3 0 (by decide) fl_RX3_15 rfl hO2 rfl dX3_isSoundSplit_24 ?_
  refine t_nS C hT ((s_X6_rest (l := xl X) (x := sA * sA + sU * sU) (y := (p : Int)) (by omega) (by omega)).st) 7 rfl sm_yX6_rest in_RX6 co_yX6_rest hd_X6_rest rfl ⟨by omega, by omega⟩ rfl (Nat.le_of_ble_eq_true rfl) ⟨by omega, by omega⟩ dX3_isSoundSplit_27 (fun v27 w27 hp27 => ?_)
  obtain ⟨rfl, hw27⟩ := hp27
  subst w27
  rw [v7]
  refine g_if_ne (tgt := 92) C dX3_isSoundSplit_30 (by decide) (by omega) (fun h30 => ?_) (fun h30 => ?_)
  · omega
  · refine g_aload_n C dX3_isSoundSplit_33 rfl ?_
    refine g_get (ci := 5) C rfl inTX3 2 (by decide) fl_RX3_30 rfl hO2 rfl dX3_isSoundSplit_34 ?_
    refine g_i2l C dX3_isSoundSplit_37 (by omega) ?_
    refine g_aload_n C dX3_isSoundSplit_38 rfl ?_
    refine g_get (ci := 5) C rfl inTX3 2 (by decide) fl_RX3_30 rfl hO2 rfl dX3_isSoundSplit_39 ?_
    refine g_i2l C dX3_isSoundSplit_42 (by omega) ?_
    refine g_lmul C dX3_isSoundSplit_43 ?_
    refine g_lconst (z := 1) C dX3_isSoundSplit_44 (by decide) ?_
    refine g_ladd C dX3_isSoundSplit_45 ?_
    refine g_aload_n C dX3_isSoundSplit_46 rfl ?_
    refine g_get (ci := 5) C rfl inTX3 0 (by decide) fl_RX3_15 rfl hO2 rfl dX3_isSoundSplit_47 ?_
    refine t_nS C hT ((s_X6_rest (l := xl X) (x := ((ima p : Nat) : Int) * ((ima p : Nat) : Int) + 1) (y := (p : Int)) (by omega) (by omega)).st) 7 rfl sm_yX6_rest in_RX6 co_yX6_rest hd_X6_rest rfl ⟨by omega, by omega⟩ rfl (Nat.le_of_ble_eq_true rfl) ⟨by omega, by omega⟩ dX3_isSoundSplit_50 (fun v50 w50 hp50 => ?_)
    obtain ⟨rfl, hw50⟩ := hp50
    subst w50
    rw [u4]
    refine g_if_ne (tgt := 92) C dX3_isSoundSplit_53 (by decide) (by omega) (fun h53 => ?_) (fun h53 => ?_)
    · omega
    · refine g_aload_n C dX3_isSoundSplit_56 rfl ?_
      refine g_get (ci := 5) C rfl inTX3 3 (by decide) fl_RX3_33 rfl hO2 rfl dX3_isSoundSplit_57 ?_
      refine g_aload_n C dX3_isSoundSplit_60 rfl ?_
      refine g_get (ci := 5) C rfl inTX3 6 (by decide) fl_RX3_42 rfl hO2 rfl dX3_isSoundSplit_61 ?_
      refine g_abs C ml_RX3_59 (by omega) (by omega) (by omega) (Nat.le_of_ble_eq_true rfl) (by omega) dX3_isSoundSplit_64 ?_
      rw [aB_abs]
      refine g_imul C dX3_isSoundSplit_67 ?_
      refine g_aload_n C dX3_isSoundSplit_68 rfl ?_
      refine g_get (ci := 5) C rfl inTX3 4 (by decide) fl_RX3_36 rfl hO2 rfl dX3_isSoundSplit_69 ?_
      refine g_aload_n C dX3_isSoundSplit_72 rfl ?_
      refine g_get (ci := 5) C rfl inTX3 5 (by decide) fl_RX3_39 rfl hO2 rfl dX3_isSoundSplit_73 ?_
      refine g_abs C ml_RX3_59 (by omega) (by omega) (by omega) (Nat.le_of_ble_eq_true rfl) (by omega) dX3_isSoundSplit_76 ?_
      rw [aB_abs]
      refine g_imul C dX3_isSoundSplit_79 ?_
      refine g_iadd C dX3_isSoundSplit_80 ?_
      refine g_aload_n C dX3_isSoundSplit_81 rfl ?_
      refine g_get (ci := 5) C rfl inTX3 0 (by decide) fl_RX3_15 rfl hO2 rfl dX3_isSoundSplit_82 ?_
      refine g_icmp_ne (tgt := 92) C dX3_isSoundSplit_85 (by decide) (by omega) (by omega) (fun h85 => ?_) (fun h85 => ?_)
      · omega
      · refine g_iconst C dX3_isSoundSplit_88 ?_
        refine g_goto (tgt := 93) C dX3_isSoundSplit_89 (by decide) ?_
        exact g_zreturn C hQ dX3_isSoundSplit_93 rfl (Nat.le_refl _) (Nat.le_refl _) ⟨rfl, rfl⟩
