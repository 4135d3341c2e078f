set_option maxHeartbeats 4000000 in
set_option maxRecDepth 100000 in
theorem s_X6_hasTwoDivisors (l : Launch) {E : GE} {w : Wd} {n : Nat} (hn : n ≤ 1000) : Sp E l yX6_hasTwoDivisors cX6_hasTwoDivisors 2 (some .boolean) 0 (0) (0) [iI (n : Int)] w (fun r' w' => r' = some (iI (bI (2 ≤ n ∧ prB n = true))) ∧ w' = w) := by
  refine sp_intro [some (iI (n : Int)), none] rfl (Nat.le_of_ble_eq_true rfl) pn_X6 ?_
  intro X C hRm hl hnm hQ
  obtain ⟨hRf, hRl, hRc, hRs⟩ := hRm
  refine g_wf (fun hwf => ?_)
  refine g_iconst C dX6_hasTwoDivisors_0 ?_
  refine g_istore_n C dX6_hasTwoDivisors_1 (by decide) rfl ?_
  refine g_loop (σ := Nat) (fun j => 2 ≤ j ∧ j ≤ 40 ∧ ∀ k, 2 ≤ k → k < j → n % k ≠ 0) (fun j => G E X 2 2 [some (iI (n : Int)), some (iI (j : Int))] [] w 0 0) (fun j => 40 - j) ?_ 2 ⟨by omega, by omega, fun k h1 h2 => by omega⟩
  rintro j ⟨hj1, hj2, hj3⟩ ih
  have hsq : 0 ≤ (j : Int) * j ∧ (j : Int) * j ≤ 40 * 40 := ⟨Int.mul_nonneg (by omega) (by omega), Int.mul_le_mul (by omega) (by omega) (by omega) (by omega)⟩
  have hsqn : (j : Int) * j = ((j * j : Nat) : Int) := by simp
  have hmodn : (n : Int) % (j : Int) = ((n % j : Nat) : Int) := by simp
  have hmb : n % j ≤ 1000 := Nat.le_trans (Nat.mod_le _ _) hn
  have hout : (n < j ∨ n < j * j) → prB n = true := fun q => (prB_iff hn).mpr (fun k k1 k2 => hj3 k k1 (by
    rcases Nat.lt_or_ge k j with c | c
    · exact c
    · exfalso
      have h5 : j * j ≤ k * k := Nat.mul_le_mul c c
      have h6 : k * 1 ≤ k * k := Nat.mul_le_mul_left k (by omega)
      omega))
  have hin : j * j ≤ n → n % j = 0 → ¬ prB n = true := fun q1 q2 q3 => (prB_iff hn).mp q3 j hj1 q1 q2
  refine g_iload_n C dX6_hasTwoDivisors_2 rfl ?_
  refine g_iload_n C dX6_hasTwoDivisors_3 rfl ?_
  refine g_icmp_gt (tgt := 28) C dX6_hasTwoDivisors_4 (by decide) (by omega) (by omega) (fun h4 => ?_) (fun h4 => ?_)
  · refine g_iload_n C dX6_hasTwoDivisors_28 rfl ?_
    refine g_iconst C dX6_hasTwoDivisors_29 ?_
    refine g_icmp_lt (tgt := 37) C dX6_hasTwoDivisors_30 (by decide) (by omega) (by omega) (fun h30 => ?_) (fun h30 => ?_)
    · refine g_iconst C dX6_hasTwoDivisors_37 ?_
      exact g_zreturn C hQ dX6_hasTwoDivisors_38 (nar01 (by omega)) (Nat.le_refl _) (Nat.le_refl _) ⟨by first | (exfalso; omega) | rw [bI_t ⟨by omega, hout (by omega)⟩] | rw [bI_f (fun q => by omega)], rfl⟩
    · refine g_iconst C dX6_hasTwoDivisors_33 ?_
      refine g_goto (tgt := 38) C dX6_hasTwoDivisors_34 (by decide) ?_
      exact g_zreturn C hQ dX6_hasTwoDivisors_38 (nar01 (by omega)) (Nat.le_refl _) (Nat.le_refl _) ⟨by first | (exfalso; omega) | rw [bI_t ⟨by omega, hout (by omega)⟩] | rw [bI_f (fun q => by omega)], rfl⟩
  · refine g_iload_n C dX6_hasTwoDivisors_7 rfl ?_
    refine g_iload_n C dX6_hasTwoDivisors_8 rfl ?_
    refine g_imul C dX6_hasTwoDivisors_9 ?_
    refine g_iload_n C dX6_hasTwoDivisors_10 rfl ?_
    refine g_icmp_gt (tgt := 28) C dX6_hasTwoDivisors_11 (by decide) (by omega) (by omega) (fun h11 => ?_) (fun h11 => ?_)
    · refine g_iload_n C dX6_hasTwoDivisors_28 rfl ?_
      refine g_iconst C dX6_hasTwoDivisors_29 ?_
      refine g_icmp_lt (tgt := 37) C dX6_hasTwoDivisors_30 (by decide) (by omega) (by omega) (fun h30 => ?_) (fun h30 => ?_)
      · refine g_iconst C dX6_hasTwoDivisors_37 ?_
        exact g_zreturn C hQ dX6_hasTwoDivisors_38 (nar01 (by omega)) (Nat.le_refl _) (Nat.le_refl _) ⟨by first | (exfalso; omega) | rw [bI_t ⟨by omega, hout (by omega)⟩] | rw [bI_f (fun q => by omega)], rfl⟩
      · refine g_iconst C dX6_hasTwoDivisors_33 ?_
        refine g_goto (tgt := 38) C dX6_hasTwoDivisors_34 (by decide) ?_
        exact g_zreturn C hQ dX6_hasTwoDivisors_38 (nar01 (by omega)) (Nat.le_refl _) (Nat.le_refl _) ⟨by first | (exfalso; omega) | rw [bI_t ⟨by omega, hout (by omega)⟩] | rw [bI_f (fun q => by omega)], rfl⟩
    · refine g_iload_n C dX6_hasTwoDivisors_14 rfl ?_
      refine g_iload_n C dX6_hasTwoDivisors_15 rfl ?_
      refine g_iremN C dX6_hasTwoDivisors_16 (by omega) (by omega) ?_
      refine g_if_ne (tgt := 22) C dX6_hasTwoDivisors_17 (by decide) (by omega) (fun h17 => ?_) (fun h17 => ?_)
      · refine g_iinc C dX6_hasTwoDivisors_22 rfl (by decide) rfl ?_
        refine g_goto (tgt := 2) C dX6_hasTwoDivisors_25 (by decide) ?_
        have hj9 : j < 40 := by
          rcases Nat.lt_or_ge j 40 with c | c
          · exact c
          · exfalso
            have : j = 40 := by omega
            subst this
            omega
        exact ih (j + 1) ⟨by omega, by omega, fun k h1 h2 => by
          by_cases q : k = j
          · rw [q]; omega
          · exact hj3 k h1 (by omega)⟩ (by omega)
      · refine g_iconst C dX6_hasTwoDivisors_20 ?_
        exact g_zreturn C hQ dX6_hasTwoDivisors_21 (nar01 (by omega)) (Nat.le_refl _) (Nat.le_refl _) ⟨by rw [bI_f (fun q => hin (by omega) (by omega) q.2)], rfl⟩
set_option maxHeartbeats 4000000 in
set_option maxRecDepth 100000 in
theorem s_X6_isSplittable (l : Launch) {E : GE} {w : Wd} {n : Nat} (hn : n ≤ 1000) : Sp E l yX6_isSplittable cX6_isSplittable 1 (some .boolean) 1 (0) (0) [iI (n : Int)] w (fun r' w' => r' = some (iI (bI (SPb n = true))) ∧ w' = w) := by
  refine sp_intro [some (iI (n : Int))] rfl (Nat.le_of_ble_eq_true rfl) pn_X6 ?_
  intro X C hRm hl hnm hQ
  obtain ⟨hRf, hRl, hRc, hRs⟩ := hRm
  refine g_wf (fun hwf => ?_)
  have hS : SPb n = true ↔ 5 ≤ n ∧ n ≤ 997 ∧ n % 4 = 1 ∧ prB n = true := by
    simp only [SPb, Bool.and_eq_true, decide_eq_true_eq, and_assoc]
  refine g_iload_n C dX6_isSplittable_0 rfl ?_
  refine g_iconst C dX6_isSplittable_1 ?_
  refine g_icmp_lt (tgt := 30) C dX6_isSplittable_2 (by decide) (by omega) (by omega) (fun h2 => ?_) (fun h2 => ?_)
  · refine g_iconst C dX6_isSplittable_30 ?_
    exact g_zreturn C hQ dX6_isSplittable_31 (nar01 (by omega)) (Nat.le_refl _) (Nat.le_refl _) ⟨by first | rw [bI_t (hS.mpr ⟨by omega, by omega, by omega, (bI_1 h23).2⟩)] | rw [bI_f (fun q => bI_0 (Classical.not_not.mp h23) ⟨by omega, (hS.mp q).2.2.2⟩)] | rw [bI_f (fun q => bI_0 h23 ⟨by omega, (hS.mp q).2.2.2⟩)] | rw [bI_f (fun q => by have := hS.mp q; omega)], rfl⟩
  · refine g_iload_n C dX6_isSplittable_5 rfl ?_
    refine g_sipush C dX6_isSplittable_6 (by decide) ?_
    refine g_icmp_gt (tgt := 30) C dX6_isSplittable_9 (by decide) (by omega) (by omega) (fun h9 => ?_) (fun h9 => ?_)
    · refine g_iconst C dX6_isSplittable_30 ?_
      exact g_zreturn C hQ dX6_isSplittable_31 (nar01 (by omega)) (Nat.le_refl _) (Nat.le_refl _) ⟨by first | rw [bI_t (hS.mpr ⟨by omega, by omega, by omega, (bI_1 h23).2⟩)] | rw [bI_f (fun q => bI_0 (Classical.not_not.mp h23) ⟨by omega, (hS.mp q).2.2.2⟩)] | rw [bI_f (fun q => bI_0 h23 ⟨by omega, (hS.mp q).2.2.2⟩)] | rw [bI_f (fun q => by have := hS.mp q; omega)], rfl⟩
    · refine g_iload_n C dX6_isSplittable_12 rfl ?_
      refine g_iconst C dX6_isSplittable_13 ?_
      refine g_iremN C dX6_isSplittable_14 (by omega) (by omega) ?_
      refine g_iconst C dX6_isSplittable_15 ?_
      refine g_icmp_ne (tgt := 30) C dX6_isSplittable_16 (by decide) (by omega) (by omega) (fun h16 => ?_) (fun h16 => ?_)
      · refine g_iconst C dX6_isSplittable_30 ?_
        exact g_zreturn C hQ dX6_isSplittable_31 (nar01 (by omega)) (Nat.le_refl _) (Nat.le_refl _) ⟨by first | rw [bI_t (hS.mpr ⟨by omega, by omega, by omega, (bI_1 h23).2⟩)] | rw [bI_f (fun q => bI_0 (Classical.not_not.mp h23) ⟨by omega, (hS.mp q).2.2.2⟩)] | rw [bI_f (fun q => bI_0 h23 ⟨by omega, (hS.mp q).2.2.2⟩)] | rw [bI_f (fun q => by have := hS.mp q; omega)], rfl⟩
      · refine g_iload_n C dX6_isSplittable_19 rfl ?_
        refine g_callS C (s_X6_hasTwoDivisors _ (n := n) hn) ml_RX6_299 sm_yX6_hasTwoDivisors in_RX6 co_yX6_hasTwoDivisors hd_X6_hasTwoDivisors rfl ⟨by omega, by omega⟩ rfl (Nat.le_of_ble_eq_true rfl) ⟨by omega, by omega⟩ dX6_isSplittable_20 (fun v20 w20 hp20 => ?_)
        obtain ⟨rfl, hw20⟩ := hp20
        subst w20
        refine g_if_eq (tgt := 30) C dX6_isSplittable_23 (by decide) (bI_r _) (fun h23 => ?_) (fun h23 => ?_)
        · refine g_iconst C dX6_isSplittable_30 ?_
          exact g_zreturn C hQ dX6_isSplittable_31 (nar01 (by omega)) (Nat.le_refl _) (Nat.le_refl _) ⟨by first | rw [bI_t (hS.mpr ⟨by omega, by omega, by omega, (bI_1 h23).2⟩)] | rw [bI_f (fun q => bI_0 (Classical.not_not.mp h23) ⟨by omega, (hS.mp q).2.2.2⟩)] | rw [bI_f (fun q => bI_0 h23 ⟨by omega, (hS.mp q).2.2.2⟩)] | rw [bI_f (fun q => by have := hS.mp q; omega)], rfl⟩
        · refine g_iconst C dX6_isSplittable_26 ?_
          refine g_goto (tgt := 31) C dX6_isSplittable_27 (by decide) ?_
          exact g_zreturn C hQ dX6_isSplittable_31 (nar01 (by omega)) (Nat.le_refl _) (Nat.le_refl _) ⟨by first | rw [bI_t (hS.mpr ⟨by omega, by omega, by omega, (bI_1 h23).2⟩)] | rw [bI_f (fun q => bI_0 (Classical.not_not.mp h23) ⟨by omega, (hS.mp q).2.2.2⟩)] | rw [bI_f (fun q => bI_0 h23 ⟨by omega, (hS.mp q).2.2.2⟩)] | rw [bI_f (fun q => by have := hS.mp q; omega)], rfl⟩
