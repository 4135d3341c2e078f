theorem pm_add {a p : Nat} (hp : 2 ≤ p) (j : Nat) : ∀ k, pmN a p (j + k) = pmN a p j * pmN a p k % p
  | 0 => by
    show pmN a p j = pmN a p j * 1 % p
    rw [Nat.mul_one, Nat.mod_eq_of_lt (pmN_lt hp j)]
  | k + 1 => by
    show pmN a p (j + k) * (a % p) % p = pmN a p j * (pmN a p k * (a % p) % p) % p
    rw [pm_add hp j k, Nat.mod_mul_mod, Nat.mul_assoc]
    exact (Nat.mul_mod_mod _ _ _).symm
theorem pm_addI {a p : Nat} (hp : 2 ≤ p) (j k : Nat) : ((pmN a p j : Nat) : Int) * ((pmN a p k : Nat) : Int) % (p : Int) = ((pmN a p (j + k) : Nat) : Int) := by
  rw [pm_add hp j k, Int.natCast_emod, Int.natCast_mul]
theorem bit_of (K i : Nat) : ((K : Int) / 2 ^ i % 2) = ((K / 2 ^ i % 2 : Nat) : Int) := by simp
set_option maxHeartbeats 4000000 in
set_option maxRecDepth 100000 in
theorem s_X6_restOfPower (l : Launch) {E : GE} {w : Wd} {x : Int} {a p K : Nat} (hp : 5 ≤ p ∧ p ≤ 997) (hx : -1000 ≤ x ∧ x ≤ 1000) (ha : x % (p : Int) = ((a % p : Nat) : Int)) (hK : K < 1024) : Sp E l yX6_restOfPower cX6_restOfPower 8 (some .int) 2 (0) (0) [iI x, iI (K : Int), iI (p : Int)] w (fun r' w' => r' = some (iI ((pmN a p K : Nat) : Int)) ∧ w' = w) := by
  refine sp_intro [some (iI x), some (iI (K : Int)), some (iI (p : Int)), none, none, none, none, none] rfl (Nat.le_of_ble_eq_true rfl) pn_X6 ?_
  intro X C hRm hl hnm hQ
  obtain ⟨hRf, hRl, hRc, hRs⟩ := hRm
  refine g_wf (fun hwf => ?_)
  have e1 : ((a % p : Nat) : Int) = ((pmN a p 1 : Nat) : Int) := by
    show _ = ((1 * (a % p) % p : Nat) : Int)
    rw [Nat.one_mul, Nat.mod_mod]
  refine g_lconst (z := 1) C dX6_restOfPower_0 (by decide) ?_
  refine g_lstore_n C dX6_restOfPower_1 (by decide) rfl ?_
  refine g_iload_n C dX6_restOfPower_2 rfl ?_
  refine g_i2l C dX6_restOfPower_3 (by omega) ?_
  refine g_iload_n C dX6_restOfPower_4 rfl ?_
  refine g_callS C (s_X6_rest _ (x := x) (y := (p : Int)) (by omega) (by omega)) ml_RX6_291 sm_yX6_rest in_RX6 co_yX6_rest hd_X6_rest rfl ⟨by omega, by omega⟩ rfl (Nat.le_of_ble_eq_true rfl) ⟨by omega, by omega⟩ dX6_restOfPower_5 (fun v5 w5 hp5 => ?_)
  obtain ⟨rfl, hw5⟩ := hp5
  subst w5
  refine g_i2l C dX6_restOfPower_8 (by have := Int.emod_lt_of_pos x (show (0 : Int) < (p : Int) by omega); have := Int.emod_nonneg x (show (p : Int) ≠ 0 by omega); omega) ?_
  rw [ha, e1]
  refine g_lstore C dX6_restOfPower_9 (by decide) rfl ?_
  refine g_iconst C dX6_restOfPower_11 ?_
  refine g_istore C dX6_restOfPower_12 (by decide) rfl ?_
  refine g_eq (L' := [some (iI x), some (iI (K : Int)), some (iI (p : Int)), some (jJ ((pmN a p (K % 2 ^ 0) : Nat) : Int)), none, some (jJ ((pmN a p (2 ^ 0) : Nat) : Int)), none, some (iI ((0 : Nat) : Int))]) (by rw [Nat.pow_zero, Nat.mod_one]; rfl) rfl ?_
  refine g_loop (σ := Nat) (fun i => i ≤ 10) (fun i => G E X 8 14 [some (iI x), some (iI (K : Int)), some (iI (p : Int)), some (jJ ((pmN a p (K % 2 ^ i) : Nat) : Int)), none, some (jJ ((pmN a p (2 ^ i) : Nat) : Int)), none, some (iI (i : Int))] [] w 0 0) (fun i => 10 - i) ?_ 0 (by omega)
  rintro i hi ih
  have hm1 := pmN_lt (a := a) (p := p) (by omega) (K % 2 ^ i)
  have hm2 := pmN_lt (a := a) (p := p) (by omega) (2 ^ i)
  have hq1 := pm_addI (a := a) (p := p) (by omega) (K % 2 ^ i) (2 ^ i)
  have hq2 := pm_addI (a := a) (p := p) (by omega) (2 ^ i) (2 ^ i)
  have hpow : 2 ^ i + 2 ^ i = 2 ^ (i + 1) := by rw [Nat.pow_succ]; omega
  have hmod : K % 2 ^ (i + 1) = K % 2 ^ i + 2 ^ i * (K / 2 ^ i % 2) := Nat.mod_pow_succ
  have hbit := bit_of K i
  have hb2 : K / 2 ^ i % 2 < 2 := Nat.mod_lt _ (by omega)
  generalize hZ1 : ((pmN a p (K % 2 ^ i) : Nat) : Int) = Z1 at *
  generalize hZ2 : ((pmN a p (2 ^ i) : Nat) : Int) = Z2 at *
  have hZ1b : 0 ≤ Z1 ∧ Z1 ≤ 997 := by omega
  have hZ2b : 0 ≤ Z2 ∧ Z2 ≤ 997 := by omega
  have hA := mulb hZ1b hZ2b
  have hB := mulb hZ2b hZ2b
  refine g_iload C dX6_restOfPower_14 rfl ?_
  refine g_bipush C dX6_restOfPower_16 (by decide) ?_
  refine g_icmp_ge (tgt := 59) C dX6_restOfPower_18 (by decide) (by omega) (by omega) (fun h18 => ?_) (fun h18 => ?_)
  · refine g_lload_n C dX6_restOfPower_59 rfl ?_
    refine g_l2i C dX6_restOfPower_60 ?_
    exact g_ireturn C hQ dX6_restOfPower_61 (Nat.le_refl _) (Nat.le_refl _) ⟨by
      have hi10 : i = 10 := by omega
      subst hi10
      rw [← hZ1, Nat.mod_eq_of_lt (show K < 2 ^ 10 by omega)], rfl⟩
  · have J41 : ∀ z : Int, z = ((pmN a p (K % 2 ^ (i + 1)) : Nat) : Int) → G E X 8 41 [some (iI x), some (iI (K : Int)), some (iI (p : Int)), some (jJ z), none, some (jJ Z2), none, some (iI (i : Int))] [] w 0 0 := by
      intro z hz
      refine g_lload C dX6_restOfPower_41 rfl ?_
      refine g_lload C dX6_restOfPower_43 rfl ?_
      refine g_lmul C dX6_restOfPower_45 ?_
      refine g_iload_n C dX6_restOfPower_46 rfl ?_
      refine g_callS C (s_X6_rest _ (x := Z2 * Z2) (y := (p : Int)) (by omega) (by omega)) ml_RX6_291 sm_yX6_rest in_RX6 co_yX6_rest hd_X6_rest rfl ⟨by omega, by omega⟩ rfl (Nat.le_of_ble_eq_true rfl) ⟨by omega, by omega⟩ dX6_restOfPower_47 (fun v47 w47 hp47 => ?_)
      obtain ⟨rfl, hw47⟩ := hp47
      subst w47
      have hr47 := pmN_lt (a := a) (p := p) (by omega) (2 ^ i + 2 ^ i)
      rw [hq2]
      refine g_i2l C dX6_restOfPower_50 (by omega) ?_
      refine g_lstore C dX6_restOfPower_51 (by decide) rfl ?_
      refine g_iinc C dX6_restOfPower_53 rfl (by decide) rfl ?_
      refine g_goto (tgt := 14) C dX6_restOfPower_56 (by decide) ?_
      rw [hz, hpow]
      exact ih (i + 1) (by omega) (by omega)
    refine g_iload_n C dX6_restOfPower_21 rfl ?_
    refine g_iload C dX6_restOfPower_22 rfl ?_
    refine g_ishr (z := (K : Int) / 2 ^ i) C dX6_restOfPower_24 (by have := i_shr (x := (K : Int)) (y := (i : Int)) (by omega) (by omega); rwa [Int.toNat_natCast] at this) ?_
    refine g_iconst C dX6_restOfPower_25 ?_
    refine g_iand (z := (K : Int) / 2 ^ i % 2) C dX6_restOfPower_26 (i_mask 1 (by omega) (by decide)) ?_
    rw [hbit]
    refine g_iconst C dX6_restOfPower_27 ?_
    refine g_icmp_ne (tgt := 41) C dX6_restOfPower_28 (by decide) (by omega) (by omega) (fun h28 => ?_) (fun h28 => ?_)
    · first
      | exact J41 _ (by rw [hmod, show K / 2 ^ i % 2 = 1 by omega, Nat.mul_one])
      | exact J41 _ (by rw [hmod, show K / 2 ^ i % 2 = 0 by omega, Nat.mul_zero, Nat.add_zero]; exact hZ1.symm)
    · refine g_lload_n C dX6_restOfPower_31 rfl ?_
      refine g_lload C dX6_restOfPower_32 rfl ?_
      refine g_lmul C dX6_restOfPower_34 ?_
      refine g_iload_n C dX6_restOfPower_35 rfl ?_
      refine g_callS C (s_X6_rest _ (x := Z1 * Z2) (y := (p : Int)) (by omega) (by omega)) ml_RX6_291 sm_yX6_rest in_RX6 co_yX6_rest hd_X6_rest rfl ⟨by omega, by omega⟩ rfl (Nat.le_of_ble_eq_true rfl) ⟨by omega, by omega⟩ dX6_restOfPower_36 (fun v36 w36 hp36 => ?_)
      obtain ⟨rfl, hw36⟩ := hp36
      subst w36
      have hr36 := pmN_lt (a := a) (p := p) (by omega) (K % 2 ^ i + 2 ^ i)
      rw [hq1]
      refine g_i2l C dX6_restOfPower_39 (by omega) ?_
      refine g_lstore_n C dX6_restOfPower_40 (by decide) rfl ?_
      first
      | exact J41 _ (by rw [hmod, show K / 2 ^ i % 2 = 1 by omega, Nat.mul_one])
      | exact J41 _ (by rw [hmod, show K / 2 ^ i % 2 = 0 by omega, Nat.mul_zero, Nat.add_zero]; exact hZ1.symm)
