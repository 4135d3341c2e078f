theorem tm_mod {x p : Int} (hp : 0 < p) : (x.tmod p + p) % p = x % p := by
  have e : x.tmod p = x - p * x.tdiv p := Int.tmod_def x p
  rw [Int.add_emod_right, e, Int.sub_mul_emod_self_left]
theorem SPb_r {p : Nat} (h : SPb p = true) : 5 ≤ p ∧ p ≤ 997 ∧ p % 4 = 1 := SV.p (k := 0) ⟨h, fun i hi => absurd hi (Nat.not_lt_zero i)⟩
theorem SPb_v {p : Nat} (h : SPb p = true) : SV p 0 := ⟨h, fun i hi => absurd hi (Nat.not_lt_zero i)⟩
theorem pm_s {a p k : Nat} : ((pmN a p k : Nat) : Int) * ((a % p : Nat) : Int) % (p : Int) = ((pmN a p (k + 1) : Nat) : Int) := by
  show _ = ((pmN a p k * (a % p) % p : Nat) : Int)
  rw [Int.natCast_emod (pmN a p k * (a % p)) p, Int.natCast_mul]
set_option maxHeartbeats 4000000 in
set_option maxRecDepth 100000 in
theorem c_X8_isNumberPrime (l : Launch) {E : GE} {w : Wd} {N : Nat} (hN : N ≤ 999) : Sp E l yX8_isNumberPrime cX8_isNumberPrime 2 (some .boolean) 0 (0) (0) [iI (N : Int)] w (fun r w' => (∃ y : Int, r = some (iI y) ∧ (y = 1 ∧ 1 < N ∧ prB N = true ∨ y = 0 ∧ ¬ (1 < N ∧ prB N = true))) ∧ w' = w) := by
  refine sp_intro [some (iI (N : Int)), none] rfl (Nat.le_of_ble_eq_true rfl) pn_X8 ?_
  intro X C hRm hl hnm hQ
  obtain ⟨hRf, hRl, hRc, hRs⟩ := hRm
  refine g_wf (fun hwf => ?_)
  refine g_iconst C dX8_isNumberPrime_0 ?_
  refine g_istore_n C dX8_isNumberPrime_1 (by decide) rfl ?_
  refine g_loop (σ := Nat) (fun k => 2 ≤ k ∧ k ≤ 33 ∧ ∀ j, 2 ≤ j → j < k → N % j ≠ 0) (fun k => G E X 2 2 [some (iI (N : Int)), some (iI (k : Int))] [] w 0 0) (fun k => 1000 - k) ?_ 2 ⟨by omega, by omega, fun j h1 h2 => by omega⟩
  rintro k ⟨hk, hk2, hkj⟩ ih
  have hkk : 0 ≤ (k : Int) * (k : Int) := Int.mul_nonneg (by omega) (by omega)
  have hkk2 : (k : Int) * (k : Int) ≤ 33 * 33 := Int.mul_le_mul (by omega) (by omega) (by omega) (by omega)
  have hkc : ((k * k : Nat) : Int) = (k : Int) * (k : Int) := Int.natCast_mul k k
  refine g_iload_n C dX8_isNumberPrime_2 rfl ?_
  refine g_iload_n C dX8_isNumberPrime_3 rfl ?_
  refine g_imul C dX8_isNumberPrime_4 ?_
  refine g_iload_n C dX8_isNumberPrime_5 rfl ?_
  refine g_icmp_gt (tgt := 23) C dX8_isNumberPrime_6 (by decide) (by omega) (by omega) (fun h6 => ?_) (fun h6 => ?_)
  · refine g_iload_n C dX8_isNumberPrime_23 rfl ?_
    refine g_iconst C dX8_isNumberPrime_24 ?_
    refine g_icmp_le (tgt := 32) C dX8_isNumberPrime_25 (by decide) (by omega) (by omega) (fun h25 => ?_) (fun h25 => ?_)
    · refine g_iconst C dX8_isNumberPrime_32 ?_
      exact g_zreturn C hQ dX8_isNumberPrime_33 (nar01 (by omega)) (Nat.le_refl _) (Nat.le_refl _) ⟨⟨_, rfl, by
        first
        | exact Or.inl ⟨rfl, by omega, (prB_iff (by omega)).mpr (fun j h1 h2 => by
            rcases Nat.lt_or_ge j k with q | q
            · exact hkj j h1 q
            · have : k * k ≤ j * j := Nat.mul_le_mul q q
              omega)⟩
        | exact Or.inr ⟨rfl, fun q => by omega⟩⟩, rfl⟩
    · refine g_iconst C dX8_isNumberPrime_28 ?_
      refine g_goto (tgt := 33) C dX8_isNumberPrime_29 (by decide) ?_
      exact g_zreturn C hQ dX8_isNumberPrime_33 (nar01 (by omega)) (Nat.le_refl _) (Nat.le_refl _) ⟨⟨_, rfl, by
        first
        | exact Or.inl ⟨rfl, by omega, (prB_iff (by omega)).mpr (fun j h1 h2 => by
            rcases Nat.lt_or_ge j k with q | q
            · exact hkj j h1 q
            · have : k * k ≤ j * j := Nat.mul_le_mul q q
              omega)⟩
        | exact Or.inr ⟨rfl, fun q => by omega⟩⟩, rfl⟩
  · refine g_iload_n C dX8_isNumberPrime_9 rfl ?_
    refine g_iload_n C dX8_isNumberPrime_10 rfl ?_
    refine g_iremN C dX8_isNumberPrime_11 (by omega) (by omega) ?_
    have hmod : ((N % k : Nat) : Int) = (N : Int) % (k : Int) := Int.natCast_emod N k
    refine g_if_ne (tgt := 17) C dX8_isNumberPrime_12 (by decide) (by have : (N : Int) % (k : Int) < k := Int.emod_lt_of_pos _ (by omega); have : 0 ≤ (N : Int) % (k : Int) := Int.emod_nonneg _ (by omega); omega) (fun h12 => ?_) (fun h12 => ?_)
    · refine g_iinc C dX8_isNumberPrime_17 rfl (by decide) rfl ?_
      refine g_goto (tgt := 2) C dX8_isNumberPrime_20 (by decide) ?_
      have hlt : k + 1 ≤ 33 := by
        rcases Nat.lt_or_ge 32 k with q | q
        · have : 33 * 33 ≤ k * k := Nat.mul_le_mul q q
          omega
        · omega
      exact ih (k + 1) ⟨by omega, hlt, fun j h1 h2 => by
        rcases Nat.lt_or_ge j k with q | q
        · exact hkj j h1 q
        · rw [show j = k by omega]; omega⟩ (by omega)
    · refine g_iconst C dX8_isNumberPrime_15 ?_
      exact g_zreturn C hQ dX8_isNumberPrime_16 rfl (Nat.le_refl _) (Nat.le_refl _) ⟨⟨0, rfl, Or.inr ⟨rfl, fun q => (prB_iff (by omega)).mp q.2 k hk (by omega) (by omega)⟩⟩, rfl⟩
set_option maxHeartbeats 4000000 in
set_option maxRecDepth 100000 in
theorem c_X8_powered (l : Launch) {E : GE} {w : Wd} {x : Int} {a p K : Nat} (hp : 5 ≤ p ∧ p ≤ 997) (hx : -1000 ≤ x ∧ x ≤ 1000) (ha : x % (p : Int) = ((a % p : Nat) : Int)) (hK : K ≤ 1000) : Sp E l yX8_powered cX8_powered 6 (some .int) 0 (0) (0) [iI x, iI (K : Int), iI (p : Int)] w (fun r w' => r = some (iI ((pmN a p K : Nat) : Int)) ∧ w' = w) := by
  refine sp_intro [some (iI x), some (iI (K : Int)), some (iI (p : Int)), none, none, none] rfl (Nat.le_of_ble_eq_true rfl) pn_X8 ?_
  intro X C hRm hl hnm hQ
  obtain ⟨hRf, hRl, hRc, hRs⟩ := hRm
  refine g_wf (fun hwf => ?_)
  refine g_iload_n C dX8_powered_0 rfl ?_
  refine g_iload_n C dX8_powered_1 rfl ?_
  refine g_irem C dX8_powered_2 (by omega) (by omega) (by omega) ?_
  refine g_iload_n C dX8_powered_3 rfl ?_
  refine g_iadd C dX8_powered_4 ?_
  refine g_iload_n C dX8_powered_5 rfl ?_
  have t1 : -(p : Int) < x.tmod p := Int.lt_tmod_of_pos x (by omega)
  have t2 : x.tmod p < p := Int.tmod_lt_of_pos x (by omega)
  refine g_iremN C dX8_powered_6 (by omega) (by omega) ?_
  rw [tm_mod (by omega), ha]
  refine g_istore_n C dX8_powered_7 (by decide) rfl ?_
  refine g_iconst C dX8_powered_8 ?_
  refine g_istore C dX8_powered_9 (by decide) rfl ?_
  refine g_iconst C dX8_powered_11 ?_
  refine g_istore C dX8_powered_12 (by decide) rfl ?_
  have hap : a % p < p := Nat.mod_lt _ (by omega)
  refine g_loop (σ := Nat) (fun j => j ≤ K) (fun j => G E X 6 14 [some (iI x), some (iI (K : Int)), some (iI (p : Int)), some (iI ((a % p : Nat) : Int)), some (iI ((pmN a p j : Nat) : Int)), some (iI (j : Int))] [] w 0 0) (fun j => K - j) ?_ 0 (by omega)
  intro j hj ih
  have hpj := pmN_lt (a := a) (p := p) (by omega) j
  have m1 : 0 ≤ ((pmN a p j : Nat) : Int) * ((a % p : Nat) : Int) := Int.mul_nonneg (by omega) (by omega)
  have m2 : ((pmN a p j : Nat) : Int) * ((a % p : Nat) : Int) ≤ 997 * 997 := Int.mul_le_mul (by omega) (by omega) (by omega) (by omega)
  refine g_iload C dX8_powered_14 rfl ?_
  refine g_iload_n C dX8_powered_16 rfl ?_
  refine g_icmp_ge (tgt := 34) C dX8_powered_17 (by decide) (by omega) (by omega) (fun h17 => ?_) (fun h17 => ?_)
  · refine g_iload C dX8_powered_34 rfl ?_
    exact g_ireturn C hQ dX8_powered_36 (Nat.le_refl _) (Nat.le_refl _) ⟨by rw [show j = K by omega], rfl⟩
  · refine g_iload C dX8_powered_20 rfl ?_
    refine g_iload_n C dX8_powered_22 rfl ?_
    refine g_imul C dX8_powered_23 ?_
    refine g_iload_n C dX8_powered_24 rfl ?_
    refine g_iremN C dX8_powered_25 (by omega) (by omega) ?_
    rw [pm_s]
    refine g_istore C dX8_powered_26 (by decide) rfl ?_
    refine g_iinc C dX8_powered_28 rfl (by decide) rfl ?_
    refine g_goto (tgt := 14) C dX8_powered_31 (by decide) ?_
    exact ih (j + 1) (by omega) (by omega)
set_option maxHeartbeats 4000000 in
set_option maxRecDepth 100000 in
theorem c_X8_witness (l : Launch) {E : GE} {w : Wd} {p : Nat} (hS : SPb p = true) : Sp E l yX8_witness cX8_witness 2 (some .int) 1 (0) (0) [iI (p : Int)] w (fun r w' => r = some (iI ((wit p : Nat) : Int)) ∧ w' = w) := by
  refine sp_intro [some (iI (p : Int)), none] rfl (Nat.le_of_ble_eq_true rfl) pn_X8 ?_
  intro X C hRm hl hnm hQ
  obtain ⟨hRf, hRl, hRc, hRs⟩ := hRm
  refine g_wf (fun hwf => ?_)
  refine g_iconst C dX8_witness_0 ?_
  refine g_istore_n C dX8_witness_1 (by decide) rfl ?_
  have hw := (SPb_v hS).wit
  have hp := SPb_r hS
  refine g_loop (σ := Nat) (fun j => 2 ≤ j ∧ j ≤ wit p) (fun j => G E X 2 2 [some (iI (p : Int)), some (iI (j : Int))] [] w 0 0) (fun j => wit p - j) ?_ 2 ⟨by omega, wit_ge⟩
  rintro j ⟨hj, hj2⟩ ih
  have hpj := pmN_lt (a := j) (p := p) (by omega) ((p - 1) / 2)
  refine g_iload_n C dX8_witness_2 rfl ?_
  refine g_iload_n C dX8_witness_3 rfl ?_
  refine g_iconst C dX8_witness_4 ?_
  refine g_isub C dX8_witness_5 ?_
  refine g_iconst C dX8_witness_6 ?_
  refine g_idivN C dX8_witness_7 (by omega) (by omega) ?_
  rw [show ((p : Int) - 1) / 2 = (((p - 1) / 2 : Nat) : Int) by omega]
  refine g_iload_n C dX8_witness_8 rfl ?_
  refine g_callS C (c_X8_powered _ (x := (j : Int)) (a := j) (p := p) (K := (p - 1) / 2) (by omega) (by omega) (by rw [Int.natCast_emod]) (by omega)) ml_RX8_250 sm_yX8_powered in_RX8 co_yX8_powered hd_X8_powered rfl ⟨by omega, by omega⟩ rfl (Nat.le_of_ble_eq_true rfl) ⟨by omega, by omega⟩ dX8_witness_9 (fun v9 w9 hp9 => ?_)
  obtain ⟨rfl, hw9⟩ := hp9
  subst w9
  refine g_iload_n C dX8_witness_12 rfl ?_
  refine g_iconst C dX8_witness_13 ?_
  refine g_isub C dX8_witness_14 ?_
  refine g_icmp_eq (tgt := 24) C dX8_witness_15 (by decide) (by omega) (by omega) (fun h15 => ?_) (fun h15 => ?_)
  · refine g_iload_n C dX8_witness_24 rfl ?_
    exact g_ireturn C hQ dX8_witness_25 (Nat.le_refl _) (Nat.le_refl _) ⟨by
      rcases Nat.lt_or_ge j (wit p) with q | q
      · have := wit_first hj q
        omega
      · rw [show j = wit p by omega], rfl⟩
  · refine g_iinc C dX8_witness_18 rfl (by decide) rfl ?_
    refine g_goto (tgt := 2) C dX8_witness_21 (by decide) ?_
    have hne : j ≠ wit p := fun q => by
      rw [q, hw.2.1] at h15
      omega
    exact ih (j + 1) ⟨by omega, by omega⟩ (by omega)
set_option maxHeartbeats 4000000 in
set_option maxRecDepth 100000 in
theorem c_X8_imaginary (l : Launch) {E : GE} {w : Wd} {p : Nat} (hS : SPb p = true) : Sp E l yX8_imaginary cX8_imaginary 1 (some .int) 2 (0) (0) [iI (p : Int)] w (fun r w' => r = some (iI ((ima p : Nat) : Int)) ∧ w' = w) := by
  refine sp_intro [some (iI (p : Int))] rfl (Nat.le_of_ble_eq_true rfl) pn_X8 ?_
  intro X C hRm hl hnm hQ
  obtain ⟨hRf, hRl, hRc, hRs⟩ := hRm
  refine g_wf (fun hwf => ?_)
  refine g_iload_n C dX8_imaginary_0 rfl ?_
  refine g_callS C (c_X8_witness _ hS) ml_RX8_254 sm_yX8_witness in_RX8 co_yX8_witness hd_X8_witness rfl ⟨by omega, by omega⟩ rfl (Nat.le_of_ble_eq_true rfl) ⟨by omega, by omega⟩ dX8_imaginary_1 (fun v1 w1 hp1 => ?_)
  obtain ⟨rfl, hw1⟩ := hp1
  subst w1
  have hw := (SPb_v hS).wit
  have hp := SPb_r hS
  refine g_iload_n C dX8_imaginary_4 rfl ?_
  refine g_iconst C dX8_imaginary_5 ?_
  refine g_isub C dX8_imaginary_6 ?_
  refine g_iconst C dX8_imaginary_7 ?_
  refine g_idivN C dX8_imaginary_8 (by omega) (by omega) ?_
  rw [show ((p : Int) - 1) / 4 = (((p - 1) / 4 : Nat) : Int) by omega]
  refine g_iload_n C dX8_imaginary_9 rfl ?_
  refine g_callS C (c_X8_powered _ (x := ((wit p : Nat) : Int)) (a := wit p) (p := p) (K := (p - 1) / 4) (by omega) (by omega) (by rw [Int.natCast_emod]) (by omega)) ml_RX8_250 sm_yX8_powered in_RX8 co_yX8_powered hd_X8_powered rfl ⟨by omega, by omega⟩ rfl (Nat.le_of_ble_eq_true rfl) ⟨by omega, by omega⟩ dX8_imaginary_10 (fun v10 w10 hp10 => ?_)
  obtain ⟨rfl, hw10⟩ := hp10
  subst w10
  exact g_ireturn C hQ dX8_imaginary_13 (Nat.le_refl _) (Nat.le_refl _) ⟨rfl, rfl⟩
set_option maxHeartbeats 4000000 in
set_option maxRecDepth 100000 in
theorem c_X8_begun (l : Launch) {E : GE} {w : Wd} {p : Nat} (hS : SPb p = true) : Sp E l yX8_begun cX8_begun 1 (some (.array .int)) 3 (1) (6) [iI (p : Int)] w (fun r w' => ∃ f : Nat → Int, r = some (.ref w.1) ∧ w' = wpush w (true, eI 6 f) ∧ SpR f p 0) := by
  refine sp_intro [some (iI (p : Int))] rfl (Nat.le_of_ble_eq_true rfl) pn_X8 ?_
  intro X C hRm hl hnm hQ
  obtain ⟨hRf, hRl, hRc, hRs⟩ := hRm
  refine g_wf (fun hwf => ?_)
  refine g_bipush C dX8_begun_0 (by decide) ?_
  refine g_newI C gw_arrayClass_int (N := 6) rfl (by omega) (by omega) dX8_begun_2 ?_
  refine g_dup C dX8_begun_4 rfl ?_
  refine g_iconst C dX8_begun_5 ?_
  refine g_iload_n C dX8_begun_6 rfl ?_
  refine g_iastore C wpush_s (by omega) dX8_begun_7 ?_
  rw [wset_push]
  refine g_dup C dX8_begun_8 rfl ?_
  refine g_iconst C dX8_begun_9 ?_
  refine g_iload_n C dX8_begun_10 rfl ?_
  refine g_iastore C wpush_s (by omega) dX8_begun_11 ?_
  rw [wset_push]
  refine g_dup C dX8_begun_12 rfl ?_
  refine g_iconst C dX8_begun_13 ?_
  refine g_iload_n C dX8_begun_14 rfl ?_
  refine g_callS C (c_X8_imaginary _ hS) ml_RX8_257 sm_yX8_imaginary in_RX8 co_yX8_imaginary hd_X8_imaginary rfl ⟨by omega, by omega⟩ rfl (Nat.le_of_ble_eq_true rfl) ⟨by omega, by omega⟩ dX8_begun_15 (fun v15 w15 hp15 => ?_)
  obtain ⟨rfl, hw15⟩ := hp15
  subst w15
  refine g_iastore C wpush_s (by omega) dX8_begun_18 ?_
  rw [wset_push]
  refine g_dup C dX8_begun_19 rfl ?_
  refine g_iconst C dX8_begun_20 ?_
  refine g_iconst C dX8_begun_21 ?_
  refine g_iastore C wpush_s (by omega) dX8_begun_22 ?_
  rw [wset_push]
  refine g_dup C dX8_begun_23 rfl ?_
  refine g_iconst C dX8_begun_24 ?_
  refine g_iconst C dX8_begun_25 ?_
  refine g_iastore C wpush_s (by omega) dX8_begun_26 ?_
  rw [wset_push]
  refine g_dup C dX8_begun_27 rfl ?_
  refine g_iconst C dX8_begun_28 ?_
  refine g_iconst C dX8_begun_29 ?_
  refine g_iastore C wpush_s (by omega) dX8_begun_30 ?_
  rw [wset_push]
  exact g_areturn C (Or.inr ⟨_, rfl⟩) hQ (Or.inr ⟨_, rfl⟩) dX8_begun_31 (by omega) (by omega) ⟨_, rfl, rfl, SPb_v hS, rfl, rfl, rfl, rfl, rfl, rfl⟩
set_option maxHeartbeats 4000000 in
set_option maxRecDepth 100000 in
theorem c_X8_step (l : Launch) {E : GE} {w : Wd} {p k a : Nat} {f : Nat → Int} (ha : w.2 a = some (true, eI 6 f)) (hR : SpR f p k) (h0 : (spS p k).2.1 ≠ 0) : Sp E l yX8_step cX8_step 4 none 0 (1) (6) [.ref a] w (fun r w' => r = none ∧ ∃ f' g' : Nat → Int, w' = wset (wpush w (true, eI 6 g')) a (true, eI 6 f') ∧ SpR f' p (k + 1)) := by
  refine sp_intro [some (.ref a), none, none, none] rfl (Nat.le_of_ble_eq_true rfl) pn_X8 ?_
  intro X C hRm hl hnm hQ
  obtain ⟨hRf, hRl, hRc, hRs⟩ := hRm
  refine g_wf (fun hwf => ?_)
  obtain ⟨hV, e0, e1, e2, e3, e4, e5⟩ := hR
  have hg := hV.good
  have hp := hV.p
  have hne : a ≠ w.1 := Nat.ne_of_lt (hwf a _ ha)
  refine g_aload_n C dX8_step_0 rfl ?_
  refine g_iconst C dX8_step_1 ?_
  refine g_ialoadN (1) C ha (by omega) (by omega) dX8_step_2 ?_
  refine g_aload_n C dX8_step_3 rfl ?_
  refine g_iconst C dX8_step_4 ?_
  refine g_ialoadN (2) C ha (by omega) (by omega) dX8_step_5 ?_
  refine g_idivN C dX8_step_6 (by omega) (by omega) ?_
  refine g_istore_n C dX8_step_7 (by decide) rfl ?_
  refine g_bipush C dX8_step_8 (by decide) ?_
  refine g_newI C gw_arrayClass_int (N := 6) rfl (by omega) (by omega) dX8_step_10 ?_
  refine g_dup C dX8_step_12 rfl ?_
  refine g_iconst C dX8_step_13 ?_
  refine g_aload_n C dX8_step_14 rfl ?_
  refine g_iconst C dX8_step_15 ?_
  refine g_ialoadN (0) C (by rw [wpush_n hne]; exact ha) (by omega) (by omega) dX8_step_16 ?_
  refine g_iastore C wpush_s (by omega) dX8_step_17 ?_
  rw [wset_push]
  refine g_dup C dX8_step_18 rfl ?_
  refine g_iconst C dX8_step_19 ?_
  refine g_aload_n C dX8_step_20 rfl ?_
  refine g_iconst C dX8_step_21 ?_
  refine g_ialoadN (2) C (by rw [wpush_n hne]; exact ha) (by omega) (by omega) dX8_step_22 ?_
  refine g_iastore C wpush_s (by omega) dX8_step_23 ?_
  rw [wset_push]
  refine g_dup C dX8_step_24 rfl ?_
  refine g_iconst C dX8_step_25 ?_
  refine g_aload_n C dX8_step_26 rfl ?_
  refine g_iconst C dX8_step_27 ?_
  refine g_ialoadN (1) C (by rw [wpush_n hne]; exact ha) (by omega) (by omega) dX8_step_28 ?_
  refine g_iload_n C dX8_step_29 rfl ?_
  refine g_aload_n C dX8_step_30 rfl ?_
  refine g_iconst C dX8_step_31 ?_
  refine g_ialoadN (2) C (by rw [wpush_n hne]; exact ha) (by omega) (by omega) dX8_step_32 ?_
  refine g_imul C dX8_step_33 ?_
  refine g_isub C dX8_step_34 ?_
  refine g_iastore C wpush_s (by omega) dX8_step_35 ?_
  rw [wset_push]
  refine g_dup C dX8_step_36 rfl ?_
  refine g_iconst C dX8_step_37 ?_
  refine g_aload_n C dX8_step_38 rfl ?_
  refine g_iconst C dX8_step_39 ?_
  refine g_ialoadN (4) C (by rw [wpush_n hne]; exact ha) (by omega) (by omega) dX8_step_40 ?_
  refine g_iastore C wpush_s (by omega) dX8_step_41 ?_
  rw [wset_push]
  refine g_dup C dX8_step_42 rfl ?_
  refine g_iconst C dX8_step_43 ?_
  refine g_aload_n C dX8_step_44 rfl ?_
  refine g_iconst C dX8_step_45 ?_
  refine g_ialoadN (3) C (by rw [wpush_n hne]; exact ha) (by omega) (by omega) dX8_step_46 ?_
  refine g_iload_n C dX8_step_47 rfl ?_
  refine g_aload_n C dX8_step_48 rfl ?_
  refine g_iconst C dX8_step_49 ?_
  refine g_ialoadN (4) C (by rw [wpush_n hne]; exact ha) (by omega) (by omega) dX8_step_50 ?_
  refine g_imul C dX8_step_51 ?_
  refine g_isub C dX8_step_52 ?_
  refine g_iastore C wpush_s (by omega) dX8_step_53 ?_
  rw [wset_push]
  refine g_dup C dX8_step_54 rfl ?_
  refine g_iconst C dX8_step_55 ?_
  refine g_aload_n C dX8_step_56 rfl ?_
  refine g_iconst C dX8_step_57 ?_
  refine g_ialoadN (5) C (by rw [wpush_n hne]; exact ha) (by omega) (by omega) dX8_step_58 ?_
  refine g_iconst C dX8_step_59 ?_
  refine g_iadd C dX8_step_60 ?_
  refine g_iastore C wpush_s (by omega) dX8_step_61 ?_
  rw [wset_push]
  refine g_astore_n C dX8_step_62 (by decide) rfl ?_
  have hx := fun g : Nat → Int => (rfl : g = g)
  generalize hG : iup (iup (iup (iup (iup (iup (fun _ => 0) _ _) _ _) _ _) _ _) _ _) _ _ = gm
  refine g_iconst C dX8_step_63 ?_
  refine g_istore_n C dX8_step_64 (by decide) rfl ?_
  refine g_loop (σ := Nat × (Nat → Int)) (fun q => q.1 ≤ 6 ∧ ∀ i, i < q.1 → q.2 i = gm i) (fun q => G E X 4 65 [some (.ref a), some (iI (f 1 / f 2)), some (.ref w.1), some (iI (q.1 : Int))] [] (wset (wpush w (true, eI 6 gm)) a (true, eI 6 q.2)) 1 6) (fun q => 6 - q.1) ?_ (0, f) ⟨by dsimp only; omega, fun i hi => by dsimp only at hi; omega⟩ |> g_eqw (wset_id (by rw [wpush_n hne]; exact ha)).symm
  rintro ⟨j, h⟩ hq ih
  obtain ⟨hj, hh⟩ := hq
  dsimp only at hj hh ⊢
  refine g_iload_n C dX8_step_65 rfl ?_
  refine g_bipush C dX8_step_66 (by decide) ?_
  refine g_icmp_ge (tgt := 83) C dX8_step_68 (by decide) (by omega) (by omega) (fun h68 => ?_) (fun h68 => ?_)
  · exact g_return C hQ dX8_step_83 (by omega) (by omega) ⟨rfl, h, gm, rfl, hV.next h0, by
      have g0 := hh 0 (by omega)
      have g1 := hh 1 (by omega)
      have g2 := hh 2 (by omega)
      have g3 := hh 3 (by omega)
      have g4 := hh 4 (by omega)
      have g5 := hh 5 (by omega)
      subst hG
      refine ⟨g0.trans e0, g1.trans e2, g2.trans ?_, g3.trans e4, g4.trans ?_, g5.trans ?_⟩
      · show f 1 - f 1 / f 2 * f 2 = (spS p k).1 - (spS p k).1 / (spS p k).2.1 * (spS p k).2.1
        rw [e1, e2]
      · show f 3 - f 1 / f 2 * f 4 = (spS p k).2.2.1 - (spS p k).1 / (spS p k).2.1 * (spS p k).2.2.2
        rw [e1, e2, e3, e4]
      · show f 5 + 1 = ((k + 1 : Nat) : Int)
        rw [e5]; omega⟩
  · refine g_aload_n C dX8_step_71 rfl ?_
    refine g_iload_n C dX8_step_72 rfl ?_
    refine g_aload_n C dX8_step_73 rfl ?_
    refine g_iload_n C dX8_step_74 rfl ?_
    refine g_ialoadN (j) C (by rw [wset_n (Ne.symm hne)]; exact wpush_s) (by omega) (by omega) dX8_step_75 ?_
    refine g_iastoreN (j) C wset_s (by omega) (by omega) dX8_step_76 ?_
    rw [wset_set]
    refine g_iinc C dX8_step_77 rfl (by decide) rfl ?_
    refine g_goto (tgt := 65) C dX8_step_80 (by decide) ?_
    exact ih (j + 1, iup h j (gm j)) ⟨by dsimp only; omega, fun i hi => by
      dsimp only at hi ⊢
      by_cases q : i = j
      · rw [q, iup_s]
      · rw [iup_n q]; exact hh i (by omega)⟩ (by dsimp only; omega)
def FrX (w u : Wd) (a : Nat) : Prop := w.1 ≤ u.1 ∧ ∀ b, b < w.1 → b ≠ a → u.2 b = w.2 b
theorem FrX.rf (w : Wd) (a : Nat) : FrX w w a := ⟨Nat.le_refl _, fun _ _ _ => rfl⟩
set_option maxHeartbeats 4000000 in
set_option maxRecDepth 100000 in
theorem c_X8_settled (l : Launch) {E : GE} {w : Wd} {p k a : Nat} {f : Nat → Int} (ha : w.2 a = some (true, eI 6 f)) (hR : SpR f p k) : Sp E l yX8_settled cX8_settled 2 (some .int) 1 (20) (120) [.ref a] w (fun r w' => ∃ (j : Nat) (g : Nat → Int), r = some (iI (j : Int)) ∧ w'.2 a = some (true, eI 6 g) ∧ SpR g p (k + j) ∧ FrX w w' a ∧ (spS p (k + j)).1 * (spS p (k + j)).1 < p ∧ ∀ i, k ≤ i → i < k + j → p ≤ (spS p i).1 * (spS p i).1) := by
  refine sp_intro [some (.ref a), none] rfl (Nat.le_of_ble_eq_true rfl) pn_X8 ?_
  intro X C hRm hl hnm hQ
  obtain ⟨hRf, hRl, hRc, hRs⟩ := hRm
  refine g_wf (fun hwf => ?_)
  refine g_iconst C dX8_settled_0 ?_
  refine g_istore_n C dX8_settled_1 (by decide) rfl ?_
  have hp := hR.1.p
  refine g_loop (σ := Nat × Wd × (Nat → Int)) (fun q => q.2.1.2 a = some (true, eI 6 q.2.2) ∧ SpR q.2.2 p (k + q.1) ∧ FrX w q.2.1 a ∧ ∀ j, k ≤ j → j < k + q.1 → p ≤ (spS p j).1 * (spS p j).1) (fun q => G E X 2 2 [some (.ref a), some (iI (q.1 : Int))] [] q.2.1 q.1 (6 * q.1)) (fun q => 20 - q.1) ?_ (0, w, f) ⟨ha, hR, FrX.rf w a, fun j h1 h2 => by dsimp only at h2; omega⟩
  rintro ⟨j, u, g⟩ hq ih
  obtain ⟨hu, hRg, hfr, hall⟩ := hq
  dsimp only at hu hRg hfr hall ⊢
  refine g_wf (fun hwu => ?_)
  have hau := hwu a _ hu
  have hgd := hRg.1.good
  obtain ⟨hV, e0, e1, e2, e3, e4, e5⟩ := id hRg
  have g1 : 0 ≤ g 1 ∧ g 1 ≤ 997 := by omega
  have m1 : 0 ≤ g 1 * g 1 := Int.mul_nonneg g1.1 g1.1
  have m2 : g 1 * g 1 ≤ 997 * 997 := Int.mul_le_mul g1.2 g1.2 g1.1 (by omega)
  refine g_aload_n C dX8_settled_2 rfl ?_
  refine g_iconst C dX8_settled_3 ?_
  refine g_ialoadN (1) C hu (by omega) (by omega) dX8_settled_4 ?_
  refine g_aload_n C dX8_settled_5 rfl ?_
  refine g_iconst C dX8_settled_6 ?_
  refine g_ialoadN (1) C hu (by omega) (by omega) dX8_settled_7 ?_
  refine g_imul C dX8_settled_8 ?_
  refine g_aload_n C dX8_settled_9 rfl ?_
  refine g_iconst C dX8_settled_10 ?_
  refine g_ialoadN (0) C hu (by omega) (by omega) dX8_settled_11 ?_
  refine g_icmp_lt (tgt := 25) C dX8_settled_12 (by decide) (by omega) (by omega) (fun h12 => ?_) (fun h12 => ?_)
  · refine g_iload_n C dX8_settled_25 rfl ?_
    exact g_ireturn C hQ dX8_settled_26 (by omega) (by omega) ⟨j, g, rfl, hu, hRg, hfr, by rw [← e1]; omega, hall⟩
  · have h0 : (spS p (k + j)).2.1 ≠ 0 := fun q => by
      have q2 := hgd.2.2.2.2.2.1 q
      rw [q2] at e1
      rw [e1] at h12
      omega
    refine g_aload_n C dX8_settled_15 rfl ?_
    refine g_callS C (c_X8_step _ hu hRg h0) ml_RX8_260 sm_yX8_step in_RX8 co_yX8_step hd_X8_step rfl ⟨by omega, by omega⟩ rfl (Nat.le_of_ble_eq_true rfl) ⟨by omega, by omega⟩ dX8_settled_16 (fun v16 w16 hp16 => ?_)
    obtain ⟨rfl, f', g', rfl, hR'⟩ := hp16
    refine g_iinc C dX8_settled_19 rfl (by decide) rfl ?_
    refine g_goto (tgt := 2) C dX8_settled_22 (by decide) ?_
    exact ih (j + 1, _, f') ⟨wset_s, hR', ⟨by have := hfr.1; show w.1 ≤ u.1 + 1; omega, fun b hb hba => by show (wset (wpush u (true, eI 6 g')) a (true, eI 6 f')).2 b = _; rw [wset_n hba, wpush_n (by have := hfr.1; omega)]; exact hfr.2 b hb hba⟩, fun i h1 h2 => by
      dsimp only at h2
      rcases Nat.lt_or_ge i (k + j) with q | q
      · exact hall i h1 q
      · rw [show i = k + j by omega, ← e1]; omega⟩ (by dsimp only; omega)
