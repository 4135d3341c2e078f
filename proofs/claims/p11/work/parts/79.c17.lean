theorem wit_chk : ((List.range 998).all fun p => !SPb p || decide (wit p < p)) = true := by decide +kernel
theorem wit_lt {p : Nat} (h : SPb p = true) : wit p < p := by
  have h1 := SPb_r h
  have h2 := List.all_eq_true.mp wit_chk p (List.mem_range.mpr (by omega))
  rw [h] at h2
  simpa using h2
set_option maxHeartbeats 4000000 in
set_option maxRecDepth 100000 in
theorem s_X3_findWitness (l : Launch) {K : KC} {E : GE} {w : Wd} {p : Nat} (hS : SPb p = true) : St K E l yX3_findWitness cX3_findWitness 2 (some .int) 3 (0) (0) [iI (p : Int)] w (fun r' w' => r' = some (iI ((wit p : Nat) : Int)) ∧ w' = w) := by
  refine st_intro [some (iI (p : Int)), none] rfl (Nat.le_of_ble_eq_true rfl) pn_X3 ?_
  intro X C hT hRm hl hnm hQ
  obtain ⟨hRf, hRl, hRc, hRs⟩ := hRm
  refine g_wf (fun hwf => ?_)
  have hp := SPb_r hS
  have hwl := wit_lt hS
  obtain ⟨hw1, hw2, hw3⟩ := (SPb_v hS).wit
  have hsp := witF_spec (p := p) (n := 40) (w := 2)
  have hw0 : 2 ≤ wit p := hsp.1
  have hwn : ∀ c, 2 ≤ c → c < wit p → pmN c p ((p - 1) / 2) ≠ p - 1 := hsp.2.2
  refine g_iconst C dX3_findWitness_0 ?_
  refine g_istore_n C dX3_findWitness_1 (by decide) rfl ?_
  refine g_loop (σ := Nat) (fun c => 2 ≤ c ∧ c ≤ wit p) (fun c => G E X 2 2 [some (iI (p : Int)), some (iI (c : Int))] [] w 0 0) (fun c => wit p - c) ?_ 2 ⟨by omega, hw0⟩
  rintro c ⟨hc1, hc2⟩ ih
  have hpm := pmN_lt (a := c) (p := p) (by omega) ((p - 1) / 2)
  refine g_iload_n C dX3_findWitness_2 rfl ?_
  refine g_iload_n C dX3_findWitness_3 rfl ?_
  refine g_icmp_ge (tgt := 31) C dX3_findWitness_4 (by decide) (by omega) (by omega) (fun h4 => ?_) (fun h4 => ?_)
  · omega
  · refine g_iload_n C dX3_findWitness_7 rfl ?_
    refine g_iload_n C dX3_findWitness_8 rfl ?_
    refine g_iconst C dX3_findWitness_9 ?_
    refine g_isub C dX3_findWitness_10 ?_
    refine g_iconst C dX3_findWitness_11 ?_
    refine g_idivN C dX3_findWitness_12 (by omega) (by omega) ?_
    rw [show ((p : Int) - 1) / 2 = (((p - 1) / 2 : Nat) : Int) by omega]
    refine g_iload_n C dX3_findWitness_13 rfl ?_
    refine t_nS C hT ((s_X6_restOfPower (l := xl X) (x := (c : Int)) (a := c) (p := p) (K := (p - 1) / 2) (by omega) (by omega) (by simp) (by omega)).st) 4 rfl sm_yX6_restOfPower in_RX6 co_yX6_restOfPower hd_X6_restOfPower rfl ⟨by omega, by omega⟩ rfl (Nat.le_of_ble_eq_true rfl) ⟨by omega, by omega⟩ dX3_findWitness_14 (fun v14 w14 hp14 => ?_)
    obtain ⟨rfl, hw14⟩ := hp14
    subst w14
    refine g_iload_n C dX3_findWitness_17 rfl ?_
    refine g_iconst C dX3_findWitness_18 ?_
    refine g_isub C dX3_findWitness_19 ?_
    refine g_icmp_ne (tgt := 25) C dX3_findWitness_20 (by decide) (by omega) (by omega) (fun h20 => ?_) (fun h20 => ?_)
    · refine g_iinc C dX3_findWitness_25 rfl (by decide) rfl ?_
      refine g_goto (tgt := 2) C dX3_findWitness_28 (by decide) ?_
      exact ih (c + 1) ⟨by omega, by
        rcases Nat.lt_or_ge c (wit p) with q | q
        · omega
        · have : c = wit p := by omega
          rw [this] at h20
          omega⟩ (by
        rcases Nat.lt_or_ge c (wit p) with q | q
        · omega
        · have : c = wit p := by omega
          rw [this] at h20
          omega)
    · refine g_iload_n C dX3_findWitness_23 rfl ?_
      exact g_ireturn C hQ dX3_findWitness_24 (by omega) (by omega) ⟨by
        have : c = wit p := by
          rcases Nat.lt_or_ge c (wit p) with q | q
          · exact absurd (by omega) (hwn c hc1 q)
          · omega
        rw [this], rfl⟩
