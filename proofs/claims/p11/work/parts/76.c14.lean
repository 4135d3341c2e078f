theorem xor_neg {x y : Int} (hx : -9223372036854775808 ≤ x ∧ x < 9223372036854775808) (hy : 0 < y ∧ y < 9223372036854775808) : ∃ z : Int, Int64.ofInt x ^^^ Int64.ofInt y = Int64.ofInt z ∧ (-9223372036854775808 ≤ z ∧ z < 9223372036854775808) ∧ (z < 0 ↔ x < 0) := by
  obtain ⟨z, h1, h2, h3⟩ := gen64 (Int64.ofInt x ^^^ Int64.ofInt y)
  refine ⟨z, h1, ⟨h2, h3⟩, ?_⟩
  have e : (Int64.ofInt x ^^^ Int64.ofInt y).toInt = z := by rw [h1]; exact Int64.toInt_ofInt_of_le (by omega) (by omega)
  have ex : (Int64.ofInt x).toInt = x := Int64.toInt_ofInt_of_le (by omega) (by omega)
  have ey : (Int64.ofInt y).toInt = y := Int64.toInt_ofInt_of_le (by omega) (by omega)
  have m0 := BitVec.msb_eq_toInt (x := (Int64.ofInt x ^^^ Int64.ofInt y).toBitVec)
  have m1 := BitVec.msb_eq_toInt (x := (Int64.ofInt x).toBitVec)
  have m2 := BitVec.msb_eq_toInt (x := (Int64.ofInt y).toBitVec)
  rw [Int64.toBitVec_xor, BitVec.msb_xor, m1, m2] at m0
  have c0 : (((Int64.ofInt x).toBitVec ^^^ (Int64.ofInt y).toBitVec).toInt < 0) ↔ z < 0 := by rw [← e]; rfl
  have c1 : ((Int64.ofInt x).toBitVec.toInt < 0) ↔ x < 0 := by rw [show (Int64.ofInt x).toBitVec.toInt = x from ex]
  have c2 : ¬ ((Int64.ofInt y).toBitVec.toInt < 0) := by rw [show (Int64.ofInt y).toBitVec.toInt = y from ey]; omega
  rw [decide_eq_false c2, Bool.xor_false] at m0
  have m3 := decide_eq_decide.mp m0
  exact (c0.symm.trans m3.symm).trans c1
theorem tm_neg {x y : Int} (hx : x < 0) (hy : 0 < y) : -y < x.tmod y ∧ x.tmod y ≤ 0 ∧ (x.tmod y = 0 → x % y = 0) ∧ (x.tmod y ≠ 0 → x.tmod y + y = x % y) := by
  have h1 := Int.mul_tdiv_add_tmod x y
  have e2 : x.tmod y = -((-x).tmod y) := by rw [Int.neg_tmod, Int.neg_neg]
  have h3 : (-x).tmod y = (-x) % y := Int.tmod_eq_emod_of_nonneg (by omega)
  have h4 := Int.emod_nonneg (-x) (show y ≠ 0 by omega)
  have h5 := Int.emod_lt_of_pos (-x) hy
  have h6 : x % y = (x.tmod y) % y := by
    have : (y * x.tdiv y + x.tmod y) % y = (x.tmod y) % y := by rw [Int.add_comm, Int.add_mul_emod_self_left]
    rw [← this, h1]
  refine ⟨by omega, by omega, fun h => by rw [h6, h]; exact Int.zero_emod _, fun h => ?_⟩
  rw [h6]
  have h7 : (x.tmod y + y) % y = x.tmod y + y := Int.emod_eq_of_lt (by omega) (by omega)
  rw [← h7, Int.add_emod_right]
set_option maxHeartbeats 4000000 in
set_option maxRecDepth 100000 in
theorem s_J9_floorMod_f86c9 (l : Launch) {E : GE} {w : Wd} {x y : Int} (hx : -9223372036854775808 < x ∧ x < 9223372036854775808) (hy : 0 < y ∧ y < 2147483648) : Sp E l yJ9_floorMod_f86c9 cJ9_floorMod_f86c9 6 (some .long) 0 (0) (0) [jJ x, jJ y] w (fun r' w' => r' = some (jJ (x % y)) ∧ w' = w) := by
  refine spF_intro [some (jJ x), none, some (jJ y), none, none, none] rfl (Nat.le_of_ble_eq_true rfl) (by decide +kernel) ?_
  intro X C hRm hl hnm hQ
  obtain ⟨hRf, hRl, hRc, hRs⟩ := hRm
  refine g_wf (fun hwf => ?_)
  obtain ⟨z7, hz7, hz7b, hz7n⟩ := xor_neg (x := x) (y := y) (by omega) (by omega)
  have htn := fun h : x < 0 => tm_neg h hy.1
  have htp : 0 ≤ x → x.tmod y = x % y := fun h => Int.tmod_eq_emod_of_nonneg h
  have he0 := Int.emod_nonneg x (show y ≠ 0 by omega)
  have he1 := Int.emod_lt_of_pos x hy.1
  have htb : -2147483648 < x.tmod y ∧ x.tmod y < 2147483648 := by
    rcases Int.lt_or_le x 0 with q | q
    · have := htn q; omega
    · rw [htp q]; omega
  refine g_lload_n C dJ9_floorMod_f86c9_0 rfl ?_
  refine g_lload_n C dJ9_floorMod_f86c9_1 rfl ?_
  refine g_lrem C dJ9_floorMod_f86c9_2 (by omega) (by omega) (by omega) ?_
  refine g_lstore C dJ9_floorMod_f86c9_3 (by decide) rfl ?_
  refine g_lload_n C dJ9_floorMod_f86c9_5 rfl ?_
  refine g_lload_n C dJ9_floorMod_f86c9_6 rfl ?_
  refine g_lxor (z := z7) C dJ9_floorMod_f86c9_7 hz7 ?_
  refine g_lconst (z := 0) C dJ9_floorMod_f86c9_8 (by decide) ?_
  refine g_lcmp C dJ9_floorMod_f86c9_9 (by omega) (by omega) (fun c9 hc9 => ?_)
  refine g_if_ge (tgt := 25) C dJ9_floorMod_f86c9_10 (by decide) (by omega) (fun h10 => ?_) (fun h10 => ?_)
  · refine g_lload C dJ9_floorMod_f86c9_25 rfl ?_
    exact g_lreturn C hQ dJ9_floorMod_f86c9_27 (Nat.le_refl _) (Nat.le_refl _) ⟨by
      rcases Int.lt_or_le x 0 with q | q
      · have h9 := htn q
        rw [h9.2.2.1 (by omega), show x.tmod y = 0 by omega]
      · rw [htp q], rfl⟩
  · refine g_lload C dJ9_floorMod_f86c9_13 rfl ?_
    refine g_lconst (z := 0) C dJ9_floorMod_f86c9_15 (by decide) ?_
    refine g_lcmp C dJ9_floorMod_f86c9_16 (by omega) (by omega) (fun c16 hc16 => ?_)
    refine g_if_eq (tgt := 25) C dJ9_floorMod_f86c9_17 (by decide) (by omega) (fun h17 => ?_) (fun h17 => ?_)
    · refine g_lload C dJ9_floorMod_f86c9_25 rfl ?_
      exact g_lreturn C hQ dJ9_floorMod_f86c9_27 (Nat.le_refl _) (Nat.le_refl _) ⟨by
        rcases Int.lt_or_le x 0 with q | q
        · have h9 := htn q
          rw [h9.2.2.1 (by omega), show x.tmod y = 0 by omega]
        · rw [htp q], rfl⟩
    · refine g_lload C dJ9_floorMod_f86c9_20 rfl ?_
      refine g_lload_n C dJ9_floorMod_f86c9_22 rfl ?_
      refine g_ladd C dJ9_floorMod_f86c9_23 ?_
      exact g_lreturn C hQ dJ9_floorMod_f86c9_24 (Nat.le_refl _) (Nat.le_refl _) ⟨by rw [(htn (by omega)).2.2.2 (by omega)], rfl⟩
set_option maxHeartbeats 4000000 in
set_option maxRecDepth 100000 in
theorem s_X6_rest (l : Launch) {E : GE} {w : Wd} {x y : Int} (hx : -9223372036854775808 < x ∧ x < 9223372036854775808) (hy : 0 < y ∧ y < 2147483648) : Sp E l yX6_rest cX6_rest 3 (some .int) 1 (0) (0) [jJ x, iI y] w (fun r' w' => r' = some (iI (x % y)) ∧ w' = w) := by
  refine sp_intro [some (jJ x), none, some (iI y)] rfl (Nat.le_of_ble_eq_true rfl) pn_X6 ?_
  intro X C hRm hl hnm hQ
  obtain ⟨hRf, hRl, hRc, hRs⟩ := hRm
  refine g_wf (fun hwf => ?_)
  have he0 := Int.emod_nonneg x (show y ≠ 0 by omega)
  have he1 := Int.emod_lt_of_pos x hy.1
  refine g_iload_n C dX6_rest_0 rfl ?_
  refine g_iconst C dX6_rest_1 ?_
  refine g_icmp_ge (tgt := 9) C dX6_rest_2 (by decide) (by omega) (by omega) (fun h2 => ?_) (fun h2 => ?_)
  · refine g_lload_n C dX6_rest_9 rfl ?_
    refine g_iload_n C dX6_rest_10 rfl ?_
    refine g_i2l C dX6_rest_11 (by omega) ?_
    refine g_callS C (s_J9_floorMod_f86c9 _ (x := x) (y := y) hx hy) ml_RX6_390 sm_yJ9_floorMod_f86c9 in_RJ9 co_yJ9_floorMod_f86c9 hd_J9_floorMod_f86c9 rfl ⟨by omega, by omega⟩ rfl (Nat.le_of_ble_eq_true rfl) ⟨by omega, by omega⟩ dX6_rest_12 (fun v12 w12 hp12 => ?_)
    obtain ⟨rfl, hw12⟩ := hp12
    subst w12
    refine g_l2i C dX6_rest_15 ?_
    exact g_ireturn C hQ dX6_rest_16 (Nat.le_refl _) (Nat.le_refl _) ⟨rfl, rfl⟩
  · omega
