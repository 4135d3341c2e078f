set_option maxHeartbeats 4000000 in
set_option maxRecDepth 100000 in
theorem c_X8_isIn (l : Launch) {E : GE} {w : Wd} {v a b : Int} (h_v : -2147483648 ≤ v ∧ v < 2147483648) (h_a : -2147483648 ≤ a ∧ a < 2147483648) (h_b : -2147483648 ≤ b ∧ b < 2147483648) : Sp E l yX8_isIn cX8_isIn 3 (some .boolean) 0 0 0 [iI v, iI a, iI b] w (fun r w' => r = some (iI (bI (a ≤ v ∧ v ≤ b))) ∧ w' = w) := by
  refine sp_intro [some (iI v), some (iI a), some (iI b)] rfl (Nat.le_of_ble_eq_true rfl) pn_X8 ?_
  intro X C hRm hl hnm hQ
  obtain ⟨hRf, hRl, hRc, hRs⟩ := hRm
  refine g_iload_n C dX8_isIn_0 rfl ?_
  refine g_iload_n C dX8_isIn_1 rfl ?_
  refine g_icmp_lt (tgt := 14) C dX8_isIn_2 (by decide) (by omega) (by omega) (fun h2 => ?_) (fun h2 => ?_)
  · refine g_iconst C dX8_isIn_14 ?_
    exact g_zreturn C hQ dX8_isIn_15 rfl (Nat.le_refl _) (Nat.le_refl _) ⟨by rw [show bI (a ≤ v ∧ v ≤ b) = _ from by first | exact bI_t (by omega) | exact bI_f (by omega)], rfl⟩
  · refine g_iload_n C dX8_isIn_5 rfl ?_
    refine g_iload_n C dX8_isIn_6 rfl ?_
    refine g_icmp_gt (tgt := 14) C dX8_isIn_7 (by decide) (by omega) (by omega) (fun h7 => ?_) (fun h7 => ?_)
    · refine g_iconst C dX8_isIn_14 ?_
      exact g_zreturn C hQ dX8_isIn_15 rfl (Nat.le_refl _) (Nat.le_refl _) ⟨by rw [show bI (a ≤ v ∧ v ≤ b) = _ from by first | exact bI_t (by omega) | exact bI_f (by omega)], rfl⟩
    · refine g_iconst C dX8_isIn_10 ?_
      refine g_goto (tgt := 15) C dX8_isIn_11 (by decide) ?_
      exact g_zreturn C hQ dX8_isIn_15 rfl (Nat.le_refl _) (Nat.le_refl _) ⟨by rw [show bI (a ≤ v ∧ v ≤ b) = _ from by first | exact bI_t (by omega) | exact bI_f (by omega)], rfl⟩
set_option maxHeartbeats 4000000 in
set_option maxRecDepth 100000 in
theorem c_X8_root (l : Launch) {E : GE} {w : Wd} {b : Int} (hb : 0 ≤ b ∧ b ≤ 999) : Sp E l yX8_root cX8_root 2 (some .int) 0 0 0 [iI b] w (fun r w' => (∃ m : Int, r = some (iI m) ∧ 0 ≤ m ∧ m * m ≤ b ∧ b < (m + 1) * (m + 1)) ∧ w' = w) := by
  refine sp_intro [some (iI b), none] rfl (Nat.le_of_ble_eq_true rfl) pn_X8 ?_
  intro X C hRm hl hnm hQ
  obtain ⟨hRf, hRl, hRc, hRs⟩ := hRm
  refine g_iconst C dX8_root_0 ?_
  refine g_istore_n C dX8_root_1 (by decide) rfl ?_
  refine g_loop (σ := Int) (fun m => 0 ≤ m ∧ m * m ≤ b ∧ m ≤ 999) (fun m => G E X 2 2 [some (iI b), some (iI m)] [] w 0 0) (fun m => (1000 - m).toNat) ?_ 0 (by omega)
  intro m hm ih
  obtain ⟨hm0, hm1, hm2⟩ := hm
  have hsq : (m + 1) * (m + 1) = m * m + 2 * m + 1 := by rw [Int.add_mul, Int.mul_add]; omega
  have hsq2 : 0 ≤ m * m := Int.mul_nonneg hm0 hm0
  refine g_iload_n C dX8_root_2 rfl ?_
  refine g_iconst C dX8_root_3 ?_
  refine g_iadd C dX8_root_4 ?_
  refine g_iload_n C dX8_root_5 rfl ?_
  refine g_iconst C dX8_root_6 ?_
  refine g_iadd C dX8_root_7 ?_
  refine g_imul C dX8_root_8 ?_
  refine g_iload_n C dX8_root_9 rfl ?_
  refine g_icmp_gt (tgt := 19) C dX8_root_10 (by decide) (by omega) (by omega) (fun h10 => ?_) (fun h10 => ?_)
  · refine g_iload_n C dX8_root_19 rfl ?_
    exact g_ireturn C hQ dX8_root_20 (Nat.le_refl _) (Nat.le_refl _) ⟨⟨m, rfl, hm0, hm1, by omega⟩, rfl⟩
  · refine g_iinc C dX8_root_13 rfl (by decide) rfl ?_
    refine g_goto (tgt := 2) C dX8_root_16 (by decide) ?_
    have hlt : m + 1 ≤ 999 := by
      rcases Int.lt_or_le 999 (m + 1) with q | q
      · have : 1000 * 1000 ≤ (m + 1) * (m + 1) := Int.mul_le_mul (by omega) (by omega) (by omega) (by omega)
        omega
      · exact q
    exact ih (m + 1) ⟨by omega, by omega, hlt⟩ (by omega)
