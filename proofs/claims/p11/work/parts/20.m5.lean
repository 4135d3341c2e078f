theorem sq_uniq {b m k : Int} (h0 : 0 ≤ m) (h1 : m * m ≤ b) (h2 : b < (m + 1) * (m + 1)) (g0 : 0 ≤ k) (g1 : k * k ≤ b) (g2 : b < (k + 1) * (k + 1)) : m = k := by
  rcases Int.lt_trichotomy m k with q | q | q
  · have : (m + 1) * (m + 1) ≤ k * k := Int.mul_le_mul (by omega) (by omega) (by omega) (by omega)
    omega
  · exact q
  · have : (k + 1) * (k + 1) ≤ m * m := Int.mul_le_mul (by omega) (by omega) (by omega) (by omega)
    omega
theorem sq_none {b m k : Int} (h0 : 0 ≤ m) (h1 : m * m ≤ b) (h2 : b < (m + 1) * (m + 1)) (h3 : m * m ≠ b) (hk : k * k = b) : False := by
  have h4 : 0 ≤ m * m := Int.mul_nonneg h0 h0
  have key : ∀ j : Int, 0 ≤ j → j * j = b → False := by
    intro j hj e
    have := sq_uniq h0 h1 h2 hj (by omega) (by rw [Int.add_mul, Int.mul_add]; omega)
    subst this
    exact h3 e
  rcases Int.lt_or_le k 0 with q | q
  · exact key (-k) (by omega) (by rw [Int.neg_mul_neg]; exact hk)
  · exact key k q hk
theorem sqle {b m k : Int} (h1 : m * m ≤ b) (h2 : k * k ≤ b) : m * k ≤ b := by
  have : 0 ≤ (m - k) * (m - k) := by
    rcases Int.lt_or_le (m - k) 0 with q | q
    · rw [← Int.neg_mul_neg]; exact Int.mul_nonneg (by omega) (by omega)
    · exact Int.mul_nonneg q q
  have e : (m - k) * (m - k) = m * m - 2 * (m * k) + k * k := by grind
  omega
set_option maxHeartbeats 4000000 in
set_option maxRecDepth 100000 in
theorem c_X8_last (l : Launch) {E : GE} {w : Wd} {a n : Nat} {b : Bool} {f : Nat → Int} {z : Int} (ha : w.2 a = some (b, eI n f)) (hf : BN f n z) (hn : n ≤ 200) : Sp E l yX8_last cX8_last 4 (some .long) 0 (0) (0) [.ref a] w (fun r w' => r = some (jJ z) ∧ w' = w) := by
  refine sp_intro [some (.ref a), none, none, none] rfl (Nat.le_of_ble_eq_true rfl) pn_X8 ?_
  intro X C hRm hl hnm hQ
  obtain ⟨hRf, hRl, hRc, hRs⟩ := hRm
  refine g_wf (fun hwf => ?_)
  have hs := hf.s
  have n1 := hf.n1
  have hd := hf.d
  have hm1 := hf.m
  refine g_lconst (z := 0) C dX8_last_0 (by decide) ?_
  refine g_lstore_n C dX8_last_1 (by decide) rfl ?_
  refine g_iconst C dX8_last_2 ?_
  refine g_istore_n C dX8_last_3 (by decide) rfl ?_
  refine g_loop (σ := Nat) (fun p => p + 1 ≤ n ∧ p ≤ 3) (fun p => G E X 4 4 [some (.ref a), some (jJ (nv B30 (mgf f) p)), none, some (iI ((p + 1 : Nat) : Int))] [] w 0 0) (fun p => n - p) ?_ 0 ⟨by omega, by omega⟩
  rintro p ⟨hp1, hp3⟩ ih
  refine g_iload_n C dX8_last_4 rfl ?_
  refine g_aload_n C dX8_last_5 rfl ?_
  refine g_alen C ha (Or.inl ⟨_, rfl⟩) dX8_last_6 ?_
  refine g_icmp_ge (tgt := 35) C dX8_last_7 (by decide) (by omega) (by omega) (fun h7 => ?_) (fun h7 => ?_)
  · have he : jJ (f 0 * nv B30 (mgf f) p) = jJ z := by
      rcases Nat.lt_or_ge (p + 1) n with q | q
      · have ep : p = 3 := by omega
        subst ep
        obtain ⟨b, hb⟩ : ∃ b, n - 1 = 3 + b := ⟨n - 4, by omega⟩
        rw [hm1]
        unfold mg
        rw [hb, nv_split 3 b, show f 0 * (nv B30 (mgf f) 3 + B30 ^ 3 * nv B30 (fun i => mgf f (3 + i)) b) = f 0 * nv B30 (mgf f) 3 + 18446744073709551616 * (f 0 * 67108864 * nv B30 (fun i => mgf f (3 + i)) b) by rw [show B30 ^ 3 = 18446744073709551616 * 67108864 by decide]; grind, jJ_mod]
      · rw [hm1]
        unfold mg
        rw [show n - 1 = p by omega]
    refine g_aload_n C dX8_last_35 rfl ?_
    refine g_iconst C dX8_last_36 ?_
    refine g_ialoadN (0) C ha (by omega) (by omega) dX8_last_37 ?_
    refine g_i2l C dX8_last_38 (by omega) ?_
    refine g_lload_n C dX8_last_39 rfl ?_
    refine g_lmul C dX8_last_40 ?_
    exact g_lreturn C hQ dX8_last_41 (Nat.le_refl _) (Nat.le_refl _) ⟨by rw [he], rfl⟩
  · refine g_iload_n C dX8_last_10 rfl ?_
    refine g_iconst C dX8_last_11 ?_
    refine g_icmp_ge (tgt := 35) C dX8_last_12 (by decide) (by omega) (by omega) (fun h12 => ?_) (fun h12 => ?_)
    · have he : jJ (f 0 * nv B30 (mgf f) p) = jJ z := by
        rcases Nat.lt_or_ge (p + 1) n with q | q
        · have ep : p = 3 := by omega
          subst ep
          obtain ⟨b, hb⟩ : ∃ b, n - 1 = 3 + b := ⟨n - 4, by omega⟩
          rw [hm1]
          unfold mg
          rw [hb, nv_split 3 b, show f 0 * (nv B30 (mgf f) 3 + B30 ^ 3 * nv B30 (fun i => mgf f (3 + i)) b) = f 0 * nv B30 (mgf f) 3 + 18446744073709551616 * (f 0 * 67108864 * nv B30 (fun i => mgf f (3 + i)) b) by rw [show B30 ^ 3 = 18446744073709551616 * 67108864 by decide]; grind, jJ_mod]
        · rw [hm1]
          unfold mg
          rw [show n - 1 = p by omega]
      refine g_aload_n C dX8_last_35 rfl ?_
      refine g_iconst C dX8_last_36 ?_
      refine g_ialoadN (0) C ha (by omega) (by omega) dX8_last_37 ?_
      refine g_i2l C dX8_last_38 (by omega) ?_
      refine g_lload_n C dX8_last_39 rfl ?_
      refine g_lmul C dX8_last_40 ?_
      exact g_lreturn C hQ dX8_last_41 (Nat.le_refl _) (Nat.le_refl _) ⟨by rw [he], rfl⟩
    · have hfk := hd (p + 1) (by omega) (by omega)
      refine g_lload_n C dX8_last_15 rfl ?_
      refine g_aload_n C dX8_last_16 rfl ?_
      refine g_iload_n C dX8_last_17 rfl ?_
      refine g_ialoadN (p + 1) C ha (by omega) (by omega) dX8_last_18 ?_
      refine g_i2l C dX8_last_19 (by omega) ?_
      refine g_bipush C dX8_last_20 (by decide) ?_
      refine g_iload_n C dX8_last_22 rfl ?_
      refine g_iconst C dX8_last_23 ?_
      refine g_isub C dX8_last_24 ?_
      refine g_imul C dX8_last_25 ?_
      refine g_lshl (z := f (p + 1) * 2 ^ (30 * p)) C dX8_last_26 (by have e : p = 0 ∨ p = 1 ∨ p = 2 := (by omega); rcases e with rfl | rfl | rfl <;> exact j_shl _ (by omega) (by decide)) ?_
      refine g_ladd C dX8_last_27 ?_
      refine g_lstore_n C dX8_last_28 (by decide) rfl ?_
      refine g_iinc C dX8_last_29 rfl (by decide) rfl ?_
      refine g_goto (tgt := 4) C dX8_last_32 (by decide) ?_
      rw [show nv B30 (mgf f) p + f (p + 1) * 2 ^ (30 * p) = nv B30 (mgf f) (p + 1) by rw [nv_succ, B30_pow]; rfl]
      exact ih (p + 1) ⟨by omega, by omega⟩ (by omega)
set_option maxHeartbeats 4000000 in
set_option maxRecDepth 100000 in
theorem c_X8_isDigit (l : Launch) {E : GE} {w : Wd} {a n : Nat} {b : Bool} {f : Nat → Int} {pl : Int} (ha : w.2 a = some (b, eI n f)) (hn : 1 ≤ n ∧ n ≤ 200) (hd : DG f n) (hp : 0 ≤ pl ∧ pl < 2147483648) : Sp E l yX8_isDigit cX8_isDigit 3 (some .boolean) 0 (0) (0) [.ref a, iI pl] w (fun r w' => r = some (iI (bI (bt (mg f n) pl.toNat = 1))) ∧ w' = w) := by
  refine sp_intro [some (.ref a), some (iI pl), none] rfl (Nat.le_of_ble_eq_true rfl) pn_X8 ?_
  intro X C hRm hl hnm hQ
  obtain ⟨hRf, hRl, hRc, hRs⟩ := hRm
  refine g_wf (fun hwf => ?_)
  obtain ⟨q, r, hq, hr, hqr⟩ : ∃ q r : Nat, pl = ((30 * q + r : Nat) : Int) ∧ r < 30 ∧ pl / 30 = (q : Int) ∧ pl % 30 = (r : Int) := ⟨(pl / 30).toNat, (pl % 30).toNat, by omega, by omega, by omega, by omega⟩
  have hb := mg_bit (q := q) hd hr
  rw [show 30 * q + r = pl.toNat by omega] at hb
  refine g_iload_n C dX8_isDigit_0 rfl ?_
  refine g_bipush C dX8_isDigit_1 (by decide) ?_
  refine g_idivN C dX8_isDigit_3 (by omega) (by omega) ?_
  refine g_iconst C dX8_isDigit_4 ?_
  refine g_iadd C dX8_isDigit_5 ?_
  refine g_istore_n C dX8_isDigit_6 (by decide) rfl ?_
  refine g_iload_n C dX8_isDigit_7 rfl ?_
  refine g_aload_n C dX8_isDigit_8 rfl ?_
  refine g_alen C ha (Or.inl ⟨_, rfl⟩) dX8_isDigit_9 ?_
  refine g_icmp_ge (tgt := 31) C dX8_isDigit_10 (by decide) (by omega) (by omega) (fun h10 => ?_) (fun h10 => ?_)
  · refine g_iconst C dX8_isDigit_31 ?_
    exact g_zreturn C hQ dX8_isDigit_32 rfl (Nat.le_refl _) (Nat.le_refl _) ⟨by
      rw [hb]
      first
      | (rw [if_neg (by omega)]; rfl)
      | (rw [if_pos (by omega)]
         unfold bt
         rw [show (pl % 30).toNat = r by omega] at h24
         first | rw [bI_t (Classical.not_not.mp h24)] | rw [bI_f h24]), rfl⟩
  · have hfk := hd (q + 1) (by omega) (by omega)
    refine g_aload_n C dX8_isDigit_13 rfl ?_
    refine g_iload_n C dX8_isDigit_14 rfl ?_
    refine g_ialoadN (q + 1) C ha (by omega) (by omega) dX8_isDigit_15 ?_
    refine g_iload_n C dX8_isDigit_16 rfl ?_
    refine g_bipush C dX8_isDigit_17 (by decide) ?_
    refine g_iremN C dX8_isDigit_19 (by omega) (by omega) ?_
    refine g_ishr (z := f (q + 1) / 2 ^ (pl % 30).toNat) C dX8_isDigit_20 (i_shr (by omega) (by omega)) ?_
    refine g_iconst C dX8_isDigit_21 ?_
    refine g_iand (z := f (q + 1) / 2 ^ (pl % 30).toNat % 2) C dX8_isDigit_22 (i_mask 1 (by omega) (by decide)) ?_
    refine g_iconst C dX8_isDigit_23 ?_
    refine g_icmp_ne (tgt := 31) C dX8_isDigit_24 (by decide) (by omega) (by omega) (fun h24 => ?_) (fun h24 => ?_)
    · refine g_iconst C dX8_isDigit_31 ?_
      exact g_zreturn C hQ dX8_isDigit_32 rfl (Nat.le_refl _) (Nat.le_refl _) ⟨by
        rw [hb]
        first
        | (rw [if_neg (by omega)]; rfl)
        | (rw [if_pos (by omega)]
           unfold bt
           rw [show (pl % 30).toNat = r by omega] at h24
           first | rw [bI_t (Classical.not_not.mp h24)] | rw [bI_f h24]), rfl⟩
    · refine g_iconst C dX8_isDigit_27 ?_
      refine g_goto (tgt := 32) C dX8_isDigit_28 (by decide) ?_
      exact g_zreturn C hQ dX8_isDigit_32 rfl (Nat.le_refl _) (Nat.le_refl _) ⟨by
        rw [hb]
        first
        | (rw [if_neg (by omega)]; rfl)
        | (rw [if_pos (by omega)]
           unfold bt
           rw [show (pl % 30).toNat = r by omega] at h24
           first | rw [bI_t (Classical.not_not.mp h24)] | rw [bI_f h24]), rfl⟩
set_option maxHeartbeats 4000000 in
set_option maxRecDepth 100000 in
theorem c_X8_bits (l : Launch) {E : GE} {w : Wd} {a n : Nat} {b : Bool} {f : Nat → Int} {what : Int} (ha : w.2 a = some (b, eI n f)) (hn : 1 ≤ n ∧ n ≤ 200) (hd : DG f n) (hw : 0 ≤ what ∧ what ≤ 2) : Sp E l yX8_bits cX8_bits 6 (some .int) 1 (0) (0) [.ref a, iI what] w (fun r w' => r = some (iI (if what = 0 then hiB (mg f n) (30 * (n - 1)) + 1 else if what = 1 then onB (mg f n) (30 * (n - 1)) else loB (mg f n) (30 * (n - 1)))) ∧ w' = w) := by
  refine sp_intro [some (.ref a), some (iI what), none, none, none, none] rfl (Nat.le_of_ble_eq_true rfl) pn_X8 ?_
  intro X C hRm hl hnm hQ
  obtain ⟨hRf, hRl, hRc, hRs⟩ := hRm
  refine g_wf (fun hwf => ?_)
  refine g_iconst C dX8_bits_0 ?_
  refine g_istore_n C dX8_bits_1 (by decide) rfl ?_
  refine g_iconst C dX8_bits_2 ?_
  refine g_istore_n C dX8_bits_3 (by decide) rfl ?_
  refine g_iconst C dX8_bits_4 ?_
  refine g_istore C dX8_bits_5 (by decide) rfl ?_
  refine g_iconst C dX8_bits_7 ?_
  refine g_istore C dX8_bits_8 (by decide) rfl ?_
  refine g_loop (σ := Nat) (fun p => p ≤ 30 * (n - 1)) (fun p => G E X 6 10 [some (.ref a), some (iI what), some (iI (hiB (mg f n) p)), some (iI (loB (mg f n) p)), some (iI (onB (mg f n) p)), some (iI (p : Int))] [] w 0 0) (fun p => 30 * (n - 1) - p) ?_ 0 (by omega)
  rintro p hp ih
  have r1 := hiB_r (mg f n) p
  have r2 := loB_r (mg f n) p
  have r3 := onB_r (mg f n) p
  refine g_iload C dX8_bits_10 rfl ?_
  refine g_bipush C dX8_bits_12 (by decide) ?_
  refine g_aload_n C dX8_bits_14 rfl ?_
  refine g_alen C ha (Or.inl ⟨_, rfl⟩) dX8_bits_15 ?_
  refine g_iconst C dX8_bits_16 ?_
  refine g_isub C dX8_bits_17 ?_
  refine g_imul C dX8_bits_18 ?_
  refine g_icmp_ge (tgt := 53) C dX8_bits_19 (by decide) (by omega) (by omega) (fun h19 => ?_) (fun h19 => ?_)
  · have ep : p = 30 * (n - 1) := by omega
    subst ep
    refine g_iload_n C dX8_bits_53 rfl ?_
    refine g_if_ne (tgt := 63) C dX8_bits_54 (by decide) (by omega) (fun h54 => ?_) (fun h54 => ?_)
    · refine g_iload_n C dX8_bits_63 rfl ?_
      refine g_iconst C dX8_bits_64 ?_
      refine g_icmp_ne (tgt := 73) C dX8_bits_65 (by decide) (by omega) (by omega) (fun h65 => ?_) (fun h65 => ?_)
      · refine g_iload_n C dX8_bits_73 rfl ?_
        exact g_ireturn C hQ dX8_bits_74 (Nat.le_refl _) (Nat.le_refl _) ⟨by first | rw [if_pos (by omega)] | rw [if_neg (by omega), if_pos (by omega)] | rw [if_neg (by omega), if_neg (by omega)], rfl⟩
      · refine g_iload C dX8_bits_68 rfl ?_
        refine g_goto (tgt := 74) C dX8_bits_70 (by decide) ?_
        exact g_ireturn C hQ dX8_bits_74 (Nat.le_refl _) (Nat.le_refl _) ⟨by first | rw [if_pos (by omega)] | rw [if_neg (by omega), if_pos (by omega)] | rw [if_neg (by omega), if_neg (by omega)], rfl⟩
    · refine g_iload_n C dX8_bits_57 rfl ?_
      refine g_iconst C dX8_bits_58 ?_
      refine g_iadd C dX8_bits_59 ?_
      refine g_goto (tgt := 74) C dX8_bits_60 (by decide) ?_
      exact g_ireturn C hQ dX8_bits_74 (Nat.le_refl _) (Nat.le_refl _) ⟨by first | rw [if_pos (by omega)] | rw [if_neg (by omega), if_pos (by omega)] | rw [if_neg (by omega), if_neg (by omega)], rfl⟩
  · refine g_aload_n C dX8_bits_22 rfl ?_
    refine g_iload C dX8_bits_23 rfl ?_
    refine g_callS C (c_X8_isDigit _ ha hn hd (pl := (p : Int)) (by omega)) ml_RX8_117 sm_yX8_isDigit in_RX8 co_yX8_isDigit hd_X8_isDigit rfl ⟨by omega, by omega⟩ rfl (Nat.le_of_ble_eq_true rfl) ⟨by omega, by omega⟩ dX8_bits_25 (fun v25 w25 hp25 => ?_)
    obtain ⟨rfl, hw25⟩ := hp25
    subst w25
    refine g_if_ne (tgt := 34) C dX8_bits_28 (by decide) (bI_r _) (fun h28 => ?_) (fun h28 => ?_)
    · have hbt : bt (mg f n) p = 1 := by
        have := bI_1 h28
        rwa [Int.toNat_natCast] at this
      have J41 : ∀ y : Int, y = loB (mg f n) (p + 1) → G E X 6 41 [some (.ref a), some (iI what), some (iI (hiB (mg f n) p)), some (iI y), some (iI (onB (mg f n) p)), some (iI (p : Int))] [] w 0 0 := by
        intro y hy
        refine g_iload C dX8_bits_41 rfl ?_
        refine g_istore_n C dX8_bits_43 (by decide) rfl ?_
        refine g_iinc C dX8_bits_44 rfl (by decide) rfl ?_
        refine g_iinc C dX8_bits_47 rfl (by decide) rfl ?_
        refine g_goto (tgt := 10) C dX8_bits_50 (by decide) ?_
        first
        | refine g_eq (L' := [some (.ref a), some (iI what), some (iI (hiB (mg f n) (p + 1))), some (iI (loB (mg f n) (p + 1))), some (iI (onB (mg f n) (p + 1))), some (iI ((p + 1 : Nat) : Int))]) (by rw [← hy, hiB_s1 hbt, onB_s, hbt]; rfl) rfl ?_
        | refine g_eq (L' := [some (.ref a), some (iI what), some (iI (hiB (mg f n) (p + 1))), some (iI (loB (mg f n) (p + 1))), some (iI (onB (mg f n) (p + 1))), some (iI ((p + 1 : Nat) : Int))]) (by rw [hiB_s0 hbt, loB_s0 hbt, onB_s, hbt, Int.add_zero]; rfl) rfl ?_
        exact ih (p + 1) (by omega) (by omega)
      refine g_iload_n C dX8_bits_34 rfl ?_
      refine g_if_ge (tgt := 41) C dX8_bits_35 (by decide) (by omega) (fun h35 => ?_) (fun h35 => ?_)
      · exact J41 _ (by first | exact (loB_s1 hbt (by omega)).symm | exact (loB_s2 (by omega)).symm)
      · refine g_iload C dX8_bits_38 rfl ?_
        refine g_istore_n C dX8_bits_40 (by decide) rfl ?_
        exact J41 _ (by first | exact (loB_s1 hbt (by omega)).symm | exact (loB_s2 (by omega)).symm)
    · have hbt : bt (mg f n) p = 0 := by
        have := bI_0 (Classical.not_not.mp h28)
        rw [Int.toNat_natCast] at this
        rcases bt_01 (mg f n) p with q | q
        · exact q
        · exact absurd q this
      refine g_goto (tgt := 47) C dX8_bits_31 (by decide) ?_
      refine g_iinc C dX8_bits_47 rfl (by decide) rfl ?_
      refine g_goto (tgt := 10) C dX8_bits_50 (by decide) ?_
      first
      | refine g_eq (L' := [some (.ref a), some (iI what), some (iI (hiB (mg f n) (p + 1))), some (iI (loB (mg f n) (p + 1))), some (iI (onB (mg f n) (p + 1))), some (iI ((p + 1 : Nat) : Int))]) (by rw [← hy, hiB_s1 hbt, onB_s, hbt]; rfl) rfl ?_
      | refine g_eq (L' := [some (.ref a), some (iI what), some (iI (hiB (mg f n) (p + 1))), some (iI (loB (mg f n) (p + 1))), some (iI (onB (mg f n) (p + 1))), some (iI ((p + 1 : Nat) : Int))]) (by rw [hiB_s0 hbt, loB_s0 hbt, onB_s, hbt, Int.add_zero]; rfl) rfl ?_
      exact ih (p + 1) (by omega) (by omega)
set_option maxHeartbeats 4000000 in
set_option maxRecDepth 100000 in
theorem c_X8_isLong (l : Launch) {E : GE} {w : Wd} {a n : Nat} {b : Bool} {f : Nat → Int} (ha : w.2 a = some (b, eI n f)) (hn : 1 ≤ n ∧ n ≤ 200) (hd : DG f n) : Sp E l yX8_isLong cX8_isLong 1 (some .boolean) 2 (0) (0) [.ref a] w (fun r w' => r = some (iI (bI (1208925819614629174706176 ≤ mg f n))) ∧ w' = w) := by
  refine sp_intro [some (.ref a)] rfl (Nat.le_of_ble_eq_true rfl) pn_X8 ?_
  intro X C hRm hl hnm hQ
  obtain ⟨hRf, hRl, hRc, hRs⟩ := hRm
  refine g_wf (fun hwf => ?_)
  have hm := hiB_gt (v := mg f n) (p := 30 * (n - 1)) (k := 80) (mg_nonneg hd) (by rw [← B30_pow]; exact mg_lt hd)
  have hr := hiB_r (mg f n) (30 * (n - 1))
  rw [p2_80] at hm
  refine g_aload_n C dX8_isLong_0 rfl ?_
  refine g_iconst C dX8_isLong_1 ?_
  refine g_callS C (c_X8_bits _ ha hn hd (what := 0) (by omega)) ml_RX8_121 sm_yX8_bits in_RX8 co_yX8_bits hd_X8_bits rfl ⟨by omega, by omega⟩ rfl (Nat.le_of_ble_eq_true rfl) ⟨by omega, by omega⟩ dX8_isLong_2 (fun v2 w2 hp2 => ?_)
  obtain ⟨rfl, rfl⟩ := hp2
  rw [if_pos rfl]
  refine g_bipush C dX8_isLong_5 (by decide) ?_
  refine g_icmp_le (tgt := 14) C dX8_isLong_7 (by decide) (by omega) (by omega) (fun h7 => ?_) (fun h7 => ?_)
  · refine g_iconst C dX8_isLong_14 ?_
    exact g_zreturn C hQ dX8_isLong_15 rfl (Nat.le_refl _) (Nat.le_refl _) ⟨by first | rw [bI_t (hm.mp (by omega))] | rw [bI_f (fun q => by have := hm.mpr q; omega)], rfl⟩
  · refine g_iconst C dX8_isLong_10 ?_
    refine g_goto (tgt := 15) C dX8_isLong_11 (by decide) ?_
    exact g_zreturn C hQ dX8_isLong_15 rfl (Nat.le_refl _) (Nat.le_refl _) ⟨by first | rw [bI_t (hm.mp (by omega))] | rw [bI_f (fun q => by have := hm.mpr q; omega)], rfl⟩
set_option maxHeartbeats 4000000 in
set_option maxRecDepth 100000 in
theorem c_X8_norm (l : Launch) {E : GE} {w : Wd} {bs z1 z2 : Int} {a n a2 m c : Nat} {f g : Nat → Int} {b1 b2 : Bool} (ha : w.2 a = some (b1, eI n f)) (ha2 : w.2 a2 = some (b2, eI m g)) (hf : BN f n z1) (hg : BN g m z2) (hn : n ≤ c) (hm : m ≤ c) (hc2 : c ≤ 90) (hb : 0 ≤ bs ∧ bs ≤ 999) : Sp E l yX8_norm cX8_norm 3 (some (.array .int)) 4 (11) (18 * c + 34) [iI bs, .ref a, .ref a2] w (NP [] w (z1 * z1 - bs * (z2 * z2)) (2 * c + 5)) := by
  refine sp_intro [some (iI bs), some (.ref a), some (.ref a2)] rfl (Nat.le_of_ble_eq_true rfl) pn_X8 ?_
  intro X C hRm hl hnm hQ
  obtain ⟨hRf, hRl, hRc, hRs⟩ := hRm
  refine g_wf (fun hwf => ?_)
  refine g_aload_n C dX8_norm_0 rfl ?_
  refine g_aload_n C dX8_norm_1 rfl ?_
  refine g_callS C (c_X8_times _ (c := 2 * c) ha ha hf hf (by omega) (by omega)) ml_RX8_124 sm_yX8_times in_RX8 co_yX8_times hd_X8_times rfl ⟨by omega, by omega⟩ rfl (Nat.le_of_ble_eq_true rfl) ⟨by omega, by omega⟩ dX8_norm_2 (fun v2 w2 hp2 => ?_)
  obtain ⟨q2, m2, f2, rfl, h2, hb2, hm2, hx2, hq2⟩ := hp2
  refine g_iload_n C dX8_norm_5 rfl ?_
  refine g_i2l C dX8_norm_6 (by omega) ?_
  refine g_callS C (c_X8_of _ (v := bs) (by omega)) ml_RX8_20 sm_yX8_of in_RX8 co_yX8_of hd_X8_of rfl ⟨by omega, by omega⟩ rfl (Nat.le_of_ble_eq_true rfl) ⟨by omega, by omega⟩ dX8_norm_7 (fun v7 w7 hp7 => ?_)
  obtain ⟨m7, f7, rfl, h7, hb7, hm7, -, hx7⟩ := hp7
  refine g_aload_n C dX8_norm_10 rfl ?_
  refine g_aload_n C dX8_norm_11 rfl ?_
  refine g_callS C (c_X8_times _ (c := 2 * c) (hx7.2 _ _ (hx2.2 _ _ ha2)) (hx7.2 _ _ (hx2.2 _ _ ha2)) hg hg (by omega) (by omega)) ml_RX8_124 sm_yX8_times in_RX8 co_yX8_times hd_X8_times rfl ⟨by omega, by omega⟩ rfl (Nat.le_of_ble_eq_true rfl) ⟨by omega, by omega⟩ dX8_norm_12 (fun v12 w12 hp12 => ?_)
  obtain ⟨q12, m12, f12, rfl, h12, hb12, hm12, hx12, hq12⟩ := hp12
  refine g_callS C (c_X8_times _ (c := 2 * c + 4) (hx12.2 _ _ h7) h12 hb7 hb12 (by omega) (by omega)) ml_RX8_124 sm_yX8_times in_RX8 co_yX8_times hd_X8_times rfl ⟨by omega, by omega⟩ rfl (Nat.le_of_ble_eq_true rfl) ⟨by omega, by omega⟩ dX8_norm_15 (fun v15 w15 hp15 => ?_)
  obtain ⟨q15, m15, f15, rfl, h15, hb15, hm15, hx15, hq15⟩ := hp15
  refine g_callS C (c_X8_minus _ (c := 2 * c + 4) (hx15.2 _ _ (hx12.2 _ _ (hx7.2 _ _ h2))) h15 hb2 hb15 (by omega) (by omega) (by omega)) ml_RX8_127 sm_yX8_minus in_RX8 co_yX8_minus hd_X8_minus rfl ⟨by omega, by omega⟩ rfl (Nat.le_of_ble_eq_true rfl) ⟨by omega, by omega⟩ dX8_norm_18 (fun v18 w18 hp18 => ?_)
  obtain ⟨q18, m18, f18, rfl, h18, hb18, hm18, hx18, hq18⟩ := hp18
  exact g_areturn C (Or.inr ⟨_, rfl⟩) hQ (Or.inr ⟨_, rfl⟩) dX8_norm_21 (by omega) (by omega) ⟨q18, m18, f18, rfl, h18, hb18, hm18, hx2.tr (hx7.tr (hx12.tr (hx15.tr hx18))), by have g2 := hx2.1; have g7 := hx7.1; have g12 := hx12.1; have g15 := hx15.1; rcases hq18 with q | q; exact Or.inl (by omega); simp only [List.mem_cons, List.not_mem_nil, or_false] at q; rcases hq2 with q5 | q5; exact Or.inl (by omega); simp at q5⟩
set_option maxHeartbeats 4000000 in
set_option maxRecDepth 100000 in
theorem c_X8_isNoBase (l : Launch) {E : GE} {w : Wd} {v : Int} (h_v : -2147483648 ≤ v ∧ v < 2147483648) : Sp E l yX8_isNoBase cX8_isNoBase 1 (some .boolean) 1 (0) (0) [iI v] w (fun r w' => (∃ y : Int, r = some (iI y) ∧ (y = 0 ∧ GB v ∨ y = 1 ∧ ¬ GB v)) ∧ w' = w) := by
  refine sp_intro [some (iI v)] rfl (Nat.le_of_ble_eq_true rfl) pn_X8 ?_
  intro X C hRm hl hnm hQ
  obtain ⟨hRf, hRl, hRc, hRs⟩ := hRm
  refine g_wf (fun hwf => ?_)
  refine g_iload_n C dX8_isNoBase_0 rfl ?_
  refine g_iconst C dX8_isNoBase_1 ?_
  refine g_bipush C dX8_isNoBase_2 (by decide) ?_
  refine g_callS C (c_X8_isIn _ h_v (by omega) (by omega)) ml_RX8_49 sm_yX8_isIn in_RX8 co_yX8_isIn hd_X8_isIn rfl ⟨by omega, by omega⟩ rfl (Nat.le_of_ble_eq_true rfl) ⟨by omega, by omega⟩ dX8_isNoBase_4 (fun v4 w4 hp4 => ?_)
  obtain ⟨rfl, rfl⟩ := hp4
  refine g_if_eq (tgt := 23) C dX8_isNoBase_7 (by decide) (bI_r _) (fun h7 => ?_) (fun h7 => ?_)
  · refine g_iconst C dX8_isNoBase_23 ?_
    refine g_goto (tgt := 28) C dX8_isNoBase_24 (by decide) ?_
    exact g_zreturn C hQ dX8_isNoBase_28 (nar01 (by omega)) (Nat.le_refl _) (Nat.le_refl _) ⟨⟨_, rfl, by
      first
      | (refine Or.inr ⟨rfl, fun q => ?_⟩
         first
         | exact bI_0 h7 ⟨q.1, q.2.1⟩
         | (refine q.2.2 r1 ?_
            rw [← sq_uniq h1a h1b h1c h15a h15b h15c] at h20
            exact Classical.not_not.mp h20))
      | (refine Or.inl ⟨rfl, hbd.1, hbd.2, fun m hm => ?_⟩
         rw [← sq_uniq h1a h1b h1c h15a h15b h15c] at h20
         exact sq_none h1a h1b h1c h20 hm)⟩, rfl⟩
  · have hbd : 2 ≤ v ∧ v ≤ 99 := bI_1 h7
    refine g_iload_n C dX8_isNoBase_10 rfl ?_
    refine g_callS C (c_X8_root _ (b := v) (by omega)) ml_RX8_130 sm_yX8_root in_RX8 co_yX8_root hd_X8_root rfl ⟨by omega, by omega⟩ rfl (Nat.le_of_ble_eq_true rfl) ⟨by omega, by omega⟩ dX8_isNoBase_11 (fun v11 w11 hp11 => ?_)
    obtain ⟨⟨r1, rfl, h1a, h1b, h1c⟩, rfl⟩ := hp11
    refine g_iload_n C dX8_isNoBase_14 rfl ?_
    refine g_callS C (c_X8_root _ (b := v) (by omega)) ml_RX8_130 sm_yX8_root in_RX8 co_yX8_root hd_X8_root rfl ⟨by omega, by omega⟩ rfl (Nat.le_of_ble_eq_true rfl) ⟨by omega, by omega⟩ dX8_isNoBase_15 (fun v15 w15 hp15 => ?_)
    obtain ⟨⟨r15, rfl, h15a, h15b, h15c⟩, rfl⟩ := hp15
    refine g_imul C dX8_isNoBase_18 ?_
    refine g_iload_n C dX8_isNoBase_19 rfl ?_
    refine g_icmp_ne (tgt := 27) C dX8_isNoBase_20 (by decide) (by have : 0 ≤ r1 * r15 := Int.mul_nonneg h1a h15a; have := sqle h1b h15b; omega) (by omega) (fun h20 => ?_) (fun h20 => ?_)
    · refine g_iconst C dX8_isNoBase_27 ?_
      exact g_zreturn C hQ dX8_isNoBase_28 (nar01 (by omega)) (Nat.le_refl _) (Nat.le_refl _) ⟨⟨_, rfl, by
        first
        | (refine Or.inr ⟨rfl, fun q => ?_⟩
           first
           | exact bI_0 h7 ⟨q.1, q.2.1⟩
           | (refine q.2.2 r1 ?_
              rw [← sq_uniq h1a h1b h1c h15a h15b h15c] at h20
              exact Classical.not_not.mp h20))
        | (refine Or.inl ⟨rfl, hbd.1, hbd.2, fun m hm => ?_⟩
           rw [← sq_uniq h1a h1b h1c h15a h15b h15c] at h20
           exact sq_none h1a h1b h1c h20 hm)⟩, rfl⟩
    · refine g_iconst C dX8_isNoBase_23 ?_
      refine g_goto (tgt := 28) C dX8_isNoBase_24 (by decide) ?_
      exact g_zreturn C hQ dX8_isNoBase_28 (nar01 (by omega)) (Nat.le_refl _) (Nat.le_refl _) ⟨⟨_, rfl, by
        first
        | (refine Or.inr ⟨rfl, fun q => ?_⟩
           first
           | exact bI_0 h7 ⟨q.1, q.2.1⟩
           | (refine q.2.2 r1 ?_
              rw [← sq_uniq h1a h1b h1c h15a h15b h15c] at h20
              exact Classical.not_not.mp h20))
        | (refine Or.inl ⟨rfl, hbd.1, hbd.2, fun m hm => ?_⟩
           rw [← sq_uniq h1a h1b h1c h15a h15b h15c] at h20
           exact sq_none h1a h1b h1c h20 hm)⟩, rfl⟩
