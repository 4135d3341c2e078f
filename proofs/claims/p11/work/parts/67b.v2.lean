/-! the JDK's bit counts -/
theorem and_sp {k q r m s : Nat} (hr : r < 2 ^ k) (hs : s < 2 ^ k) : (2 ^ k * q + r) &&& (2 ^ k * m + s) = 2 ^ k * (q &&& m) + (r &&& s) := by
  apply Nat.eq_of_testBit_eq
  intro i
  have hrs : r &&& s < 2 ^ k := Nat.lt_of_le_of_lt Nat.and_le_left hr
  rw [Nat.testBit_and, Nat.testBit_two_pow_mul_add _ hr, Nat.testBit_two_pow_mul_add _ hs, Nat.testBit_two_pow_mul_add _ hrs]
  split
  · rw [Nat.testBit_and]
  · rw [Nat.testBit_and]
def onN : Nat → Nat → Nat
  | 0, _ => 0
  | n + 1, x => x % 2 + onN n (x / 2)
theorem onN_le : ∀ (n x : Nat), onN n x ≤ n
  | 0, _ => Nat.le_refl _
  | n + 1, x => by
    have := onN_le n (x / 2)
    show x % 2 + onN n (x / 2) ≤ n + 1
    omega
theorem onN_add : ∀ (m n x : Nat), onN (m + n) x = onN m x + onN n (x / 2 ^ m)
  | 0, n, x => by rw [Nat.zero_add, Nat.pow_zero, Nat.div_one]; show _ = 0 + _; omega
  | m + 1, n, x => by
    rw [show m + 1 + n = (m + n) + 1 by omega]
    show x % 2 + onN (m + n) (x / 2) = x % 2 + onN m (x / 2) + onN n (x / 2 ^ (m + 1))
    rw [onN_add m n (x / 2), Nat.div_div_eq_div_mul, Nat.pow_succ, Nat.mul_comm 2]
    omega
def m5N : Nat → Nat
  | 0 => 0
  | n + 1 => 4 * m5N n + 1
def m3N : Nat → Nat
  | 0 => 0
  | n + 1 => 16 * m3N n + 3
def mfN : Nat → Nat
  | 0 => 0
  | n + 1 => 256 * mfN n + 15
def pk1 : Nat → Nat → Nat
  | 0, _ => 0
  | n + 1, x => 4 * pk1 n (x / 4) + onN 2 x
def pk2 : Nat → Nat → Nat
  | 0, _ => 0
  | n + 1, x => 16 * pk2 n (x / 16) + onN 4 x
def pk3 : Nat → Nat → Nat
  | 0, _ => 0
  | n + 1, x => 256 * pk3 n (x / 256) + onN 8 x
theorem on2 (x : Nat) : onN 2 x = x % 2 + x / 2 % 2 := by show x % 2 + (x / 2 % 2 + 0) = _; omega
theorem and_m1 (x : Nat) : x &&& 1 = x % 2 := Nat.and_two_pow_sub_one_eq_mod x 1
theorem and_m2 (x : Nat) : x &&& 3 = x % 4 := Nat.and_two_pow_sub_one_eq_mod x 2
theorem and_m4 (x : Nat) : x &&& 15 = x % 16 := Nat.and_two_pow_sub_one_eq_mod x 4
theorem pk1_eq : ∀ (n x : Nat), x < 4 ^ n → ((x / 2) &&& m5N n) + pk1 n x = x
  | 0, x, h => by
    have : x = 0 := by rw [Nat.pow_zero] at h; omega
    subst this
    rfl
  | n + 1, x, h => by
    have ih := pk1_eq n (x / 4) (by rw [Nat.pow_succ] at h; omega)
    have e1 : x / 2 = 2 ^ 2 * (x / 4 / 2) + x / 2 % 4 := by show x / 2 = 4 * _ + _; omega
    have e2 : m5N (n + 1) = 2 ^ 2 * m5N n + 1 := rfl
    have e3 : x / 2 &&& m5N (n + 1) = 2 ^ 2 * ((x / 4 / 2) &&& m5N n) + (x / 2 % 4 &&& 1) := by
      rw [e2]
      conv => lhs; rw [e1]
      exact and_sp (by show _ < 4; omega) (by decide)
    rw [e3, and_m1]
    show 4 * _ + _ + (4 * pk1 n (x / 4) + onN 2 x) = x
    rw [on2]
    omega
theorem pk2_eq : ∀ (n x : Nat), (pk1 (2 * n) x &&& m3N n) + (pk1 (2 * n) x / 4 &&& m3N n) = pk2 n x
  | 0, x => by show (0 &&& 0) + (0 / 4 &&& 0) = 0; decide
  | n + 1, x => by
    have ih := pk2_eq n (x / 16)
    have e0 : pk1 (2 * (n + 1)) x = 4 * (4 * pk1 (2 * n) (x / 4 / 4) + onN 2 (x / 4)) + onN 2 x := rfl
    rw [show x / 4 / 4 = x / 16 by omega] at e0
    have b0 := onN_le 2 x
    have b1 := onN_le 2 (x / 4)
    have e4 : onN 4 x = onN 2 x + onN 2 (x / 4) := onN_add 2 2 x
    show _ = 16 * pk2 n (x / 16) + onN 4 x
    rw [e4, ← ih]
    generalize pk1 (2 * n) (x / 16) = Y at *
    generalize onN 2 (x / 4) = p at *
    generalize onN 2 x = q at *
    have f1 : pk1 (2 * (n + 1)) x = 2 ^ 4 * Y + (4 * p + q) := by rw [e0]; show _ = 16 * Y + _; omega
    have f2 : pk1 (2 * (n + 1)) x / 4 = 2 ^ 4 * (Y / 4) + (4 * (Y % 4) + p) := by rw [e0]; show _ = 16 * _ + _; omega
    have f3 : m3N (n + 1) = 2 ^ 4 * m3N n + 3 := rfl
    rw [f2, f1, f3, and_sp (by show _ < 16; omega) (by decide), and_sp (by show _ < 16; omega) (by decide), and_m2, and_m2]
    generalize Y &&& m3N n = s
    generalize Y / 4 &&& m3N n = t
    show 16 * _ + _ + (16 * _ + _) = _
    omega
theorem pk2_lo : ∀ (n x : Nat), pk2 n x % 16 ≤ 4
  | 0, x => by show 0 % 16 ≤ 4; decide
  | n + 1, x => by
    have := onN_le 4 x
    show (16 * pk2 n (x / 16) + onN 4 x) % 16 ≤ 4
    omega
theorem pk3_eq : ∀ (n x : Nat), (pk2 (2 * n) x + pk2 (2 * n) x / 16) &&& mfN n = pk3 n x
  | 0, x => by show (0 + 0 / 16) &&& 0 = 0; decide
  | n + 1, x => by
    have ih := pk3_eq n (x / 256)
    have e0 : pk2 (2 * (n + 1)) x = 16 * (16 * pk2 (2 * n) (x / 16 / 16) + onN 4 (x / 16)) + onN 4 x := rfl
    rw [show x / 16 / 16 = x / 256 by omega] at e0
    have b0 := onN_le 4 x
    have b1 := onN_le 4 (x / 16)
    have b2 := pk2_lo (2 * n) (x / 256)
    have e4 : onN 8 x = onN 4 x + onN 4 (x / 16) := onN_add 4 4 x
    show _ = 256 * pk3 n (x / 256) + onN 8 x
    rw [e4, ← ih]
    generalize pk2 (2 * n) (x / 256) = Y at *
    generalize onN 4 (x / 16) = p at *
    generalize onN 4 x = q at *
    have f1 : pk2 (2 * (n + 1)) x + pk2 (2 * (n + 1)) x / 16 = 2 ^ 8 * (Y + Y / 16) + (16 * (p + Y % 16) + (q + p)) := by rw [e0]; show _ = 256 * _ + _; omega
    have f3 : mfN (n + 1) = 2 ^ 8 * mfN n + 15 := rfl
    rw [f1, f3, and_sp (by show _ < 256; omega) (by decide), and_m4]
    show 256 * _ + _ = _
    omega
theorem pk3_4 (x : Nat) : ∃ h0 h1 h2 h3 : Nat, pk3 4 x = h0 + 256 * h1 + 65536 * h2 + 16777216 * h3 ∧ onN 32 x = h0 + h1 + h2 + h3 ∧ h0 ≤ 8 ∧ h1 ≤ 8 ∧ h2 ≤ 8 ∧ h3 ≤ 8 := by
  refine ⟨onN 8 x, onN 8 (x / 256), onN 8 (x / 256 / 256), onN 8 (x / 256 / 256 / 256), ?_, ?_, onN_le 8 _, onN_le 8 _, onN_le 8 _, onN_le 8 _⟩
  · show 256 * (256 * (256 * (256 * 0 + onN 8 (x / 256 / 256 / 256)) + onN 8 (x / 256 / 256)) + onN 8 (x / 256)) + onN 8 x = _
    omega
  · have a1 : onN 32 x = onN 8 x + onN 24 (x / 256) := onN_add 8 24 x
    have a2 : onN 24 (x / 256) = onN 8 (x / 256) + onN 16 (x / 256 / 256) := onN_add 8 16 _
    have a3 : onN 16 (x / 256 / 256) = onN 8 (x / 256 / 256) + onN 8 (x / 256 / 256 / 256) := onN_add 8 8 _
    omega
theorem pk3_lt (x : Nat) : pk3 4 x < 2147483648 := by
  obtain ⟨h0, h1, h2, h3, e, -, b0, b1, b2, b3⟩ := pk3_4 x
  omega
theorem pk1_le {n x : Nat} (h : x < 4 ^ n) : pk1 n x ≤ x := by have := pk1_eq n x h; omega
theorem iN_and (x y : Nat) : Int32.ofInt (x : Int) &&& Int32.ofInt (y : Int) = Int32.ofInt ((x &&& y : Nat) : Int) := by
  apply Int32.toBitVec_inj.mp
  show BitVec.ofInt 32 (x : Int) &&& BitVec.ofInt 32 (y : Int) = BitVec.ofInt 32 _
  rw [BitVec.ofInt_natCast, BitVec.ofInt_natCast, BitVec.ofInt_natCast, BitVec.ofNat_and]
theorem iN_ushr {x : Nat} (s : Nat) (hs : s < 32) (hx : x < 2147483648) {D : UInt32} (hD : D.toBitVec.toNat % 32 = s) : ((Int32.ofInt (x : Int)).toUInt32 >>> D).toInt32 = Int32.ofInt ((x / 2 ^ s : Nat) : Int) := by
  rw [i_ushr (x := (x : Int)) s hs (by omega) hD]
  congr 1
set_option maxHeartbeats 4000000 in
set_option maxRecDepth 100000 in
theorem v_J6_bitCount_0f7a4 (l : Launch) {E : GE} {w : Wd} {x : Nat} (hx : x < 2147483648) : Sp E l yJ6_bitCount_0f7a4 cJ6_bitCount_0f7a4 1 (some .int) 0 (0) (0) [iI (x : Int)] w (fun r' w' => r' = some (iI ((onN 32 x : Nat) : Int)) ∧ w' = w) := by
  refine sp_intro [some (iI (x : Int))] rfl (Nat.le_of_ble_eq_true rfl) pn_J6 ?_
  intro X C hRm hl hnm hQ
  obtain ⟨hRf, hRl, hRc, hRs⟩ := hRm
  refine g_wf (fun hwf => ?_)
  have q1 := pk1_eq 16 x (by show x < 4294967296; omega)
  have q2 := pk2_eq 8 x
  have q3 := pk3_eq 4 x
  obtain ⟨h0, h1, h2, h3, e9, e8, b0, b1, b2, b3⟩ := pk3_4 x
  have k1 : m5N 16 = 1431655765 := by decide
  have k2 : m3N 8 = 858993459 := by decide
  have k3 : mfN 4 = 252645135 := by decide
  rw [k1] at q1
  rw [show 2 * 8 = 16 from rfl, k2] at q2
  rw [show 2 * 4 = 8 from rfl, k3] at q3
  have c1 : pk1 16 x ≤ x := by omega
  have c2 : pk2 8 x ≤ 2 * 858993459 := by rw [← q2]; exact Nat.le_trans (Nat.add_le_add Nat.and_le_right Nat.and_le_right) (by decide)
  have c3 := pk3_lt x
  refine g_iload_n C dJ6_bitCount_0f7a4_0 rfl ?_
  refine g_iload_n C dJ6_bitCount_0f7a4_1 rfl ?_
  refine g_iconst C dJ6_bitCount_0f7a4_2 ?_
  refine g_iushr (z := _) C dJ6_bitCount_0f7a4_3 (iN_ushr 1 (by omega) (by omega) (by decide)) ?_
  refine g_ldcw (z := ((1431655765 : Nat) : Int)) C ko_RJ6_265 (by decide) dJ6_bitCount_0f7a4_4 ?_
  refine g_iand (z := _) C dJ6_bitCount_0f7a4_7 (iN_and _ 1431655765) ?_
  refine g_isub C dJ6_bitCount_0f7a4_8 ?_
  rw [show (x : Int) - (((x / 2 ^ 1 : Nat) &&& 1431655765 : Nat) : Int) = ((pk1 16 x : Nat) : Int) by rw [Nat.pow_one]; omega]
  refine g_istore_n C dJ6_bitCount_0f7a4_9 (by decide) rfl ?_
  refine g_iload_n C dJ6_bitCount_0f7a4_10 rfl ?_
  refine g_ldcw (z := ((858993459 : Nat) : Int)) C ko_RJ6_266 (by decide) dJ6_bitCount_0f7a4_11 ?_
  refine g_iand (z := _) C dJ6_bitCount_0f7a4_14 (iN_and _ 858993459) ?_
  refine g_iload_n C dJ6_bitCount_0f7a4_15 rfl ?_
  refine g_iconst C dJ6_bitCount_0f7a4_16 ?_
  refine g_iushr (z := _) C dJ6_bitCount_0f7a4_17 (iN_ushr 2 (by omega) (by omega) (by decide)) ?_
  refine g_ldcw (z := ((858993459 : Nat) : Int)) C ko_RJ6_266 (by decide) dJ6_bitCount_0f7a4_18 ?_
  refine g_iand (z := _) C dJ6_bitCount_0f7a4_21 (iN_and _ 858993459) ?_
  refine g_iadd C dJ6_bitCount_0f7a4_22 ?_
  rw [show (((pk1 16 x &&& 858993459 : Nat)) : Int) + ((pk1 16 x / 2 ^ 2 &&& 858993459 : Nat) : Int) = ((pk2 8 x : Nat) : Int) by rw [← q2, show (2 : Nat) ^ 2 = 4 from rfl]; omega]
  refine g_istore_n C dJ6_bitCount_0f7a4_23 (by decide) rfl ?_
  refine g_iload_n C dJ6_bitCount_0f7a4_24 rfl ?_
  refine g_iload_n C dJ6_bitCount_0f7a4_25 rfl ?_
  refine g_iconst C dJ6_bitCount_0f7a4_26 ?_
  refine g_iushr (z := _) C dJ6_bitCount_0f7a4_27 (iN_ushr 4 (by omega) (by omega) (by decide)) ?_
  refine g_iadd C dJ6_bitCount_0f7a4_28 ?_
  rw [show ((pk2 8 x : Nat) : Int) + ((pk2 8 x / 2 ^ 4 : Nat) : Int) = ((pk2 8 x + pk2 8 x / 16 : Nat) : Int) by omega]
  refine g_ldcw (z := ((252645135 : Nat) : Int)) C ko_RJ6_267 (by decide) dJ6_bitCount_0f7a4_29 ?_
  refine g_iand (z := _) C dJ6_bitCount_0f7a4_32 (iN_and _ 252645135) ?_
  rw [q3]
  refine g_istore_n C dJ6_bitCount_0f7a4_33 (by decide) rfl ?_
  refine g_iload_n C dJ6_bitCount_0f7a4_34 rfl ?_
  refine g_iload_n C dJ6_bitCount_0f7a4_35 rfl ?_
  refine g_bipush C dJ6_bitCount_0f7a4_36 (by decide) ?_
  refine g_iushr (z := _) C dJ6_bitCount_0f7a4_38 (iN_ushr 8 (by omega) (by omega) (by decide)) ?_
  refine g_iadd C dJ6_bitCount_0f7a4_39 ?_
  rw [show ((pk3 4 x : Nat) : Int) + ((pk3 4 x / 2 ^ 8 : Nat) : Int) = ((pk3 4 x + pk3 4 x / 256 : Nat) : Int) by omega]
  refine g_istore_n C dJ6_bitCount_0f7a4_40 (by decide) rfl ?_
  refine g_iload_n C dJ6_bitCount_0f7a4_41 rfl ?_
  refine g_iload_n C dJ6_bitCount_0f7a4_42 rfl ?_
  refine g_bipush C dJ6_bitCount_0f7a4_43 (by decide) ?_
  refine g_iushr (z := _) C dJ6_bitCount_0f7a4_45 (iN_ushr 16 (by omega) (by omega) (by decide)) ?_
  refine g_iadd C dJ6_bitCount_0f7a4_46 ?_
  rw [show ((pk3 4 x + pk3 4 x / 256 : Nat) : Int) + (((pk3 4 x + pk3 4 x / 256) / 2 ^ 16 : Nat) : Int) = ((pk3 4 x + pk3 4 x / 256 + (pk3 4 x + pk3 4 x / 256) / 65536 : Nat) : Int) by omega]
  refine g_istore_n C dJ6_bitCount_0f7a4_47 (by decide) rfl ?_
  refine g_iload_n C dJ6_bitCount_0f7a4_48 rfl ?_
  refine g_bipush C dJ6_bitCount_0f7a4_49 (by decide) ?_
  rw [show (63 : Int) = ((63 : Nat) : Int) from rfl]
  refine g_iand (z := _) C dJ6_bitCount_0f7a4_51 (iN_and _ 63) ?_
  have e51 : ((pk3 4 x + pk3 4 x / 256 + (pk3 4 x + pk3 4 x / 256) / 65536) &&& 63) = onN 32 x := by
    rw [show ((pk3 4 x + pk3 4 x / 256 + (pk3 4 x + pk3 4 x / 256) / 65536) &&& 63) = (pk3 4 x + pk3 4 x / 256 + (pk3 4 x + pk3 4 x / 256) / 65536) % 64 from Nat.and_two_pow_sub_one_eq_mod _ 6]
    have d1 : pk3 4 x / 256 = h1 + 256 * h2 + 65536 * h3 := by omega
    have d2 : (pk3 4 x + pk3 4 x / 256) / 65536 = h2 + h3 + 256 * h3 := by rw [d1, e9]; omega
    rw [d2, d1, e9, e8]
    omega
  exact g_ireturn C hQ dJ6_bitCount_0f7a4_52 (Nat.le_refl _) (Nat.le_refl _) ⟨by rw [e51], rfl⟩
theorem dd {x y : Int} {s : Nat} (t : Nat) (h : y = x / 2 ^ s) : y / 2 ^ t = x / 2 ^ (s + t) := by
  rw [h, Int.ediv_ediv_of_nonneg (Int.le_of_lt (p2_pos s)), ← Int.pow_add]
theorem nlz_fin {x y : Int} {s : Nat} (h : y = x / 2 ^ s) (h1 : 1 ≤ y) (h3 : y < 4) : ∃ k : Nat, (s : Int) + y / 2 ^ 1 = k ∧ 2 ^ k ≤ x ∧ x < 2 ^ (k + 1) := by
  have hp := p2_pos s
  have e := Int.mul_ediv_add_emod x (2 ^ s)
  have e1 := Int.emod_nonneg x (show (2 : Int) ^ s ≠ 0 by omega)
  have e2 := Int.emod_lt_of_pos x hp
  rw [← h] at e
  have s1 : (2 : Int) ^ (s + 1) = 2 ^ s * 2 := Int.pow_succ ..
  have s2 : (2 : Int) ^ (s + 1 + 1) = 2 ^ s * 2 * 2 := by rw [Int.pow_succ, s1]
  generalize (2 : Int) ^ s = p at *
  rcases (show y = 1 ∨ y = 2 ∨ y = 3 by omega) with q | q | q
  · subst q; exact ⟨s, by omega, by omega, by omega⟩
  · subst q; exact ⟨s + 1, by omega, by omega, by omega⟩
  · subst q; exact ⟨s + 1, by omega, by omega, by omega⟩
set_option maxHeartbeats 4000000 in
set_option maxRecDepth 100000 in
theorem v_J6_numberOfLeadingZeros_0f7a4 (l : Launch) {E : GE} {w : Wd} {x : Int} (hx : 0 < x ∧ x < 2147483648) : Sp E l yJ6_numberOfLeadingZeros_0f7a4 cJ6_numberOfLeadingZeros_0f7a4 2 (some .int) 0 (0) (0) [iI x] w (fun r' w' => (∃ k : Nat, r' = some (iI (31 - (k : Int))) ∧ 2 ^ k ≤ x ∧ x < 2 ^ (k + 1)) ∧ w' = w) := by
  refine sp_intro [some (iI x), none] rfl (Nat.le_of_ble_eq_true rfl) pn_J6 ?_
  intro X C hRm hl hnm hQ
  obtain ⟨hRf, hRl, hRc, hRs⟩ := hRm
  refine g_wf (fun hwf => ?_)
  refine g_iload_n C dJ6_numberOfLeadingZeros_0f7a4_0 rfl ?_
  refine g_if_gt (tgt := 15) C dJ6_numberOfLeadingZeros_0f7a4_1 (by decide) (by omega) (fun h1 => ?_) (fun h1 => ?_)
  · refine g_bipush C dJ6_numberOfLeadingZeros_0f7a4_15 (by decide) ?_
    refine g_istore_n C dJ6_numberOfLeadingZeros_0f7a4_17 (by decide) rfl ?_
    have J33 : ∀ (y n : Int) (s : Nat), 1 ≤ y → y < 65536 → n = 31 - (s : Int) → s ≤ 16 → y = x / 2 ^ s → G E X 2 33 [some (iI y), some (iI n)] [] w 0 0 := by
      intro y n s h1 h2 h3 h4 hy
      have J48 : ∀ (y n : Int) (s : Nat), 1 ≤ y → y < 256 → n = 31 - (s : Int) → s ≤ 24 → y = x / 2 ^ s → G E X 2 48 [some (iI y), some (iI n)] [] w 0 0 := by
        intro y n s h1 h2 h3 h4 hy
        have J61 : ∀ (y n : Int) (s : Nat), 1 ≤ y → y < 16 → n = 31 - (s : Int) → s ≤ 28 → y = x / 2 ^ s → G E X 2 61 [some (iI y), some (iI n)] [] w 0 0 := by
          intro y n s h1 h2 h3 h4 hy
          have J73 : ∀ (y n : Int) (s : Nat), 1 ≤ y → y < 4 → n = 31 - (s : Int) → s ≤ 30 → y = x / 2 ^ s → G E X 2 73 [some (iI y), some (iI n)] [] w 0 0 := by
            intro y n s h1 h2 h3 h4 hy
            refine g_iload_n C dJ6_numberOfLeadingZeros_0f7a4_73 rfl ?_
            refine g_iload_n C dJ6_numberOfLeadingZeros_0f7a4_74 rfl ?_
            refine g_iconst C dJ6_numberOfLeadingZeros_0f7a4_75 ?_
            refine g_iushr (z := _) C dJ6_numberOfLeadingZeros_0f7a4_76 (i_ushr 1 (by omega) (by omega) (by decide)) ?_
            refine g_isub C dJ6_numberOfLeadingZeros_0f7a4_77 ?_
            exact g_ireturn C hQ dJ6_numberOfLeadingZeros_0f7a4_78 (Nat.le_refl _) (Nat.le_refl _) (by
              obtain ⟨k, g1, g2, g3⟩ := nlz_fin hy h1 h2
              exact ⟨⟨k, by rw [show n - y / 2 ^ 1 = 31 - (k : Int) by omega], g2, g3⟩, rfl⟩)
          refine g_iload_n C dJ6_numberOfLeadingZeros_0f7a4_61 rfl ?_
          refine g_iconst C dJ6_numberOfLeadingZeros_0f7a4_62 ?_
          refine g_icmp_lt (tgt := 73) C dJ6_numberOfLeadingZeros_0f7a4_63 (by decide) (by omega) (by omega) (fun h63 => ?_) (fun h63 => ?_)
          · first | exact J73 y n s h1 (by omega) h3 (by omega) hy | exact J73 (y / 2 ^ 2) (n + -2) (s + 2) (by omega) (by omega) (by omega) (by omega) (dd 2 hy)
          · refine g_iinc C dJ6_numberOfLeadingZeros_0f7a4_66 rfl (by decide) rfl ?_
            refine g_iload_n C dJ6_numberOfLeadingZeros_0f7a4_69 rfl ?_
            refine g_iconst C dJ6_numberOfLeadingZeros_0f7a4_70 ?_
            refine g_iushr (z := _) C dJ6_numberOfLeadingZeros_0f7a4_71 (i_ushr 2 (by omega) (by omega) (by decide)) ?_
            refine g_istore_n C dJ6_numberOfLeadingZeros_0f7a4_72 (by decide) rfl ?_
            first | exact J73 y n s h1 (by omega) h3 (by omega) hy | exact J73 (y / 2 ^ 2) (n + -2) (s + 2) (by omega) (by omega) (by omega) (by omega) (dd 2 hy)
        refine g_iload_n C dJ6_numberOfLeadingZeros_0f7a4_48 rfl ?_
        refine g_bipush C dJ6_numberOfLeadingZeros_0f7a4_49 (by decide) ?_
        refine g_icmp_lt (tgt := 61) C dJ6_numberOfLeadingZeros_0f7a4_51 (by decide) (by omega) (by omega) (fun h51 => ?_) (fun h51 => ?_)
        · first | exact J61 y n s h1 (by omega) h3 (by omega) hy | exact J61 (y / 2 ^ 4) (n + -4) (s + 4) (by omega) (by omega) (by omega) (by omega) (dd 4 hy)
        · refine g_iinc C dJ6_numberOfLeadingZeros_0f7a4_54 rfl (by decide) rfl ?_
          refine g_iload_n C dJ6_numberOfLeadingZeros_0f7a4_57 rfl ?_
          refine g_iconst C dJ6_numberOfLeadingZeros_0f7a4_58 ?_
          refine g_iushr (z := _) C dJ6_numberOfLeadingZeros_0f7a4_59 (i_ushr 4 (by omega) (by omega) (by decide)) ?_
          refine g_istore_n C dJ6_numberOfLeadingZeros_0f7a4_60 (by decide) rfl ?_
          first | exact J61 y n s h1 (by omega) h3 (by omega) hy | exact J61 (y / 2 ^ 4) (n + -4) (s + 4) (by omega) (by omega) (by omega) (by omega) (dd 4 hy)
      refine g_iload_n C dJ6_numberOfLeadingZeros_0f7a4_33 rfl ?_
      refine g_sipush C dJ6_numberOfLeadingZeros_0f7a4_34 (by decide) ?_
      refine g_icmp_lt (tgt := 48) C dJ6_numberOfLeadingZeros_0f7a4_37 (by decide) (by omega) (by omega) (fun h37 => ?_) (fun h37 => ?_)
      · first | exact J48 y n s h1 (by omega) h3 (by omega) hy | exact J48 (y / 2 ^ 8) (n + -8) (s + 8) (by omega) (by omega) (by omega) (by omega) (dd 8 hy)
      · refine g_iinc C dJ6_numberOfLeadingZeros_0f7a4_40 rfl (by decide) rfl ?_
        refine g_iload_n C dJ6_numberOfLeadingZeros_0f7a4_43 rfl ?_
        refine g_bipush C dJ6_numberOfLeadingZeros_0f7a4_44 (by decide) ?_
        refine g_iushr (z := _) C dJ6_numberOfLeadingZeros_0f7a4_46 (i_ushr 8 (by omega) (by omega) (by decide)) ?_
        refine g_istore_n C dJ6_numberOfLeadingZeros_0f7a4_47 (by decide) rfl ?_
        first | exact J48 y n s h1 (by omega) h3 (by omega) hy | exact J48 (y / 2 ^ 8) (n + -8) (s + 8) (by omega) (by omega) (by omega) (by omega) (dd 8 hy)
    refine g_iload_n C dJ6_numberOfLeadingZeros_0f7a4_18 rfl ?_
    refine g_ldcw (z := 65536) C ko_RJ6_264 (by decide) dJ6_numberOfLeadingZeros_0f7a4_19 ?_
    refine g_icmp_lt (tgt := 33) C dJ6_numberOfLeadingZeros_0f7a4_22 (by decide) (by omega) (by omega) (fun h22 => ?_) (fun h22 => ?_)
    · first | exact J33 x 31 0 (by omega) (by omega) rfl (by omega) (by rw [Int.pow_zero, Int.ediv_one]) | exact J33 (x / 2 ^ 16) (31 + -16) 16 (by omega) (by omega) rfl (by omega) rfl
    · refine g_iinc C dJ6_numberOfLeadingZeros_0f7a4_25 rfl (by decide) rfl ?_
      refine g_iload_n C dJ6_numberOfLeadingZeros_0f7a4_28 rfl ?_
      refine g_bipush C dJ6_numberOfLeadingZeros_0f7a4_29 (by decide) ?_
      refine g_iushr (z := _) C dJ6_numberOfLeadingZeros_0f7a4_31 (i_ushr 16 (by omega) (by omega) (by decide)) ?_
      refine g_istore_n C dJ6_numberOfLeadingZeros_0f7a4_32 (by decide) rfl ?_
      first | exact J33 x 31 0 (by omega) (by omega) rfl (by omega) (by rw [Int.pow_zero, Int.ediv_one]) | exact J33 (x / 2 ^ 16) (31 + -16) 16 (by omega) (by omega) rfl (by omega) rfl
  · omega
theorem ntz_and {q k : Nat} : (Int32.ofInt ((2 ^ k * (2 * q + 1) : Nat) : Int) ^^^ Int32.ofInt (-1)) &&& Int32.ofInt (((2 ^ k * (2 * q + 1) : Nat) : Int) - 1) = Int32.ofInt ((2 ^ k - 1 : Nat) : Int) := by
  have hp : 0 < 2 ^ k := Nat.pow_pos (by decide)
  have e1 : ((2 ^ k * (2 * q + 1) : Nat) : Int) - 1 = ((2 ^ (k + 1) * q + (2 ^ k - 1) : Nat) : Int) := by
    have : 2 ^ k * (2 * q + 1) = 2 ^ (k + 1) * q + 2 ^ k := by rw [Nat.mul_add, Nat.pow_succ, Nat.mul_one, Nat.mul_assoc]
    omega
  have e2 : 2 ^ k * (2 * q + 1) = 2 ^ (k + 1) * q + 2 ^ k := by rw [Nat.mul_add, Nat.pow_succ, Nat.mul_one, Nat.mul_assoc]
  rw [e1, e2]
  apply Int32.toBitVec_inj.mp
  show (BitVec.ofInt 32 _ ^^^ BitVec.allOnes 32) &&& BitVec.ofInt 32 _ = BitVec.ofInt 32 _
  rw [BitVec.ofInt_natCast, BitVec.ofInt_natCast, BitVec.ofInt_natCast]
  apply BitVec.eq_of_getLsbD_eq
  intro i hi
  have hp1 : 2 ^ (k + 1) = 2 ^ k * 2 := Nat.pow_succ ..
  simp only [BitVec.getLsbD_and, BitVec.getLsbD_xor, BitVec.getLsbD_allOnes, BitVec.getLsbD_ofNat, hi, decide_true, Bool.true_and]
  rw [Nat.testBit_two_pow_mul_add _ (by omega : 2 ^ k < 2 ^ (k + 1)), Nat.testBit_two_pow_mul_add _ (by omega : 2 ^ k - 1 < 2 ^ (k + 1)), Nat.testBit_two_pow_sub_one, Nat.testBit_two_pow]
  by_cases c : i < k
  · have c1 : i < k + 1 := by omega
    have c2 : k ≠ i := by omega
    simp [c, c1, c2]
  · by_cases d : i = k
    · subst d
      simp
    · have c1 : ¬ i < k + 1 := by omega
      simp [c, c1]
theorem odd_part : ∀ (n : Nat), 0 < n → ∃ k q : Nat, n = 2 ^ k * (2 * q + 1) := by
  intro n
  induction n using Nat.strongRecOn with
  | ind n ih =>
    intro hn
    rcases (show n % 2 = 1 ∨ n % 2 = 0 by omega) with h | h
    · exact ⟨0, n / 2, by rw [Nat.pow_zero]; omega⟩
    · obtain ⟨k, q, e⟩ := ih (n / 2) (by omega) (by omega)
      refine ⟨k + 1, q, ?_⟩
      rw [Nat.pow_succ, Nat.mul_assoc, Nat.mul_comm 2, ← Nat.mul_assoc, ← e]
      omega
theorem p2_sub {j t : Nat} (h : t ≤ j) : ((2 : Int) ^ j - 1) / 2 ^ t = 2 ^ (j - t) - 1 := by
  obtain ⟨u, rfl⟩ : ∃ u, j = t + u := ⟨j - t, by omega⟩
  have ht := p2_pos t
  rw [Nat.add_sub_cancel_left, Int.pow_add]
  have e : (2 : Int) ^ t * 2 ^ u - 1 = (2 ^ t - 1) + 2 ^ t * (2 ^ u - 1) := by grind
  rw [e, Int.add_mul_ediv_left _ _ (by omega), Int.ediv_eq_zero_of_lt (by omega) (by omega), Int.zero_add]
theorem p2_cap {j t : Nat} {c : Int} (h : (2 : Int) ^ j - 1 ≤ c) (hc : c < 2 ^ (t + 1) - 1) : j ≤ t := by
  rcases Nat.lt_or_ge t j with q | q
  · have := p2_le (show t + 1 ≤ j by omega); omega
  · exact q
theorem p2_flo {j t : Nat} {c : Int} (h : c < (2 : Int) ^ j - 1) (hc : 2 ^ t - 1 ≤ c) : t < j := by
  rcases Nat.lt_or_ge t j with q | q
  · exact q
  · have := p2_le q; omega
set_option maxHeartbeats 4000000 in
set_option maxRecDepth 100000 in
theorem v_J6_numberOfTrailingZeros_0f7a4 (l : Launch) {E : GE} {w : Wd} {k q : Nat} (hx : 2 ^ k * (2 * q + 1) < 2147483648) : Sp E l yJ6_numberOfTrailingZeros_0f7a4 cJ6_numberOfTrailingZeros_0f7a4 2 (some .int) 0 (0) (0) [iI ((2 ^ k * (2 * q + 1) : Nat) : Int)] w (fun r' w' => r' = some (iI (k : Int)) ∧ w' = w) := by
  refine sp_intro [some (iI ((2 ^ k * (2 * q + 1) : Nat) : Int)), none] rfl (Nat.le_of_ble_eq_true rfl) pn_J6 ?_
  intro X C hRm hl hnm hQ
  obtain ⟨hRf, hRl, hRc, hRs⟩ := hRm
  refine g_wf (fun hwf => ?_)
  have hk31 : k < 31 := by
    rcases Nat.lt_or_ge k 31 with c | c
    · exact c
    · have h1 : 2 ^ 31 ≤ 2 ^ k := Nat.pow_le_pow_right (by decide) c
      have h2 := Nat.mul_le_mul h1 (show 1 ≤ 2 * q + 1 by omega)
      omega
  have hkb : 2 ^ k < 2147483648 := by
    have h1 : 2 ^ k ≤ 2 ^ 30 := Nat.pow_le_pow_right (by decide) (show k ≤ 30 by omega)
    omega
  have hk1 : 0 < 2 ^ k := Nat.pow_pos (by decide)
  obtain ⟨z2, hz2, -, -⟩ := gen32 (Int32.ofInt ((2 ^ k * (2 * q + 1) : Nat) : Int) ^^^ Int32.ofInt (-1))
  have hz6 : Int32.ofInt z2 &&& Int32.ofInt (((2 ^ k * (2 * q + 1) : Nat) : Int) - 1) = Int32.ofInt ((2 ^ k - 1 : Nat) : Int) := by rw [← hz2]; exact ntz_and
  refine g_iload_n C dJ6_numberOfTrailingZeros_0f7a4_0 rfl ?_
  refine g_iconst C dJ6_numberOfTrailingZeros_0f7a4_1 ?_
  refine g_ixor (z := z2) C dJ6_numberOfTrailingZeros_0f7a4_2 hz2 ?_
  refine g_iload_n C dJ6_numberOfTrailingZeros_0f7a4_3 rfl ?_
  refine g_iconst C dJ6_numberOfTrailingZeros_0f7a4_4 ?_
  refine g_isub C dJ6_numberOfTrailingZeros_0f7a4_5 ?_
  refine g_iand (z := ((2 ^ k - 1 : Nat) : Int)) C dJ6_numberOfTrailingZeros_0f7a4_6 hz6 ?_
  refine g_istore_n C dJ6_numberOfTrailingZeros_0f7a4_7 (by decide) rfl ?_
  refine g_iload_n C dJ6_numberOfTrailingZeros_0f7a4_8 rfl ?_
  refine g_if_gt (tgt := 17) C dJ6_numberOfTrailingZeros_0f7a4_9 (by decide) (by omega) (fun h9 => ?_) (fun h9 => ?_)
  · have hk0 : 1 ≤ k := by
      rcases Nat.eq_zero_or_pos k with c | c
      · subst c; omega
      · exact c
    have hkc : ((2 ^ k - 1 : Nat) : Int) = (2 : Int) ^ k - 1 := by
      have e : ((2 ^ k : Nat) : Int) = (2 : Int) ^ k := by simp
      omega
    have hkd := p2_le (show k ≤ 30 by omega)
    rw [hkc]
    refine g_iconst C dJ6_numberOfTrailingZeros_0f7a4_17 ?_
    refine g_istore_n C dJ6_numberOfTrailingZeros_0f7a4_18 (by decide) rfl ?_
    have J34 : ∀ (j : Nat) (n : Int), 1 ≤ j → j ≤ 16 → n = 1 + (k : Int) - j → G E X 2 34 [some (iI (2 ^ j - 1)), some (iI n)] [] w 0 0 := by
      intro j n h1 h2 h3
      have hj0 := p2_le h1
      have hj1 := p2_le h2
      have J49 : ∀ (j : Nat) (n : Int), 1 ≤ j → j ≤ 8 → n = 1 + (k : Int) - j → G E X 2 49 [some (iI (2 ^ j - 1)), some (iI n)] [] w 0 0 := by
        intro j n h1 h2 h3
        have hj0 := p2_le h1
        have hj1 := p2_le h2
        have J62 : ∀ (j : Nat) (n : Int), 1 ≤ j → j ≤ 4 → n = 1 + (k : Int) - j → G E X 2 62 [some (iI (2 ^ j - 1)), some (iI n)] [] w 0 0 := by
          intro j n h1 h2 h3
          have hj0 := p2_le h1
          have hj1 := p2_le h2
          have J74 : ∀ (j : Nat) (n : Int), 1 ≤ j → j ≤ 2 → n = 1 + (k : Int) - j → G E X 2 74 [some (iI (2 ^ j - 1)), some (iI n)] [] w 0 0 := by
            intro j n h1 h2 h3
            have hj0 := p2_le h1
            have hj1 := p2_le h2
            refine g_iload_n C dJ6_numberOfTrailingZeros_0f7a4_74 rfl ?_
            refine g_iload_n C dJ6_numberOfTrailingZeros_0f7a4_75 rfl ?_
            refine g_iconst C dJ6_numberOfTrailingZeros_0f7a4_76 ?_
            refine g_iushr (z := _) C dJ6_numberOfTrailingZeros_0f7a4_77 (i_ushr 1 (by omega) (by omega) (by decide)) ?_
            refine g_iadd C dJ6_numberOfTrailingZeros_0f7a4_78 ?_
            exact g_ireturn C hQ dJ6_numberOfTrailingZeros_0f7a4_79 (Nat.le_refl _) (Nat.le_refl _) (by
              refine ⟨?_, rfl⟩
              rcases (show j = 1 ∨ j = 2 by omega) with q | q
              · subst q; rw [show n + ((2 : Int) ^ 1 - 1) / 2 ^ 1 = (k : Int) by omega]
              · subst q; rw [show n + ((2 : Int) ^ 2 - 1) / 2 ^ 1 = (k : Int) by omega])
          refine g_iload_n C dJ6_numberOfTrailingZeros_0f7a4_62 rfl ?_
          refine g_iconst C dJ6_numberOfTrailingZeros_0f7a4_63 ?_
          refine g_icmp_le (tgt := 74) C dJ6_numberOfTrailingZeros_0f7a4_64 (by decide) (by omega) (by omega) (fun h64 => ?_) (fun h64 => ?_)
          · first
            | exact J74 j n (by omega) (p2_cap (c := 4) (by omega) (by decide)) (by omega)
            | (have h9 : 2 < j := p2_flo (c := 4) (by omega) (by decide)
               rw [p2_sub (show 2 ≤ j by omega)]
               exact J74 (j - 2) _ (by omega) (by omega) (by omega))
          · refine g_iinc C dJ6_numberOfTrailingZeros_0f7a4_67 rfl (by decide) rfl ?_
            refine g_iload_n C dJ6_numberOfTrailingZeros_0f7a4_70 rfl ?_
            refine g_iconst C dJ6_numberOfTrailingZeros_0f7a4_71 ?_
            refine g_iushr (z := _) C dJ6_numberOfTrailingZeros_0f7a4_72 (i_ushr 2 (by omega) (by omega) (by decide)) ?_
            refine g_istore_n C dJ6_numberOfTrailingZeros_0f7a4_73 (by decide) rfl ?_
            first
            | exact J74 j n (by omega) (p2_cap (c := 4) (by omega) (by decide)) (by omega)
            | (have h9 : 2 < j := p2_flo (c := 4) (by omega) (by decide)
               rw [p2_sub (show 2 ≤ j by omega)]
               exact J74 (j - 2) _ (by omega) (by omega) (by omega))
        refine g_iload_n C dJ6_numberOfTrailingZeros_0f7a4_49 rfl ?_
        refine g_bipush C dJ6_numberOfTrailingZeros_0f7a4_50 (by decide) ?_
        refine g_icmp_le (tgt := 62) C dJ6_numberOfTrailingZeros_0f7a4_52 (by decide) (by omega) (by omega) (fun h52 => ?_) (fun h52 => ?_)
        · first
          | exact J62 j n (by omega) (p2_cap (c := 16) (by omega) (by decide)) (by omega)
          | (have h9 : 4 < j := p2_flo (c := 16) (by omega) (by decide)
             rw [p2_sub (show 4 ≤ j by omega)]
             exact J62 (j - 4) _ (by omega) (by omega) (by omega))
        · refine g_iinc C dJ6_numberOfTrailingZeros_0f7a4_55 rfl (by decide) rfl ?_
          refine g_iload_n C dJ6_numberOfTrailingZeros_0f7a4_58 rfl ?_
          refine g_iconst C dJ6_numberOfTrailingZeros_0f7a4_59 ?_
          refine g_iushr (z := _) C dJ6_numberOfTrailingZeros_0f7a4_60 (i_ushr 4 (by omega) (by omega) (by decide)) ?_
          refine g_istore_n C dJ6_numberOfTrailingZeros_0f7a4_61 (by decide) rfl ?_
          first
          | exact J62 j n (by omega) (p2_cap (c := 16) (by omega) (by decide)) (by omega)
          | (have h9 : 4 < j := p2_flo (c := 16) (by omega) (by decide)
             rw [p2_sub (show 4 ≤ j by omega)]
             exact J62 (j - 4) _ (by omega) (by omega) (by omega))
      refine g_iload_n C dJ6_numberOfTrailingZeros_0f7a4_34 rfl ?_
      refine g_sipush C dJ6_numberOfTrailingZeros_0f7a4_35 (by decide) ?_
      refine g_icmp_le (tgt := 49) C dJ6_numberOfTrailingZeros_0f7a4_38 (by decide) (by omega) (by omega) (fun h38 => ?_) (fun h38 => ?_)
      · first
        | exact J49 j n (by omega) (p2_cap (c := 256) (by omega) (by decide)) (by omega)
        | (have h9 : 8 < j := p2_flo (c := 256) (by omega) (by decide)
           rw [p2_sub (show 8 ≤ j by omega)]
           exact J49 (j - 8) _ (by omega) (by omega) (by omega))
      · refine g_iinc C dJ6_numberOfTrailingZeros_0f7a4_41 rfl (by decide) rfl ?_
        refine g_iload_n C dJ6_numberOfTrailingZeros_0f7a4_44 rfl ?_
        refine g_bipush C dJ6_numberOfTrailingZeros_0f7a4_45 (by decide) ?_
        refine g_iushr (z := _) C dJ6_numberOfTrailingZeros_0f7a4_47 (i_ushr 8 (by omega) (by omega) (by decide)) ?_
        refine g_istore_n C dJ6_numberOfTrailingZeros_0f7a4_48 (by decide) rfl ?_
        first
        | exact J49 j n (by omega) (p2_cap (c := 256) (by omega) (by decide)) (by omega)
        | (have h9 : 8 < j := p2_flo (c := 256) (by omega) (by decide)
           rw [p2_sub (show 8 ≤ j by omega)]
           exact J49 (j - 8) _ (by omega) (by omega) (by omega))
    refine g_iload_n C dJ6_numberOfTrailingZeros_0f7a4_19 rfl ?_
    refine g_ldcw (z := 65536) C ko_RJ6_264 (by decide) dJ6_numberOfTrailingZeros_0f7a4_20 ?_
    refine g_icmp_le (tgt := 34) C dJ6_numberOfTrailingZeros_0f7a4_23 (by decide) (by omega) (by omega) (fun h23 => ?_) (fun h23 => ?_)
    · first
      | exact J34 k 1 (by omega) (p2_cap (c := 65536) (by omega) (by decide)) (by omega)
      | (have h9 : 16 < k := p2_flo (c := 65536) (by omega) (by decide)
         rw [p2_sub (show 16 ≤ k by omega)]
         exact J34 (k - 16) _ (by omega) (by omega) (by omega))
    · refine g_iinc C dJ6_numberOfTrailingZeros_0f7a4_26 rfl (by decide) rfl ?_
      refine g_iload_n C dJ6_numberOfTrailingZeros_0f7a4_29 rfl ?_
      refine g_bipush C dJ6_numberOfTrailingZeros_0f7a4_30 (by decide) ?_
      refine g_iushr (z := _) C dJ6_numberOfTrailingZeros_0f7a4_32 (i_ushr 16 (by omega) (by omega) (by decide)) ?_
      refine g_istore_n C dJ6_numberOfTrailingZeros_0f7a4_33 (by decide) rfl ?_
      first
      | exact J34 k 1 (by omega) (p2_cap (c := 65536) (by omega) (by decide)) (by omega)
      | (have h9 : 16 < k := p2_flo (c := 65536) (by omega) (by decide)
         rw [p2_sub (show 16 ≤ k by omega)]
         exact J34 (k - 16) _ (by omega) (by omega) (by omega))
  · have hk0 : k = 0 := by
      rcases Nat.eq_zero_or_pos k with c | c
      · exact c
      · have h1 : 2 ^ 1 ≤ 2 ^ k := Nat.pow_le_pow_right (by decide) c
        omega
    refine g_iload_n C dJ6_numberOfTrailingZeros_0f7a4_12 rfl ?_
    refine g_bipush C dJ6_numberOfTrailingZeros_0f7a4_13 (by decide) ?_
    refine g_iand (z := 0) C dJ6_numberOfTrailingZeros_0f7a4_15 (by rw [hk0]; decide) ?_
    exact g_ireturn C hQ dJ6_numberOfTrailingZeros_0f7a4_16 (Nat.le_refl _) (Nat.le_refl _) ⟨by rw [hk0]; rfl, rfl⟩
