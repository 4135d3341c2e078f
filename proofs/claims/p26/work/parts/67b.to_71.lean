/-! the JDK's bit counts -/
theorem and_sp {k q r m s : Nat} (hr : r < 2 ^ k) (hs : s < 2 ^ k) : (2 ^ k * q + r) &&& (2 ^ k * m + s) = 2 ^ k * (q &&& m) + (r &&& s) := by
  apply Nat.eq_of_testBit_eq
  intro i
  have hrs : r &&& s < 2 ^ k := Nat.lt_of_le_of_lt Nat.and_le_left hr
  rw [Nat.testBit_and, Nat.testBit_two_pow_mul_add _ hr, Nat.testBit_two_pow_mul_add _ hs, Nat.testBit_two_pow_mul_add _ hrs]
  split
  · rw [Nat.testBit_and]
  · rw [Nat.testBit_and]
def onN : Nat → Nat → Nat
  | 0, _ => 0
  | n + 1, x => x % 2 + onN n (x / 2)
theorem onN_le : ∀ (n x : Nat), onN n x ≤ n
  | 0, _ => Nat.le_refl _
  | n + 1, x => by
    have := onN_le n (x / 2)
    show x % 2 + onN n (x / 2) ≤ n + 1
    omega
theorem onN_add : ∀ (m n x : Nat), onN (m + n) x = onN m x + onN n (x / 2 ^ m)
  | 0, n, x => by rw [Nat.zero_add, Nat.pow_zero, Nat.div_one]; show _ = 0 + _; omega
  | m + 1, n, x => by
    rw [show m + 1 + n = (m + n) + 1 by omega]
    show x % 2 + onN (m + n) (x / 2) = x % 2 + onN m (x / 2) + onN n (x / 2 ^ (m + 1))
    rw [onN_add m n (x / 2), Nat.div_div_eq_div_mul, Nat.pow_succ, Nat.mul_comm 2]
    omega
def m5N : Nat → Nat
  | 0 => 0
  | n + 1 => 4 * m5N n + 1
def m3N : Nat → Nat
  | 0 => 0
  | n + 1 => 16 * m3N n + 3
def mfN : Nat → Nat
  | 0 => 0
  | n + 1 => 256 * mfN n + 15
def pk1 : Nat → Nat → Nat
  | 0, _ => 0
  | n + 1, x => 4 * pk1 n (x / 4) + onN 2 x
def pk2 : Nat → Nat → Nat
  | 0, _ => 0
  | n + 1, x => 16 * pk2 n (x / 16) + onN 4 x
def pk3 : Nat → Nat → Nat
  | 0, _ => 0
  | n + 1, x => 256 * pk3 n (x / 256) + onN 8 x
theorem on2 (x : Nat) : onN 2 x = x % 2 + x / 2 % 2 := by show x % 2 + (x / 2 % 2 + 0) = _; omega
theorem and_m1 (x : Nat) : x &&& 1 = x % 2 := Nat.and_two_pow_sub_one_eq_mod x 1
theorem and_m2 (x : Nat) : x &&& 3 = x % 4 := Nat.and_two_pow_sub_one_eq_mod x 2
theorem and_m4 (x : Nat) : x &&& 15 = x % 16 := Nat.and_two_pow_sub_one_eq_mod x 4
theorem pk1_eq : ∀ (n x : Nat), x < 4 ^ n → ((x / 2) &&& m5N n) + pk1 n x = x
  | 0, x, h => by
    have : x = 0 := by rw [Nat.pow_zero] at h; omega
    subst this
    rfl
  | n + 1, x, h => by
    have ih := pk1_eq n (x / 4) (by rw [Nat.pow_succ] at h; omega)
    have e1 : x / 2 = 2 ^ 2 * (x / 4 / 2) + x / 2 % 4 := by show x / 2 = 4 * _ + _; omega
    have e2 : m5N (n + 1) = 2 ^ 2 * m5N n + 1 := rfl
    have e3 : x / 2 &&& m5N (n + 1) = 2 ^ 2 * ((x / 4 / 2) &&& m5N n) + (x / 2 % 4 &&& 1) := by
      rw [e2]
      conv => lhs; rw [e1]
      exact and_sp (by show _ < 4; omega) (by decide)
    rw [e3, and_m1]
    show 4 * _ + _ + (4 * pk1 n (x / 4) + onN 2 x) = x
    rw [on2]
    omega
theorem pk2_eq : ∀ (n x : Nat), (pk1 (2 * n) x &&& m3N n) + (pk1 (2 * n) x / 4 &&& m3N n) = pk2 n x
  | 0, x => by show (0 &&& 0) + (0 / 4 &&& 0) = 0; decide
  | n + 1, x => by
    have ih := pk2_eq n (x / 16)
    have e0 : pk1 (2 * (n + 1)) x = 4 * (4 * pk1 (2 * n) (x / 4 / 4) + onN 2 (x / 4)) + onN 2 x := rfl
    rw [show x / 4 / 4 = x / 16 by omega] at e0
    have b0 := onN_le 2 x
    have b1 := onN_le 2 (x / 4)
    have e4 : onN 4 x = onN 2 x + onN 2 (x / 4) := onN_add 2 2 x
    show _ = 16 * pk2 n (x / 16) + onN 4 x
    rw [e4, ← ih]
    generalize pk1 (2 * n) (x / 16) = Y at *
    generalize onN 2 (x / 4) = p at *
    generalize onN 2 x = q at *
    have f1 : pk1 (2 * (n + 1)) x = 2 ^ 4 * Y + (4 * p + q) := by rw [e0]; show _ = 16 * Y + _; omega
    have f2 : pk1 (2 * (n + 1)) x / 4 = 2 ^ 4 * (Y / 4) + (4 * (Y % 4) + p) := by rw [e0]; show _ = 16 * _ + _; omega
    have f3 : m3N (n + 1) = 2 ^ 4 * m3N n + 3 := rfl
    rw [f2, f1, f3, and_sp (by show _ < 16; omega) (by decide), and_sp (by show _ < 16; omega) (by decide), and_m2, and_m2]
    generalize Y &&& m3N n = s
    generalize Y / 4 &&& m3N n = t
    show 16 * _ + _ + (16 * _ + _) = _
    omega
theorem pk2_lo : ∀ (n x : Nat), pk2 n x % 16 ≤ 4
  | 0, x => by show 0 % 16 ≤ 4; decide
  | n + 1, x => by
    have := onN_le 4 x
    show (16 * pk2 n (x / 16) + onN 4 x) % 16 ≤ 4
    omega
theorem pk3_eq : ∀ (n x : Nat), (pk2 (2 * n) x + pk2 (2 * n) x / 16) &&& mfN n = pk3 n x
  | 0, x => by show (0 + 0 / 16) &&& 0 = 0; decide
  | n + 1, x => by
    have ih := pk3_eq n (x / 256)
    have e0 : pk2 (2 * (n + 1)) x = 16 * (16 * pk2 (2 * n) (x / 16 / 16) + onN 4 (x / 16)) + onN 4 x := rfl
    rw [show x / 16 / 16 = x / 256 by omega] at e0
    have b0 := onN_le 4 x
    have b1 := onN_le 4 (x / 16)
    have b2 := pk2_lo (2 * n) (x / 256)
    have e4 : onN 8 x = onN 4 x + onN 4 (x / 16) := onN_add 4 4 x
    show _ = 256 * pk3 n (x / 256) + onN 8 x
    rw [e4, ← ih]
    generalize pk2 (2 * n) (x / 256) = Y at *
    generalize onN 4 (x / 16) = p at *
    generalize onN 4 x = q at *
    have f1 : pk2 (2 * (n + 1)) x + pk2 (2 * (n + 1)) x / 16 = 2 ^ 8 * (Y + Y / 16) + (16 * (p + Y % 16) + (q + p)) := by rw [e0]; show _ = 256 * _ + _; omega
    have f3 : mfN (n + 1) = 2 ^ 8 * mfN n + 15 := rfl
    rw [f1, f3, and_sp (by show _ < 256; omega) (by decide), and_m4]
    show 256 * _ + _ = _
    omega
theorem pk3_4 (x : Nat) : ∃ h0 h1 h2 h3 : Nat, pk3 4 x = h0 + 256 * h1 + 65536 * h2 + 16777216 * h3 ∧ onN 32 x = h0 + h1 + h2 + h3 ∧ h0 ≤ 8 ∧ h1 ≤ 8 ∧ h2 ≤ 8 ∧ h3 ≤ 8 := by
  refine ⟨onN 8 x, onN 8 (x / 256), onN 8 (x / 256 / 256), onN 8 (x / 256 / 256 / 256), ?_, ?_, onN_le 8 _, onN_le 8 _, onN_le 8 _, onN_le 8 _⟩
  · show 256 * (256 * (256 * (256 * 0 + onN 8 (x / 256 / 256 / 256)) + onN 8 (x / 256 / 256)) + onN 8 (x / 256)) + onN 8 x = _
    omega
  · have a1 : onN 32 x = onN 8 x + onN 24 (x / 256) := onN_add 8 24 x
    have a2 : onN 24 (x / 256) = onN 8 (x / 256) + onN 16 (x / 256 / 256) := onN_add 8 16 _
    have a3 : onN 16 (x / 256 / 256) = onN 8 (x / 256 / 256) + onN 8 (x / 256 / 256 / 256) := onN_add 8 8 _
    omega
theorem pk3_lt (x : Nat) : pk3 4 x < 2147483648 := by
  obtain ⟨h0, h1, h2, h3, e, -, b0, b1, b2, b3⟩ := pk3_4 x
  omega
theorem pk1_le {n x : Nat} (h : x < 4 ^ n) : pk1 n x ≤ x := by have := pk1_eq n x h; omega
theorem iN_and (x y : Nat) : Int32.ofInt (x : Int) &&& Int32.ofInt (y : Int) = Int32.ofInt ((x &&& y : Nat) : Int) := by
  apply Int32.toBitVec_inj.mp
  show BitVec.ofInt 32 (x : Int) &&& BitVec.ofInt 32 (y : Int) = BitVec.ofInt 32 _
  rw [BitVec.ofInt_natCast, BitVec.ofInt_natCast, BitVec.ofInt_natCast, BitVec.ofNat_and]
theorem iN_ushr {x : Nat} (s : Nat) (hs : s < 32) (hx : x < 2147483648) {D : UInt32} (hD : D.toBitVec.toNat % 32 = s) : ((Int32.ofInt (x : Int)).toUInt32 >>> D).toInt32 = Int32.ofInt ((x / 2 ^ s : Nat) : Int) := by
  rw [i_ushr (x := (x : Int)) s hs (by omega) hD]
  congr 1
set_option maxHeartbeats 4000000 in
set_option maxRecDepth 100000 in
theorem v_J6_bitCount_0f7a4 (l : Launch) {E : GE} {w : Wd} {x : Nat} (hx : x < 2147483648) : Sp E l yJ6_bitCount_0f7a4 cJ6_bitCount_0f7a4 1 (some .int) 0 (0) (0) [iI (x : Int)] w (fun r' w' => r' = some (iI ((onN 32 x : Nat) : Int)) ∧ w' = w) := by
  refine sp_intro [some (iI (x : Int))] rfl (Nat.le_of_ble_eq_true rfl) pn_J6 ?_
  intro X C hRm hl hnm hQ
  obtain ⟨hRf, hRl, hRc, hRs⟩ := hRm
  refine g_wf (fun hwf => ?_)
  have q1 := pk1_eq 16 x (by show x < 4294967296; omega)
  have q2 := pk2_eq 8 x
  have q3 := pk3_eq 4 x
  obtain ⟨h0, h1, h2, h3, e9, e8, b0, b1, b2, b3⟩ := pk3_4 x
  have k1 : m5N 16 = 1431655765 := by decide
  have k2 : m3N 8 = 858993459 := by decide
  have k3 : mfN 4 = 252645135 := by decide
  rw [k1] at q1
  rw [show 2 * 8 = 16 from rfl, k2] at q2
  rw [show 2 * 4 = 8 from rfl, k3] at q3
  have c1 : pk1 16 x ≤ x := by omega
  have c2 : pk2 8 x ≤ 2 * 858993459 := by rw [← q2]; exact Nat.le_trans (Nat.add_le_add Nat.and_le_right Nat.and_le_right) (by decide)
  have c3 := pk3_lt x
  refine g_iload_n C dJ6_bitCount_0f7a4_0 rfl ?_
  refine g_iload_n C dJ6_bitCount_0f7a4_1 rfl ?_
  refine g_iconst C dJ6_bitCount_0f7a4_2 ?_
  refine g_iushr (z := _) C dJ6_bitCount_0f7a4_3 (iN_ushr 1 (by omega) (by omega) (by decide)) ?_
  refine g_ldcw (z := ((1431655765 : Nat) : Int)) C ko_RJ6_265 (by decide) dJ6_bitCount_0f7a4_4 ?_
  refine g_iand (z := _) C dJ6_bitCount_0f7a4_7 (iN_and _ 1431655765) ?_
  refine g_isub C dJ6_bitCount_0f7a4_8 ?_
  rw [show (x : Int) - (((x / 2 ^ 1 : Nat) &&& 1431655765 : Nat) : Int) = ((pk1 16 x : Nat) : Int) by rw [Nat.pow_one]; omega]
  refine g_istore_n C dJ6_bitCount_0f7a4_9 (by decide) rfl ?_
  refine g_iload_n C dJ6_bitCount_0f7a4_10 rfl ?_
  refine g_ldcw (z := ((858993459 : Nat) : Int)) C ko_RJ6_266 (by decide) dJ6_bitCount_0f7a4_11 ?_
  refine g_iand (z := _) C dJ6_bitCount_0f7a4_14 (iN_and _ 858993459) ?_
  refine g_iload_n C dJ6_bitCount_0f7a4_15 rfl ?_
  refine g_iconst C dJ6_bitCount_0f7a4_16 ?_
  refine g_iushr (z := _) C dJ6_bitCount_0f7a4_17 (iN_ushr 2 (by omega) (by omega) (by decide)) ?_
  refine g_ldcw (z := ((858993459 : Nat) : Int)) C ko_RJ6_266 (by decide) dJ6_bitCount_0f7a4_18 ?_
  refine g_iand (z := _) C dJ6_bitCount_0f7a4_21 (iN_and _ 858993459) ?_
  refine g_iadd C dJ6_bitCount_0f7a4_22 ?_
  rw [show (((pk1 16 x &&& 858993459 : Nat)) : Int) + ((pk1 16 x / 2 ^ 2 &&& 858993459 : Nat) : Int) = ((pk2 8 x : Nat) : Int) by rw [← q2, show (2 : Nat) ^ 2 = 4 from rfl]; omega]
  refine g_istore_n C dJ6_bitCount_0f7a4_23 (by decide) rfl ?_
  refine g_iload_n C dJ6_bitCount_0f7a4_24 rfl ?_
  refine g_iload_n C dJ6_bitCount_0f7a4_25 rfl ?_
  refine g_iconst C dJ6_bitCount_0f7a4_26 ?_
  refine g_iushr (z := _) C dJ6_bitCount_0f7a4_27 (iN_ushr 4 (by omega) (by omega) (by decide)) ?_
  refine g_iadd C dJ6_bitCount_0f7a4_28 ?_
  rw [show ((pk2 8 x : Nat) : Int) + ((pk2 8 x / 2 ^ 4 : Nat) : Int) = ((pk2 8 x + pk2 8 x / 16 : Nat) : Int) by omega]
  refine g_ldcw (z := ((252645135 : Nat) : Int)) C ko_RJ6_267 (by decide) dJ6_bitCount_0f7a4_29 ?_
  refine g_iand (z := _) C dJ6_bitCount_0f7a4_32 (iN_and _ 252645135) ?_
  rw [q3]
  refine g_istore_n C dJ6_bitCount_0f7a4_33 (by decide) rfl ?_
  refine g_iload_n C dJ6_bitCount_0f7a4_34 rfl ?_
  refine g_iload_n C dJ6_bitCount_0f7a4_35 rfl ?_
  refine g_bipush C dJ6_bitCount_0f7a4_36 (by decide) ?_
  refine g_iushr (z := _) C dJ6_bitCount_0f7a4_38 (iN_ushr 8 (by omega) (by omega) (by decide)) ?_
  refine g_iadd C dJ6_bitCount_0f7a4_39 ?_
  rw [show ((pk3 4 x : Nat) : Int) + ((pk3 4 x / 2 ^ 8 : Nat) : Int) = ((pk3 4 x + pk3 4 x / 256 : Nat) : Int) by omega]
  refine g_istore_n C dJ6_bitCount_0f7a4_40 (by decide) rfl ?_
  refine g_iload_n C dJ6_bitCount_0f7a4_41 rfl ?_
  refine g_iload_n C dJ6_bitCount_0f7a4_42 rfl ?_
  refine g_bipush C dJ6_bitCount_0f7a4_43 (by decide) ?_
  refine g_iushr (z := _) C dJ6_bitCount_0f7a4_45 (iN_ushr 16 (by omega) (by omega) (by decide)) ?_
  refine g_iadd C dJ6_bitCount_0f7a4_46 ?_
  rw [show ((pk3 4 x + pk3 4 x / 256 : Nat) : Int) + (((pk3 4 x + pk3 4 x / 256) / 2 ^ 16 : Nat) : Int) = ((pk3 4 x + pk3 4 x / 256 + (pk3 4 x + pk3 4 x / 256) / 65536 : Nat) : Int) by omega]
  refine g_istore_n C dJ6_bitCount_0f7a4_47 (by decide) rfl ?_
  refine g_iload_n C dJ6_bitCount_0f7a4_48 rfl ?_
  refine g_bipush C dJ6_bitCount_0f7a4_49 (by decide) ?_
  rw [show (63 : Int) = ((63 : Nat) : Int) from rfl]
  refine g_iand (z := _) C dJ6_bitCount_0f7a4_51 (iN_and _ 63) ?_
  have e51 : ((pk3 4 x + pk3 4 x / 256 + (pk3 4 x + pk3 4 x / 256) / 65536) &&& 63) = onN 32 x := by
    rw [show ((pk3 4 x + pk3 4 x / 256 + (pk3 4 x + pk3 4 x / 256) / 65536) &&& 63) = (pk3 4 x + pk3 4 x / 256 + (pk3 4 x + pk3 4 x / 256) / 65536) % 64 from Nat.and_two_pow_sub_one_eq_mod _ 6]
    have d1 : pk3 4 x / 256 = h1 + 256 * h2 + 65536 * h3 := by omega
    have d2 : (pk3 4 x + pk3 4 x / 256) / 65536 = h2 + h3 + 256 * h3 := by rw [d1, e9]; omega
    rw [d2, d1, e9, e8]
    omega
  exact g_ireturn C hQ dJ6_bitCount_0f7a4_52 (Nat.le_refl _) (Nat.le_refl _) ⟨by rw [e51], rfl⟩
theorem dd {x y : Int} {s : Nat} (t : Nat) (h : y = x / 2 ^ s) : y / 2 ^ t = x / 2 ^ (s + t) := by
  rw [h, Int.ediv_ediv_of_nonneg (Int.le_of_lt (p2_pos s)), ← Int.pow_add]
theorem nlz_fin {x y : Int} {s : Nat} (h : y = x / 2 ^ s) (h1 : 1 ≤ y) (h3 : y < 4) : ∃ k : Nat, (s : Int) + y / 2 ^ 1 = k ∧ 2 ^ k ≤ x ∧ x < 2 ^ (k + 1) := by
  have hp := p2_pos s
  have e := Int.mul_ediv_add_emod x (2 ^ s)
  have e1 := Int.emod_nonneg x (show (2 : Int) ^ s ≠ 0 by omega)
  have e2 := Int.emod_lt_of_pos x hp
  rw [← h] at e
  have s1 : (2 : Int) ^ (s + 1) = 2 ^ s * 2 := Int.pow_succ ..
  have s2 : (2 : Int) ^ (s + 1 + 1) = 2 ^ s * 2 * 2 := by rw [Int.pow_succ, s1]
  generalize (2 : Int) ^ s = p at *
  rcases (show y = 1 ∨ y = 2 ∨ y = 3 by omega) with q | q | q
  · subst q; exact ⟨s, by omega, by omega, by omega⟩
  · subst q; exact ⟨s + 1, by omega, by omega, by omega⟩
  · subst q; exact ⟨s + 1, by omega, by omega, by omega⟩
set_option maxHeartbeats 4000000 in
set_option maxRecDepth 100000 in
theorem v_J6_numberOfLeadingZeros_0f7a4 (l : Launch) {E : GE} {w : Wd} {x : Int} (hx : 0 < x ∧ x < 2147483648) : Sp E l yJ6_numberOfLeadingZeros_0f7a4 cJ6_numberOfLeadingZeros_0f7a4 2 (some .int) 0 (0) (0) [iI x] w (fun r' w' => (∃ k : Nat, r' = some (iI (31 - (k : Int))) ∧ 2 ^ k ≤ x ∧ x < 2 ^ (k + 1)) ∧ w' = w) := by
  refine sp_intro [some (iI x), none] rfl (Nat.le_of_ble_eq_true rfl) pn_J6 ?_
  intro X C hRm hl hnm hQ
  obtain ⟨hRf, hRl, hRc, hRs⟩ := hRm
  refine g_wf (fun hwf => ?_)
  refine g_iload_n C dJ6_numberOfLeadingZeros_0f7a4_0 rfl ?_
  refine g_if_gt (tgt := 15) C dJ6_numberOfLeadingZeros_0f7a4_1 (by decide) (by omega) (fun h1 => ?_) (fun h1 => ?_)
  · refine g_bipush C dJ6_numberOfLeadingZeros_0f7a4_15 (by decide) ?_
    refine g_istore_n C dJ6_numberOfLeadingZeros_0f7a4_17 (by decide) rfl ?_
    have J33 : ∀ (y n : Int) (s : Nat), 1 ≤ y → y < 65536 → n = 31 - (s : Int) → s ≤ 16 → y = x / 2 ^ s → G E X 2 33 [some (iI y), some (iI n)] [] w 0 0 := by
      intro y n s h1 h2 h3 h4 hy
      have J48 : ∀ (y n : Int) (s : Nat), 1 ≤ y → y < 256 → n = 31 - (s : Int) → s ≤ 24 → y = x / 2 ^ s → G E X 2 48 [some (iI y), some (iI n)] [] w 0 0 := by
        intro y n s h1 h2 h3 h4 hy
        have J61 : ∀ (y n : Int) (s : Nat), 1 ≤ y → y < 16 → n = 31 - (s : Int) → s ≤ 28 → y = x / 2 ^ s → G E X 2 61 [some (iI y), some (iI n)] [] w 0 0 := by
          intro y n s h1 h2 h3 h4 hy
          have J73 : ∀ (y n : Int) (s : Nat), 1 ≤ y → y < 4 → n = 31 - (s : Int) → s ≤ 30 → y = x / 2 ^ s → G E X 2 73 [some (iI y), some (iI n)] [] w 0 0 := by
            intro y n s h1 h2 h3 h4 hy
            refine g_iload_n C dJ6_numberOfLeadingZeros_0f7a4_73 rfl ?_
            refine g_iload_n C dJ6_numberOfLeadingZeros_0f7a4_74 rfl ?_
            refine g_iconst C dJ6_numberOfLeadingZeros_0f7a4_75 ?_
            refine g_iushr (z := _) C dJ6_numberOfLeadingZeros_0f7a4_76 (i_ushr 1 (by omega) (by omega) (by decide)) ?_
            refine g_isub C dJ6_numberOfLeadingZeros_0f7a4_77 ?_
            exact g_ireturn C hQ dJ6_numberOfLeadingZeros_0f7a4_78 (Nat.le_refl _) (Nat.le_refl _) (by
              obtain ⟨k, g1, g2, g3⟩ := nlz_fin hy h1 h2
              exact ⟨⟨k, by rw [show n - y / 2 ^ 1 = 31 - (k : Int) by omega], g2, g3⟩, rfl⟩)
          refine g_iload_n C dJ6_numberOfLeadingZeros_0f7a4_61 rfl ?_
          refine g_iconst C dJ6_numberOfLeadingZeros_0f7a4_62 ?_
          refine g_icmp_lt (tgt := 73) C dJ6_numberOfLeadingZeros_0f7a4_63 (by decide) (by omega) (by omega) (fun h63 => ?_) (fun h63 => ?_)
          · first | exact J73 y n s h1 (by omega) h3 (by omega) hy | exact J73 (y / 2 ^ 2) (n + -2) (s + 2) (by omega) (by omega) (by omega) (by omega) (dd 2 hy)
          · refine g_iinc C dJ6_numberOfLeadingZeros_0f7a4_66 rfl (by decide) rfl ?_
            refine g_iload_n C dJ6_numberOfLeadingZeros_0f7a4_69 rfl ?_
            refine g_iconst C dJ6_numberOfLeadingZeros_0f7a4_70 ?_
            refine g_iushr (z := _) C dJ6_numberOfLeadingZeros_0f7a4_71 (i_ushr 2 (by omega) (by omega) (by decide)) ?_
            refine g_istore_n C dJ6_numberOfLeadingZeros_0f7a4_72 (by decide) rfl ?_
            first | exact J73 y n s h1 (by omega) h3 (by omega) hy | exact J73 (y / 2 ^ 2) (n + -2) (s + 2) (by omega) (by omega) (by omega) (by omega) (dd 2 hy)
        refine g_iload_n C dJ6_numberOfLeadingZeros_0f7a4_48 rfl ?_
        refine g_bipush C dJ6_numberOfLeadingZeros_0f7a4_49 (by decide) ?_
        refine g_icmp_lt (tgt := 61) C dJ6_numberOfLeadingZeros_0f7a4_51 (by decide) (by omega) (by omega) (fun h51 => ?_) (fun h51 => ?_)
        · first | exact J61 y n s h1 (by omega) h3 (by omega) hy | exact J61 (y / 2 ^ 4) (n + -4) (s + 4) (by omega) (by omega) (by omega) (by omega) (dd 4 hy)
        · refine g_iinc C dJ6_numberOfLeadingZeros_0f7a4_54 rfl (by decide) rfl ?_
          refine g_iload_n C dJ6_numberOfLeadingZeros_0f7a4_57 rfl ?_
          refine g_iconst C dJ6_numberOfLeadingZeros_0f7a4_58 ?_
          refine g_iushr (z := _) C dJ6_numberOfLeadingZeros_0f7a4_59 (i_ushr 4 (by omega) (by omega) (by decide)) ?_
          refine g_istore_n C dJ6_numberOfLeadingZeros_0f7a4_60 (by decide) rfl ?_
          first | exact J61 y n s h1 (by omega) h3 (by omega) hy | exact J61 (y / 2 ^ 4) (n + -4) (s + 4) (by omega) (by omega) (by omega) (by omega) (dd 4 hy)
      refine g_iload_n C dJ6_numberOfLeadingZeros_0f7a4_33 rfl ?_
      refine g_sipush C dJ6_numberOfLeadingZeros_0f7a4_34 (by decide) ?_
      refine g_icmp_lt (tgt := 48) C dJ6_numberOfLeadingZeros_0f7a4_37 (by decide) (by omega) (by omega) (fun h37 => ?_) (fun h37 => ?_)
      · first | exact J48 y n s h1 (by omega) h3 (by omega) hy | exact J48 (y / 2 ^ 8) (n + -8) (s + 8) (by omega) (by omega) (by omega) (by omega) (dd 8 hy)
      · refine g_iinc C dJ6_numberOfLeadingZeros_0f7a4_40 rfl (by decide) rfl ?_
        refine g_iload_n C dJ6_numberOfLeadingZeros_0f7a4_43 rfl ?_
        refine g_bipush C dJ6_numberOfLeadingZeros_0f7a4_44 (by decide) ?_
        refine g_iushr (z := _) C dJ6_numberOfLeadingZeros_0f7a4_46 (i_ushr 8 (by omega) (by omega) (by decide)) ?_
        refine g_istore_n C dJ6_numberOfLeadingZeros_0f7a4_47 (by decide) rfl ?_
        first | exact J48 y n s h1 (by omega) h3 (by omega) hy | exact J48 (y / 2 ^ 8) (n + -8) (s + 8) (by omega) (by omega) (by omega) (by omega) (dd 8 hy)
    refine g_iload_n C dJ6_numberOfLeadingZeros_0f7a4_18 rfl ?_
    refine g_ldcw (z := 65536) C ko_RJ6_264 (by decide) dJ6_numberOfLeadingZeros_0f7a4_19 ?_
    refine g_icmp_lt (tgt := 33) C dJ6_numberOfLeadingZeros_0f7a4_22 (by decide) (by omega) (by omega) (fun h22 => ?_) (fun h22 => ?_)
    · first | exact J33 x 31 0 (by omega) (by omega) rfl (by omega) (by rw [Int.pow_zero, Int.ediv_one]) | exact J33 (x / 2 ^ 16) (31 + -16) 16 (by omega) (by omega) rfl (by omega) rfl
    · refine g_iinc C dJ6_numberOfLeadingZeros_0f7a4_25 rfl (by decide) rfl ?_
      refine g_iload_n C dJ6_numberOfLeadingZeros_0f7a4_28 rfl ?_
      refine g_bipush C dJ6_numberOfLeadingZeros_0f7a4_29 (by decide) ?_
      refine g_iushr (z := _) C dJ6_numberOfLeadingZeros_0f7a4_31 (i_ushr 16 (by omega) (by omega) (by decide)) ?_
      refine g_istore_n C dJ6_numberOfLeadingZeros_0f7a4_32 (by decide) rfl ?_
      first | exact J33 x 31 0 (by omega) (by omega) rfl (by omega) (by rw [Int.pow_zero, Int.ediv_one]) | exact J33 (x / 2 ^ 16) (31 + -16) 16 (by omega) (by omega) rfl (by omega) rfl
  · omega
theorem ntz_and {q k : Nat} : (Int32.ofInt ((2 ^ k * (2 * q + 1) : Nat) : Int) ^^^ Int32.ofInt (-1)) &&& Int32.ofInt (((2 ^ k * (2 * q + 1) : Nat) : Int) - 1) = Int32.ofInt ((2 ^ k - 1 : Nat) : Int) := by
  have hp : 0 < 2 ^ k := Nat.pow_pos (by decide)
  have e1 : ((2 ^ k * (2 * q + 1) : Nat) : Int) - 1 = ((2 ^ (k + 1) * q + (2 ^ k - 1) : Nat) : Int) := by
    have : 2 ^ k * (2 * q + 1) = 2 ^ (k + 1) * q + 2 ^ k := by rw [Nat.mul_add, Nat.pow_succ, Nat.mul_one, Nat.mul_assoc]
    omega
  have e2 : 2 ^ k * (2 * q + 1) = 2 ^ (k + 1) * q + 2 ^ k := by rw [Nat.mul_add, Nat.pow_succ, Nat.mul_one, Nat.mul_assoc]
  rw [e1, e2]
  apply Int32.toBitVec_inj.mp
  show (BitVec.ofInt 32 _ ^^^ BitVec.allOnes 32) &&& BitVec.ofInt 32 _ = BitVec.ofInt 32 _
  rw [BitVec.ofInt_natCast, BitVec.ofInt_natCast, BitVec.ofInt_natCast]
  apply BitVec.eq_of_getLsbD_eq
  intro i hi
  have hp1 : 2 ^ (k + 1) = 2 ^ k * 2 := Nat.pow_succ ..
  simp only [BitVec.getLsbD_and, BitVec.getLsbD_xor, BitVec.getLsbD_allOnes, BitVec.getLsbD_ofNat, hi, decide_true, Bool.true_and]
  rw [Nat.testBit_two_pow_mul_add _ (by omega : 2 ^ k < 2 ^ (k + 1)), Nat.testBit_two_pow_mul_add _ (by omega : 2 ^ k - 1 < 2 ^ (k + 1)), Nat.testBit_two_pow_sub_one, Nat.testBit_two_pow]
  by_cases c : i < k
  · have c1 : i < k + 1 := by omega
    have c2 : k ≠ i := by omega
    simp [c, c1, c2]
  · by_cases d : i = k
    · subst d
      simp
    · have c1 : ¬ i < k + 1 := by omega
      simp [c, c1]
theorem odd_part : ∀ (n : Nat), 0 < n → ∃ k q : Nat, n = 2 ^ k * (2 * q + 1) := by
  intro n
  induction n using Nat.strongRecOn with
  | ind n ih =>
    intro hn
    rcases (show n % 2 = 1 ∨ n % 2 = 0 by omega) with h | h
    · exact ⟨0, n / 2, by rw [Nat.pow_zero]; omega⟩
    · obtain ⟨k, q, e⟩ := ih (n / 2) (by omega) (by omega)
      refine ⟨k + 1, q, ?_⟩
      rw [Nat.pow_succ, Nat.mul_assoc, Nat.mul_comm 2, ← Nat.mul_assoc, ← e]
      omega
theorem p2_sub {j t : Nat} (h : t ≤ j) : ((2 : Int) ^ j - 1) / 2 ^ t = 2 ^ (j - t) - 1 := by
  obtain ⟨u, rfl⟩ : ∃ u, j = t + u := ⟨j - t, by omega⟩
  have ht := p2_pos t
  rw [Nat.add_sub_cancel_left, Int.pow_add]
  have e : (2 : Int) ^ t * 2 ^ u - 1 = (2 ^ t - 1) + 2 ^ t * (2 ^ u - 1) := by grind
  rw [e, Int.add_mul_ediv_left _ _ (by omega), Int.ediv_eq_zero_of_lt (by omega) (by omega), Int.zero_add]
theorem p2_cap {j t : Nat} {c : Int} (h : (2 : Int) ^ j - 1 ≤ c) (hc : c < 2 ^ (t + 1) - 1) : j ≤ t := by
  rcases Nat.lt_or_ge t j with q | q
  · have := p2_le (show t + 1 ≤ j by omega); omega
  · exact q
theorem p2_flo {j t : Nat} {c : Int} (h : c < (2 : Int) ^ j - 1) (hc : 2 ^ t - 1 ≤ c) : t < j := by
  rcases Nat.lt_or_ge t j with q | q
  · exact q
  · have := p2_le q; omega
set_option maxHeartbeats 4000000 in
set_option maxRecDepth 100000 in
theorem v_J6_numberOfTrailingZeros_0f7a4 (l : Launch) {E : GE} {w : Wd} {k q : Nat} (hx : 2 ^ k * (2 * q + 1) < 2147483648) : Sp E l yJ6_numberOfTrailingZeros_0f7a4 cJ6_numberOfTrailingZeros_0f7a4 2 (some .int) 0 (0) (0) [iI ((2 ^ k * (2 * q + 1) : Nat) : Int)] w (fun r' w' => r' = some (iI (k : Int)) ∧ w' = w) := by
  refine sp_intro [some (iI ((2 ^ k * (2 * q + 1) : Nat) : Int)), none] rfl (Nat.le_of_ble_eq_true rfl) pn_J6 ?_
  intro X C hRm hl hnm hQ
  obtain ⟨hRf, hRl, hRc, hRs⟩ := hRm
  refine g_wf (fun hwf => ?_)
  have hk31 : k < 31 := by
    rcases Nat.lt_or_ge k 31 with c | c
    · exact c
    · have h1 : 2 ^ 31 ≤ 2 ^ k := Nat.pow_le_pow_right (by decide) c
      have h2 := Nat.mul_le_mul h1 (show 1 ≤ 2 * q + 1 by omega)
      omega
  have hkb : 2 ^ k < 2147483648 := by
    have h1 : 2 ^ k ≤ 2 ^ 30 := Nat.pow_le_pow_right (by decide) (show k ≤ 30 by omega)
    omega
  have hk1 : 0 < 2 ^ k := Nat.pow_pos (by decide)
  obtain ⟨z2, hz2, -, -⟩ := gen32 (Int32.ofInt ((2 ^ k * (2 * q + 1) : Nat) : Int) ^^^ Int32.ofInt (-1))
  have hz6 : Int32.ofInt z2 &&& Int32.ofInt (((2 ^ k * (2 * q + 1) : Nat) : Int) - 1) = Int32.ofInt ((2 ^ k - 1 : Nat) : Int) := by rw [← hz2]; exact ntz_and
  refine g_iload_n C dJ6_numberOfTrailingZeros_0f7a4_0 rfl ?_
  refine g_iconst C dJ6_numberOfTrailingZeros_0f7a4_1 ?_
  refine g_ixor (z := z2) C dJ6_numberOfTrailingZeros_0f7a4_2 hz2 ?_
  refine g_iload_n C dJ6_numberOfTrailingZeros_0f7a4_3 rfl ?_
  refine g_iconst C dJ6_numberOfTrailingZeros_0f7a4_4 ?_
  refine g_isub C dJ6_numberOfTrailingZeros_0f7a4_5 ?_
  refine g_iand (z := ((2 ^ k - 1 : Nat) : Int)) C dJ6_numberOfTrailingZeros_0f7a4_6 hz6 ?_
  refine g_istore_n C dJ6_numberOfTrailingZeros_0f7a4_7 (by decide) rfl ?_
  refine g_iload_n C dJ6_numberOfTrailingZeros_0f7a4_8 rfl ?_
  refine g_if_gt (tgt := 17) C dJ6_numberOfTrailingZeros_0f7a4_9 (by decide) (by omega) (fun h9 => ?_) (fun h9 => ?_)
  · have hk0 : 1 ≤ k := by
      rcases Nat.eq_zero_or_pos k with c | c
      · subst c; omega
      · exact c
    have hkc : ((2 ^ k - 1 : Nat) : Int) = (2 : Int) ^ k - 1 := by
      have e : ((2 ^ k : Nat) : Int) = (2 : Int) ^ k := by simp
      omega
    have hkd := p2_le (show k ≤ 30 by omega)
    rw [hkc]
    refine g_iconst C dJ6_numberOfTrailingZeros_0f7a4_17 ?_
    refine g_istore_n C dJ6_numberOfTrailingZeros_0f7a4_18 (by decide) rfl ?_
    have J34 : ∀ (j : Nat) (n : Int), 1 ≤ j → j ≤ 16 → n = 1 + (k : Int) - j → G E X 2 34 [some (iI (2 ^ j - 1)), some (iI n)] [] w 0 0 := by
      intro j n h1 h2 h3
      have hj0 := p2_le h1
      have hj1 := p2_le h2
      have J49 : ∀ (j : Nat) (n : Int), 1 ≤ j → j ≤ 8 → n = 1 + (k : Int) - j → G E X 2 49 [some (iI (2 ^ j - 1)), some (iI n)] [] w 0 0 := by
        intro j n h1 h2 h3
        have hj0 := p2_le h1
        have hj1 := p2_le h2
        have J62 : ∀ (j : Nat) (n : Int), 1 ≤ j → j ≤ 4 → n = 1 + (k : Int) - j → G E X 2 62 [some (iI (2 ^ j - 1)), some (iI n)] [] w 0 0 := by
          intro j n h1 h2 h3
          have hj0 := p2_le h1
          have hj1 := p2_le h2
          have J74 : ∀ (j : Nat) (n : Int), 1 ≤ j → j ≤ 2 → n = 1 + (k : Int) - j → G E X 2 74 [some (iI (2 ^ j - 1)), some (iI n)] [] w 0 0 := by
            intro j n h1 h2 h3
            have hj0 := p2_le h1
            have hj1 := p2_le h2
            refine g_iload_n C dJ6_numberOfTrailingZeros_0f7a4_74 rfl ?_
            refine g_iload_n C dJ6_numberOfTrailingZeros_0f7a4_75 rfl ?_
            refine g_iconst C dJ6_numberOfTrailingZeros_0f7a4_76 ?_
            refine g_iushr (z := _) C dJ6_numberOfTrailingZeros_0f7a4_77 (i_ushr 1 (by omega) (by omega) (by decide)) ?_
            refine g_iadd C dJ6_numberOfTrailingZeros_0f7a4_78 ?_
            exact g_ireturn C hQ dJ6_numberOfTrailingZeros_0f7a4_79 (Nat.le_refl _) (Nat.le_refl _) (by
              refine ⟨?_, rfl⟩
              rcases (show j = 1 ∨ j = 2 by omega) with q | q
              · subst q; rw [show n + ((2 : Int) ^ 1 - 1) / 2 ^ 1 = (k : Int) by omega]
              · subst q; rw [show n + ((2 : Int) ^ 2 - 1) / 2 ^ 1 = (k : Int) by omega])
          refine g_iload_n C dJ6_numberOfTrailingZeros_0f7a4_62 rfl ?_
          refine g_iconst C dJ6_numberOfTrailingZeros_0f7a4_63 ?_
          refine g_icmp_le (tgt := 74) C dJ6_numberOfTrailingZeros_0f7a4_64 (by decide) (by omega) (by omega) (fun h64 => ?_) (fun h64 => ?_)
          · first
            | exact J74 j n (by omega) (p2_cap (c := 4) (by omega) (by decide)) (by omega)
            | (have h9 : 2 < j := p2_flo (c := 4) (by omega) (by decide)
               rw [p2_sub (show 2 ≤ j by omega)]
               exact J74 (j - 2) _ (by omega) (by omega) (by omega))
          · refine g_iinc C dJ6_numberOfTrailingZeros_0f7a4_67 rfl (by decide) rfl ?_
            refine g_iload_n C dJ6_numberOfTrailingZeros_0f7a4_70 rfl ?_
            refine g_iconst C dJ6_numberOfTrailingZeros_0f7a4_71 ?_
            refine g_iushr (z := _) C dJ6_numberOfTrailingZeros_0f7a4_72 (i_ushr 2 (by omega) (by omega) (by decide)) ?_
            refine g_istore_n C dJ6_numberOfTrailingZeros_0f7a4_73 (by decide) rfl ?_
            first
            | exact J74 j n (by omega) (p2_cap (c := 4) (by omega) (by decide)) (by omega)
            | (have h9 : 2 < j := p2_flo (c := 4) (by omega) (by decide)
               rw [p2_sub (show 2 ≤ j by omega)]
               exact J74 (j - 2) _ (by omega) (by omega) (by omega))
        refine g_iload_n C dJ6_numberOfTrailingZeros_0f7a4_49 rfl ?_
        refine g_bipush C dJ6_numberOfTrailingZeros_0f7a4_50 (by decide) ?_
        refine g_icmp_le (tgt := 62) C dJ6_numberOfTrailingZeros_0f7a4_52 (by decide) (by omega) (by omega) (fun h52 => ?_) (fun h52 => ?_)
        · first
          | exact J62 j n (by omega) (p2_cap (c := 16) (by omega) (by decide)) (by omega)
          | (have h9 : 4 < j := p2_flo (c := 16) (by omega) (by decide)
             rw [p2_sub (show 4 ≤ j by omega)]
             exact J62 (j - 4) _ (by omega) (by omega) (by omega))
        · refine g_iinc C dJ6_numberOfTrailingZeros_0f7a4_55 rfl (by decide) rfl ?_
          refine g_iload_n C dJ6_numberOfTrailingZeros_0f7a4_58 rfl ?_
          refine g_iconst C dJ6_numberOfTrailingZeros_0f7a4_59 ?_
          refine g_iushr (z := _) C dJ6_numberOfTrailingZeros_0f7a4_60 (i_ushr 4 (by omega) (by omega) (by decide)) ?_
          refine g_istore_n C dJ6_numberOfTrailingZeros_0f7a4_61 (by decide) rfl ?_
          first
          | exact J62 j n (by omega) (p2_cap (c := 16) (by omega) (by decide)) (by omega)
          | (have h9 : 4 < j := p2_flo (c := 16) (by omega) (by decide)
             rw [p2_sub (show 4 ≤ j by omega)]
             exact J62 (j - 4) _ (by omega) (by omega) (by omega))
      refine g_iload_n C dJ6_numberOfTrailingZeros_0f7a4_34 rfl ?_
      refine g_sipush C dJ6_numberOfTrailingZeros_0f7a4_35 (by decide) ?_
      refine g_icmp_le (tgt := 49) C dJ6_numberOfTrailingZeros_0f7a4_38 (by decide) (by omega) (by omega) (fun h38 => ?_) (fun h38 => ?_)
      · first
        | exact J49 j n (by omega) (p2_cap (c := 256) (by omega) (by decide)) (by omega)
        | (have h9 : 8 < j := p2_flo (c := 256) (by omega) (by decide)
           rw [p2_sub (show 8 ≤ j by omega)]
           exact J49 (j - 8) _ (by omega) (by omega) (by omega))
      · refine g_iinc C dJ6_numberOfTrailingZeros_0f7a4_41 rfl (by decide) rfl ?_
        refine g_iload_n C dJ6_numberOfTrailingZeros_0f7a4_44 rfl ?_
        refine g_bipush C dJ6_numberOfTrailingZeros_0f7a4_45 (by decide) ?_
        refine g_iushr (z := _) C dJ6_numberOfTrailingZeros_0f7a4_47 (i_ushr 8 (by omega) (by omega) (by decide)) ?_
        refine g_istore_n C dJ6_numberOfTrailingZeros_0f7a4_48 (by decide) rfl ?_
        first
        | exact J49 j n (by omega) (p2_cap (c := 256) (by omega) (by decide)) (by omega)
        | (have h9 : 8 < j := p2_flo (c := 256) (by omega) (by decide)
           rw [p2_sub (show 8 ≤ j by omega)]
           exact J49 (j - 8) _ (by omega) (by omega) (by omega))
    refine g_iload_n C dJ6_numberOfTrailingZeros_0f7a4_19 rfl ?_
    refine g_ldcw (z := 65536) C ko_RJ6_264 (by decide) dJ6_numberOfTrailingZeros_0f7a4_20 ?_
    refine g_icmp_le (tgt := 34) C dJ6_numberOfTrailingZeros_0f7a4_23 (by decide) (by omega) (by omega) (fun h23 => ?_) (fun h23 => ?_)
    · first
      | exact J34 k 1 (by omega) (p2_cap (c := 65536) (by omega) (by decide)) (by omega)
      | (have h9 : 16 < k := p2_flo (c := 65536) (by omega) (by decide)
         rw [p2_sub (show 16 ≤ k by omega)]
         exact J34 (k - 16) _ (by omega) (by omega) (by omega))
    · refine g_iinc C dJ6_numberOfTrailingZeros_0f7a4_26 rfl (by decide) rfl ?_
      refine g_iload_n C dJ6_numberOfTrailingZeros_0f7a4_29 rfl ?_
      refine g_bipush C dJ6_numberOfTrailingZeros_0f7a4_30 (by decide) ?_
      refine g_iushr (z := _) C dJ6_numberOfTrailingZeros_0f7a4_32 (i_ushr 16 (by omega) (by omega) (by decide)) ?_
      refine g_istore_n C dJ6_numberOfTrailingZeros_0f7a4_33 (by decide) rfl ?_
      first
      | exact J34 k 1 (by omega) (p2_cap (c := 65536) (by omega) (by decide)) (by omega)
      | (have h9 : 16 < k := p2_flo (c := 65536) (by omega) (by decide)
         rw [p2_sub (show 16 ≤ k by omega)]
         exact J34 (k - 16) _ (by omega) (by omega) (by omega))
  · have hk0 : k = 0 := by
      rcases Nat.eq_zero_or_pos k with c | c
      · exact c
      · have h1 : 2 ^ 1 ≤ 2 ^ k := Nat.pow_le_pow_right (by decide) c
        omega
    refine g_iload_n C dJ6_numberOfTrailingZeros_0f7a4_12 rfl ?_
    refine g_bipush C dJ6_numberOfTrailingZeros_0f7a4_13 (by decide) ?_
    refine g_iand (z := 0) C dJ6_numberOfTrailingZeros_0f7a4_15 (by rw [hk0]; decide) ?_
    exact g_ireturn C hQ dJ6_numberOfTrailingZeros_0f7a4_16 (Nat.le_refl _) (Nat.le_refl _) ⟨by rw [hk0]; rfl, rfl⟩
/-! bits of the class's numbers -/
theorem B28_pow (p : Nat) : B28 ^ p = (2 : Int) ^ (28 * p) := by
  rw [Int.pow_mul]; rfl
theorem nv28_bit {F : Nat → Int} {N q r : Nat} (hd : dg B28 F N) (hr : r < 28) : bt (nv B28 F N) (28 * q + r) = if q < N then bt (F q) r else 0 := by
  by_cases h : q < N
  · rw [if_pos h]
    obtain ⟨b, rfl⟩ : ∃ b, N = q + (1 + b) := ⟨N - q - 1, by omega⟩
    have d1 : dg B28 F q := dg_less hd (by omega)
    rw [nv_split q, B28_pow, bt_hi (nv_nonneg (by decide) d1) (by rw [← B28_pow]; exact nv_lt (by decide) d1), nv_split 1 b, B28_pow, bt_lo (by omega)]
    show bt (0 + F (q + 0) * B28 ^ 0) r = _
    rw [Int.pow_zero, Int.mul_one, Int.zero_add, Nat.add_zero]
  · rw [if_neg h]
    exact bt_big (P := 28 * N) (nv_nonneg (by decide) hd) (by rw [← B28_pow]; exact nv_lt (by decide) hd) (by omega)
theorem onB_cg {x y : Int} : ∀ {P : Nat}, (∀ p, p < P → bt x p = bt y p) → onB x P = onB y P
  | 0, _ => rfl
  | P + 1, h => by rw [onB_s, onB_s, onB_cg (fun p hp => h p (by omega)), h P (by omega)]
theorem onB_split {x y : Int} {P : Nat} (h0 : 0 ≤ x) (h1 : x < 2 ^ P) : ∀ Q : Nat, onB (x + 2 ^ P * y) (P + Q) = onB x P + onB y Q
  | 0 => by
    show onB (x + 2 ^ P * y) P = onB x P + 0
    rw [Int.add_zero]
    exact onB_cg (fun p hp => bt_lo hp)
  | Q + 1 => by
    show onB (x + 2 ^ P * y) (P + Q + 1) = _
    rw [onB_s, onB_s, onB_split h0 h1 Q, bt_hi h0 h1]
    omega
theorem onN_B : ∀ (n x : Nat), onB (x : Int) n = ((onN n x : Nat) : Int)
  | 0, x => rfl
  | n + 1, x => by
    have e : (x : Int) = ((x % 2 : Nat) : Int) + 2 ^ 1 * ((x / 2 : Nat) : Int) := by omega
    have h := onB_split (x := ((x % 2 : Nat) : Int)) (y := ((x / 2 : Nat) : Int)) (P := 1) (by omega) (by omega) n
    rw [← e, Nat.add_comm 1 n] at h
    rw [h, onN_B n (x / 2)]
    show (0 + bt ((x % 2 : Nat) : Int) 0) + _ = ((x % 2 + onN n (x / 2) : Nat) : Int)
    unfold bt
    rw [Int.pow_zero]
    omega
theorem on28 {x : Nat} (h : x < 268435456) : ((onN 32 x : Nat) : Int) = onB (x : Int) 28 := by
  rw [← onN_B]
  exact onB_ext (p := 28) (by omega) (by rw [show (2 : Int) ^ 28 = 268435456 by decide]; omega) (by omega)
theorem on_nv {F : Nat → Int} {n : Nat} (hd : dg B28 F (n + 1)) : onB (nv B28 F (n + 1)) (28 * (n + 1)) = onB (nv B28 F n) (28 * n) + onB (F n) 28 := by
  have d1 : dg B28 F n := dg_less hd (by omega)
  have h := onB_split (x := nv B28 F n) (y := F n) (P := 28 * n) (nv_nonneg (by decide) d1) (by rw [← B28_pow]; exact nv_lt (by decide) d1) 28
  rw [nv_succ, B28_pow, Int.mul_comm, show 28 * (n + 1) = 28 * n + 28 by omega]
  exact h
theorem hiB_at {v : Int} {p q : Nat} (h1 : 2 ^ q ≤ v) (h2 : v < 2 ^ (q + 1)) (h3 : v < 2 ^ p) : hiB v p = q := by
  have hq := p2_pos q
  have e : v % 2 ^ p = v := Int.emod_eq_of_lt (by omega) h3
  rcases hiB_len (v := v) (by omega) (p := p) with ⟨a, b⟩ | ⟨q2, a, b, c⟩
  · rw [e] at b; omega
  · rw [e] at b c
    rw [a]
    rcases Nat.lt_trichotomy q q2 with r | r | r
    · have := p2_le (show q + 1 ≤ q2 by omega); omega
    · rw [r]
    · have := p2_le (show q2 + 1 ≤ q by omega); omega
theorem hiB_z (p : Nat) : hiB 0 p = -1 := by
  rcases hiB_len (v := 0) (by omega) (p := p) with ⟨a, -⟩ | ⟨q, -, b, -⟩
  · exact a
  · have := p2_pos q
    rw [Int.zero_emod] at b
    omega
theorem top28 {F : Nat → Int} {n k : Nat} (hd : dg B28 F (n + 1)) (h1 : 2 ^ k ≤ F n) (h2 : F n < 2 ^ (k + 1)) : 2 ^ (28 * n + k) ≤ nv B28 F (n + 1) ∧ nv B28 F (n + 1) < 2 ^ (28 * n + k + 1) := by
  have d1 : dg B28 F n := dg_less hd (by omega)
  have a1 := nv_nonneg (B := B28) (by decide) d1
  have a2 := nv_lt (B := B28) (by decide) d1
  have hp := p2_pos (28 * n)
  rw [nv_succ]
  rw [B28_pow] at a2 ⊢
  have b1 := Int.mul_le_mul_of_nonneg_right h1 (Int.le_of_lt hp)
  have b2 := Int.mul_le_mul_of_nonneg_right (show F n + 1 ≤ 2 ^ (k + 1) by omega) (Int.le_of_lt hp)
  rw [← Int.pow_add] at b1 b2
  rw [Int.add_mul, Int.one_mul] at b2
  rw [show k + 28 * n = 28 * n + k by omega] at b1
  rw [show k + 1 + 28 * n = 28 * n + k + 1 by omega] at b2
  omega
theorem loB_at {v : Int} {q : Nat} (h0 : ∀ p, p < q → bt v p = 0) (h1 : bt v q = 1) : ∀ {p : Nat}, q < p → loB v p = q := by
  have z : ∀ p, p ≤ q → loB v p < 0 := by
    intro p
    induction p with
    | zero => intro _; show (-1 : Int) < 0; decide
    | succ p ih =>
      intro h
      rw [loB_s0 (h0 p (by omega))]
      exact ih (by omega)
  intro p
  induction p with
  | zero => intro h; omega
  | succ p ih =>
    intro h
    rcases Nat.lt_or_ge q p with c | c
    · rw [loB_s2 (by rw [ih c]; omega)]
      exact ih c
    · rw [show p = q by omega]
      exact loB_s1 h1 (z q (Nat.le_refl _))
theorem loB_0 {v : Int} : ∀ {p : Nat}, (∀ q, q < p → bt v q = 0) → loB v p = -1
  | 0, _ => rfl
  | p + 1, h => by
    rw [loB_s0 (h p (by omega))]
    exact loB_0 (fun q hq => h q (by omega))
theorem bt_odd {k q p : Nat} : bt ((2 ^ k * (2 * q + 1) : Nat) : Int) p = if p < k then 0 else if p = k then 1 else bt ((2 ^ k * (2 * q + 1) : Nat) : Int) p := by
  have e : ((2 ^ k * (2 * q + 1) : Nat) : Int) = 0 + 2 ^ k * (2 * (q : Int) + 1) := by simp
  by_cases c : p < k
  · rw [if_pos c, e, bt_lo c]; unfold bt; rw [Int.zero_ediv]; rfl
  · rw [if_neg c]
    by_cases d : p = k
    · rw [if_pos d, d, e]
      have := bt_hi (x := 0) (y := 2 * (q : Int) + 1) (P := k) (p := 0) (by omega) (p2_pos k)
      rw [Nat.add_zero] at this
      rw [this]; unfold bt; rw [Int.pow_zero]; omega
    · rw [if_neg d]
theorem odd28 {x : Int} (h : 0 < x ∧ x < 268435456) : ∃ k q : Nat, x = ((2 ^ k * (2 * q + 1) : Nat) : Int) ∧ k < 28 := by
  obtain ⟨n, rfl⟩ := Int.eq_ofNat_of_zero_le (show 0 ≤ x by omega)
  obtain ⟨k, q, e⟩ := odd_part n (by omega)
  refine ⟨k, q, by rw [e], ?_⟩
  rcases Nat.lt_or_ge k 28 with c | c
  · exact c
  · have h1 : 2 ^ 28 ≤ 2 ^ k := Nat.pow_le_pow_right (by decide) c
    have h2 := Nat.mul_le_mul h1 (show 1 ≤ 2 * q + 1 by omega)
    omega
theorem lo_nv {F : Nat → Int} {n j k : Nat} {q : Nat} (hd : dg B28 F n) (hj : j < n) (hk : k < 28) (h0 : ∀ i, i < j → F i = 0) (he : F j = ((2 ^ k * (2 * q + 1) : Nat) : Int)) : loB (nv B28 F n) (28 * n) = ((28 * j + k : Nat) : Int) := by
  have bz : ∀ p, p < 28 * n → bt (nv B28 F n) p = bt (F (p / 28)) (p % 28) := fun p hp => by
    have := nv28_bit (F := F) (N := n) (q := p / 28) (r := p % 28) hd (by omega)
    rw [show 28 * (p / 28) + p % 28 = p by omega, if_pos (by omega)] at this
    exact this
  refine loB_at (fun p hp => ?_) ?_ (by omega)
  · rw [bz p (by omega)]
    by_cases c : p / 28 < j
    · rw [h0 _ c]; unfold bt; rw [Int.zero_ediv]; rfl
    · rw [show p / 28 = j by omega, he, bt_odd, if_pos (by omega)]
  · rw [bz _ (by omega), show (28 * j + k) / 28 = j by omega, he, bt_odd, if_neg (by omega), if_pos (by omega)]
theorem p504 : (2 : Int) ^ 504 = B28 ^ 18 := (B28_pow 18).symm
set_option maxHeartbeats 4000000 in
set_option maxRecDepth 100000 in
theorem v_X5_bits (l : Launch) {E : GE} {w : Wd} {a r : Nat} {f : Nat → Int} {u : Nat} {bl : Int} (h1 : RA w a r f u bl) : Sp E l yX5_bits cX5_bits 2 (some .int) 1 (0) (0) [.ref a] w (fun r' w' => r' = some (iI (hiB (V18 f) 504 + 1)) ∧ w' = w) := by
  refine sp_intro [some (.ref a), none] rfl (Nat.le_of_ble_eq_true rfl) pn_X5 ?_
  intro X C hRm hl hnm hQ
  obtain ⟨hRf, hRl, hRc, hRs⟩ := hRm
  refine g_wf (fun hwf => ?_)
  have hB28 : B28 = 268435456 := rfl
  have hne := h1.ne
  obtain ⟨hO, hR, hf, hbl⟩ := id h1
  have hu18 := hf.2.1
  have hval := hf.val
  have hlt := hf.lt
  refine g_aload_n C dX5_bits_0 rfl ?_
  refine g_get (ci := 7) C rfl inTX5 1 (by decide) fl_RX5_17 rfl hO rfl dX5_bits_1 ?_
  refine g_iconst C dX5_bits_4 ?_
  refine g_icmp_lt (tgt := 17) C dX5_bits_5 (by decide) (by omega) (by omega) (fun h5 => ?_) (fun h5 => ?_)
  · refine g_iconst C dX5_bits_17 ?_
    exact g_ireturn C hQ dX5_bits_18 (Nat.le_refl _) (Nat.le_refl _) ⟨by rw [hf.zero.mpr (by omega), hiB_z]; rfl, rfl⟩
  · refine g_aload_n C dX5_bits_8 rfl ?_
    refine g_get (ci := 7) C rfl inTX5 1 (by decide) fl_RX5_17 rfl hO rfl dX5_bits_9 ?_
    refine g_bipush C dX5_bits_12 (by decide) ?_
    refine g_icmp_le (tgt := 19) C dX5_bits_14 (by decide) (by omega) (by omega) (fun h14 => ?_) (fun h14 => ?_)
    · obtain ⟨t, rfl⟩ : ∃ t : Nat, u = t + 1 := ⟨u - 1, by omega⟩
      have hft := hf.1 t (by omega)
      have hft0 := hf.2.2.2 (by omega)
      rw [Nat.add_sub_cancel] at hft0
      have hfu : 0 < f t ∧ f t < 2147483648 := by omega
      refine g_bipush C dX5_bits_19 (by decide) ?_
      refine g_aload_n C dX5_bits_21 rfl ?_
      refine g_get (ci := 7) C rfl inTX5 0 (by decide) fl_RX5_9 rfl hO rfl dX5_bits_22 ?_
      refine g_aload_n C dX5_bits_25 rfl ?_
      refine g_get (ci := 7) C rfl inTX5 1 (by decide) fl_RX5_17 rfl hO rfl dX5_bits_26 ?_
      refine g_iconst C dX5_bits_29 ?_
      refine g_isub C dX5_bits_30 ?_
      rw [show ((t + 1 : Nat) : Int) - 1 = (t : Int) by omega]
      refine g_ialoadN (t) C hR (by omega) (by omega) dX5_bits_31 ?_
      refine g_callS C (v_J6_numberOfLeadingZeros_0f7a4 _ hfu) ml_RX5_70 sm_yJ6_numberOfLeadingZeros_0f7a4 in_RJ6 co_yJ6_numberOfLeadingZeros_0f7a4 hd_J6_numberOfLeadingZeros_0f7a4 rfl ⟨by omega, by omega⟩ rfl (Nat.le_of_ble_eq_true rfl) ⟨by omega, by omega⟩ dX5_bits_32 (fun v32 w32 hp32 => ?_)
      obtain ⟨hd32, hw32⟩ := hp32
      subst w32
      obtain ⟨k, rfl, k1, k2⟩ := hd32
      refine g_isub C dX5_bits_35 ?_
      refine g_istore_n C dX5_bits_36 (by decide) rfl ?_
      refine g_aload_n C dX5_bits_37 rfl ?_
      refine g_get (ci := 7) C rfl inTX5 1 (by decide) fl_RX5_17 rfl hO rfl dX5_bits_38 ?_
      refine g_iconst C dX5_bits_41 ?_
      refine g_isub C dX5_bits_42 ?_
      refine g_bipush C dX5_bits_43 (by decide) ?_
      refine g_imul C dX5_bits_45 ?_
      refine g_iload_n C dX5_bits_46 rfl ?_
      refine g_iadd C dX5_bits_47 ?_
      exact g_ireturn C hQ dX5_bits_48 (Nat.le_refl _) (Nat.le_refl _) (by
        obtain ⟨t1, t2⟩ := top28 (n := t) (hf.1.dg (by omega)) k1 k2
        rw [← hval] at t1 t2
        have hz := hiB_at t1 t2 (p := 504) (by rw [p504]; exact Int.lt_of_lt_of_le hlt (pw28_le hu18))
        refine ⟨?_, rfl⟩
        rw [hz]
        congr 2
        omega)
    · omega
set_option maxHeartbeats 4000000 in
set_option maxRecDepth 100000 in
theorem v_X5_ones (l : Launch) {E : GE} {w : Wd} {a r : Nat} {f : Nat → Int} {u : Nat} {bl : Int} (h1 : RA w a r f u bl) : Sp E l yX5_ones cX5_ones 3 (some .int) 1 (0) (0) [.ref a] w (fun r' w' => r' = some (iI (onB (V18 f) 504)) ∧ w' = w) := by
  refine sp_intro [some (.ref a), none, none] rfl (Nat.le_of_ble_eq_true rfl) pn_X5 ?_
  intro X C hRm hl hnm hQ
  obtain ⟨hRf, hRl, hRc, hRs⟩ := hRm
  refine g_wf (fun hwf => ?_)
  have hB28 : B28 = 268435456 := rfl
  have hne := h1.ne
  obtain ⟨hO, hR, hf, hbl⟩ := id h1
  have hu18 := hf.2.1
  refine g_iconst C dX5_ones_0 ?_
  refine g_istore_n C dX5_ones_1 (by decide) rfl ?_
  refine g_iconst C dX5_ones_2 ?_
  refine g_istore_n C dX5_ones_3 (by decide) rfl ?_
  refine g_loop (σ := Nat × Int) (fun s => s.1 ≤ 18 ∧ s.2 = onB (nv B28 f s.1) (28 * s.1)) (fun s => G E X 3 4 [some (.ref a), some (iI s.2), some (iI (s.1 : Int))] [] w 0 0) (fun s => 18 - s.1) ?_ (0, 0) ⟨by dsimp only; omega, rfl⟩
  rintro ⟨j, c⟩ ⟨hj, hc⟩ ih
  dsimp only at hj hc ⊢
  refine g_iload_n C dX5_ones_4 rfl ?_
  refine g_bipush C dX5_ones_5 (by decide) ?_
  refine g_icmp_ge (tgt := 28) C dX5_ones_7 (by decide) (by omega) (by omega) (fun h7 => ?_) (fun h7 => ?_)
  · refine g_iload_n C dX5_ones_28 rfl ?_
    exact g_ireturn C hQ dX5_ones_29 (Nat.le_refl _) (Nat.le_refl _) ⟨by rw [hc, show j = 18 by omega]; rfl, rfl⟩
  · have hfj := hf.1 j (by omega)
    obtain ⟨x, hx⟩ := Int.eq_ofNat_of_zero_le hfj.1
    refine g_iload_n C dX5_ones_10 rfl ?_
    refine g_aload_n C dX5_ones_11 rfl ?_
    refine g_get (ci := 7) C rfl inTX5 0 (by decide) fl_RX5_9 rfl hO rfl dX5_ones_12 ?_
    refine g_iload_n C dX5_ones_15 rfl ?_
    refine g_ialoadN (j) C hR (by omega) (by omega) dX5_ones_16 ?_
    rw [hx]
    refine g_callS C (v_J6_bitCount_0f7a4 _ (x := x) (by omega)) ml_RX5_76 sm_yJ6_bitCount_0f7a4 in_RJ6 co_yJ6_bitCount_0f7a4 hd_J6_bitCount_0f7a4 rfl ⟨by omega, by omega⟩ rfl (Nat.le_of_ble_eq_true rfl) ⟨by omega, by omega⟩ dX5_ones_17 (fun v17 w17 hp17 => ?_)
    obtain ⟨rfl, hw17⟩ := hp17
    subst w17
    rw [on28 (by omega), ← hx]
    refine g_iadd C dX5_ones_20 ?_
    refine g_istore_n C dX5_ones_21 (by decide) rfl ?_
    refine g_iinc C dX5_ones_22 rfl (by decide) rfl ?_
    refine g_goto (tgt := 4) C dX5_ones_25 (by decide) ?_
    exact ih (j + 1, c + onB (f j) 28) ⟨by dsimp only; omega, by dsimp only; rw [hc]; exact (on_nv (hf.1.dg (by omega))).symm⟩ (by dsimp only; omega)
set_option maxHeartbeats 4000000 in
set_option maxRecDepth 100000 in
theorem v_X5_zerosBehind (l : Launch) {E : GE} {w : Wd} {a r : Nat} {f : Nat → Int} {u : Nat} {bl : Int} (h1 : RA w a r f u bl) : Sp E l yX5_zerosBehind cX5_zerosBehind 2 (some .int) 1 (0) (0) [.ref a] w (fun r' w' => r' = some (iI (loB (V18 f) 504)) ∧ w' = w) := by
  refine sp_intro [some (.ref a), none] rfl (Nat.le_of_ble_eq_true rfl) pn_X5 ?_
  intro X C hRm hl hnm hQ
  obtain ⟨hRf, hRl, hRc, hRs⟩ := hRm
  refine g_wf (fun hwf => ?_)
  have hB28 : B28 = 268435456 := rfl
  have hne := h1.ne
  obtain ⟨hO, hR, hf, hbl⟩ := id h1
  have hu18 := hf.2.1
  refine g_iconst C dX5_zerosBehind_0 ?_
  refine g_istore_n C dX5_zerosBehind_1 (by decide) rfl ?_
  refine g_loop (σ := Nat) (fun s => s ≤ 18 ∧ ∀ i, i < s → f i = 0) (fun s => G E X 2 2 [some (.ref a), some (iI (s : Int))] [] w 0 0) (fun s => 18 - s) ?_ 0 ⟨by omega, fun i hi => absurd hi (Nat.not_lt_zero i)⟩
  rintro j ⟨hj, hz⟩ ih
  refine g_iload_n C dX5_zerosBehind_2 rfl ?_
  refine g_bipush C dX5_zerosBehind_3 (by decide) ?_
  refine g_icmp_ge (tgt := 38) C dX5_zerosBehind_5 (by decide) (by omega) (by omega) (fun h5 => ?_) (fun h5 => ?_)
  · refine g_iconst C dX5_zerosBehind_38 ?_
    exact g_ireturn C hQ dX5_zerosBehind_39 (Nat.le_refl _) (Nat.le_refl _) ⟨by
      have hv0 : V18 f = 0 := (nv_zeros (B := B28) (f := f) (m := 0) (n := 18) (by omega) (fun i _ h => hz i (by omega)))
      rw [hv0, loB_0 (fun q _ => by unfold bt; rw [Int.zero_ediv]; rfl)], rfl⟩
  · have hfj := hf.1 j (by omega)
    refine g_aload_n C dX5_zerosBehind_8 rfl ?_
    refine g_get (ci := 7) C rfl inTX5 0 (by decide) fl_RX5_9 rfl hO rfl dX5_zerosBehind_9 ?_
    refine g_iload_n C dX5_zerosBehind_12 rfl ?_
    refine g_ialoadN (j) C hR (by omega) (by omega) dX5_zerosBehind_13 ?_
    refine g_if_eq (tgt := 32) C dX5_zerosBehind_14 (by decide) (by omega) (fun h14 => ?_) (fun h14 => ?_)
    · refine g_iinc C dX5_zerosBehind_32 rfl (by decide) rfl ?_
      refine g_goto (tgt := 2) C dX5_zerosBehind_35 (by decide) ?_
      exact ih (j + 1) ⟨by omega, fun i hi => by
        by_cases c : i = j
        · rw [c]; exact Classical.not_not.mp (by omega)
        · exact hz i (by omega)⟩ (by omega)
    · obtain ⟨k, q, hkq, hk28⟩ := odd28 (x := f j) (by omega)
      have hlo : loB (V18 f) 504 = ((28 * j + k : Nat) : Int) := lo_nv (n := 18) (hf.1.dg (by omega)) (by omega) hk28 hz hkq
      refine g_iload_n C dX5_zerosBehind_17 rfl ?_
      refine g_bipush C dX5_zerosBehind_18 (by decide) ?_
      refine g_imul C dX5_zerosBehind_20 ?_
      refine g_aload_n C dX5_zerosBehind_21 rfl ?_
      refine g_get (ci := 7) C rfl inTX5 0 (by decide) fl_RX5_9 rfl hO rfl dX5_zerosBehind_22 ?_
      refine g_iload_n C dX5_zerosBehind_25 rfl ?_
      refine g_ialoadN (j) C hR (by omega) (by omega) dX5_zerosBehind_26 ?_
      rw [hkq]
      refine g_callS C (v_J6_numberOfTrailingZeros_0f7a4 _ (k := k) (q := q) (by omega)) ml_RX5_79 sm_yJ6_numberOfTrailingZeros_0f7a4 in_RJ6 co_yJ6_numberOfTrailingZeros_0f7a4 hd_J6_numberOfTrailingZeros_0f7a4 rfl ⟨by omega, by omega⟩ rfl (Nat.le_of_ble_eq_true rfl) ⟨by omega, by omega⟩ dX5_zerosBehind_27 (fun v27 w27 hp27 => ?_)
      obtain ⟨rfl, hw27⟩ := hp27
      subst w27
      refine g_iadd C dX5_zerosBehind_30 ?_
      exact g_ireturn C hQ dX5_zerosBehind_31 (Nat.le_refl _) (Nat.le_refl _) ⟨by rw [hlo, show (j : Int) * 28 + (k : Int) = ((28 * j + k : Nat) : Int) by omega], rfl⟩
set_option maxHeartbeats 4000000 in
set_option maxRecDepth 100000 in
theorem v_X5_hasBit (l : Launch) {E : GE} {w : Wd} {a r : Nat} {f : Nat → Int} {u : Nat} {bl : Int} (h1 : RA w a r f u bl) {p : Nat} (hp : p ≤ 1000) : Sp E l yX5_hasBit cX5_hasBit 3 (some .boolean) 0 (0) (0) [.ref a, iI (p : Int)] w (fun r' w' => r' = some (iI (bI (bt (V18 f) p = 1))) ∧ w' = w) := by
  refine sp_intro [some (.ref a), some (iI (p : Int)), none] rfl (Nat.le_of_ble_eq_true rfl) pn_X5 ?_
  intro X C hRm hl hnm hQ
  obtain ⟨hRf, hRl, hRc, hRs⟩ := hRm
  refine g_wf (fun hwf => ?_)
  have hB28 : B28 = 268435456 := rfl
  have hne := h1.ne
  obtain ⟨hO, hR, hf, hbl⟩ := id h1
  have hu18 := hf.2.1
  have hbz := nv28_bit (F := f) (N := 18) (q := p / 28) (r := p % 28) (hf.1.dg (by omega)) (by omega)
  rw [show 28 * (p / 28) + p % 28 = p by omega] at hbz
  obtain ⟨hd1, hd2⟩ := dv28 p
  have h28 : p % 28 < 28 := by omega
  generalize hq : p / 28 = q at hbz hd1
  generalize hr : p % 28 = r9 at hbz hd2 h28
  refine g_iload_n C dX5_hasBit_0 rfl ?_
  refine g_if_ge (tgt := 9) C dX5_hasBit_1 (by decide) (by omega) (fun h1 => ?_) (fun h1 => ?_)
  · refine g_iload_n C dX5_hasBit_9 rfl ?_
    refine g_bipush C dX5_hasBit_10 (by decide) ?_
    refine g_idivN C dX5_hasBit_12 (by omega) (by omega) ?_
    rw [hd1]
    refine g_istore_n C dX5_hasBit_13 (by decide) rfl ?_
    refine g_iload_n C dX5_hasBit_14 rfl ?_
    refine g_bipush C dX5_hasBit_15 (by decide) ?_
    refine g_icmp_ge (tgt := 41) C dX5_hasBit_17 (by decide) (by omega) (by omega) (fun h17 => ?_) (fun h17 => ?_)
    · refine g_iconst C dX5_hasBit_41 ?_
      exact g_zreturn C hQ dX5_hasBit_42 (nar01 (by omega)) (Nat.le_refl _) (Nat.le_refl _) ⟨by
        show _ = some (iI (bI (bt (nv B28 f 18) p = 1)))
        rw [hbz]
        first | rw [if_neg (by omega), bI_f (by decide)] | rw [bI_t (by omega)] | rw [bI_f (by omega)], rfl⟩
    · rw [if_pos (by omega)] at hbz
      have hfj := hf.1 q (by omega)
      have hbt := bt_01 (f q) r9
      refine g_aload_n C dX5_hasBit_20 rfl ?_
      refine g_get (ci := 7) C rfl inTX5 0 (by decide) fl_RX5_9 rfl hO rfl dX5_hasBit_21 ?_
      refine g_iload_n C dX5_hasBit_24 rfl ?_
      refine g_ialoadN (q) C hR (by omega) (by omega) dX5_hasBit_25 ?_
      refine g_iload_n C dX5_hasBit_26 rfl ?_
      refine g_bipush C dX5_hasBit_27 (by decide) ?_
      refine g_iremN C dX5_hasBit_29 (by omega) (by omega) ?_
      rw [hd2]
      refine g_iushr (z := f q / 2 ^ r9) C dX5_hasBit_30 (i_ushr r9 (by omega) (by omega) (shd28 r9 (by omega))) ?_
      refine g_iconst C dX5_hasBit_31 ?_
      refine g_iand (z := bt (f q) r9) C dX5_hasBit_32 (by rw [i_mask 1 (by omega) (by decide), show (2 : Int) ^ 1 = 2 by decide]; rfl) ?_
      refine g_iconst C dX5_hasBit_33 ?_
      refine g_icmp_ne (tgt := 41) C dX5_hasBit_34 (by decide) (by omega) (by omega) (fun h34 => ?_) (fun h34 => ?_)
      · refine g_iconst C dX5_hasBit_41 ?_
        exact g_zreturn C hQ dX5_hasBit_42 (nar01 (by omega)) (Nat.le_refl _) (Nat.le_refl _) ⟨by
          show _ = some (iI (bI (bt (nv B28 f 18) p = 1)))
          rw [hbz]
          first | rw [if_neg (by omega), bI_f (by decide)] | rw [bI_t (by omega)] | rw [bI_f (by omega)], rfl⟩
      · refine g_iconst C dX5_hasBit_37 ?_
        refine g_goto (tgt := 42) C dX5_hasBit_38 (by decide) ?_
        exact g_zreturn C hQ dX5_hasBit_42 (nar01 (by omega)) (Nat.le_refl _) (Nat.le_refl _) ⟨by
          show _ = some (iI (bI (bt (nv B28 f 18) p = 1)))
          rw [hbz]
          first | rw [if_neg (by omega), bI_f (by decide)] | rw [bI_t (by omega)] | rw [bI_f (by omega)], rfl⟩
  · omega
theorem or_hi {x : Nat} {y : Nat} (s : Nat) (hx : x < 2 ^ s) : Int64.ofInt (x : Int) ||| Int64.ofInt ((y * 2 ^ s : Nat) : Int) = Int64.ofInt ((x + y * 2 ^ s : Nat) : Int) := by
  apply Int64.toBitVec_inj.mp
  show BitVec.ofInt 64 (x : Int) ||| BitVec.ofInt 64 ((y * 2 ^ s : Nat) : Int) = BitVec.ofInt 64 ((x + y * 2 ^ s : Nat) : Int)
  rw [BitVec.ofInt_natCast, BitVec.ofInt_natCast, BitVec.ofInt_natCast, ← BitVec.ofNat_or]
  congr 1
  rw [Nat.or_comm, Nat.mul_comm y, Nat.add_comm]
  exact (Nat.two_pow_add_eq_or_of_lt hx y).symm
theorem j_shlN (x : Nat) (s : Nat) (hs : s = 28 ∨ s = 56) : Int64.ofInt (x : Int) <<< ((Int32.ofInt (s : Int)).toInt64 &&& 63) = Int64.ofInt ((x * 2 ^ s : Nat) : Int) := by
  apply Int64.toBitVec_inj.mp
  rw [Int64.toBitVec_shiftLeft]
  have hD : (((Int32.ofInt (s : Int)).toInt64 &&& 63).toBitVec.smod 64).toNat = s := by rcases hs with q | q <;> (subst q; decide)
  show BitVec.ofInt 64 (x : Int) <<< (((Int32.ofInt (s : Int)).toInt64 &&& 63).toBitVec.smod 64) = BitVec.ofInt 64 ((x * 2 ^ s : Nat) : Int)
  rw [BitVec.shiftLeft_eq', hD, BitVec.shiftLeft_eq_mul_twoPow, Int.natCast_mul, BitVec.ofInt_mul]
  congr 1
  apply BitVec.eq_of_toNat_eq
  rw [BitVec.toNat_twoPow, BitVec.ofInt_natCast, BitVec.toNat_ofNat]
theorem low3 {f : Nat → Int} {x0 x1 x2 : Nat} (e0 : f 0 = x0) (e1 : f 1 = x1) (e2 : f 2 = x2) : ∃ y : Int, V18 f = ((x0 + x1 * 2 ^ 28 + x2 * 2 ^ 56 : Nat) : Int) + 18446744073709551616 * y := by
  refine ⟨1048576 * nv B28 (fun i => f (3 + i)) 15, ?_⟩
  show nv B28 f (3 + 15) = _
  rw [nv_split 3 15]
  show 0 + f 0 * B28 ^ 0 + f 1 * B28 ^ 1 + f 2 * B28 ^ 2 + B28 ^ 3 * _ = _
  rw [e0, e1, e2, show B28 ^ 0 = 1 by decide, show B28 ^ 1 = 268435456 by decide, show B28 ^ 2 = 72057594037927936 by decide, show B28 ^ 3 = 18446744073709551616 * 1048576 by decide]
  generalize nv B28 (fun i => f (3 + i)) 15 = z
  rw [Int.mul_assoc]
  omega
set_option maxHeartbeats 4000000 in
set_option maxRecDepth 100000 in
theorem v_X5_lowBits (l : Launch) {E : GE} {w : Wd} {a r : Nat} {z : Int} (hW : WA w a r z) : Sp E l yX5_lowBits cX5_lowBits 3 (some .long) 0 (0) (0) [.ref a] w (fun r' w' => r' = some (jJ z) ∧ w' = w) := by
  refine sp_intro [some (.ref a), none, none] rfl (Nat.le_of_ble_eq_true rfl) pn_X5 ?_
  intro X C hRm hl hnm hQ
  obtain ⟨hRf, hRl, hRc, hRs⟩ := hRm
  refine g_wf (fun hwf => ?_)
  obtain ⟨f, u, bl, h1, n1⟩ := hW.ra
  have hB28 : B28 = 268435456 := rfl
  obtain ⟨hO, hR, hf, hbl⟩ := id h1
  have s1 := n1.z
  have hf0 := hf.1 0 (by omega)
  have hf1 := hf.1 1 (by omega)
  have hf2 := hf.1 2 (by omega)
  obtain ⟨x0, e0⟩ := Int.eq_ofNat_of_zero_le hf0.1
  obtain ⟨x1, e1⟩ := Int.eq_ofNat_of_zero_le hf1.1
  obtain ⟨x2, e2⟩ := Int.eq_ofNat_of_zero_le hf2.1
  obtain ⟨y9, ey⟩ := low3 e0 e1 e2
  refine g_aload_n C dX5_lowBits_0 rfl ?_
  refine g_get (ci := 7) C rfl inTX5 0 (by decide) fl_RX5_9 rfl hO rfl dX5_lowBits_1 ?_
  refine g_iconst C dX5_lowBits_4 ?_
  refine g_ialoadN (0) C hR (by omega) (by omega) dX5_lowBits_5 ?_
  rw [e0]
  refine g_i2l C dX5_lowBits_6 (by omega) ?_
  refine g_aload_n C dX5_lowBits_7 rfl ?_
  refine g_get (ci := 7) C rfl inTX5 0 (by decide) fl_RX5_9 rfl hO rfl dX5_lowBits_8 ?_
  refine g_iconst C dX5_lowBits_11 ?_
  refine g_ialoadN (1) C hR (by omega) (by omega) dX5_lowBits_12 ?_
  rw [e1]
  refine g_i2l C dX5_lowBits_13 (by omega) ?_
  refine g_bipush C dX5_lowBits_14 (by decide) ?_
  refine g_lshl (z := _) C dX5_lowBits_16 (j_shlN x1 28 (Or.inl rfl)) ?_
  refine g_lor (z := _) C dX5_lowBits_17 (or_hi 28 (by omega)) ?_
  refine g_aload_n C dX5_lowBits_18 rfl ?_
  refine g_get (ci := 7) C rfl inTX5 0 (by decide) fl_RX5_9 rfl hO rfl dX5_lowBits_19 ?_
  refine g_iconst C dX5_lowBits_22 ?_
  refine g_ialoadN (2) C hR (by omega) (by omega) dX5_lowBits_23 ?_
  rw [e2]
  refine g_i2l C dX5_lowBits_24 (by omega) ?_
  refine g_bipush C dX5_lowBits_25 (by decide) ?_
  refine g_lshl (z := _) C dX5_lowBits_27 (j_shlN x2 56 (Or.inr rfl)) ?_
  refine g_lor (z := _) C dX5_lowBits_28 (or_hi 56 (by omega)) ?_
  refine g_lstore_n C dX5_lowBits_29 (by decide) rfl ?_
  refine g_aload_n C dX5_lowBits_30 rfl ?_
  refine g_get (ci := 7) C rfl inTX5 2 (by decide) fl_RX5_13 rfl hO rfl dX5_lowBits_31 ?_
  refine g_if_eq (tgt := 42) C dX5_lowBits_34 (by decide) (by omega) (fun h34 => ?_) (fun h34 => ?_)
  · refine g_lload_n C dX5_lowBits_42 rfl ?_
    exact g_lreturn C hQ dX5_lowBits_43 (Nat.le_refl _) (Nat.le_refl _) ⟨by
      congr 1
      first
      | (rw [show z = -((x0 + x1 * 2 ^ 28 + x2 * 2 ^ 56 : Nat) : Int) + 18446744073709551616 * (-y9) by omega, jJ_mod])
      | (rw [show z = ((x0 + x1 * 2 ^ 28 + x2 * 2 ^ 56 : Nat) : Int) + 18446744073709551616 * y9 by omega, jJ_mod]), rfl⟩
  · refine g_lload_n C dX5_lowBits_37 rfl ?_
    refine g_lneg C dX5_lowBits_38 ?_
    refine g_goto (tgt := 43) C dX5_lowBits_39 (by decide) ?_
    exact g_lreturn C hQ dX5_lowBits_43 (Nat.le_refl _) (Nat.le_refl _) ⟨by
      congr 1
      first
      | (rw [show z = -((x0 + x1 * 2 ^ 28 + x2 * 2 ^ 56 : Nat) : Int) + 18446744073709551616 * (-y9) by omega, jJ_mod])
      | (rw [show z = ((x0 + x1 * 2 ^ 28 + x2 * 2 ^ 56 : Nat) : Int) + 18446744073709551616 * y9 by omega, jJ_mod]), rfl⟩
/-! products and shifts of the class's numbers -/
theorem prod_step {B : Int} {h H g2 : Nat → Int} {i j : Nat} {a c s : Int} (e : nv B h (i + j) + c * B ^ (i + j) = nv B H (i + j) + a * (nv B g2 j * B ^ i)) (hs : s = c + (H (i + j) + a * g2 j)) : nv B (iup h (i + j) (s % B)) (i + (j + 1)) + s / B * B ^ (i + (j + 1)) = nv B H (i + (j + 1)) + a * (nv B g2 (j + 1) * B ^ i) := by
  rw [show i + (j + 1) = i + j + 1 by omega, nv_up_succ, nv_succ, nv_succ, Int.pow_succ]
  have e2 : s = B * (s / B) + s % B := (Int.mul_ediv_add_emod s B).symm
  have e3 : B ^ (i + j) = B ^ j * B ^ i := by rw [Int.pow_add, Int.mul_comm]
  generalize s / B = q at e2 ⊢
  generalize s % B = r at e2 ⊢
  rw [e3] at e ⊢
  generalize B ^ i = x at *
  generalize B ^ j = y at *
  grind
theorem prod_full {f g : Nat → Int} {u v : Nat} (hf : Wr f u) (hg : Wr g v) {i j : Nat} (hi : i < u) (hij : i + j = 18) (hbd : V18 f * V18 g < B28 ^ 18) : f i * (V18 g - nv B28 g j) = 0 ∧ nv B28 f i * V18 g + f i * (nv B28 g j * B28 ^ i) < B28 ^ 18 := by
  have hu18 := hf.2.1
  have hfi := hf.1 i (by omega)
  have hsp := nv_split (B := B28) (f := g) j (18 - j)
  rw [show j + (18 - j) = 18 by omega] at hsp
  have hr0 : 0 ≤ nv B28 (fun k => g (j + k)) (18 - j) := nv_nonneg (by decide) (fun k hk => hg.1 (j + k) (by omega))
  have hgv : V18 g = nv B28 g j + B28 ^ j * nv B28 (fun k => g (j + k)) (18 - j) := hsp
  generalize nv B28 (fun k => g (j + k)) (18 - j) = y at hr0 hgv
  have hj0 : 0 ≤ nv B28 g j := nv_nonneg (by decide) (hg.1.dg (by omega))
  have hfs := nv_split (B := B28) (f := f) (i + 1) (17 - i)
  rw [show i + 1 + (17 - i) = 18 by omega, nv_succ] at hfs
  have hfr : 0 ≤ nv B28 (fun k => f (i + 1 + k)) (17 - i) := nv_nonneg (by decide) (fun k hk => hf.1 (i + 1 + k) (by omega))
  have hfv : V18 f = nv B28 f i + f i * B28 ^ i + B28 ^ (i + 1) * nv B28 (fun k => f (i + 1 + k)) (17 - i) := hfs
  have hfi0 : 0 ≤ nv B28 f i := nv_nonneg (by decide) (hf.1.dg (by omega))
  have hg0 := V18_0 hg.1
  have pi := pw_pos (B := B28) (by decide) i
  have pj := pw_pos (B := B28) (by decide) j
  have pi1 := pw_pos (B := B28) (by decide) (i + 1)
  have e18 : B28 ^ 18 = B28 ^ i * B28 ^ j := by rw [← Int.pow_add, hij]
  have t0 : 0 ≤ B28 ^ (i + 1) * nv B28 (fun k => f (i + 1 + k)) (17 - i) * V18 g := Int.mul_nonneg (Int.mul_nonneg (Int.le_of_lt pi1) hfr) hg0
  have t1 : (nv B28 f i + f i * B28 ^ i) * V18 g ≤ V18 f * V18 g := by
    rw [hfv, Int.add_mul (nv B28 f i + f i * B28 ^ i)]; omega
  have t2 : 0 ≤ nv B28 f i * V18 g := Int.mul_nonneg hfi0 hg0
  have t3 : (nv B28 f i + f i * B28 ^ i) * V18 g = nv B28 f i * V18 g + f i * (nv B28 g j * B28 ^ i) + f i * y * (B28 ^ i * B28 ^ j) := by
    generalize V18 f = vf at *
    generalize nv B28 f i = nf at *
    generalize nv B28 g j = ng at *
    rw [hgv]
    generalize B28 ^ i = x at *
    generalize B28 ^ j = z at *
    grind
  have t4 : 0 ≤ f i * (nv B28 g j * B28 ^ i) := Int.mul_nonneg hfi.1 (Int.mul_nonneg hj0 (Int.le_of_lt pi))
  have t5 : 0 ≤ f i * y := Int.mul_nonneg hfi.1 hr0
  rw [← e18] at t3
  have p18 : 0 < B28 ^ 18 := pw_pos (by decide) 18
  have t6 : f i * y = 0 := by
    rcases Int.lt_or_le 0 (f i * y) with q | q
    · have := Int.mul_le_mul_of_nonneg_right (show 1 ≤ f i * y by omega) (Int.le_of_lt p18)
      rw [Int.one_mul] at this
      omega
    · omega
  refine ⟨?_, by rw [t6, Int.zero_mul] at t3; omega⟩
  rw [hgv, show nv B28 g j + B28 ^ j * y - nv B28 g j = B28 ^ j * y by omega, Int.mul_left_comm, t6, Int.mul_zero]
theorem prod_row {f g H h : Nat → Int} {u v i j : Nat} {c : Int} (hf : Wr f u) (hg : Wr g v) (hi : i < u) (hH : V18 H = nv B28 f i * V18 g) (hHz : ∀ k, i + v ≤ k → k < 18 → H k = 0) (hdh : DC h) (hhi : ∀ k, i + j ≤ k → h k = H k) (hij : i + j ≤ 18) (hend : i + j = 18 ∨ v < j) (hc : 0 ≤ c) (hcz : v < j → c = 0) (e : nv B28 h (i + j) + c * B28 ^ (i + j) = nv B28 H (i + j) + f i * (nv B28 g j * B28 ^ i)) (hbd : V18 f * V18 g < B28 ^ 18) : V18 h = nv B28 f (i + 1) * V18 g := by
  have hu := hf.2.1
  have pi := pw_pos (B := B28) (by decide) i
  rw [nv_succ, Int.add_mul, ← hH]
  rcases Nat.lt_or_ge v j with q | q
  · rw [hcz q, Int.zero_mul, Int.add_zero] at e
    have e1 : V18 h = nv B28 h (i + j) := nv_zeros (by omega) (fun k h1 h2 => by rw [hhi k h1]; exact hHz k (by omega) h2)
    have e2 : V18 H = nv B28 H (i + j) := nv_zeros (by omega) (fun k h1 h2 => hHz k (by omega) h2)
    have e3 : V18 g = nv B28 g j := nv_zeros (by omega) (fun k h1 h2 => hg.2.2.1 k (by omega) h2)
    rw [e1, e, e2, e3, Int.mul_assoc, Int.mul_comm (B28 ^ i)]
  · have hj : i + j = 18 := by omega
    obtain ⟨z1, z2⟩ := prod_full hf hg hi hj hbd
    have e1 : V18 h = nv B28 h (i + j) := by rw [hj]; rfl
    have e2 : V18 H = nv B28 H (i + j) := by rw [hj]; rfl
    rw [← e1, ← e2, hj] at e
    have h0 := V18_0 hdh
    have p18 : 0 < B28 ^ 18 := pw_pos (by decide) 18
    have hc0 : c = 0 := by
      rcases Int.lt_or_le 0 c with r | r
      · have := Int.mul_le_mul_of_nonneg_right (show 1 ≤ c by omega) (Int.le_of_lt p18)
        rw [Int.one_mul] at this
        rw [hH] at e
        omega
      · omega
    rw [hc0, Int.zero_mul, Int.add_zero] at e
    rw [e]
    have : f i * B28 ^ i * V18 g = f i * (nv B28 g j * B28 ^ i) := by
      have e9 : f i * V18 g = f i * nv B28 g j := by rw [Int.mul_sub] at z1; omega
      rw [Int.mul_right_comm, e9, Int.mul_assoc]
    rw [this]
set_option maxHeartbeats 4000000 in
set_option maxRecDepth 100000 in
theorem v_X5_setProduct (l : Launch) {E : GE} {w : Wd} {a r b s c t : Nat} {z1 z2 : Int} (h1 : WS w a r) (h2 : WA w b s z1) (h3 : WA w c t z2) (hrs : r ≠ s) (hrt : r ≠ t) (hab : a ≠ b) (hac : a ≠ c) (hbd : aB z1 * aB z2 < B28 ^ 18) : Sp E l yX5_setProduct cX5_setProduct 8 none 2 (0) (0) [.ref a, .ref b, .ref c] w (fun r' w' => r' = none ∧ WA w' a r (z1 * z2) ∧ FrW w w' a r) := by
  refine sp_intro [some (.ref a), some (.ref b), some (.ref c), none, none, none, none, none] rfl (Nat.le_of_ble_eq_true rfl) pn_X5 ?_
  intro X C hRm hl hnm hQ
  obtain ⟨hRf, hRl, hRc, hRs⟩ := hRm
  refine g_wf (fun hwf => ?_)
  have hB28 : B28 = 268435456 := rfl
  obtain ⟨f, u, bl, hO, hR, -, -, -⟩ := id h1
  obtain ⟨g, v, bm, k2, n2⟩ := h2.ra
  obtain ⟨g2, v2, bn, k3, n3⟩ := h3.ra
  obtain ⟨hO2, hR2, hg, hbm⟩ := id k2
  obtain ⟨hO3, hR3, hg2, hbn⟩ := id k3
  have hv18 := hg.2.1
  have hv28 := hg2.2.1
  rw [n2.ab.1, n3.ab.1] at hbd
  have hne := oI_ne hO hR
  have has := oI_ne hO hR2
  have hat := oI_ne hO hR3
  have hbr := oI_ne hO2 hR
  have hcr := oI_ne hO3 hR
  have sg1 := n2.ab.2
  have sg2 := n3.ab.2
  obtain ⟨e, he1, he2, he3⟩ := mn18 (v + v2)
  refine g_aload_n C dX5_setProduct_0 rfl ?_
  refine g_callV C (c_X5_clear _ hO hR) (ci := 7) rfl hO rfl ml_RX5_25 im_yX5_clear se_RX5_yX5_clear in_RX5 co_yX5_clear hd_X5_clear rfl ⟨by omega, by omega⟩ rfl (Nat.le_of_ble_eq_true rfl) ⟨by omega, by omega⟩ dX5_setProduct_1 (fun v1 w1 hp1 => ?_)
  obtain ⟨rfl, g1, hO1, hR1, hg1, fr1⟩ := hp1
  have kB : w1.2 b = some (true, oW s v bm) := by rw [fr1.2 b (Ne.symm hab) hbr]; exact hO2
  have kC : w1.2 c = some (true, oW t v2 bn) := by rw [fr1.2 c (Ne.symm hac) hcr]; exact hO3
  have kS : w1.2 s = some (true, eI 18 g) := by rw [fr1.2 s (Ne.symm has) (Ne.symm hrs)]; exact hR2
  have kT : w1.2 t = some (true, eI 18 g2) := by rw [fr1.2 t (Ne.symm hat) (Ne.symm hrt)]; exact hR3
  refine g_bipush C dX5_setProduct_4 (by decide) ?_
  refine g_aload_n C dX5_setProduct_6 rfl ?_
  refine g_get (ci := 7) C rfl inTX5 1 (by decide) fl_RX5_17 rfl kB rfl dX5_setProduct_7 ?_
  refine g_aload_n C dX5_setProduct_10 rfl ?_
  refine g_get (ci := 7) C rfl inTX5 1 (by decide) fl_RX5_17 rfl kC rfl dX5_setProduct_11 ?_
  refine g_iadd C dX5_setProduct_14 ?_
  rw [show (v : Int) + (v2 : Int) = ((v + v2 : Nat) : Int) by omega]
  refine g_min C ml_RX5_66 (by omega) (by omega) (by omega) (by omega) (Nat.le_of_ble_eq_true rfl) (by omega) dX5_setProduct_15 ?_
  rw [he3]
  refine g_istore_n C dX5_setProduct_18 (by decide) rfl ?_
  refine g_iconst C dX5_setProduct_19 ?_
  refine g_istore C dX5_setProduct_20 (by decide) rfl ?_
  suffices hh : G E X 8 22 [some (.ref a), some (.ref b), some (.ref c), some (iI (e : Int)), some (iI ((0 : Nat) : Int)), none, none, none] [] (wset w1 r (true, eI 18 g1)) 0 0 by rw [wset_id hR1] at hh; exact hh
  refine g_loop (σ := Nat × (Nat → Int)) (fun q => q.1 ≤ v ∧ DC q.2 ∧ V18 q.2 = nv B28 g q.1 * V18 g2 ∧ ∀ k, q.1 + v2 ≤ k → k < 18 → q.2 k = 0) (fun q => G E X 8 22 [some (.ref a), some (.ref b), some (.ref c), some (iI (e : Int)), some (iI (q.1 : Int)), none, none, none] [] (wset w1 r (true, eI 18 q.2)) 0 0) (fun q => v - q.1) ?_ (0, g1) ⟨by dsimp only; omega, fun i hi => by dsimp only; rw [hg1 i hi]; decide, by
    show V18 g1 = 0 * V18 g2
    rw [Int.zero_mul]
    exact nv_zeros (B := B28) (f := g1) (m := 0) (n := 18) (by omega) (fun i _ h => hg1 i h), fun k _ hk => hg1 k hk⟩
  rintro ⟨i, h⟩ hq ih
  obtain ⟨hi, hdh, hVh, hzh⟩ := hq
  dsimp only at hi hdh hVh hzh ⊢
  have hOi : (wset w1 r (true, eI 18 h)).2 a = some (true, eO 7 [.ref r, iI 0, iI 0]) := by rw [wset_n hne]; exact hO1
  have hBi : (wset w1 r (true, eI 18 h)).2 b = some (true, oW s v bm) := by rw [wset_n hbr]; exact kB
  have hCi : (wset w1 r (true, eI 18 h)).2 c = some (true, oW t v2 bn) := by rw [wset_n hcr]; exact kC
  have hSi : (wset w1 r (true, eI 18 h)).2 s = some (true, eI 18 g) := by rw [wset_n (Ne.symm hrs)]; exact kS
  have hTi : (wset w1 r (true, eI 18 h)).2 t = some (true, eI 18 g2) := by rw [wset_n (Ne.symm hrt)]; exact kT
  have J131 : i = v → G E X 8 131 [some (.ref a), some (.ref b), some (.ref c), some (iI (e : Int)), some (iI (i : Int)), none, none, none] [] (wset w1 r (true, eI 18 h)) 0 0 := by
    intro hiv
    refine g_aload_n C dX5_setProduct_131 rfl ?_
    have J148 : ∀ q : Int, (q = 0 ∧ bm = bn ∨ q = 1 ∧ bm ≠ bn) → G E X 8 148 [some (.ref a), some (.ref b), some (.ref c), some (iI (e : Int)), some (iI (i : Int)), none, none, none] [iI q, .ref a] (wset w1 r (true, eI 18 h)) 0 0 := by
      intro q hq
      have hq01 : q = 0 ∨ q = 1 := by omega
      refine g_put (ci := 7) C rfl inTX5 tyX5 tyX5_ok nmX5 2 (by decide) fl_RX5_13 rfl rfl hOi (Nat.le_of_ble_eq_true rfl) (by rcases hq01 with q1 | q1 <;> (rw [q1]; rfl)) (by rcases hq01 with q1 | q1 <;> (rw [q1]; rfl)) dX5_setProduct_148 ?_
      refine g_aload_n C dX5_setProduct_151 rfl ?_
      refine g_iload_n C dX5_setProduct_152 rfl ?_
      refine g_callV C (c_X5_trim _ (p := e) wset_s (by rw [wset_n (Ne.symm hne)]; exact wset_s) hdh he1 (fun k k1 k2 => hzh k (by omega) k2) hq01) (ci := 7) rfl wset_s rfl ml_RX5_30 im_yX5_trim se_RX5_yX5_trim in_RX5 co_yX5_trim hd_X5_trim rfl ⟨by omega, by omega⟩ rfl (Nat.le_of_ble_eq_true rfl) ⟨by omega, by omega⟩ dX5_setProduct_153 (fun v153 w153 hp153 => ?_)
      obtain ⟨rfl, u', hw9, hO9, fr9⟩ := hp153
      exact g_return C hQ dX5_setProduct_156 (Nat.le_refl _) (Nat.le_refl _) (by
        have k9 : RA w153 a r h u' (if 0 < u' then q else 0) := ⟨hO9, by rw [fr9.2 r (Ne.symm hne), wset_n (Ne.symm hne)]; exact wset_s, hw9, by split <;> omega⟩
        have hw := k9.wa hq01
        rw [hVh, hiv, ← hg.val] at hw
        refine ⟨rfl, hw.eq ?_, ⟨fr9.1.trans fr1.1, fun x k1 k2 => by rw [fr9.2 x k1, wset_n k1, wset_n k2]; exact fr1.2 x k1 k2⟩⟩
        have y1 := n2.z
        have y2 := n3.z
        rcases y1 with ⟨y1, y3⟩ | ⟨y1, y3⟩ <;> rcases y2 with ⟨y2, y4⟩ | ⟨y2, y4⟩ <;> rw [y3, y4] <;> rcases hq with ⟨q1, q2⟩ | ⟨q1, q2⟩ <;> first | omega | (rw [q1, if1]; grind) | (rw [q1, if0]; grind))
    refine g_aload_n C dX5_setProduct_132 rfl ?_
    refine g_get (ci := 7) C rfl inTX5 2 (by decide) fl_RX5_13 rfl hBi rfl dX5_setProduct_133 ?_
    refine g_aload_n C dX5_setProduct_136 rfl ?_
    refine g_get (ci := 7) C rfl inTX5 2 (by decide) fl_RX5_13 rfl hCi rfl dX5_setProduct_137 ?_
    refine g_icmp_eq (tgt := 147) C dX5_setProduct_140 (by decide) (by omega) (by omega) (fun h140 => ?_) (fun h140 => ?_)
    · refine g_iconst C dX5_setProduct_147 ?_
      exact J148 _ (by omega)
    · refine g_iconst C dX5_setProduct_143 ?_
      refine g_goto (tgt := 148) C dX5_setProduct_144 (by decide) ?_
      exact J148 _ (by omega)
  refine g_iload C dX5_setProduct_22 rfl ?_
  refine g_aload_n C dX5_setProduct_24 rfl ?_
  refine g_get (ci := 7) C rfl inTX5 1 (by decide) fl_RX5_17 rfl hBi rfl dX5_setProduct_25 ?_
  refine g_icmp_ge (tgt := 131) C dX5_setProduct_28 (by decide) (by omega) (by omega) (fun h28 => ?_) (fun h28 => ?_)
  · exact J131 (by omega)
  · refine g_iload C dX5_setProduct_31 rfl ?_
    refine g_iload_n C dX5_setProduct_33 rfl ?_
    refine g_icmp_ge (tgt := 131) C dX5_setProduct_34 (by decide) (by omega) (by omega) (fun h34 => ?_) (fun h34 => ?_)
    · exact J131 (by omega)
    · refine g_lconst (z := 0) C dX5_setProduct_37 (by decide) ?_
      refine g_lstore C dX5_setProduct_38 (by decide) rfl ?_
      refine g_iconst C dX5_setProduct_40 ?_
      refine g_istore C dX5_setProduct_41 (by decide) rfl ?_
      refine g_loop (σ := Nat × Int × (Nat → Int)) (fun q => q.1 ≤ v2 + 1 ∧ i + q.1 ≤ e ∧ (0 ≤ q.2.1 ∧ q.2.1 < 268435456) ∧ (v2 < q.1 → q.2.1 = 0) ∧ DC q.2.2 ∧ (∀ k, i + q.1 ≤ k → q.2.2 k = h k) ∧ nv B28 q.2.2 (i + q.1) + q.2.1 * B28 ^ (i + q.1) = nv B28 h (i + q.1) + g i * (nv B28 g2 q.1 * B28 ^ i)) (fun q => G E X 8 43 [some (.ref a), some (.ref b), some (.ref c), some (iI (e : Int)), some (iI (i : Int)), some (jJ q.2.1), none, some (iI (q.1 : Int))] [] (wset w1 r (true, eI 18 q.2.2)) 0 0) (fun q => 19 - q.1) ?_ (0, 0, h) ⟨by dsimp only; omega, by dsimp only; omega, by dsimp only; omega, fun _ => rfl, hdh, fun k _ => rfl, by show _ + 0 * _ = _ + g i * (0 * _); rw [Int.zero_mul, Int.zero_mul, Int.mul_zero]⟩
      clear hOi hBi hCi hSi hTi
      rintro ⟨j, cy, k⟩ hq ih2
      obtain ⟨hj, hij, hcy, hcz, hdk, hkk, hve⟩ := hq
      dsimp only at hj hij hcy hcz hdk hkk hve ⊢
      have hOk : (wset w1 r (true, eI 18 k)).2 a = some (true, eO 7 [.ref r, iI 0, iI 0]) := by rw [wset_n hne]; exact hO1
      have hBk : (wset w1 r (true, eI 18 k)).2 b = some (true, oW s v bm) := by rw [wset_n hbr]; exact kB
      have hCk : (wset w1 r (true, eI 18 k)).2 c = some (true, oW t v2 bn) := by rw [wset_n hcr]; exact kC
      have hSk : (wset w1 r (true, eI 18 k)).2 s = some (true, eI 18 g) := by rw [wset_n (Ne.symm hrs)]; exact kS
      have hTk : (wset w1 r (true, eI 18 k)).2 t = some (true, eI 18 g2) := by rw [wset_n (Ne.symm hrt)]; exact kT
      refine g_iload C dX5_setProduct_43 rfl ?_
      refine g_aload_n C dX5_setProduct_45 rfl ?_
      refine g_get (ci := 7) C rfl inTX5 1 (by decide) fl_RX5_17 rfl hCk rfl dX5_setProduct_46 ?_
      refine g_icmp_gt (tgt := 125) C dX5_setProduct_49 (by decide) (by omega) (by omega) (fun h49 => ?_) (fun h49 => ?_)
      · refine g_iinc C dX5_setProduct_125 rfl (by decide) rfl ?_
        refine g_goto (tgt := 22) C dX5_setProduct_128 (by decide) ?_
        refine g_drop 7 ?_
        refine g_drop 5 ?_
        rw [show (i : Int) + 1 = ((i + 1 : Nat) : Int) by omega]
        exact ih (i + 1, k) ⟨by dsimp only; omega, hdk, prod_row hg hg2 (by omega) hVh hzh hdk hkk (by omega) (by omega) hcy.1 hcz hve hbd, fun x h3 h4 => by dsimp only at h3 ⊢; rw [hkk x (by omega)]; exact hzh x (by omega) h4⟩ (by dsimp only; omega)
      · refine g_iload C dX5_setProduct_52 rfl ?_
        refine g_iload C dX5_setProduct_54 rfl ?_
        refine g_iadd C dX5_setProduct_56 ?_
        refine g_iload_n C dX5_setProduct_57 rfl ?_
        refine g_icmp_ge (tgt := 125) C dX5_setProduct_58 (by decide) (by omega) (by omega) (fun h58 => ?_) (fun h58 => ?_)
        · refine g_iinc C dX5_setProduct_125 rfl (by decide) rfl ?_
          refine g_goto (tgt := 22) C dX5_setProduct_128 (by decide) ?_
          refine g_drop 7 ?_
          refine g_drop 5 ?_
          rw [show (i : Int) + 1 = ((i + 1 : Nat) : Int) by omega]
          exact ih (i + 1, k) ⟨by dsimp only; omega, hdk, prod_row hg hg2 (by omega) hVh hzh hdk hkk (by omega) (by omega) hcy.1 hcz hve hbd, fun x h3 h4 => by dsimp only at h3 ⊢; rw [hkk x (by omega)]; exact hzh x (by omega) h4⟩ (by dsimp only; omega)
        · have hkj := hdk (i + j) (by omega)
          have hkh := hkk (i + j) (Nat.le_refl _)
          have hgi := hg.1 i (by omega)
          have hgj := hg2.1 j (by omega)
          have hmb : 0 ≤ g i * g2 j ∧ g i * g2 j ≤ 268435455 * 268435455 := ⟨Int.mul_nonneg hgi.1 hgj.1, Int.mul_le_mul (by omega) (by omega) hgj.1 (by decide)⟩
          have hm28 := mod28 (cy + (k (i + j) + g i * g2 j))
          have hd28e : (cy + (k (i + j) + g i * g2 j)) / B28 = (cy + (k (i + j) + g i * g2 j)) / 268435456 := rfl
          have hlast : v2 ≤ j → g2 j = 0 ∧ k (i + j) = 0 := fun q => ⟨hg2.2.2.1 j q (by omega), by rw [hkh]; exact hzh _ (by omega) (by omega)⟩
          refine g_lload C dX5_setProduct_61 rfl ?_
          refine g_aload_n C dX5_setProduct_63 rfl ?_
          refine g_get (ci := 7) C rfl inTX5 0 (by decide) fl_RX5_9 rfl hOk rfl dX5_setProduct_64 ?_
          refine g_iload C dX5_setProduct_67 rfl ?_
          refine g_iload C dX5_setProduct_69 rfl ?_
          refine g_iadd C dX5_setProduct_71 ?_
          rw [show (i : Int) + (j : Int) = ((i + j : Nat) : Int) by omega]
          refine g_ialoadN (i + j) C wset_s (by omega) (by omega) dX5_setProduct_72 ?_
          refine g_i2l C dX5_setProduct_73 (by omega) ?_
          refine g_aload_n C dX5_setProduct_74 rfl ?_
          refine g_get (ci := 7) C rfl inTX5 0 (by decide) fl_RX5_9 rfl hBk rfl dX5_setProduct_75 ?_
          refine g_iload C dX5_setProduct_78 rfl ?_
          refine g_ialoadN (i) C hSk (by omega) (by omega) dX5_setProduct_80 ?_
          refine g_i2l C dX5_setProduct_81 (by omega) ?_
          refine g_aload_n C dX5_setProduct_82 rfl ?_
          refine g_get (ci := 7) C rfl inTX5 0 (by decide) fl_RX5_9 rfl hCk rfl dX5_setProduct_83 ?_
          refine g_iload C dX5_setProduct_86 rfl ?_
          refine g_ialoadN (j) C hTk (by omega) (by omega) dX5_setProduct_88 ?_
          refine g_i2l C dX5_setProduct_89 (by omega) ?_
          refine g_lmul C dX5_setProduct_90 ?_
          refine g_ladd C dX5_setProduct_91 ?_
          refine g_ladd C dX5_setProduct_92 ?_
          refine g_lstore C dX5_setProduct_93 (by decide) rfl ?_
          refine g_aload_n C dX5_setProduct_95 rfl ?_
          refine g_get (ci := 7) C rfl inTX5 0 (by decide) fl_RX5_9 rfl hOk rfl dX5_setProduct_96 ?_
          refine g_iload C dX5_setProduct_99 rfl ?_
          refine g_iload C dX5_setProduct_101 rfl ?_
          refine g_iadd C dX5_setProduct_103 ?_
          rw [show (i : Int) + (j : Int) = ((i + j : Nat) : Int) by omega]
          refine g_lload C dX5_setProduct_104 rfl ?_
          refine g_ldc2 (z := 268435455) C kj_RX5_28 (by decide) dX5_setProduct_106 ?_
          refine g_land (z := (cy + (k (i + j) + g i * g2 j)) % B28) C dX5_setProduct_109 (j_mask 28 (by omega) mask28) ?_
          refine g_l2i C dX5_setProduct_110 ?_
          refine g_iastoreN (i + j) C wset_s (by omega) (by omega) dX5_setProduct_111 ?_
          rw [wset_set]
          refine g_lload C dX5_setProduct_112 rfl ?_
          refine g_bipush C dX5_setProduct_114 (by decide) ?_
          refine g_lushr (z := (cy + (k (i + j) + g i * g2 j)) / B28) C dX5_setProduct_116 (j_ushr 28 (by omega) (by omega) (by decide)) ?_
          refine g_lstore C dX5_setProduct_117 (by decide) rfl ?_
          refine g_iinc C dX5_setProduct_119 rfl (by decide) rfl ?_
          refine g_goto (tgt := 43) C dX5_setProduct_122 (by decide) ?_
          exact ih2 (j + 1, (cy + (k (i + j) + g i * g2 j)) / B28, iup k (i + j) ((cy + (k (i + j) + g i * g2 j)) % B28)) ⟨by dsimp only; omega, by dsimp only; omega, by dsimp only; omega, fun q => by
            dsimp only at q ⊢
            obtain ⟨q1, q2⟩ := hlast (by omega)
            rw [q1, q2, Int.mul_zero]
            show (cy + (0 + 0)) / 268435456 = 0
            omega, hdk.up _ hm28, fun x hx => by dsimp only at hx ⊢; rw [iup_n (by omega)]; exact hkk x (by omega), prod_step hve (by rw [hkh])⟩ (by dsimp only; omega)
theorem shift_all {f h : Nat → Int} {u D Bt e : Nat} (hf : Wr f u) (hu : 0 < u) (hBt : Bt < 28) (he1 : e ≤ 18) (he2 : e = u + D + 1 ∧ u + D + 1 < 18 ∨ e = 18 ∧ 18 ≤ u + D + 1) (hz : ∀ i, i < D → i < e → h i = 0) (hh : ∀ i, D + i < e → h (D + i) = (f i * 2 ^ Bt) % B28 + (if i = 0 then 0 else f (i - 1) * 2 ^ Bt / B28)) (he : ∀ i, e ≤ i → i < 18 → h i = 0) (hdh : DC h) (hbd : V18 f * 2 ^ (28 * D + Bt) < B28 ^ 18) : V18 h = V18 f * 2 ^ (28 * D + Bt) := by
  have hu18 := hf.2.1
  obtain ⟨t, rfl⟩ : ∃ t, u = t + 1 := ⟨u - 1, by omega⟩
  have hge := hf.ge
  have pB := p2_pos Bt
  have pD := pw_pos (B := B28) (by decide) D
  rw [Int.pow_add, ← B28_pow] at hbd ⊢
  have hV0 := V18_0 hf.1
  have hD : D + t < 18 := by
    rcases Nat.lt_or_ge (D + t) 18 with q | q
    · exact q
    · have a1 := pw28_le q
      rw [Int.pow_add] at a1
      have a2 := Int.mul_le_mul_of_nonneg_left hge (Int.le_of_lt pD)
      have a3 : B28 ^ D * V18 f * 1 ≤ B28 ^ D * V18 f * 2 ^ Bt := Int.mul_le_mul_of_nonneg_left (by omega) (Int.mul_nonneg (Int.le_of_lt pD) hV0)
      have a4 : V18 f * (B28 ^ D * 2 ^ Bt) = B28 ^ D * V18 f * 2 ^ Bt := by grind
      omega
  obtain ⟨n, hn⟩ : ∃ n, e = D + n := ⟨e - D, by omega⟩
  subst hn
  have e1 : V18 h = nv B28 h (D + n) := nv_zeros he1 he
  rw [e1, nv_shift D (fun i hi => hz i hi (by omega)) n]
  have sh := shl_step (B := B28) (p := 0) (f := f) (h := fun i => h (D + i)) (b2 := 2 ^ Bt) (n := n) (fun i hi => hh i (by omega))
  rw [Int.add_zero, if_neg (by omega)] at sh
  have hn1 : t + 1 ≤ n := by omega
  have e2 : V18 f = nv B28 f n := nv_zeros (by omega) (fun i h1 h2 => hf.2.2.1 i (by omega) h2)
  rw [← e2] at sh
  have hc0 : f (n - 1) * 2 ^ Bt / B28 = 0 := by
    rcases Nat.lt_or_ge (t + 1) n with q | q
    · rw [hf.2.2.1 (n - 1) (by omega) (by omega), Int.zero_mul, Int.zero_ediv]
    · have hn : D + n = 18 := by omega
      have hfn := hf.1 (n - 1) (by omega)
      have hc : 0 ≤ f (n - 1) * 2 ^ Bt / B28 := Int.ediv_nonneg (Int.mul_nonneg hfn.1 (Int.le_of_lt pB)) (by decide)
      have hn0 : 0 ≤ nv B28 (fun i => h (D + i)) n := nv_nonneg (by decide) (fun i hi => hdh (D + i) (by omega))
      have pn := pw_pos (B := B28) (by decide) n
      rcases Int.lt_or_le 0 (f (n - 1) * 2 ^ Bt / B28) with r | r
      · have a1 := Int.mul_le_mul_of_nonneg_right (show 1 ≤ f (n - 1) * 2 ^ Bt / B28 by omega) (Int.le_of_lt pn)
        rw [Int.one_mul] at a1
        have a2 : B28 ^ n ≤ V18 f * 2 ^ Bt := by omega
        have a3 := Int.mul_le_mul_of_nonneg_left a2 (Int.le_of_lt pD)
        rw [← Int.pow_add, hn] at a3
        have a4 : V18 f * (B28 ^ D * 2 ^ Bt) = B28 ^ D * (V18 f * 2 ^ Bt) := by grind
        omega
      · omega
  rw [hc0, Int.zero_mul, Int.add_zero] at sh
  rw [sh]
  grind
set_option maxHeartbeats 4000000 in
set_option maxRecDepth 100000 in
theorem v_X5_shiftUp (l : Launch) {E : GE} {w : Wd} {a r : Nat} {f : Nat → Int} {u : Nat} {bl : Int} (h1 : RA w a r f u bl) {mn : Nat} (hmn : mn ≤ 2000) (hu0 : 0 < u) (hbd : V18 f * 2 ^ mn < B28 ^ 18) : Sp E l yX5_shiftUp cX5_shiftUp 9 none 1 (0) (0) [.ref a, iI (mn : Int)] w (fun r' w' => r' = none ∧ ∃ f' u', RA w' a r f' u' (if 0 < u' then bl else 0) ∧ V18 f' = V18 f * 2 ^ mn ∧ FrW w w' a r) := by
  refine sp_intro [some (.ref a), some (iI (mn : Int)), none, none, none, none, none, none, none] rfl (Nat.le_of_ble_eq_true rfl) pn_X5 ?_
  intro X C hRm hl hnm hQ
  obtain ⟨hRf, hRl, hRc, hRs⟩ := hRm
  refine g_wf (fun hwf => ?_)
  have hB28 : B28 = 268435456 := rfl
  have hne := h1.ne
  obtain ⟨hO, hR, hf, hbl⟩ := id h1
  have hu18 := hf.2.1
  have hmx : (if (0 : Int) < (mn : Int) then (mn : Int) else 0) = (mn : Int) := by split <;> omega
  obtain ⟨hD, hB⟩ := dv28 mn
  have hD9 : mn / 28 ≤ 72 := by omega
  have hB9 : mn % 28 ≤ 27 := by omega
  have hmnE : 28 * (mn / 28) + mn % 28 = mn := by omega
  rw [← hmnE] at hbd
  generalize mn / 28 = D at hD hD9 hbd hmnE
  generalize mn % 28 = Bt at hB hB9 hbd hmnE
  obtain ⟨e, he1, he2, he3⟩ := mn18 (u + D + 1)
  have pBt := p2_pos Bt
  have hf9 : ∀ i, i < 18 → 0 ≤ f i * 2 ^ Bt / B28 ∧ f i * 2 ^ Bt / B28 < 2 ^ Bt := fun i hi => by
    have := hf.1 i hi
    have h0 := Int.mul_nonneg this.1 (Int.le_of_lt pBt)
    refine ⟨Int.ediv_nonneg h0 (by decide), Int.ediv_lt_of_lt_mul (by decide) ?_⟩
    rw [Int.mul_comm (2 ^ Bt)]
    exact Int.mul_lt_mul_of_pos_right this.2 pBt
  have hlow : ∀ i, i < 18 → f i / 2 ^ (28 - Bt) = f i * 2 ^ Bt / B28 := fun i hi => by
    rw [show B28 = 2 ^ (28 - Bt) * 2 ^ Bt by rw [← Int.pow_add, show 28 - Bt + Bt = 28 by omega]; rfl]
    exact (Int.mul_ediv_mul_of_pos_left _ _ pBt).symm
  have hlt : ∀ x : Int, (x * 2 ^ Bt) % B28 = (x % 2 ^ (28 - Bt)) * 2 ^ Bt := fun x => by
    rw [show B28 = 2 ^ (28 - Bt) * 2 ^ Bt by rw [← Int.pow_add, show 28 - Bt + Bt = 28 by omega]; rfl]
    rw [Int.mul_comm x, Int.mul_comm (2 ^ (28 - Bt)), Int.mul_emod_mul_of_pos _ _ pBt, Int.mul_comm]
  refine g_iconst C dX5_shiftUp_0 ?_
  refine g_iload_n C dX5_shiftUp_1 rfl ?_
  refine g_max C ml_RX5_60 (by omega) (by omega) (by omega) (by omega) (Nat.le_of_ble_eq_true rfl) (by omega) dX5_shiftUp_2 ?_
  rw [hmx]
  refine g_bipush C dX5_shiftUp_5 (by decide) ?_
  refine g_idivN C dX5_shiftUp_7 (by omega) (by omega) ?_
  rw [hD]
  refine g_istore_n C dX5_shiftUp_8 (by decide) rfl ?_
  refine g_iconst C dX5_shiftUp_9 ?_
  refine g_iload_n C dX5_shiftUp_10 rfl ?_
  refine g_max C ml_RX5_60 (by omega) (by omega) (by omega) (by omega) (Nat.le_of_ble_eq_true rfl) (by omega) dX5_shiftUp_11 ?_
  rw [hmx]
  refine g_bipush C dX5_shiftUp_14 (by decide) ?_
  refine g_iremN C dX5_shiftUp_16 (by omega) (by omega) ?_
  rw [hB]
  refine g_istore_n C dX5_shiftUp_17 (by decide) rfl ?_
  refine g_bipush C dX5_shiftUp_18 (by decide) ?_
  refine g_aload_n C dX5_shiftUp_20 rfl ?_
  refine g_get (ci := 7) C rfl inTX5 1 (by decide) fl_RX5_17 rfl hO rfl dX5_shiftUp_21 ?_
  refine g_iload_n C dX5_shiftUp_24 rfl ?_
  refine g_iadd C dX5_shiftUp_25 ?_
  refine g_iconst C dX5_shiftUp_26 ?_
  refine g_iadd C dX5_shiftUp_27 ?_
  rw [show (u : Int) + (D : Int) + 1 = ((u + D + 1 : Nat) : Int) by omega]
  refine g_min C ml_RX5_66 (by omega) (by omega) (by omega) (by omega) (Nat.le_of_ble_eq_true rfl) (by omega) dX5_shiftUp_28 ?_
  rw [he3]
  refine g_istore C dX5_shiftUp_31 (by decide) rfl ?_
  refine g_iload C dX5_shiftUp_33 rfl ?_
  refine g_iconst C dX5_shiftUp_35 ?_
  refine g_isub C dX5_shiftUp_36 ?_
  refine g_istore C dX5_shiftUp_37 (by decide) rfl ?_
  suffices hh : G E X 9 39 [some (.ref a), some (iI (mn : Int)), some (iI (D : Int)), some (iI (Bt : Int)), some (iI (e : Int)), some (iI ((e : Int) - 1 - ((0 : Nat) : Int))), none, none, none] [] (wset w r (true, eI 18 f)) 0 0 by rw [wset_id hR, show (e : Int) - 1 - ((0 : Nat) : Int) = (e : Int) - 1 by omega] at hh; exact hh
  refine g_loop (σ := Nat × (Nat → Int)) (fun t => t.1 ≤ e ∧ DC t.2 ∧ (∀ i, i + t.1 < e → t.2 i = f i) ∧ (∀ i, e ≤ i → i < 18 → t.2 i = 0) ∧ (∀ i, e ≤ i + t.1 → i < e → i < D → t.2 i = 0) ∧ (∀ i, e ≤ D + i + t.1 → D + i < e → t.2 (D + i) = (f i * 2 ^ Bt) % B28 + (if i = 0 then 0 else f (i - 1) * 2 ^ Bt / B28))) (fun t => G E X 9 39 [some (.ref a), some (iI (mn : Int)), some (iI (D : Int)), some (iI (Bt : Int)), some (iI (e : Int)), some (iI ((e : Int) - 1 - (t.1 : Int))), none, none, none] [] (wset w r (true, eI 18 t.2)) 0 0) (fun t => e - t.1) ?_ (0, f) ⟨by dsimp only; omega, hf.1, fun i _ => rfl, fun i h3 h4 => hf.2.2.1 i (by omega) h4, fun i h3 h4 => by dsimp only at h3; omega, fun i h3 h4 => by dsimp only at h3; omega⟩
  rintro ⟨j, h⟩ hq ih
  obtain ⟨hj, hdh, hk0, hk1, hk2, hk3⟩ := hq
  dsimp only at hj hdh hk0 hk1 hk2 hk3 ⊢
  have hOk : (wset w r (true, eI 18 h)).2 a = some (true, oW r u bl) := by rw [wset_n hne]; exact hO
  refine g_iload C dX5_shiftUp_39 rfl ?_
  refine g_if_lt (tgt := 117) C dX5_shiftUp_41 (by decide) (by omega) (fun h41 => ?_) (fun h41 => ?_)
  · refine g_aload_n C dX5_shiftUp_117 rfl ?_
    refine g_iload C dX5_shiftUp_118 rfl ?_
    refine g_callV C (c_X5_trim _ (p := e) hOk wset_s hdh he1 hk1 hbl) (ci := 7) rfl hOk rfl ml_RX5_30 im_yX5_trim se_RX5_yX5_trim in_RX5 co_yX5_trim hd_X5_trim rfl ⟨by omega, by omega⟩ rfl (Nat.le_of_ble_eq_true rfl) ⟨by omega, by omega⟩ dX5_shiftUp_120 (fun v120 w120 hp120 => ?_)
    obtain ⟨rfl, u', hw9, hO9, fr9⟩ := hp120
    exact g_return C hQ dX5_shiftUp_123 (Nat.le_refl _) (Nat.le_refl _) ⟨rfl, h, u', ⟨hO9, by rw [fr9.2 r (Ne.symm hne)]; exact wset_s, hw9, by split <;> omega⟩, by
      rw [← hmnE]
      exact shift_all hf hu0 (by omega) he1 he2 (fun i h3 h4 => hk2 i (by omega) h4 h3) (fun i h3 => hk3 i (by omega) h3) hk1 hdh hbd, ⟨fr9.1, fun z h3 h4 => by rw [fr9.2 z h3, wset_n h4]⟩⟩
  · obtain ⟨k, hk⟩ : ∃ k : Nat, k + j + 1 = e := ⟨e - 1 - j, by omega⟩
    rw [show (e : Int) - 1 - (j : Int) = (k : Int) by omega]
    refine g_iload C dX5_shiftUp_44 rfl ?_
    refine g_iload_n C dX5_shiftUp_46 rfl ?_
    refine g_isub C dX5_shiftUp_47 ?_
    refine g_istore C dX5_shiftUp_48 (by decide) rfl ?_
    have J68 : ∀ x : Int, (k < D ∧ x = 0 ∨ D ≤ k ∧ x = f (k - D) * 2 ^ Bt) → G E X 9 68 [some (.ref a), some (iI (mn : Int)), some (iI (D : Int)), some (iI (Bt : Int)), some (iI (e : Int)), some (iI (k : Int)), some (iI ((k : Int) - (D : Int))), none, none] [iI x] (wset w r (true, eI 18 h)) 0 0 := by
      intro x hx
      refine g_istore C dX5_shiftUp_68 (by decide) rfl ?_
      have J94 : ∀ y : Int, (k < D + 1 ∧ y = 0 ∨ D + 1 ≤ k ∧ y = f (k - D - 1) * 2 ^ Bt / B28) → G E X 9 94 [some (.ref a), some (iI (mn : Int)), some (iI (D : Int)), some (iI (Bt : Int)), some (iI (e : Int)), some (iI (k : Int)), some (iI ((k : Int) - (D : Int))), some (iI x), none] [iI y] (wset w r (true, eI 18 h)) 0 0 := by
        intro y hy
        have hy2 : 0 ≤ y ∧ y < 2 ^ Bt := by
          rcases hy with ⟨-, q⟩ | ⟨q1, q⟩
          · rw [q]; exact ⟨Int.le_refl _, pBt⟩
          · rw [q]; exact hf9 _ (by omega)
        have hor := i_or2 (x := x / 2 ^ Bt % 2 ^ (28 - Bt)) (t := y) Bt (Int.emod_nonneg _ (Int.ne_of_gt (p2_pos _))) hy2 (by omega)
        have hxm : x / 2 ^ Bt % 2 ^ (28 - Bt) * 2 ^ Bt = x % B28 := by
          rcases hx with ⟨-, q⟩ | ⟨-, q⟩
          · rw [q, Int.zero_ediv, Int.zero_emod, Int.zero_mul, Int.zero_emod]
          · rw [q, Int.mul_ediv_cancel _ (Int.ne_of_gt pBt), hlt]
        rw [hxm] at hor
        have hnew : 0 ≤ x % B28 + y ∧ x % B28 + y < B28 := by
          have m0 := Int.emod_nonneg (x / 2 ^ Bt) (Int.ne_of_gt (p2_pos (28 - Bt)))
          have m1 := Int.emod_lt_of_pos (x / 2 ^ Bt) (p2_pos (28 - Bt))
          have m2 := Int.mul_le_mul_of_nonneg_right (show x / 2 ^ Bt % 2 ^ (28 - Bt) + 1 ≤ 2 ^ (28 - Bt) by omega) (Int.le_of_lt pBt)
          rw [← Int.pow_add, show 28 - Bt + Bt = 28 by omega, Int.add_mul, Int.one_mul, hxm, show (2 : Int) ^ 28 = B28 by decide] at m2
          have m3 := mod28 x
          omega
        refine g_istore C dX5_shiftUp_94 (by decide) rfl ?_
        refine g_aload_n C dX5_shiftUp_96 rfl ?_
        refine g_get (ci := 7) C rfl inTX5 0 (by decide) fl_RX5_9 rfl hOk rfl dX5_shiftUp_97 ?_
        refine g_iload C dX5_shiftUp_100 rfl ?_
        refine g_iload C dX5_shiftUp_102 rfl ?_
        refine g_ldc (z := 268435455) C ko_RX5_69 (by decide) dX5_shiftUp_104 ?_
        refine g_iand (z := x % B28) C dX5_shiftUp_106 (i_mask 28 (by omega) mask28) ?_
        refine g_iload C dX5_shiftUp_107 rfl ?_
        refine g_ior (z := x % B28 + y) C dX5_shiftUp_109 hor ?_
        refine g_iastoreN (k) C wset_s (by omega) (by omega) dX5_shiftUp_110 ?_
        rw [wset_set]
        refine g_iinc C dX5_shiftUp_111 rfl (by decide) rfl ?_
        refine g_goto (tgt := 39) C dX5_shiftUp_114 (by decide) ?_
        refine g_drop 8 ?_
        refine g_drop 7 ?_
        refine g_drop 6 ?_
        rw [show (k : Int) + -1 = (e : Int) - 1 - ((j + 1 : Nat) : Int) by omega]
        exact ih (j + 1, iup h k (x % B28 + y)) ⟨by dsimp only; omega, hdh.up _ hnew, fun i h3 => by dsimp only at h3 ⊢; rw [iup_n (by omega)]; exact hk0 i (by omega), fun i h3 h4 => by dsimp only; rw [iup_n (by omega)]; exact hk1 i h3 h4, fun i h3 h4 h5 => by
          dsimp only at h3 ⊢
          by_cases q : i = k
          · rw [q, iup_s]
            rcases hx with ⟨q1, q2⟩ | ⟨q1, q2⟩
            · rcases hy with ⟨q3, q4⟩ | ⟨q3, q4⟩
              · rw [q2, q4]; rfl
              · omega
            · omega
          · rw [iup_n q]; exact hk2 i (by omega) h4 h5, fun i h3 h4 => by
          dsimp only at h3 ⊢
          by_cases q : D + i = k
          · rw [q, iup_s]
            rcases hx with ⟨q1, q2⟩ | ⟨q1, q2⟩
            · omega
            · rw [q2, show k - D = i by omega]
              rcases hy with ⟨q3, q4⟩ | ⟨q3, q4⟩
              · rw [if_pos (by omega), q4]
              · rw [if_neg (by omega), q4, show k - D - 1 = i - 1 by omega]
          · rw [iup_n q]; exact hk3 i (by omega) h4⟩ (by dsimp only; omega)
      refine g_iload C dX5_shiftUp_70 rfl ?_
      refine g_iconst C dX5_shiftUp_72 ?_
      refine g_icmp_lt (tgt := 93) C dX5_shiftUp_73 (by decide) (by omega) (by omega) (fun h73 => ?_) (fun h73 => ?_)
      · refine g_iconst C dX5_shiftUp_93 ?_
        first | exact J94 _ (Or.inr ⟨by omega, rfl⟩) | exact J94 0 (Or.inl ⟨by omega, rfl⟩)
      · have hfl := hk0 (k - D - 1) (by omega)
        have hf0l := hf.1 (k - D - 1) (by omega)
        refine g_aload_n C dX5_shiftUp_76 rfl ?_
        refine g_get (ci := 7) C rfl inTX5 0 (by decide) fl_RX5_9 rfl hOk rfl dX5_shiftUp_77 ?_
        refine g_iload C dX5_shiftUp_80 rfl ?_
        refine g_iconst C dX5_shiftUp_82 ?_
        refine g_isub C dX5_shiftUp_83 ?_
        refine g_ialoadN (k - D - 1) C wset_s (by omega) (by omega) dX5_shiftUp_84 ?_
        rw [hfl]
        refine g_bipush C dX5_shiftUp_85 (by decide) ?_
        refine g_iload_n C dX5_shiftUp_87 rfl ?_
        refine g_isub C dX5_shiftUp_88 ?_
        rw [show (28 : Int) - (Bt : Int) = ((28 - Bt : Nat) : Int) by omega]
        refine g_iushr (z := f (k - D - 1) / 2 ^ (28 - Bt)) C dX5_shiftUp_89 (i_ushr (28 - Bt) (by omega) (by omega) (shd28 (28 - Bt) (by omega))) ?_
        rw [hlow _ (by omega)]
        refine g_goto (tgt := 94) C dX5_shiftUp_90 (by decide) ?_
        first | exact J94 _ (Or.inr ⟨by omega, rfl⟩) | exact J94 0 (Or.inl ⟨by omega, rfl⟩)
    refine g_iload C dX5_shiftUp_50 rfl ?_
    refine g_if_lt (tgt := 67) C dX5_shiftUp_52 (by decide) (by omega) (fun h52 => ?_) (fun h52 => ?_)
    · refine g_iconst C dX5_shiftUp_67 ?_
      first | exact J68 _ (Or.inr ⟨by omega, rfl⟩) | exact J68 0 (Or.inl ⟨by omega, rfl⟩)
    · refine g_aload_n C dX5_shiftUp_55 rfl ?_
      refine g_get (ci := 7) C rfl inTX5 0 (by decide) fl_RX5_9 rfl hOk rfl dX5_shiftUp_56 ?_
      refine g_iload C dX5_shiftUp_59 rfl ?_
      refine g_ialoadN (k - D) C wset_s (by omega) (by omega) dX5_shiftUp_61 ?_
      rw [hk0 (k - D) (by omega)]
      refine g_iload_n C dX5_shiftUp_62 rfl ?_
      refine g_ishl (z := f (k - D) * 2 ^ Bt) C dX5_shiftUp_63 (i_shl Bt (by omega)) ?_
      refine g_goto (tgt := 68) C dX5_shiftUp_64 (by decide) ?_
      first | exact J68 _ (Or.inr ⟨by omega, rfl⟩) | exact J68 0 (Or.inl ⟨by omega, rfl⟩)
set_option maxHeartbeats 4000000 in
set_option maxRecDepth 100000 in
theorem v_X5_setWhole (l : Launch) {E : GE} {w : Wd} {a r b s : Nat} {z2 : Int} (h1 : WS w a r) (h2 : WA w b s z2) (hrs : r ≠ s) : Sp E l yX5_setWhole cX5_setWhole 2 none 1 (0) (0) [.ref a, .ref b] w (fun r' w' => r' = none ∧ WA w' a r z2 ∧ FrW w w' a r) := by
  refine sp_intro [some (.ref a), some (.ref b)] rfl (Nat.le_of_ble_eq_true rfl) pn_X5 ?_
  intro X C hRm hl hnm hQ
  obtain ⟨hRf, hRl, hRc, hRs⟩ := hRm
  refine g_wf (fun hwf => ?_)
  obtain ⟨f, u, bl, hO, hR, -, -, -⟩ := id h1
  obtain ⟨g, v, bm, k2, n2⟩ := h2.ra
  obtain ⟨hO2, hR2, hg, hbm⟩ := id k2
  have hne := oI_ne hO hR
  have hn12 := oI_ne hO hR2
  have hn21 := oI_ne hO2 hR
  have hcp : ∀ i, i < 18 → cpyI g f (0 : Int).toNat (0 : Int).toNat (18 : Int).toNat i = g i := fun i hi => by
    show (if 0 ≤ i ∧ i < 0 + 18 then g (0 + (i - 0)) else f i) = g i
    rw [if_pos ⟨Nat.zero_le _, by omega⟩, Nat.zero_add, Nat.sub_zero]
  have hW9 : WN (cpyI g f (0 : Int).toNat (0 : Int).toNat (18 : Int).toNat) v bm z2 := by
    generalize cpyI g f (0 : Int).toNat (0 : Int).toNat (18 : Int).toNat = c at hcp
    have hV : V18 c = V18 g := nv_congr hcp
    obtain ⟨⟨q1, q2, q3, q4⟩, q5⟩ := n2
    refine ⟨⟨fun i hi => by rw [hcp i hi]; exact q1 i hi, q2, fun i h3 h4 => by rw [hcp i h4]; exact q3 i h3 h4, fun h3 => by rw [hcp _ (by omega)]; exact q4 h3⟩, ?_⟩
    rw [hV]; exact q5
  refine g_aload_n C dX5_setWhole_0 rfl ?_
  refine g_get (ci := 7) C rfl inTX5 0 (by decide) fl_RX5_9 rfl hO2 rfl dX5_setWhole_1 ?_
  refine g_iconst C dX5_setWhole_4 ?_
  refine g_aload_n C dX5_setWhole_5 rfl ?_
  refine g_get (ci := 7) C rfl inTX5 0 (by decide) fl_RX5_9 rfl hO rfl dX5_setWhole_6 ?_
  refine g_iconst C dX5_setWhole_9 ?_
  refine g_bipush C dX5_setWhole_10 (by decide) ?_
  refine g_acopyI C (f := g) (g := f) ⟨hR2, hR, by omega⟩ ml_RX5_34 (by omega) (by omega) (Nat.le_of_ble_eq_true rfl) dX5_setWhole_12 ?_
  refine g_aload_n C dX5_setWhole_15 rfl ?_
  refine g_aload_n C dX5_setWhole_16 rfl ?_
  refine g_get (ci := 7) C rfl inTX5 1 (by decide) fl_RX5_17 rfl (by rw [wset_n hn21]; exact hO2) rfl dX5_setWhole_17 ?_
  refine g_put (ci := 7) C rfl inTX5 tyX5 tyX5_ok nmX5 1 (by decide) fl_RX5_17 rfl rfl (by rw [wset_n hne]; exact hO) (Nat.le_of_ble_eq_true rfl) rfl rfl dX5_setWhole_20 ?_
  generalize hX : cpyI g f (0 : Int).toNat (0 : Int).toNat (18 : Int).toNat = c9 at *
  have hOa : (wset (wset w r (true, eI 18 c9)) a (true, eO 7 [.ref r, iI (v : Int), iI bl])).2 a = some (true, eO 7 [.ref r, iI (v : Int), iI bl]) := wset_s
  have hOb : ∃ vv : Nat, (wset (wset w r (true, eI 18 c9)) a (true, eO 7 [.ref r, iI (v : Int), iI bl])).2 b = some (true, oW s vv bm) := by
    by_cases c : b = a
    · rw [c, wset_s]
      rw [c] at hO2
      rw [hO] at hO2
      exact absurd (oW_inj hO2) hrs
    · exact ⟨v, by rw [wset_n c, wset_n hn21]; exact hO2⟩
  obtain ⟨vv, hOb⟩ := hOb
  refine g_aload_n C dX5_setWhole_23 rfl ?_
  refine g_aload_n C dX5_setWhole_24 rfl ?_
  refine g_get (ci := 7) C rfl inTX5 2 (by decide) fl_RX5_13 rfl hOb rfl dX5_setWhole_25 ?_
  refine g_put (ci := 7) C rfl inTX5 tyX5 tyX5_ok nmX5 2 (by decide) fl_RX5_13 rfl rfl hOa (Nat.le_of_ble_eq_true rfl) (by rcases hbm with c | c <;> (rw [c]; rfl)) (by rcases hbm with c | c <;> (rw [c]; rfl)) dX5_setWhole_28 ?_
  exact g_return C hQ dX5_setWhole_31 (Nat.le_refl _) (Nat.le_refl _) ⟨rfl, ⟨_, v, bm, wset_s, by rw [wset_n (Ne.symm hne), wset_n (Ne.symm hne)]; exact wset_s, hW9⟩, (((FrW.rf w a r).set (Or.inr rfl) _).set (Or.inl rfl) _).set (Or.inl rfl) _⟩
set_option maxHeartbeats 4000000 in
set_option maxRecDepth 100000 in
theorem v_X5_setNumber (l : Launch) {E : GE} {w : Wd} {a r : Nat} {x : Int} (hW : WS w a r) (hx : -9223372036854775808 < x ∧ x < 9223372036854775808) : Sp E l yX5_setNumber cX5_setNumber 6 none 2 (0) (0) [.ref a, jJ x] w (fun r' w' => r' = none ∧ WA w' a r x ∧ FrW w w' a r) := by
  refine sp_intro [some (.ref a), some (jJ x), none, none, none, none] rfl (Nat.le_of_ble_eq_true rfl) pn_X5 ?_
  intro X C hRm hl hnm hQ
  obtain ⟨hRf, hRl, hRc, hRs⟩ := hRm
  refine g_wf (fun hwf => ?_)
  obtain ⟨f, u, bl, hO, hR, -, -, -⟩ := id hW
  have hne := oI_ne hO hR
  refine g_aload_n C dX5_setNumber_0 rfl ?_
  refine g_callV C (c_X5_clear _ hO hR) (ci := 7) rfl hO rfl ml_RX5_25 im_yX5_clear se_RX5_yX5_clear in_RX5 co_yX5_clear hd_X5_clear rfl ⟨by omega, by omega⟩ rfl (Nat.le_of_ble_eq_true rfl) ⟨by omega, by omega⟩ dX5_setNumber_1 (fun v1 w1 hp1 => ?_)
  obtain ⟨rfl, g1, hO1, hR1, hg1, fr1⟩ := hp1
  have J16 : ∀ q : Int, (q = 1 ∧ x < 0 ∨ q = 0 ∧ 0 ≤ x) → G E X 6 16 [some (.ref a), some (jJ x), none, none, none, none] [iI q, .ref a] w1 0 0 := by
    intro q hq
    refine g_put (ci := 7) C rfl inTX5 tyX5 tyX5_ok nmX5 2 (by decide) fl_RX5_13 rfl rfl hO1 (Nat.le_of_ble_eq_true rfl) (by rcases hq with ⟨c, -⟩ | ⟨c, -⟩ <;> (rw [c]; rfl)) (by rcases hq with ⟨c, -⟩ | ⟨c, -⟩ <;> (rw [c]; rfl)) dX5_setNumber_16 ?_
    obtain ⟨w2, hw0⟩ : ∃ w2, w2 = wset w1 a (true, eO 7 [.ref r, iI 0, iI q]) := ⟨_, rfl⟩
    refine g_eqw (w' := w2) hw0.symm ?_
    have hO2 : w2.2 a = some (true, eO 7 [.ref r, iI 0, iI q]) := by rw [hw0]; exact wset_s
    have hR2 : w2.2 r = some (true, eI 18 g1) := by rw [hw0, wset_n (Ne.symm hne)]; exact hR1
    have fr2 : FrW w w2 a r := by rw [hw0]; exact fr1.set (Or.inl rfl) _
    have hq01 : q = 0 ∨ q = 1 := by omega
    have J32 : G E X 6 32 [some (.ref a), some (jJ x), none, none, none, none] [jJ (aB x)] w2 0 0 := by
      refine g_lstore_n C dX5_setNumber_32 (by decide) rfl ?_
      refine g_iconst C dX5_setNumber_33 ?_
      refine g_istore C dX5_setNumber_34 (by decide) rfl ?_
      have J73 : ∀ (k : Nat) (lf : Int) (h : Nat → Int), DC h → V18 h = aB x → G E X 6 73 [some (.ref a), some (jJ x), none, some (jJ lf), none, some (iI (k : Int))] [] (wset w2 r (true, eI 18 h)) 0 0 := by
        intro k lf h hdh hV
        have hOk : (wset w2 r (true, eI 18 h)).2 a = some (true, eO 7 [.ref r, iI 0, iI q]) := by rw [wset_n hne]; exact hO2
        refine g_aload_n C dX5_setNumber_73 rfl ?_
        refine g_bipush C dX5_setNumber_74 (by decide) ?_
        refine g_callV C (c_X5_trim _ (p := 18) hOk wset_s hdh (Nat.le_refl _) (fun i h3 h4 => by omega) hq01) (ci := 7) rfl hOk rfl ml_RX5_30 im_yX5_trim se_RX5_yX5_trim in_RX5 co_yX5_trim hd_X5_trim rfl ⟨by omega, by omega⟩ rfl (Nat.le_of_ble_eq_true rfl) ⟨by omega, by omega⟩ dX5_setNumber_76 (fun v76 w76 hp76 => ?_)
        obtain ⟨rfl, u', hw9, hO9, fr9⟩ := hp76
        exact g_return C hQ dX5_setNumber_79 (Nat.le_refl _) (Nat.le_refl _) ⟨rfl, by
          have k9 : RA w76 a r h u' (if 0 < u' then q else 0) := ⟨hO9, by rw [fr9.2 r (Ne.symm hne)]; exact wset_s, hw9, by split <;> omega⟩
          have := k9.wa hq01
          rw [hV] at this
          refine this.eq ?_
          unfold aB
          split <;> split <;> omega, ⟨fr9.1.trans fr2.1, fun y h3 h4 => by rw [fr9.2 y h3, wset_n h4]; exact fr2.2 y h3 h4⟩⟩
      suffices hh : G E X 6 36 [some (.ref a), some (jJ x), none, some (jJ (aB x)), none, some (iI ((0 : Nat) : Int))] [] (wset w2 r (true, eI 18 g1)) 0 0 by rw [wset_id hR2] at hh; exact hh
      refine g_loop (σ := Nat × Int × (Nat → Int)) (fun t => t.1 ≤ 18 ∧ 0 ≤ t.2.1 ∧ (t.1 = 0 → t.2.1 < 9223372036854775808) ∧ (t.1 = 1 → t.2.1 < 34359738368) ∧ (t.1 = 2 → t.2.1 < 128) ∧ (3 ≤ t.1 → t.2.1 = 0) ∧ DC t.2.2 ∧ (∀ i, t.1 ≤ i → i < 18 → t.2.2 i = 0) ∧ nv B28 t.2.2 t.1 + t.2.1 * B28 ^ t.1 = aB x) (fun t => G E X 6 36 [some (.ref a), some (jJ x), none, some (jJ t.2.1), none, some (iI (t.1 : Int))] [] (wset w2 r (true, eI 18 t.2.2)) 0 0) (fun t => 18 - t.1) ?_ (0, aB x, g1) ⟨by dsimp only; omega, by dsimp only; unfold aB; split <;> omega, fun _ => by dsimp only; unfold aB; split <;> omega, fun c => by dsimp only at c; omega, fun c => by dsimp only at c; omega, fun c => by dsimp only at c; omega, fun i hi => by dsimp only; rw [hg1 i hi]; decide, fun i _ hi => hg1 i hi, by show (0 : Int) + aB x * B28 ^ 0 = aB x; rw [Int.pow_zero]; omega⟩
      rintro ⟨j, lf, h⟩ hq9 ih
      obtain ⟨hj, hl0, hl1, hl2, hl3, hl4, hdh, hhi, hv⟩ := hq9
      dsimp only at hj hl0 hl1 hl2 hl3 hl4 hdh hhi hv ⊢
      have hOk : (wset w2 r (true, eI 18 h)).2 a = some (true, eO 7 [.ref r, iI 0, iI q]) := by rw [wset_n hne]; exact hO2
      have hVk : lf = 0 → V18 h = aB x := fun c => by
        rw [c, Int.zero_mul, Int.add_zero] at hv
        rw [← hv]
        exact nv_zeros hj hhi
      have hm28 := mod28 lf
      have hd28e : lf / B28 = lf / 268435456 := rfl
      refine g_iload C dX5_setNumber_36 rfl ?_
      refine g_bipush C dX5_setNumber_38 (by decide) ?_
      refine g_icmp_ge (tgt := 73) C dX5_setNumber_40 (by decide) (by omega) (by omega) (fun h40 => ?_) (fun h40 => ?_)
      · exact J73 j lf h hdh (hVk (by omega))
      · refine g_lload_n C dX5_setNumber_43 rfl ?_
        refine g_lconst (z := 0) C dX5_setNumber_44 (by decide) ?_
        refine g_lcmp C dX5_setNumber_45 (by omega) (by omega) (fun c45 hc45 => ?_)
        refine g_if_eq (tgt := 73) C dX5_setNumber_46 (by decide) (by omega) (fun h46 => ?_) (fun h46 => ?_)
        · exact J73 j lf h hdh (hVk (by omega))
        · refine g_aload_n C dX5_setNumber_49 rfl ?_
          refine g_get (ci := 7) C rfl inTX5 0 (by decide) fl_RX5_9 rfl hOk rfl dX5_setNumber_50 ?_
          refine g_iload C dX5_setNumber_53 rfl ?_
          refine g_lload_n C dX5_setNumber_55 rfl ?_
          refine g_ldc2 (z := 268435455) C kj_RX5_28 (by decide) dX5_setNumber_56 ?_
          refine g_land (z := lf % B28) C dX5_setNumber_59 (j_mask 28 (by omega) mask28) ?_
          refine g_l2i C dX5_setNumber_60 ?_
          refine g_iastoreN (j) C wset_s (by omega) (by omega) dX5_setNumber_61 ?_
          rw [wset_set]
          refine g_lload_n C dX5_setNumber_62 rfl ?_
          refine g_bipush C dX5_setNumber_63 (by decide) ?_
          refine g_lushr (z := lf / B28) C dX5_setNumber_65 (j_ushr 28 (by omega) (by omega) (by decide)) ?_
          refine g_lstore_n C dX5_setNumber_66 (by decide) rfl ?_
          refine g_iinc C dX5_setNumber_67 rfl (by decide) rfl ?_
          refine g_goto (tgt := 36) C dX5_setNumber_70 (by decide) ?_
          refine ih (j + 1, lf / B28, iup h j (lf % B28)) ⟨by dsimp only; omega, by dsimp only; omega, fun c => by dsimp only at c; omega, fun c => by dsimp only at c ⊢; omega, fun c => by dsimp only at c ⊢; omega, fun c => by dsimp only at c ⊢; omega, hdh.up _ hm28, fun i h3 h4 => by dsimp only at h3 ⊢; rw [iup_n (by omega)]; exact hhi i (by omega) h4, dig_step (by decide) hv⟩ (by dsimp only; omega)
    refine g_aload_n C dX5_setNumber_19 rfl ?_
    refine g_get (ci := 7) C rfl inTX5 2 (by decide) fl_RX5_13 rfl hO2 rfl dX5_setNumber_20 ?_
    refine g_if_eq (tgt := 31) C dX5_setNumber_23 (by decide) (by omega) (fun h23 => ?_) (fun h23 => ?_)
    · refine g_lload_n C dX5_setNumber_31 rfl ?_
      first | exact g_eq rfl (by rw [show aB x = -x by unfold aB; rw [if_pos (by omega)]]) J32 | exact g_eq rfl (by rw [show aB x = x by unfold aB; rw [if_neg (by omega)]]) J32
    · refine g_lload_n C dX5_setNumber_26 rfl ?_
      refine g_lneg C dX5_setNumber_27 ?_
      refine g_goto (tgt := 32) C dX5_setNumber_28 (by decide) ?_
      first | exact g_eq rfl (by rw [show aB x = -x by unfold aB; rw [if_pos (by omega)]]) J32 | exact g_eq rfl (by rw [show aB x = x by unfold aB; rw [if_neg (by omega)]]) J32
  refine g_aload_n C dX5_setNumber_4 rfl ?_
  refine g_lload_n C dX5_setNumber_5 rfl ?_
  refine g_lconst (z := 0) C dX5_setNumber_6 (by decide) ?_
  refine g_lcmp C dX5_setNumber_7 (by omega) (by omega) (fun c7 hc7 => ?_)
  refine g_if_ge (tgt := 15) C dX5_setNumber_8 (by decide) (by omega) (fun h8 => ?_) (fun h8 => ?_)
  · refine g_iconst C dX5_setNumber_15 ?_
    exact J16 _ (by omega)
  · refine g_iconst C dX5_setNumber_11 ?_
    refine g_goto (tgt := 16) C dX5_setNumber_12 (by decide) ?_
    exact J16 _ (by omega)
/-! the class's numbers: contracts that say the number -/
theorem Sp.imp {E : GE} {l : Launch} {y : MethodName} {cc : ByteArray} {maxL : Nat} {ret : Option FieldType} {dep mc ms : Nat} {av : List Value} {w : Wd} {Post Post' : Option Value → Wd → Prop} (h : Sp E l y cc maxL ret dep mc ms av w Post) (hp : ∀ r w', Post r w' → Post' r w') : Sp E l y cc maxL ret dep mc ms av w Post' := by
  intro p e ha hc hk s m args below hf happ hP hK
  obtain ⟨n, o, h1, h2, h3, ⟨⟨v, w', q1, q2, q3⟩, q4⟩, q5⟩ := h p e ha hc hk s m args below hf happ hP hK
  exact ⟨n, o, h1, h2, h3, ⟨⟨v, w', q1, hp _ _ q2, q3⟩, q4⟩, q5⟩
theorem WA.ws {w : Wd} {a r : Nat} {z : Int} (h : WA w a r z) : WS w a r := by
  obtain ⟨f, u, bl, k, n⟩ := h.ra
  exact ⟨f, u, bl, k.1, k.2.1, k.2.2.1.1, k.2.2.1.2.1, k.2.2.2⟩
theorem WA.cap {w : Wd} {a r : Nat} {z : Int} (h : WA w a r z) : aB z < B28 ^ 18 := by
  obtain ⟨f, u, bl, k, n⟩ := h.ra
  rw [n.ab.1]
  exact Int.lt_of_lt_of_le k.2.2.1.lt (pw28_le k.2.2.1.2.1)
theorem aB_0 (z : Int) : 0 ≤ aB z := by unfold aB; split <;> omega
theorem aB_p {z : Int} (h : 0 ≤ z) : aB z = z := by unfold aB; rw [if_neg (by omega)]
theorem V18n {f : Nat → Int} {u : Nat} {bl z : Int} (h : WN f u bl z) : V18 f = aB z := h.ab.1.symm
theorem u_X5_multiplySmall (l : Launch) {E : GE} {w : Wd} {a r : Nat} {z : Int} (h1 : WA w a r z) {by_ mo : Int} (hby : 0 ≤ by_ ∧ by_ ≤ 1000) (hmo : 0 ≤ mo ∧ mo ≤ 1000) (hz : 0 ≤ z ∨ mo = 0) (hbd : aB z * by_ + mo < B28 ^ 18) : Sp E l yX5_multiplySmall cX5_multiplySmall 7 none 1 (0) (0) [.ref a, iI by_, iI mo] w (fun r' w' => r' = none ∧ WA w' a r (z * by_ + mo) ∧ FrW w w' a r) := by
  obtain ⟨f, u, bl, k1, n1⟩ := h1.ra
  have e1 := V18n n1
  have s1 := n1.z
  have a1 := n1.ab.2.1
  have b1 := k1.2.2.2
  refine (v_X5_multiplySmall l k1 hby hmo (by rw [e1]; exact hbd)).imp ?_
  rintro r' w' ⟨q1, f', u', hr, hv, fr⟩
  refine ⟨q1, (hr.wa b1).eq ?_, fr⟩
  rw [hv]
  rcases s1 with ⟨c1, c2⟩ | ⟨c1, c2⟩
  · rw [if_pos c1, show mo = 0 by omega, c2, Int.neg_mul]; omega
  · rw [if_neg (by omega), ← c2]
theorem u_X5_divideSmall (l : Launch) {E : GE} {w : Wd} {a r : Nat} {z : Int} (h1 : WA w a r z) {y : Int} (hy : 1 ≤ y ∧ y ≤ 1000) : Sp E l yX5_divideSmall cX5_divideSmall 7 (some .int) 1 (0) (0) [.ref a, iI y] w (fun r' w' => ∃ d q : Int, r' = some (iI d) ∧ 0 ≤ d ∧ d < y ∧ WA w' a r q ∧ aB q * y + d = aB z ∧ (0 ≤ z → 0 ≤ q) ∧ (z ≤ 0 → q ≤ 0) ∧ FrW w w' a r) := by
  obtain ⟨f, u, bl, k1, n1⟩ := h1.ra
  have e1 := V18n n1
  have s1 := n1.z
  have a1 := n1.ab.2.1
  have b1 := k1.2.2.2
  refine (v_X5_divideSmall l k1 hy).imp ?_
  rintro r' w' ⟨d, q1, q2, q3, f', u', hr, hv, fr⟩
  have h0 := V18_0 hr.2.2.1.1
  have hw := hr.wa b1
  refine ⟨d, _, q1, q2, q3, hw, ?_, fun _ => ?_, fun _ => ?_, fr⟩
  · rw [← e1, ← hv]
    congr 1
    congr 1
    rcases s1 with ⟨c1, c2⟩ | ⟨c1, c2⟩
    · rw [if_pos c1, aB_neg, aB_p h0]
    · rw [if_neg (by omega), aB_p h0]
  · rcases s1 with ⟨c1, c2⟩ | ⟨c1, c2⟩
    · omega
    · rw [if_neg (by omega)]; exact h0
  · rcases s1 with ⟨c1, c2⟩ | ⟨c1, c2⟩
    · rw [if_pos c1]; omega
    · rw [if_neg (by omega)]
      have hz : V18 f = 0 := by have := V18_0 k1.2.2.1.1; omega
      rw [hz] at hv
      rcases Int.lt_or_le 0 (V18 f') with c | c
      · have := Int.mul_le_mul c hy.1 (by omega) h0
        omega
      · exact c
theorem u_X5_compareSize (l : Launch) {E : GE} {w : Wd} {a r b s : Nat} {z1 z2 : Int} (h1 : WA w a r z1) (h2 : WA w b s z2) : Sp E l yX5_compareSize cX5_compareSize 3 (some .int) 1 (0) (0) [.ref a, .ref b] w (fun r' w' => (∃ d : Int, r' = some (iI d) ∧ (aB z1 < aB z2 ∧ d = -1 ∨ aB z1 = aB z2 ∧ d = 0 ∨ aB z2 < aB z1 ∧ d = 1)) ∧ w' = w) := by
  obtain ⟨f, u, bl, k1, n1⟩ := h1.ra
  have e1 := V18n n1
  have s1 := n1.z
  have a1 := n1.ab.2.1
  have b1 := k1.2.2.2
  obtain ⟨g, v, bm, k2, n2⟩ := h2.ra
  have e2 := V18n n2
  have s2 := n2.z
  have a2 := n2.ab.2.1
  have b2 := k2.2.2.2
  rw [← e1, ← e2]
  exact c_X5_compareSize l k1 k2
theorem u_X5_addSize (l : Launch) {E : GE} {w : Wd} {a r b s : Nat} {z1 z2 : Int} (h1 : WA w a r z1) (h2 : WA w b s z2) (hrs : r ≠ s) (p1 : 0 ≤ z1) (p2 : 0 ≤ z2) (hbd : z1 + z2 < B28 ^ 18) : Sp E l yX5_addSize cX5_addSize 5 none 1 (0) (0) [.ref a, .ref b] w (fun r' w' => r' = none ∧ WA w' a r (z1 + z2) ∧ FrW w w' a r) := by
  obtain ⟨f, u, bl, k1, n1⟩ := h1.ra
  have e1 := V18n n1
  have s1 := n1.z
  have a1 := n1.ab.2.1
  have b1 := k1.2.2.2
  obtain ⟨g, v, bm, k2, n2⟩ := h2.ra
  have e2 := V18n n2
  have s2 := n2.z
  have a2 := n2.ab.2.1
  have b2 := k2.2.2.2
  rw [aB_p p1] at e1
  rw [aB_p p2] at e2
  refine (c_X5_addSize l k1 k2 hrs (by rw [e1, e2]; exact hbd)).imp ?_
  rintro r' w' ⟨q1, f', u', hr, hv, fr⟩
  refine ⟨q1, (hr.wa b1).eq ?_, fr⟩
  rw [hv, if_neg (by omega), e1, e2]
theorem u_X5_takeSize (l : Launch) {E : GE} {w : Wd} {a r b s : Nat} {z1 z2 : Int} (h1 : WA w a r z1) (h2 : WA w b s z2) (hrs : r ≠ s) (p1 : 0 ≤ z2) (p2 : z2 ≤ z1) : Sp E l yX5_takeSize cX5_takeSize 6 none 1 (0) (0) [.ref a, .ref b] w (fun r' w' => r' = none ∧ WA w' a r (z1 - z2) ∧ FrW w w' a r) := by
  obtain ⟨f, u, bl, k1, n1⟩ := h1.ra
  have e1 := V18n n1
  have s1 := n1.z
  have a1 := n1.ab.2.1
  have b1 := k1.2.2.2
  obtain ⟨g, v, bm, k2, n2⟩ := h2.ra
  have e2 := V18n n2
  have s2 := n2.z
  have a2 := n2.ab.2.1
  have b2 := k2.2.2.2
  rw [aB_p (by omega)] at e1
  rw [aB_p p1] at e2
  refine (c_X5_takeSize l k1 k2 hrs (by rw [e1, e2]; exact p2)).imp ?_
  rintro r' w' ⟨q1, f', u', hr, hv, fr⟩
  refine ⟨q1, (hr.wa b1).eq ?_, fr⟩
  rw [hv, if_neg (by omega), e1, e2]
theorem u_X5_shiftUp (l : Launch) {E : GE} {w : Wd} {a r : Nat} {z : Int} (h1 : WA w a r z) {mn : Nat} (hmn : mn ≤ 2000) (hz : 0 < z) (hbd : z * 2 ^ mn < B28 ^ 18) : Sp E l yX5_shiftUp cX5_shiftUp 9 none 1 (0) (0) [.ref a, iI (mn : Int)] w (fun r' w' => r' = none ∧ WA w' a r (z * 2 ^ mn) ∧ FrW w w' a r) := by
  obtain ⟨f, u, bl, k1, n1⟩ := h1.ra
  have e1 := V18n n1
  have s1 := n1.z
  have a1 := n1.ab.2.1
  have b1 := k1.2.2.2
  rw [aB_p (by omega)] at e1
  have hu : 0 < u := by
    have := n1.ab.2.2
    rcases Nat.eq_zero_or_pos u with c | c
    · have := this.mp c; omega
    · exact c
  refine (v_X5_shiftUp l k1 hmn hu (by rw [e1]; exact hbd)).imp ?_
  rintro r' w' ⟨q1, f', u', hr, hv, fr⟩
  refine ⟨q1, (hr.wa b1).eq ?_, fr⟩
  rw [hv, if_neg (by omega), e1]
theorem u_X5_bits (l : Launch) {E : GE} {w : Wd} {a r : Nat} {z : Int} (h1 : WA w a r z) : Sp E l yX5_bits cX5_bits 2 (some .int) 1 (0) (0) [.ref a] w (fun r' w' => r' = some (iI (hiB (aB z) 504 + 1)) ∧ w' = w) := by
  obtain ⟨f, u, bl, k1, n1⟩ := h1.ra
  have e1 := V18n n1
  have s1 := n1.z
  have a1 := n1.ab.2.1
  have b1 := k1.2.2.2
  rw [← e1]
  exact v_X5_bits l k1
theorem u_X5_ones (l : Launch) {E : GE} {w : Wd} {a r : Nat} {z : Int} (h1 : WA w a r z) : Sp E l yX5_ones cX5_ones 3 (some .int) 1 (0) (0) [.ref a] w (fun r' w' => r' = some (iI (onB (aB z) 504)) ∧ w' = w) := by
  obtain ⟨f, u, bl, k1, n1⟩ := h1.ra
  have e1 := V18n n1
  have s1 := n1.z
  have a1 := n1.ab.2.1
  have b1 := k1.2.2.2
  rw [← e1]
  exact v_X5_ones l k1
theorem u_X5_zerosBehind (l : Launch) {E : GE} {w : Wd} {a r : Nat} {z : Int} (h1 : WA w a r z) : Sp E l yX5_zerosBehind cX5_zerosBehind 2 (some .int) 1 (0) (0) [.ref a] w (fun r' w' => r' = some (iI (loB (aB z) 504)) ∧ w' = w) := by
  obtain ⟨f, u, bl, k1, n1⟩ := h1.ra
  have e1 := V18n n1
  have s1 := n1.z
  have a1 := n1.ab.2.1
  have b1 := k1.2.2.2
  rw [← e1]
  exact v_X5_zerosBehind l k1
theorem u_X5_hasBit (l : Launch) {E : GE} {w : Wd} {a r : Nat} {z : Int} (h1 : WA w a r z) {p : Nat} (hp : p ≤ 1000) : Sp E l yX5_hasBit cX5_hasBit 3 (some .boolean) 0 (0) (0) [.ref a, iI (p : Int)] w (fun r' w' => r' = some (iI (bI (bt (aB z) p = 1))) ∧ w' = w) := by
  obtain ⟨f, u, bl, k1, n1⟩ := h1.ra
  have e1 := V18n n1
  have s1 := n1.z
  have a1 := n1.ab.2.1
  have b1 := k1.2.2.2
  rw [← e1]
  exact v_X5_hasBit l k1 hp
theorem bits_r {z : Int} : 0 ≤ hiB (aB z) 504 + 1 ∧ hiB (aB z) 504 + 1 ≤ 504 := by have := hiB_r (aB z) 504; omega
theorem bits_lt {z : Int} (hc : aB z < B28 ^ 18) : aB z < 2 ^ (hiB (aB z) 504 + 1).toNat := by
  have h0 := aB_0 z
  rw [← p504] at hc
  have e : aB z % 2 ^ 504 = aB z := Int.emod_eq_of_lt h0 hc
  rcases hiB_len h0 (p := 504) with ⟨a, b⟩ | ⟨q, a, b, c⟩
  · rw [e] at b; rw [a, b]; decide
  · rw [e] at b c
    rw [a, show ((q : Int) + 1).toNat = q + 1 by omega]
    exact c
theorem bits_ge {z : Int} (hc : aB z < B28 ^ 18) (hz : 0 < aB z) : ∃ q : Nat, hiB (aB z) 504 + 1 = (q : Int) + 1 ∧ q < 504 ∧ 2 ^ q ≤ aB z ∧ aB z < 2 ^ (q + 1) := by
  have h0 := aB_0 z
  have hr := hiB_r (aB z) 504
  rw [← p504] at hc
  have e : aB z % 2 ^ 504 = aB z := Int.emod_eq_of_lt h0 hc
  rcases hiB_len h0 (p := 504) with ⟨a, b⟩ | ⟨q, a, b, c⟩
  · rw [e] at b; omega
  · rw [e] at b c
    exact ⟨q, by omega, by omega, b, c⟩
theorem bits_80 {z : Int} (hc : aB z < B28 ^ 18) : 80 < hiB (aB z) 504 + 1 ↔ LGN ≤ aB z := by
  rw [← p504] at hc
  have := hiB_gt (v := aB z) (p := 504) (k := 80) (aB_0 z) hc
  rw [p2_80] at this
  exact this
/-! the class's cells: their addresses by tag -/
def wo (ad : Nat → Nat) (j : Nat) : Nat := ad (200 + 2 * j)
def wr (ad : Nat → Nat) (j : Nat) : Nat := ad (201 + 2 * j)
def NS (τ ad : Nat → Nat) (w : Wd) : Prop := (∀ t, 100 ≤ t → t ≤ 340 → τ (ad t) = t) ∧ (∀ j, j < 70 → WS w (wo ad j) (wr ad j)) ∧ ∃ g, w.2 (ad 340) = some (true, eB 63 g) ∧ bF g
/-- the number of Whole j -/
def NW (ad : Nat → Nat) (w : Wd) (j : Nat) (z : Int) : Prop := WA w (wo ad j) (wr ad j) z
/-- all but the desk's own numbers and bytes stay -/
def KN (τ : Nat → Nat) (w w' : Wd) : Prop := w.1 ≤ w'.1 ∧ ∀ a x, (τ a < 200 ∨ 208 ≤ τ a ∧ τ a < 340) → w.2 a = some x → w'.2 a = some x
/-- all but Whole j stays -/
def KJ (τ : Nat → Nat) (j : Nat) (w w' : Wd) : Prop := w.1 ≤ w'.1 ∧ ∀ a x, τ a ≠ 200 + 2 * j → τ a ≠ 201 + 2 * j → w.2 a = some x → w'.2 a = some x
theorem KN.rf (τ : Nat → Nat) (w : Wd) : KN τ w w := ⟨Nat.le_refl _, fun _ _ _ h => h⟩
theorem KN.tr {τ : Nat → Nat} {w u v : Wd} (h : KN τ w u) (g : KN τ u v) : KN τ w v := ⟨Nat.le_trans h.1 g.1, fun a x t e => g.2 a x t (h.2 a x t e)⟩
theorem KN.fr {τ : Nat → Nat} {w u : Wd} (h : Fr w u) (hw : wF w) : KN τ w u := ⟨h.1, fun a x _ e => by rw [h.2 a (hw a x e)]; exact e⟩
theorem KJ.kn {τ : Nat → Nat} {j : Nat} {w u : Wd} (h : KJ τ j w u) (hj : j < 4) : KN τ w u := ⟨h.1, fun a x q e => h.2 a x (by omega) (by omega) e⟩
theorem WS.o {w : Wd} {a r : Nat} (h : WS w a r) : w.2 a = some (true, eO 7 [.ref r, iI (h.choose_spec.choose : Nat), iI h.choose_spec.choose_spec.choose]) := h.choose_spec.choose_spec.choose_spec.1
theorem NS.t {τ ad : Nat → Nat} {w : Wd} (h : NS τ ad w) (t : Nat) (h1 : 100 ≤ t ∧ t ≤ 340) : τ (ad t) = t := h.1 t h1.1 h1.2
theorem NS.to {τ ad : Nat → Nat} {w : Wd} (h : NS τ ad w) {j : Nat} (hj : j < 70) : τ (wo ad j) = 200 + 2 * j := h.1 _ (by omega) (by omega)
theorem NS.tr {τ ad : Nat → Nat} {w : Wd} (h : NS τ ad w) {j : Nat} (hj : j < 70) : τ (wr ad j) = 201 + 2 * j := h.1 _ (by omega) (by omega)
theorem NS.W {τ ad : Nat → Nat} {w : Wd} (h : NS τ ad w) {j : Nat} (hj : j < 70) : WS w (wo ad j) (wr ad j) := h.2.1 j hj
theorem NS.ne {τ ad : Nat → Nat} {w : Wd} (h : NS τ ad w) {j k : Nat} (hj : j < 70) (hk : k < 70) (hjk : j ≠ k) : wr ad j ≠ wr ad k := fun e => by
  have h1 := h.tr hj
  have h2 := h.tr hk
  rw [e] at h1
  omega
theorem NS.neo {τ ad : Nat → Nat} {w : Wd} (h : NS τ ad w) {j k : Nat} (hj : j < 70) (hk : k < 70) (hjk : j ≠ k) : wo ad j ≠ wo ad k := fun e => by
  have h1 := h.to hj
  have h2 := h.to hk
  rw [e] at h1
  omega
theorem NS.inj {τ ad : Nat → Nat} {w : Wd} (h : NS τ ad w) {s t : Nat} (h1 : 100 ≤ s ∧ s ≤ 340) (h2 : 100 ≤ t ∧ t ≤ 340) (hn : s ≠ t) : ad s ≠ ad t := fun e => by
  have e1 := h.t s h1
  have e2 := h.t t h2
  rw [e] at e1
  omega
theorem NW.o {ad : Nat → Nat} {w : Wd} {j : Nat} {z : Int} (h : NW ad w j z) : w.2 (wo ad j) = some (true, eO 7 [.ref (wr ad j), iI ((WA.ws h).choose_spec.choose : Nat), iI (WA.ws h).choose_spec.choose_spec.choose]) := (WA.ws h).o
theorem NW.k {ad : Nat → Nat} {w w' : Wd} {j : Nat} {z : Int} (h : NW ad w j z) (h1 : ∀ x, w.2 (wo ad j) = some x → w'.2 (wo ad j) = some x) (h2 : ∀ x, w.2 (wr ad j) = some x → w'.2 (wr ad j) = some x) : NW ad w' j z := by
  obtain ⟨f, u, bl, e1, e2, e3⟩ := h
  exact ⟨f, u, bl, h1 _ e1, h2 _ e2, e3⟩
theorem NW.eq {ad : Nat → Nat} {w : Wd} {j : Nat} {x y : Int} (h : NW ad w j x) (e : x = y) : NW ad w j y := e ▸ h
theorem NW.cap {ad : Nat → Nat} {w : Wd} {j : Nat} {z : Int} (h : NW ad w j z) : aB z < B28 ^ 18 := WA.cap h
theorem KN.ob {τ ad : Nat → Nat} {w w' : Wd} (k : KN τ w w') (h : NS τ ad w') {t : Nat} (ht : 100 ≤ t ∧ t < 200) {x : WdE} (e : w.2 (ad t) = some x) : w'.2 (ad t) = some x := k.2 _ _ (by rw [h.t t (by omega)]; exact Or.inl ht.2) e
theorem KN.nw {τ ad : Nat → Nat} {w w' : Wd} (k : KN τ w w') (h : NS τ ad w') {j : Nat} (hj : 4 ≤ j ∧ j < 70) {z : Int} (e : NW ad w j z) : NW ad w' j z := e.k (fun x q => k.2 _ _ (by rw [h.to hj.2]; omega) q) (fun x q => k.2 _ _ (by rw [h.tr hj.2]; omega) q)
theorem KJ.nw {τ ad : Nat → Nat} {w w' : Wd} {j : Nat} (k : KJ τ j w w') (h : NS τ ad w) {i : Nat} (hi : i < 70) (hij : i ≠ j) {z : Int} (e : NW ad w i z) : NW ad w' i z := e.k (fun x q => k.2 _ _ (by rw [h.to hi]; omega) (by rw [h.to hi]; omega) q) (fun x q => k.2 _ _ (by rw [h.tr hi]; omega) (by rw [h.tr hi]; omega) q)
theorem KJ.ob {τ ad : Nat → Nat} {w w' : Wd} {j : Nat} (k : KJ τ j w w') (h : NS τ ad w) {t : Nat} (ht : 100 ≤ t ∧ t < 200) {x : WdE} (e : w.2 (ad t) = some x) : w'.2 (ad t) = some x := k.2 _ _ (by rw [h.t t (by omega)]; omega) (by rw [h.t t (by omega)]; omega) e
theorem NS.stepS {τ ad : Nat → Nat} {w w' : Wd} (h : NS τ ad w) {j : Nat} (hj : j < 70) (hs : WS w' (wo ad j) (wr ad j)) (hf : FrW w w' (wo ad j) (wr ad j)) : NS τ ad w' ∧ KJ τ j w w' := by
  obtain ⟨g, hg1, hg2⟩ := h.2.2
  refine ⟨⟨h.1, fun i hi => ?_, g, ?_, hg2⟩, ⟨Nat.le_of_eq hf.1.symm, fun a x t1 t2 e => ?_⟩⟩
  · by_cases q : i = j
    · rw [q]; exact hs
    · exact (h.W hi).fr2 (h.W hj) hf (h.ne hj hi (Ne.symm q))
  · rw [hf.2 (ad 340) (fun e => by have q1 := h.t 340 (by omega); have q2 := h.to hj; rw [e] at q1; omega) (fun e => by have q1 := h.t 340 (by omega); have q2 := h.tr hj; rw [e] at q1; omega)]
    exact hg1
  · rw [hf.2 a (fun q => t1 (by rw [q]; exact h.to hj)) (fun q => t2 (by rw [q]; exact h.tr hj))]
    exact e
theorem NS.step {τ ad : Nat → Nat} {w w' : Wd} (h : NS τ ad w) {j : Nat} (hj : j < 4) (hs : WS w' (wo ad j) (wr ad j)) (hf : FrW w w' (wo ad j) (wr ad j)) : NS τ ad w' ∧ KN τ w w' := by
  obtain ⟨h1, h2⟩ := h.stepS (by omega) hs hf
  exact ⟨h1, h2.kn hj⟩
theorem NS.stepV {τ ad : Nat → Nat} {w w' : Wd} (h : NS τ ad w) {j : Nat} (hj : j < 70) {z : Int} (hs : WA w' (wo ad j) (wr ad j) z) (hf : FrW w w' (wo ad j) (wr ad j)) : NS τ ad w' ∧ NW ad w' j z ∧ KJ τ j w w' := by
  obtain ⟨h1, h2⟩ := h.stepS hj hs.ws hf
  exact ⟨h1, hs, h2⟩
theorem NS.fr {τ ad : Nat → Nat} {w w' : Wd} (h : NS τ ad w) (hf : Fr w w') (hw : wF w) : NS τ ad w' := by
  obtain ⟨g, hg1, hg2⟩ := h.2.2
  refine ⟨h.1, fun i hi => ?_, g, ?_, hg2⟩
  · obtain ⟨f, u, bl, e1, e2, e3⟩ := h.W hi
    exact ⟨f, u, bl, by rw [hf.2 _ (hw _ _ e1)]; exact e1, by rw [hf.2 _ (hw _ _ e2)]; exact e2, e3⟩
  · rw [hf.2 _ (hw _ _ hg1)]; exact hg1
abbrev oD (ad : Nat → Nat) : Ent := eO 2 [.ref (wo ad 0), .ref (wo ad 1), .ref (wo ad 2), .ref (wo ad 3), .ref (ad 340)]
/-! bounds -/
def M125 : Int := 42535295865117307932921825928971026432
def M250 : Int := 1809251394333065553493296640760748560207343510400633813116524750123642650624
theorem B18 : B28 ^ 18 = 52374249726338269920211035149241586435466272736689036631732661889538140742474792878132321477214466514414186946040961136147476104734166288853256441430016 := by decide +kernel
theorem bd_m {x y : Int} (hx : aB x < M125) (hy : aB y < M125) : aB (x * y) < M250 ∧ aB x * aB y < M250 := by
  have h : aB x * aB y < M250 := by
    have h1 := Int.mul_le_mul (show aB x ≤ 42535295865117307932921825928971026431 by unfold M125 at hx; omega) (show aB y ≤ 42535295865117307932921825928971026431 by unfold M125 at hy; omega) (aB_0 y) (by decide)
    unfold M250
    omega
  exact ⟨by rw [aB_mul]; exact h, h⟩
theorem bd_p {x y : Int} (hx : aB x < M125) (hy : aB y < M125) : aB x * aB y < B28 ^ 18 := by
  have := (bd_m hx hy).2
  rw [B18]
  unfold M250 at this
  omega
theorem bd_s {z b : Int} (hz : aB z < M250) (hb : 0 ≤ b ∧ b ≤ 1000) : aB z * b < 2000 * M250 := by
  have h := Int.mul_le_mul (show aB z ≤ M250 by omega) hb.2 hb.1 (by decide)
  unfold M250 at h ⊢
  omega
theorem bd_b {z b : Int} (hz : aB z < M250) (hb : 0 ≤ b ∧ b ≤ 1000) : aB z * b + 0 < B28 ^ 18 := by
  have := bd_s hz hb
  rw [B18]
  unfold M250 at this
  omega
theorem aB_add (x y : Int) : aB (x + y) ≤ aB x + aB y := by unfold aB; split <;> split <;> split <;> omega
theorem bd_a {x z b : Int} (hx : aB x < M250) (hz : aB z < M250) (hb : 0 ≤ b ∧ b ≤ 1000) : aB x + aB (z * b + 0) < B28 ^ 18 := by
  have h := bd_s hz hb
  rw [Int.add_zero, aB_mul, aB_p hb.1, B18]
  unfold M250 at *
  omega
theorem bd_a2 {x z : Int} (hx : aB x < M250) (hz : aB z < M250) : aB x + aB z < B28 ^ 18 := by
  rw [B18]
  unfold M250 at *
  omega
set_option maxHeartbeats 4000000 in
set_option maxRecDepth 100000 in
theorem s_X0_norm (l : Launch) {E : GE} {w : Wd} {τ ad : Nat → Nat} (hN0 : NS τ ad w) (hD : w.2 (ad 110) = some (true, oD ad)) {b : Int} (hb : 0 ≤ b ∧ b ≤ 1000) {j : Nat} (hj : 4 ≤ j ∧ j < 70) {k : Nat} (hk : 4 ≤ k ∧ k < 70) {x y : Int} (fx : NW ad w j x) (bx : aB x < M125) (fy : NW ad w k y) (by_ : aB y < M125) : Sp E l yX0_norm cX0_norm 4 (some (.object "Rootwalk$Whole")) 3 (0) (0) [.ref (ad 110), iI b, .ref (wo ad j), .ref (wo ad k)] w (fun r' w' => r' = some (.ref (wo ad 1)) ∧ NW ad w' 1 (x * x - b * (y * y)) ∧ NS τ ad w' ∧ KN τ w w') := by
  refine sp_intro [some (.ref (ad 110)), some (iI b), some (.ref (wo ad j)), some (.ref (wo ad k))] rfl (Nat.le_of_ble_eq_true rfl) pn_X0 ?_
  intro X C hRm hl hnm hQ
  obtain ⟨hRf, hRl, hRc, hRs⟩ := hRm
  refine g_wf (fun hwf => ?_)
  have hN := hN0
  have hK : KN τ w w := KN.rf _ _
  refine g_aload_n C dX0_norm_0 rfl ?_
  refine g_get (ci := 2) C rfl inTX0 0 (by decide) fl_RX0_12 rfl (hK.ob hN (t := 110) (by omega) hD) rfl dX0_norm_1 ?_
  refine g_aload_n C dX0_norm_4 rfl ?_
  refine g_aload_n C dX0_norm_5 rfl ?_
  refine g_callV C (v_X5_setProduct _ (hN.W (j := 0) (by omega)) fy fy (hN.ne (j := 0) (k := k) (by omega) (by omega) (by omega)) (hN.ne (j := 0) (k := k) (by omega) (by omega) (by omega)) (hN.neo (j := 0) (k := k) (by omega) (by omega) (by omega)) (hN.neo (j := 0) (k := k) (by omega) (by omega) (by omega)) (bd_p by_ by_)) (ci := 7) rfl (hN.W (j := 0) (by omega)).o rfl ml_RX0_31 im_yX5_setProduct se_RX5_yX5_setProduct in_RX5 co_yX5_setProduct hd_X5_setProduct rfl ⟨by omega, by omega⟩ rfl (Nat.le_of_ble_eq_true rfl) ⟨by omega, by omega⟩ dX0_norm_6 (fun v6 w6 hp6 => ?_)
  obtain ⟨rfl, hws6, hfr6⟩ := hp6
  obtain ⟨hN6, v6w, hkj6⟩ := hN.stepV (j := 0) (by omega) hws6 hfr6
  replace fx := hkj6.nw hN (by omega) (by omega) fx
  replace fy := hkj6.nw hN (by omega) (by omega) fy
  replace hK := hK.tr (hkj6.kn (by omega))
  replace hN := hN6
  have v0 := v6w
  refine g_aload_n C dX0_norm_9 rfl ?_
  refine g_get (ci := 2) C rfl inTX0 0 (by decide) fl_RX0_12 rfl (hK.ob hN (t := 110) (by omega) hD) rfl dX0_norm_10 ?_
  refine g_iload_n C dX0_norm_13 rfl ?_
  refine g_iconst C dX0_norm_14 ?_
  refine g_callV C (u_X5_multiplySmall _ v0 (by_ := b) (mo := 0) (by omega) (by omega) (Or.inr rfl) (bd_b (bd_m by_ by_).1 hb)) (ci := 7) rfl (hN.W (j := 0) (by omega)).o rfl ml_RX0_35 im_yX5_multiplySmall se_RX5_yX5_multiplySmall in_RX5 co_yX5_multiplySmall hd_X5_multiplySmall rfl ⟨by omega, by omega⟩ rfl (Nat.le_of_ble_eq_true rfl) ⟨by omega, by omega⟩ dX0_norm_15 (fun v15 w15 hp15 => ?_)
  obtain ⟨rfl, hws15, hfr15⟩ := hp15
  obtain ⟨hN15, v15w, hkj15⟩ := hN.stepV (j := 0) (by omega) hws15 hfr15
  replace fx := hkj15.nw hN (by omega) (by omega) fx
  replace fy := hkj15.nw hN (by omega) (by omega) fy
  replace hK := hK.tr (hkj15.kn (by omega))
  replace hN := hN15
  have v0 := v15w
  refine g_aload_n C dX0_norm_18 rfl ?_
  refine g_get (ci := 2) C rfl inTX0 1 (by decide) fl_RX0_18 rfl (hK.ob hN (t := 110) (by omega) hD) rfl dX0_norm_19 ?_
  refine g_aload_n C dX0_norm_22 rfl ?_
  refine g_aload_n C dX0_norm_23 rfl ?_
  refine g_callV C (v_X5_setProduct _ (hN.W (j := 1) (by omega)) fx fx (hN.ne (j := 1) (k := j) (by omega) (by omega) (by omega)) (hN.ne (j := 1) (k := j) (by omega) (by omega) (by omega)) (hN.neo (j := 1) (k := j) (by omega) (by omega) (by omega)) (hN.neo (j := 1) (k := j) (by omega) (by omega) (by omega)) (bd_p bx bx)) (ci := 7) rfl (hN.W (j := 1) (by omega)).o rfl ml_RX0_31 im_yX5_setProduct se_RX5_yX5_setProduct in_RX5 co_yX5_setProduct hd_X5_setProduct rfl ⟨by omega, by omega⟩ rfl (Nat.le_of_ble_eq_true rfl) ⟨by omega, by omega⟩ dX0_norm_24 (fun v24 w24 hp24 => ?_)
  obtain ⟨rfl, hws24, hfr24⟩ := hp24
  obtain ⟨hN24, v24w, hkj24⟩ := hN.stepV (j := 1) (by omega) hws24 hfr24
  replace fx := hkj24.nw hN (by omega) (by omega) fx
  replace fy := hkj24.nw hN (by omega) (by omega) fy
  replace v0 := hkj24.nw hN (by omega) (by omega) v0
  replace hK := hK.tr (hkj24.kn (by omega))
  replace hN := hN24
  have v1 := v24w
  refine g_aload_n C dX0_norm_27 rfl ?_
  refine g_get (ci := 2) C rfl inTX0 1 (by decide) fl_RX0_18 rfl (hK.ob hN (t := 110) (by omega) hD) rfl dX0_norm_28 ?_
  refine g_aload_n C dX0_norm_31 rfl ?_
  refine g_get (ci := 2) C rfl inTX0 0 (by decide) fl_RX0_12 rfl (hK.ob hN (t := 110) (by omega) hD) rfl dX0_norm_32 ?_
  refine g_iconst C dX0_norm_35 ?_
  refine g_callV C (c_X5_addOrTake _ v1 v0 (y := 1) (by omega) (hN.ne (j := 1) (k := 0) (by omega) (by omega) (by omega)) (hN.neo (j := 1) (k := 0) (by omega) (by omega) (by omega)) (bd_a (bd_m bx bx).1 (bd_m by_ by_).1 hb)) (ci := 7) rfl (hN.W (j := 1) (by omega)).o rfl ml_RX0_39 im_yX5_addOrTake se_RX5_yX5_addOrTake in_RX5 co_yX5_addOrTake hd_X5_addOrTake rfl ⟨by omega, by omega⟩ rfl (Nat.le_of_ble_eq_true rfl) ⟨by omega, by omega⟩ dX0_norm_36 (fun v36 w36 hp36 => ?_)
  obtain ⟨rfl, hws36, hfr36⟩ := hp36
  obtain ⟨hN36, v36w, hkj36⟩ := hN.stepV (j := 1) (by omega) hws36 hfr36
  replace fx := hkj36.nw hN (by omega) (by omega) fx
  replace fy := hkj36.nw hN (by omega) (by omega) fy
  replace v0 := hkj36.nw hN (by omega) (by omega) v0
  replace hK := hK.tr (hkj36.kn (by omega))
  replace hN := hN36
  have v1 := v36w
  refine g_aload_n C dX0_norm_39 rfl ?_
  refine g_get (ci := 2) C rfl inTX0 1 (by decide) fl_RX0_18 rfl (hK.ob hN (t := 110) (by omega) hD) rfl dX0_norm_40 ?_
  exact g_areturn C (Or.inl ⟨_, rfl⟩) hQ (Or.inr ⟨_, rfl⟩) dX0_norm_43 (by omega) (by omega) ⟨rfl, v1.eq (by rw [if1, Int.add_zero, Int.mul_comm (y * y)]), hN, hK⟩
set_option maxHeartbeats 4000000 in
set_option maxRecDepth 100000 in
theorem s_X0_cross (l : Launch) {E : GE} {w : Wd} {τ ad : Nat → Nat} (hN0 : NS τ ad w) (hD : w.2 (ad 110) = some (true, oD ad)) {i : Nat} (hi : 4 ≤ i ∧ i < 70) {j : Nat} (hj : 4 ≤ j ∧ j < 70) {k : Nat} (hk : 4 ≤ k ∧ k < 70) {m : Nat} (hm : 4 ≤ m ∧ m < 70) {x y u v : Int} (fx : NW ad w i x) (bx : aB x < M125) (fy : NW ad w j y) (by_ : aB y < M125) (fu : NW ad w k u) (bu : aB u < M125) (fv : NW ad w m v) (bv : aB v < M125) : Sp E l yX0_cross cX0_cross 5 (some (.object "Rootwalk$Whole")) 3 (0) (0) [.ref (ad 110), .ref (wo ad i), .ref (wo ad j), .ref (wo ad k), .ref (wo ad m)] w (fun r' w' => r' = some (.ref (wo ad 0)) ∧ NW ad w' 0 (x * v - u * y) ∧ NS τ ad w' ∧ KN τ w w') := by
  refine sp_intro [some (.ref (ad 110)), some (.ref (wo ad i)), some (.ref (wo ad j)), some (.ref (wo ad k)), some (.ref (wo ad m))] rfl (Nat.le_of_ble_eq_true rfl) pn_X0 ?_
  intro X C hRm hl hnm hQ
  obtain ⟨hRf, hRl, hRc, hRs⟩ := hRm
  refine g_wf (fun hwf => ?_)
  have hN := hN0
  have hK : KN τ w w := KN.rf _ _
  refine g_aload_n C dX0_cross_0 rfl ?_
  refine g_get (ci := 2) C rfl inTX0 0 (by decide) fl_RX0_12 rfl (hK.ob hN (t := 110) (by omega) hD) rfl dX0_cross_1 ?_
  refine g_aload_n C dX0_cross_4 rfl ?_
  refine g_aload C dX0_cross_5 rfl ?_
  refine g_callV C (v_X5_setProduct _ (hN.W (j := 0) (by omega)) fx fv (hN.ne (j := 0) (k := i) (by omega) (by omega) (by omega)) (hN.ne (j := 0) (k := m) (by omega) (by omega) (by omega)) (hN.neo (j := 0) (k := i) (by omega) (by omega) (by omega)) (hN.neo (j := 0) (k := m) (by omega) (by omega) (by omega)) (bd_p bx bv)) (ci := 7) rfl (hN.W (j := 0) (by omega)).o rfl ml_RX0_31 im_yX5_setProduct se_RX5_yX5_setProduct in_RX5 co_yX5_setProduct hd_X5_setProduct rfl ⟨by omega, by omega⟩ rfl (Nat.le_of_ble_eq_true rfl) ⟨by omega, by omega⟩ dX0_cross_7 (fun v7 w7 hp7 => ?_)
  obtain ⟨rfl, hws7, hfr7⟩ := hp7
  obtain ⟨hN7, v7w, hkj7⟩ := hN.stepV (j := 0) (by omega) hws7 hfr7
  replace fx := hkj7.nw hN (by omega) (by omega) fx
  replace fy := hkj7.nw hN (by omega) (by omega) fy
  replace fu := hkj7.nw hN (by omega) (by omega) fu
  replace fv := hkj7.nw hN (by omega) (by omega) fv
  replace hK := hK.tr (hkj7.kn (by omega))
  replace hN := hN7
  have v0 := v7w
  refine g_aload_n C dX0_cross_10 rfl ?_
  refine g_get (ci := 2) C rfl inTX0 1 (by decide) fl_RX0_18 rfl (hK.ob hN (t := 110) (by omega) hD) rfl dX0_cross_11 ?_
  refine g_aload_n C dX0_cross_14 rfl ?_
  refine g_aload_n C dX0_cross_15 rfl ?_
  refine g_callV C (v_X5_setProduct _ (hN.W (j := 1) (by omega)) fu fy (hN.ne (j := 1) (k := k) (by omega) (by omega) (by omega)) (hN.ne (j := 1) (k := j) (by omega) (by omega) (by omega)) (hN.neo (j := 1) (k := k) (by omega) (by omega) (by omega)) (hN.neo (j := 1) (k := j) (by omega) (by omega) (by omega)) (bd_p bu by_)) (ci := 7) rfl (hN.W (j := 1) (by omega)).o rfl ml_RX0_31 im_yX5_setProduct se_RX5_yX5_setProduct in_RX5 co_yX5_setProduct hd_X5_setProduct rfl ⟨by omega, by omega⟩ rfl (Nat.le_of_ble_eq_true rfl) ⟨by omega, by omega⟩ dX0_cross_16 (fun v16 w16 hp16 => ?_)
  obtain ⟨rfl, hws16, hfr16⟩ := hp16
  obtain ⟨hN16, v16w, hkj16⟩ := hN.stepV (j := 1) (by omega) hws16 hfr16
  replace fx := hkj16.nw hN (by omega) (by omega) fx
  replace fy := hkj16.nw hN (by omega) (by omega) fy
  replace fu := hkj16.nw hN (by omega) (by omega) fu
  replace fv := hkj16.nw hN (by omega) (by omega) fv
  replace v0 := hkj16.nw hN (by omega) (by omega) v0
  replace hK := hK.tr (hkj16.kn (by omega))
  replace hN := hN16
  have v1 := v16w
  refine g_aload_n C dX0_cross_19 rfl ?_
  refine g_get (ci := 2) C rfl inTX0 0 (by decide) fl_RX0_12 rfl (hK.ob hN (t := 110) (by omega) hD) rfl dX0_cross_20 ?_
  refine g_aload_n C dX0_cross_23 rfl ?_
  refine g_get (ci := 2) C rfl inTX0 1 (by decide) fl_RX0_18 rfl (hK.ob hN (t := 110) (by omega) hD) rfl dX0_cross_24 ?_
  refine g_iconst C dX0_cross_27 ?_
  refine g_callV C (c_X5_addOrTake _ v0 v1 (y := 1) (by omega) (hN.ne (j := 0) (k := 1) (by omega) (by omega) (by omega)) (hN.neo (j := 0) (k := 1) (by omega) (by omega) (by omega)) (bd_a2 (bd_m bx bv).1 (bd_m bu by_).1)) (ci := 7) rfl (hN.W (j := 0) (by omega)).o rfl ml_RX0_39 im_yX5_addOrTake se_RX5_yX5_addOrTake in_RX5 co_yX5_addOrTake hd_X5_addOrTake rfl ⟨by omega, by omega⟩ rfl (Nat.le_of_ble_eq_true rfl) ⟨by omega, by omega⟩ dX0_cross_28 (fun v28 w28 hp28 => ?_)
  obtain ⟨rfl, hws28, hfr28⟩ := hp28
  obtain ⟨hN28, v28w, hkj28⟩ := hN.stepV (j := 0) (by omega) hws28 hfr28
  replace fx := hkj28.nw hN (by omega) (by omega) fx
  replace fy := hkj28.nw hN (by omega) (by omega) fy
  replace fu := hkj28.nw hN (by omega) (by omega) fu
  replace fv := hkj28.nw hN (by omega) (by omega) fv
  replace v1 := hkj28.nw hN (by omega) (by omega) v1
  replace hK := hK.tr (hkj28.kn (by omega))
  replace hN := hN28
  have v0 := v28w
  refine g_aload_n C dX0_cross_31 rfl ?_
  refine g_get (ci := 2) C rfl inTX0 0 (by decide) fl_RX0_12 rfl (hK.ob hN (t := 110) (by omega) hD) rfl dX0_cross_32 ?_
  exact g_areturn C (Or.inl ⟨_, rfl⟩) hQ (Or.inr ⟨_, rfl⟩) dX0_cross_35 (by omega) (by omega) ⟨rfl, v0.eq (if1 _ _), hN, hK⟩
theorem red_lt {x y : Int} (hx : 0 ≤ x) (hy : 0 < y) (cx : aB x < B28 ^ 18) (cy : aB y < B28 ^ 18) (h : hiB (aB x) 504 + 1 - (hiB (aB y) 504 + 1) < 0) : x < y := by
  have h1 := bits_lt cx
  obtain ⟨q, q1, q2, q3, q4⟩ := bits_ge cy (by rw [aB_p (by omega)]; exact hy)
  have h0 := (bits_r (z := x)).1
  have := p2_le (show (hiB (aB x) 504 + 1).toNat ≤ q by omega)
  rw [aB_p hx] at *
  rw [aB_p (by omega)] at *
  omega
theorem red_b {x y : Int} {G : Nat} (hy : 0 < y) (cx : aB x < B28 ^ 18) (cy : aB y < B28 ^ 18) (h : hiB (aB x) 504 + 1 - (hiB (aB y) 504 + 1) = G) : y * 2 ^ G < B28 ^ 18 ∧ aB x < y * 2 ^ (G + 1) := by
  have h1 := bits_lt cx
  obtain ⟨q, q1, q2, q3, q4⟩ := bits_ge cy (by rw [aB_p (by omega)]; exact hy)
  have h0 := bits_r (z := x)
  rw [aB_p (show 0 ≤ y by omega)] at q1 q3 q4 h
  have hg := p2_pos G
  have e : (hiB (aB x) 504 + 1).toNat = q + 1 + G := by omega
  rw [e] at h1
  constructor
  · have a1 := Int.mul_lt_mul_of_pos_right q4 hg
    rw [← Int.pow_add] at a1
    have := p2_le (show q + 1 + G ≤ 504 by omega)
    rw [← p504]
    omega
  · have a1 := Int.mul_le_mul_of_nonneg_right q3 (Int.le_of_lt (p2_pos (G + 1)))
    rw [← Int.pow_add, show q + (G + 1) = q + 1 + G by omega] at a1
    omega
set_option maxHeartbeats 4000000 in
set_option maxRecDepth 100000 in
theorem s_X0_reduce (l : Launch) {E : GE} {w : Wd} {τ ad : Nat → Nat} (hN0 : NS τ ad w) (hD : w.2 (ad 110) = some (true, oD ad)) {j k : Nat} (hj : j < 4 ∧ j ≠ 2) (hk : k < 70 ∧ k ≠ 2) (hjk : j ≠ k) {x y : Int} (fx : NW ad w j x) (fy : NW ad w k y) (hx : 0 ≤ x) (hy : 0 ≤ y) : Sp E l yX0_reduce cX0_reduce 7 (some .long) 2 (0) (0) [.ref (ad 110), .ref (wo ad j), .ref (wo ad k)] w (fun r' w' => r' = some (jJ (x / y)) ∧ NS τ ad w' ∧ KN τ w w' ∧ NW ad w' j (x % y) ∧ NW ad w' k y) := by
  refine sp_intro [some (.ref (ad 110)), some (.ref (wo ad j)), some (.ref (wo ad k)), none, none, none, none] rfl (Nat.le_of_ble_eq_true rfl) pn_X0 ?_
  intro X C hRm hl hnm hQ
  obtain ⟨hRf, hRl, hRc, hRs⟩ := hRm
  refine g_wf (fun hwf => ?_)
  have hN := hN0
  have hK : KN τ w w := KN.rf _ _
  refine g_aload_n C dX0_reduce_0 rfl ?_
  refine g_callV C (u_X5_bits _ fx ) (ci := 7) rfl (hN.W (j := j) (by omega)).o rfl ml_RX0_55 im_yX5_bits se_RX5_yX5_bits in_RX5 co_yX5_bits hd_X5_bits rfl ⟨by omega, by omega⟩ rfl (Nat.le_of_ble_eq_true rfl) ⟨by omega, by omega⟩ dX0_reduce_1 (fun v1 w1 hp1 => ?_)
  obtain ⟨rfl, hw1⟩ := hp1
  subst w1
  refine g_aload_n C dX0_reduce_4 rfl ?_
  refine g_callV C (u_X5_bits _ fy ) (ci := 7) rfl (hN.W (j := k) (by omega)).o rfl ml_RX0_55 im_yX5_bits se_RX5_yX5_bits in_RX5 co_yX5_bits hd_X5_bits rfl ⟨by omega, by omega⟩ rfl (Nat.le_of_ble_eq_true rfl) ⟨by omega, by omega⟩ dX0_reduce_5 (fun v5 w5 hp5 => ?_)
  obtain ⟨rfl, hw5⟩ := hp5
  subst w5
  refine g_isub C dX0_reduce_8 ?_
  refine g_istore_n C dX0_reduce_9 (by decide) rfl ?_
  refine g_aload_n C dX0_reduce_10 rfl ?_
  refine g_callV C (c_X5_isZero _ fy ) (ci := 7) rfl (hN.W (j := k) (by omega)).o rfl ml_RX0_47 im_yX5_isZero se_RX5_yX5_isZero in_RX5 co_yX5_isZero hd_X5_isZero rfl ⟨by omega, by omega⟩ rfl (Nat.le_of_ble_eq_true rfl) ⟨by omega, by omega⟩ dX0_reduce_11 (fun v11 w11 hp11 => ?_)
  obtain ⟨rfl, hw11⟩ := hp11
  subst w11
  refine g_if_ne (tgt := 21) C dX0_reduce_14 (by decide) (bI_r _) (fun h14 => ?_) (fun h14 => ?_)
  · refine g_lconst (z := 0) C dX0_reduce_21 (by decide) ?_
    exact g_lreturn C hQ dX0_reduce_22 (Nat.le_refl _) (Nat.le_refl _) (by
      first
      | (have hyz := bI_1 h14
         subst hyz
         exact ⟨by rw [Int.ediv_zero], hN, hK, fx.eq (by rw [Int.emod_zero]), fy⟩)
      | (have hyz := bI_0 (Classical.not_not.mp h14)
         have hlt := red_lt hx (show 0 < y by omega) fx.cap fy.cap (by omega)
         exact ⟨by rw [Int.ediv_eq_zero_of_lt hx hlt], hN, hK, fx.eq (by rw [Int.emod_eq_of_lt hx hlt]), fy⟩))
  · refine g_iload_n C dX0_reduce_17 rfl ?_
    refine g_if_ge (tgt := 23) C dX0_reduce_18 (by decide) (by have := bits_r (z := x); have := bits_r (z := y); omega) (fun h18 => ?_) (fun h18 => ?_)
    · have hy1 : 0 < y := by have := bI_0 (Classical.not_not.mp h14); omega
      obtain ⟨Gp, hG⟩ : ∃ Gp : Nat, hiB (aB x) 504 + 1 - (hiB (aB y) 504 + 1) = (((Gp + 1 : Nat) : Int) - 1) := ⟨(hiB (aB x) 504 + 1 - (hiB (aB y) 504 + 1)).toNat, by omega⟩
      obtain ⟨rb1, rb2⟩ := red_b (G := Gp) hy1 fx.cap fy.cap (by omega)
      rw [aB_p hx] at rb2
      have hG9 : Gp ≤ 504 := by have := bits_r (z := x); have := bits_r (z := y); omega
      rw [hG]
      refine g_lconst (z := 0) C dX0_reduce_23 (by decide) ?_
      refine g_lstore C dX0_reduce_24 (by decide) rfl ?_
      refine g_aload_n C dX0_reduce_26 rfl ?_
      refine g_get (ci := 2) C rfl inTX0 2 (by decide) fl_RX0_21 rfl (hK.ob hN (t := 110) (by omega) hD) rfl dX0_reduce_27 ?_
      refine g_aload_n C dX0_reduce_30 rfl ?_
      refine g_callV C (v_X5_setWhole _ (hN.W (j := 2) (by omega)) fy (hN.ne (j := 2) (k := k) (by omega) (by omega) (by omega))) (ci := 7) rfl (hN.W (j := 2) (by omega)).o rfl ml_RX0_43 im_yX5_setWhole se_RX5_yX5_setWhole in_RX5 co_yX5_setWhole hd_X5_setWhole rfl ⟨by omega, by omega⟩ rfl (Nat.le_of_ble_eq_true rfl) ⟨by omega, by omega⟩ dX0_reduce_31 (fun v31 w31 hp31 => ?_)
      obtain ⟨rfl, hws31, hfr31⟩ := hp31
      obtain ⟨hN31, v31w, hkj31⟩ := hN.stepV (j := 2) (by omega) hws31 hfr31
      replace fx := hkj31.nw hN (by omega) (by omega) fx
      replace fy := hkj31.nw hN (by omega) (by omega) fy
      replace hK := hK.tr (hkj31.kn (by omega))
      replace hN := hN31
      have fs := v31w
      refine g_aload_n C dX0_reduce_34 rfl ?_
      refine g_get (ci := 2) C rfl inTX0 2 (by decide) fl_RX0_21 rfl (hK.ob hN (t := 110) (by omega) hD) rfl dX0_reduce_35 ?_
      refine g_iload_n C dX0_reduce_38 rfl ?_
      rw [show (((Gp + 1 : Nat) : Int) - 1) = ((Gp : Nat) : Int) by omega]
      refine g_callV C (u_X5_shiftUp _ fs (mn := Gp) (by omega) hy1 rb1) (ci := 7) rfl (hN.W (j := 2) (by omega)).o rfl ml_RX0_59 im_yX5_shiftUp se_RX5_yX5_shiftUp in_RX5 co_yX5_shiftUp hd_X5_shiftUp rfl ⟨by omega, by omega⟩ rfl (Nat.le_of_ble_eq_true rfl) ⟨by omega, by omega⟩ dX0_reduce_39 (fun v39 w39 hp39 => ?_)
      obtain ⟨rfl, hws39, hfr39⟩ := hp39
      obtain ⟨hN39, v39w, hkj39⟩ := hN.stepV (j := 2) (by omega) hws39 hfr39
      replace fx := hkj39.nw hN (by omega) (by omega) fx
      replace fy := hkj39.nw hN (by omega) (by omega) fy
      replace hK := hK.tr (hkj39.kn (by omega))
      replace hN := hN39
      have fs := v39w
      rw [show ((Gp : Nat) : Int) = (((Gp + 1 : Nat) : Int) - 1) by omega]
      refine g_iload_n C dX0_reduce_42 rfl ?_
      refine g_istore C dX0_reduce_43 (by decide) rfl ?_
      clear hN0
      refine g_loop (σ := Nat × Int × Int × Int × Wd) (fun s => s.1 ≤ Gp + 1 ∧ (1 ≤ s.1 → s.2.2.2.1 = y * 2 ^ (s.1 - 1)) ∧ 0 ≤ s.2.2.1 ∧ s.2.2.1 < y * 2 ^ s.1 ∧ x = s.2.1 * (2 ^ s.1 * y) + s.2.2.1 ∧ NS τ ad s.2.2.2.2 ∧ KN τ w s.2.2.2.2 ∧ NW ad s.2.2.2.2 2 s.2.2.2.1 ∧ NW ad s.2.2.2.2 j s.2.2.1 ∧ NW ad s.2.2.2.2 k y) (fun s => G E X 7 45 [some (.ref (ad 110)), some (.ref (wo ad j)), some (.ref (wo ad k)), some (iI (((Gp + 1 : Nat) : Int) - 1)), some (jJ s.2.1), none, some (iI (((s.1 : Nat) : Int) - 1))] [] s.2.2.2.2 0 0) (fun s => s.1) ?_ (Gp + 1, 0, x, y * 2 ^ Gp, w39) ⟨by dsimp only; omega, fun _ => rfl, hx, rb2, by show x = 0 * _ + x; rw [Int.zero_mul, Int.zero_add], hN, hK, fs, fx, fy⟩
      clear hN hK fs fx fy
      rintro ⟨t, q, n, sv, u⟩ hqq ih
      obtain ⟨ht, hsv, hn0, hn1, hxe, hN, hK, fs, fn, fy⟩ := hqq
      dsimp only at ht hsv hn0 hn1 hxe hN hK fs fn fy ⊢
      refine g_iload C dX0_reduce_45 rfl ?_
      refine g_if_lt (tgt := 98) C dX0_reduce_47 (by decide) (by omega) (fun h47 => ?_) (fun h47 => ?_)
      · refine g_lload C dX0_reduce_98 rfl ?_
        exact g_lreturn C hQ dX0_reduce_100 (Nat.le_refl _) (Nat.le_refl _) (by
          have ht0 : t = 0 := by omega
          subst ht0
          rw [Int.pow_zero, Int.mul_one] at hn1
          rw [Int.pow_zero, Int.one_mul] at hxe
          have hdv : x / y = q ∧ x % y = n := by
            have e1 : x = n + y * q := by rw [hxe, Int.mul_comm]; omega
            constructor
            · rw [e1, Int.add_mul_ediv_left _ _ (by omega), Int.ediv_eq_zero_of_lt hn0 hn1, Int.zero_add]
            · rw [e1, Int.add_mul_emod_self_left, Int.emod_eq_of_lt hn0 hn1]
          rw [hdv.1, hdv.2]
          exact ⟨rfl, hN, hK, fn, fy⟩)
      · obtain ⟨s, rfl⟩ : ∃ s, t = s + 1 := ⟨t - 1, by omega⟩
        have hsv2 := hsv (by omega)
        rw [Nat.add_sub_cancel] at hsv2
        have ps := p2_pos s
        have hys : 0 < y * 2 ^ s := Int.mul_pos hy1 ps
        rw [Int.pow_succ] at hn1 hxe
        have hn2 : y * (2 ^ s * 2) = y * 2 ^ s * 2 := by rw [Int.mul_assoc]
        have J83 : ∀ (q n : Int) (u : Wd), NS τ ad u → KN τ w u → NW ad u 2 sv → NW ad u j n → NW ad u k y → 0 ≤ n → n < sv → x = q * (2 ^ s * y) + n → G E X 7 83 [some (.ref (ad 110)), some (.ref (wo ad j)), some (.ref (wo ad k)), some (iI (((Gp + 1 : Nat) : Int) - 1)), some (jJ q), none, some (iI (((s + 1 : Nat) : Int) - 1))] [] u 0 0 := by
          clear hN hK fs fn fy hn0 hn1 hxe
          intro q n u hN hK fs fn fy hn0 hn1 hxe
          refine g_aload_n C dX0_reduce_83 rfl ?_
          refine g_get (ci := 2) C rfl inTX0 2 (by decide) fl_RX0_21 rfl (hK.ob hN (t := 110) (by omega) hD) rfl dX0_reduce_84 ?_
          refine g_iconst C dX0_reduce_87 ?_
          refine g_callV C (u_X5_divideSmall _ fs (y := 2) (by omega)) (ci := 7) rfl (hN.W (j := 2) (by omega)).o rfl ml_RX0_72 im_yX5_divideSmall se_RX5_yX5_divideSmall in_RX5 co_yX5_divideSmall hd_X5_divideSmall rfl ⟨by omega, by omega⟩ rfl (Nat.le_of_ble_eq_true rfl) ⟨by omega, by omega⟩ dX0_reduce_88 (fun v88 w88 hp88 => ?_)
          obtain ⟨d88, q88, rfl, d88a, d88b, hws88, q88a, q88b, q88c, hfr88⟩ := hp88
          obtain ⟨hN88, v88w, hkj88⟩ := hN.stepV (j := 2) (by omega) hws88 hfr88
          replace fn := hkj88.nw hN (by omega) (by omega) fn
          replace fy := hkj88.nw hN (by omega) (by omega) fy
          replace hK := hK.tr (hkj88.kn (by omega))
          replace hN := hN88
          have fs := v88w
          refine g_pop C dX0_reduce_91 rfl ?_
          refine g_iinc C dX0_reduce_92 rfl (by decide) rfl ?_
          refine g_goto (tgt := 45) C dX0_reduce_95 (by decide) ?_
          have e88 : 1 ≤ s → q88 = y * 2 ^ (s - 1) := fun c => by
            obtain ⟨v, rfl⟩ : ∃ v, s = v + 1 := ⟨s - 1, by omega⟩
            rw [Nat.add_sub_cancel]
            have e1 := q88b (by omega)
            rw [Int.pow_succ] at hsv2
            have e2 : y * (2 ^ v * 2) = y * 2 ^ v * 2 := by rw [Int.mul_assoc]
            rw [aB_p e1, aB_p (show 0 ≤ sv by omega)] at q88a
            omega
          rw [show (((s + 1 : Nat) : Int) - 1 + -1) = ((s : Nat) : Int) - 1 by omega]
          exact ih (s, q, n, q88, w88) ⟨by dsimp only; omega, e88, hn0, by dsimp only; omega, hxe, hN, hK, fs, fn, fy⟩ (by dsimp only; omega)
        refine g_lload C dX0_reduce_50 rfl ?_
        refine g_ldc2 (z := 2) C kj_RX0_63 (by decide) dX0_reduce_52 ?_
        refine g_lmul C dX0_reduce_55 ?_
        refine g_lstore C dX0_reduce_56 (by decide) rfl ?_
        refine g_aload_n C dX0_reduce_58 rfl ?_
        refine g_aload_n C dX0_reduce_59 rfl ?_
        refine g_get (ci := 2) C rfl inTX0 2 (by decide) fl_RX0_21 rfl (hK.ob hN (t := 110) (by omega) hD) rfl dX0_reduce_60 ?_
        refine g_callV C (u_X5_compareSize _ fn fs) (ci := 7) rfl (hN.W (j := j) (by omega)).o rfl ml_RX0_65 im_yX5_compareSize se_RX5_yX5_compareSize in_RX5 co_yX5_compareSize hd_X5_compareSize rfl ⟨by omega, by omega⟩ rfl (Nat.le_of_ble_eq_true rfl) ⟨by omega, by omega⟩ dX0_reduce_63 (fun v63 w63 hp63 => ?_)
        obtain ⟨⟨d63, rfl, hd63⟩, hw63⟩ := hp63
        subst w63
        rw [aB_p hn0, aB_p (show 0 ≤ sv by omega)] at hd63
        refine g_if_lt (tgt := 83) C dX0_reduce_66 (by decide) (by omega) (fun h66 => ?_) (fun h66 => ?_)
        · first
          | exact J83 _ _ _ hN hK fs fn fy (by omega) (by omega) (by rw [hxe, hsv2]; grind)
          | exact J83 _ _ _ hN hK fs fn fy hn0 (by omega) (by rw [hxe]; grind)
        · refine g_aload_n C dX0_reduce_69 rfl ?_
          refine g_aload_n C dX0_reduce_70 rfl ?_
          refine g_get (ci := 2) C rfl inTX0 2 (by decide) fl_RX0_21 rfl (hK.ob hN (t := 110) (by omega) hD) rfl dX0_reduce_71 ?_
          refine g_callV C (u_X5_takeSize _ fn fs (hN.ne (j := j) (k := 2) (by omega) (by omega) (by omega)) (by omega) (by omega)) (ci := 7) rfl (hN.W (j := j) (by omega)).o rfl ml_RX0_69 im_yX5_takeSize se_RX5_yX5_takeSize in_RX5 co_yX5_takeSize hd_X5_takeSize rfl ⟨by omega, by omega⟩ rfl (Nat.le_of_ble_eq_true rfl) ⟨by omega, by omega⟩ dX0_reduce_74 (fun v74 w74 hp74 => ?_)
          obtain ⟨rfl, hws74, hfr74⟩ := hp74
          obtain ⟨hN74, v74w, hkj74⟩ := hN.stepV (j := j) (by omega) hws74 hfr74
          replace fs := hkj74.nw hN (by omega) (by omega) fs
          replace fy := hkj74.nw hN (by omega) (by omega) fy
          have hK74 : KN τ u w74 := hkj74.kn (by omega)
          replace hK := hK.tr hK74
          replace hN := hN74
          have fn := v74w
          refine g_lload C dX0_reduce_77 rfl ?_
          refine g_lconst (z := 1) C dX0_reduce_79 (by decide) ?_
          refine g_ladd C dX0_reduce_80 ?_
          refine g_lstore C dX0_reduce_81 (by decide) rfl ?_
          first
          | exact J83 _ _ _ hN hK fs fn fy (by omega) (by omega) (by rw [hxe, hsv2]; grind)
          | exact J83 _ _ _ hN hK fs fn fy hn0 (by omega) (by rw [hxe]; grind)
    · refine g_lconst (z := 0) C dX0_reduce_21 (by decide) ?_
      exact g_lreturn C hQ dX0_reduce_22 (Nat.le_refl _) (Nat.le_refl _) (by
        first
        | (have hyz := bI_1 h14
           subst hyz
           exact ⟨by rw [Int.ediv_zero], hN, hK, fx.eq (by rw [Int.emod_zero]), fy⟩)
        | (have hyz := bI_0 (Classical.not_not.mp h14)
           have hlt := red_lt hx (show 0 < y by omega) fx.cap fy.cap (by omega)
           exact ⟨by rw [Int.ediv_eq_zero_of_lt hx hlt], hN, hK, fx.eq (by rw [Int.emod_eq_of_lt hx hlt]), fy⟩))
theorem eu_step {X Y z1 z2 : Int} {i : Nat} (hX : 0 < X) (hY : 0 < Y) (h : X * Y * 2 ^ i ≤ 2 * (z1 * z2)) (hi : i = 0 ∧ X = z1 ∧ Y = z2 ∨ Y < X) : Y * (X % Y) * 2 ^ (i + 1) ≤ 2 * (z1 * z2) := by
  have h1 := Int.emod_nonneg X (show Y ≠ 0 by omega)
  have h2 := Int.emod_lt_of_pos X hY
  have e := Int.mul_ediv_add_emod X Y
  have pi := p2_pos i
  rw [Int.pow_succ]
  rcases Int.lt_or_le X Y with c | c
  · rcases hi with ⟨q1, q2, q3⟩ | q
    · subst q1 q2 q3
      rw [Int.emod_eq_of_lt (by omega) c, Int.pow_zero, Int.one_mul, Int.mul_comm Y X, Int.mul_comm 2]
      omega
    · omega
  · have hq : 1 ≤ X / Y := Int.le_ediv_of_mul_le hY (by omega)
    have hq2 : Y * 1 ≤ Y * (X / Y) := Int.mul_le_mul_of_nonneg_left hq (by omega)
    have h3 : X % Y * 2 ≤ X := by omega
    have h4 : Y * (X % Y * 2) ≤ Y * X := Int.mul_le_mul_of_nonneg_left h3 (by omega)
    have h5 := Int.mul_le_mul_of_nonneg_right h4 (Int.le_of_lt pi)
    have e1 : Y * (X % Y) * (2 ^ i * 2) = Y * (X % Y * 2) * 2 ^ i := by grind
    have e2 : Y * X * 2 ^ i = X * Y * 2 ^ i := by grind
    omega
theorem eu_end {X Y z1 z2 : Int} {i : Nat} (hX : 0 < X) (hY : 0 ≤ Y) (h : X * Y * 2 ^ i ≤ 2 * (z1 * z2)) (h1 : aB z1 < M125) (h2 : aB z2 < M125) (p1 : 0 < z1) (p2 : 0 < z2) (hi : 1008 ≤ i) : Y = 0 := by
  rcases Int.lt_or_le 0 Y with c | c
  · exfalso
    have hb := (bd_m h1 h2).2
    rw [aB_p (by omega), aB_p (by omega)] at hb
    have a1 : 1 ≤ X * Y := Int.mul_pos hX c
    have a2 := Int.mul_le_mul_of_nonneg_right a1 (Int.le_of_lt (p2_pos i))
    have a3 := p2_le (show 251 ≤ i by omega)
    have a4 : (2 : Int) ^ 251 = 2 * M250 := by decide +kernel
    omega
  · omega
theorem dv_mod {X Y z1 z2 : Int} (h : dv X Y z1 z2) : dv Y (X % Y) z1 z2 := fun d a b => h d (by
  rw [← Int.mul_ediv_add_emod X Y]
  exact Int.dvd_add (Int.dvd_mul_of_dvd_left a) b) a
set_option maxHeartbeats 4000000 in
set_option maxRecDepth 100000 in
theorem s_X0_divisor (l : Launch) {E : GE} {w : Wd} {τ ad : Nat → Nat} (hN0 : NS τ ad w) (hD : w.2 (ad 110) = some (true, oD ad)) {j : Nat} (hj : 4 ≤ j ∧ j < 70) {k : Nat} (hk : 4 ≤ k ∧ k < 70) {x y : Int} (fx : NW ad w j x) (bx : aB x < M125) (fy : NW ad w k y) (by_ : aB y < M125) (px : 0 < x) (py : 0 < y) : Sp E l yX0_divisor cX0_divisor 7 (some (.object "Rootwalk$Whole")) 3 (0) (0) [.ref (ad 110), .ref (wo ad j), .ref (wo ad k)] w (fun r' w' => ∃ (g : Nat) (z : Int), r' = some (.ref (wo ad g)) ∧ g < 2 ∧ NW ad w' g z ∧ 0 < z ∧ z ∣ x ∧ z ∣ y ∧ NS τ ad w' ∧ KN τ w w') := by
  refine sp_intro [some (.ref (ad 110)), some (.ref (wo ad j)), some (.ref (wo ad k)), none, none, none, none] rfl (Nat.le_of_ble_eq_true rfl) pn_X0 ?_
  intro X C hRm hl hnm hQ
  obtain ⟨hRf, hRl, hRc, hRs⟩ := hRm
  refine g_wf (fun hwf => ?_)
  have hN := hN0
  have hK : KN τ w w := KN.rf _ _
  refine g_aload_n C dX0_divisor_0 rfl ?_
  refine g_get (ci := 2) C rfl inTX0 0 (by decide) fl_RX0_12 rfl (hK.ob hN (t := 110) (by omega) hD) rfl dX0_divisor_1 ?_
  refine g_aload_n C dX0_divisor_4 rfl ?_
  refine g_callV C (v_X5_setWhole _ (hN.W (j := 0) (by omega)) fx (hN.ne (j := 0) (k := j) (by omega) (by omega) (by omega))) (ci := 7) rfl (hN.W (j := 0) (by omega)).o rfl ml_RX0_43 im_yX5_setWhole se_RX5_yX5_setWhole in_RX5 co_yX5_setWhole hd_X5_setWhole rfl ⟨by omega, by omega⟩ rfl (Nat.le_of_ble_eq_true rfl) ⟨by omega, by omega⟩ dX0_divisor_5 (fun v5 w5 hp5 => ?_)
  obtain ⟨rfl, hws5, hfr5⟩ := hp5
  obtain ⟨hN5, v5w, hkj5⟩ := hN.stepV (j := 0) (by omega) hws5 hfr5
  replace fx := hkj5.nw hN (by omega) (by omega) fx
  replace fy := hkj5.nw hN (by omega) (by omega) fy
  replace hK := hK.tr (hkj5.kn (by omega))
  replace hN := hN5
  have v0 := v5w
  refine g_aload_n C dX0_divisor_8 rfl ?_
  refine g_get (ci := 2) C rfl inTX0 1 (by decide) fl_RX0_18 rfl (hK.ob hN (t := 110) (by omega) hD) rfl dX0_divisor_9 ?_
  refine g_aload_n C dX0_divisor_12 rfl ?_
  refine g_callV C (v_X5_setWhole _ (hN.W (j := 1) (by omega)) fy (hN.ne (j := 1) (k := k) (by omega) (by omega) (by omega))) (ci := 7) rfl (hN.W (j := 1) (by omega)).o rfl ml_RX0_43 im_yX5_setWhole se_RX5_yX5_setWhole in_RX5 co_yX5_setWhole hd_X5_setWhole rfl ⟨by omega, by omega⟩ rfl (Nat.le_of_ble_eq_true rfl) ⟨by omega, by omega⟩ dX0_divisor_13 (fun v13 w13 hp13 => ?_)
  obtain ⟨rfl, hws13, hfr13⟩ := hp13
  obtain ⟨hN13, v13w, hkj13⟩ := hN.stepV (j := 1) (by omega) hws13 hfr13
  replace fx := hkj13.nw hN (by omega) (by omega) fx
  replace fy := hkj13.nw hN (by omega) (by omega) fy
  replace v0 := hkj13.nw hN (by omega) (by omega) v0
  replace hK := hK.tr (hkj13.kn (by omega))
  replace hN := hN13
  have v1 := v13w
  refine g_aload_n C dX0_divisor_16 rfl ?_
  refine g_get (ci := 2) C rfl inTX0 0 (by decide) fl_RX0_12 rfl (hK.ob hN (t := 110) (by omega) hD) rfl dX0_divisor_17 ?_
  refine g_astore_n C dX0_divisor_20 (by decide) rfl ?_
  refine g_aload_n C dX0_divisor_21 rfl ?_
  refine g_get (ci := 2) C rfl inTX0 1 (by decide) fl_RX0_18 rfl (hK.ob hN (t := 110) (by omega) hD) rfl dX0_divisor_22 ?_
  refine g_astore C dX0_divisor_25 (by decide) rfl ?_
  refine g_iconst C dX0_divisor_27 ?_
  refine g_istore C dX0_divisor_28 (by decide) rfl ?_
  clear hN0
  refine g_loop (σ := Nat × Nat × Nat × Int × Int × Wd) (fun s => s.1 ≤ 1008 ∧ s.2.1 < 2 ∧ s.2.2.1 < 2 ∧ s.2.1 ≠ s.2.2.1 ∧ NS τ ad s.2.2.2.2.2 ∧ KN τ w s.2.2.2.2.2 ∧ NW ad s.2.2.2.2.2 s.2.1 s.2.2.2.1 ∧ NW ad s.2.2.2.2.2 s.2.2.1 s.2.2.2.2.1 ∧ 0 < s.2.2.2.1 ∧ 0 ≤ s.2.2.2.2.1 ∧ dv s.2.2.2.1 s.2.2.2.2.1 x y ∧ s.2.2.2.1 * s.2.2.2.2.1 * 2 ^ s.1 ≤ 2 * (x * y) ∧ (s.1 = 0 ∧ s.2.2.2.1 = x ∧ s.2.2.2.2.1 = y ∨ s.2.2.2.2.1 < s.2.2.2.1)) (fun s => G E X 7 30 [some (.ref (ad 110)), some (.ref (wo ad j)), some (.ref (wo ad k)), some (.ref (wo ad s.2.1)), some (.ref (wo ad s.2.2.1)), some (iI (s.1 : Int)), none] [] s.2.2.2.2.2 0 0) (fun s => 1008 - s.1) ?_ (0, 0, 1, x, y, w13) ⟨by dsimp only; omega, by dsimp only; omega, by dsimp only; omega, by dsimp only; omega, hN, hK, v0, v1, px, Int.le_of_lt py, fun d a b => ⟨a, b⟩, by
    show x * y * 2 ^ 0 ≤ _
    have := Int.mul_pos px py
    rw [Int.pow_zero]; omega, Or.inl ⟨rfl, rfl, rfl⟩⟩
  clear hN hK v0 v1 fx fy
  rintro ⟨i, g, l, Xv, Yv, u⟩ hqq ih
  obtain ⟨hi, hg, hl, hgl, hN, hK, fX, fY, hX0, hY0, hdv, hpr, hor⟩ := hqq
  dsimp only at hi hg hl hgl hN hK fX fY hX0 hY0 hdv hpr hor ⊢
  refine g_iload C dX0_divisor_30 rfl ?_
  refine g_sipush C dX0_divisor_32 (by decide) ?_
  refine g_icmp_ge (tgt := 70) C dX0_divisor_35 (by decide) (by omega) (by omega) (fun h35 => ?_) (fun h35 => ?_)
  · refine g_aload_n C dX0_divisor_70 rfl ?_
    exact g_areturn C (Or.inl ⟨_, rfl⟩) hQ (Or.inr ⟨_, rfl⟩) dX0_divisor_71 (by omega) (by omega) (by
      have hY9 : Yv = 0 := by
        first
        | exact bI_1 h43
        | exact eu_end hX0 hY0 hpr bx by_ px py (by omega)
      subst hY9
      obtain ⟨e1, e2⟩ := hdv Xv (Int.dvd_refl _) (Int.dvd_zero _)
      exact ⟨g, Xv, rfl, hg, fX, hX0, e1, e2, hN, hK⟩)
  · refine g_aload C dX0_divisor_38 rfl ?_
    refine g_callV C (c_X5_isZero _ fY ) (ci := 7) rfl (hN.W (j := l) (by omega)).o rfl ml_RX0_47 im_yX5_isZero se_RX5_yX5_isZero in_RX5 co_yX5_isZero hd_X5_isZero rfl ⟨by omega, by omega⟩ rfl (Nat.le_of_ble_eq_true rfl) ⟨by omega, by omega⟩ dX0_divisor_40 (fun v40 w40 hp40 => ?_)
    obtain ⟨rfl, hw40⟩ := hp40
    subst w40
    refine g_if_ne (tgt := 70) C dX0_divisor_43 (by decide) (bI_r _) (fun h43 => ?_) (fun h43 => ?_)
    · refine g_aload_n C dX0_divisor_70 rfl ?_
      exact g_areturn C (Or.inl ⟨_, rfl⟩) hQ (Or.inr ⟨_, rfl⟩) dX0_divisor_71 (by omega) (by omega) (by
        have hY9 : Yv = 0 := by
          first
          | exact bI_1 h43
          | exact eu_end hX0 hY0 hpr bx by_ px py (by omega)
        subst hY9
        obtain ⟨e1, e2⟩ := hdv Xv (Int.dvd_refl _) (Int.dvd_zero _)
        exact ⟨g, Xv, rfl, hg, fX, hX0, e1, e2, hN, hK⟩)
    · refine g_aload_n C dX0_divisor_46 rfl ?_
      refine g_aload_n C dX0_divisor_47 rfl ?_
      refine g_aload C dX0_divisor_48 rfl ?_
      refine g_callV C (s_X0_reduce _ hN (hK.ob hN (t := 110) (by omega) hD) (j := g) (k := l) (by omega) (by omega) hgl fX fY (by omega) (by omega)) (ci := 2) rfl (hK.ob hN (t := 110) (by omega) hD) rfl ml_RX0_51 im_yX0_reduce se_RX0_yX0_reduce in_RX0 co_yX0_reduce hd_X0_reduce rfl ⟨by omega, by omega⟩ rfl (Nat.le_of_ble_eq_true rfl) ⟨by omega, by omega⟩ dX0_divisor_50 (fun v50 w50 hp50 => ?_)
      obtain ⟨rfl, hN50, hK50, fX50, fY50⟩ := hp50
      replace hK := hK.tr hK50
      replace hN := hN50
      refine g_pop2L C dX0_divisor_53 rfl ?_
      refine g_aload_n C dX0_divisor_54 rfl ?_
      refine g_astore C dX0_divisor_55 (by decide) rfl ?_
      refine g_aload C dX0_divisor_57 rfl ?_
      refine g_astore_n C dX0_divisor_59 (by decide) rfl ?_
      refine g_aload C dX0_divisor_60 rfl ?_
      refine g_astore C dX0_divisor_62 (by decide) rfl ?_
      refine g_iinc C dX0_divisor_64 rfl (by decide) rfl ?_
      refine g_goto (tgt := 30) C dX0_divisor_67 (by decide) ?_
      refine g_drop 6 ?_
      have hY1 : 0 < Yv := by have := bI_0 (Classical.not_not.mp h43); omega
      rw [show (i : Int) + 1 = ((i + 1 : Nat) : Int) by omega]
      exact ih (i + 1, l, g, Yv, Xv % Yv, w50) ⟨by dsimp only; omega, hl, hg, Ne.symm hgl, hN, hK, fY50, fX50, hY1, Int.emod_nonneg _ (by omega), dv_mod hdv, eu_step hX0 hY1 hpr hor, Or.inr (Int.emod_lt_of_pos _ hY1)⟩ (by dsimp only; omega)
theorem bd_q {x : Int} {i : Nat} (h0 : 0 ≤ x) (hx : aB x < M125) (hi : i ≤ 16) : 0 ≤ x * 10 ^ i ∧ aB (x * 10 ^ i) * 10 + 0 < B28 ^ 18 := by
  rw [aB_p h0] at hx
  have p : (0 : Int) < 10 ^ i := Int.pow_pos (by decide)
  have e : (10 : Int) ^ 16 = 10 ^ i * 10 ^ (16 - i) := by rw [← Int.pow_add]; congr 1; omega
  have p2 : (1 : Int) ≤ 10 ^ (16 - i) := Int.pow_pos (n := 10) (by decide)
  have h1 := Int.mul_le_mul_of_nonneg_left p2 (Int.le_of_lt p)
  rw [← e, show (10 : Int) ^ 16 = 10000000000000000 by decide] at h1
  have h2 := Int.mul_nonneg h0 (Int.le_of_lt p)
  have h3 := Int.mul_le_mul (Int.le_of_lt hx) (show (10 : Int) ^ i ≤ 10000000000000000 by omega) (Int.le_of_lt p) (show 0 ≤ M125 by decide)
  refine ⟨h2, ?_⟩
  rw [aB_p h2, B18]
  unfold M125 at h3
  omega
set_option maxHeartbeats 4000000 in
set_option maxRecDepth 100000 in
theorem s_X0_quotient (l : Launch) {E : GE} {w : Wd} {τ ad : Nat → Nat} (hN0 : NS τ ad w) (hD : w.2 (ad 110) = some (true, oD ad)) {p : Nat} (hp : p ≤ 16) {j : Nat} (hj : 4 ≤ j ∧ j < 70) {k : Nat} (hk : 4 ≤ k ∧ k < 70) {x y : Int} (fx : NW ad w j x) (bx : aB x < M125) (fy : NW ad w k y) (px : 0 ≤ x) (py : 0 ≤ y) : Sp E l yX0_quotient cX0_quotient 5 (some .long) 3 (0) (0) [.ref (ad 110), .ref (wo ad j), .ref (wo ad k), iI (p : Int)] w (fun r' w' => r' = some (jJ (x * 10 ^ p / y)) ∧ NS τ ad w' ∧ KN τ w w') := by
  refine sp_intro [some (.ref (ad 110)), some (.ref (wo ad j)), some (.ref (wo ad k)), some (iI (p : Int)), none] rfl (Nat.le_of_ble_eq_true rfl) pn_X0 ?_
  intro X C hRm hl hnm hQ
  obtain ⟨hRf, hRl, hRc, hRs⟩ := hRm
  refine g_wf (fun hwf => ?_)
  have hN := hN0
  have hK : KN τ w w := KN.rf _ _
  refine g_aload_n C dX0_quotient_0 rfl ?_
  refine g_get (ci := 2) C rfl inTX0 0 (by decide) fl_RX0_12 rfl (hK.ob hN (t := 110) (by omega) hD) rfl dX0_quotient_1 ?_
  refine g_aload_n C dX0_quotient_4 rfl ?_
  refine g_callV C (v_X5_setWhole _ (hN.W (j := 0) (by omega)) fx (hN.ne (j := 0) (k := j) (by omega) (by omega) (by omega))) (ci := 7) rfl (hN.W (j := 0) (by omega)).o rfl ml_RX0_43 im_yX5_setWhole se_RX5_yX5_setWhole in_RX5 co_yX5_setWhole hd_X5_setWhole rfl ⟨by omega, by omega⟩ rfl (Nat.le_of_ble_eq_true rfl) ⟨by omega, by omega⟩ dX0_quotient_5 (fun v5 w5 hp5 => ?_)
  obtain ⟨rfl, hws5, hfr5⟩ := hp5
  obtain ⟨hN5, v5w, hkj5⟩ := hN.stepV (j := 0) (by omega) hws5 hfr5
  replace fx := hkj5.nw hN (by omega) (by omega) fx
  replace fy := hkj5.nw hN (by omega) (by omega) fy
  replace hK := hK.tr (hkj5.kn (by omega))
  replace hN := hN5
  have v0 := v5w
  refine g_iconst C dX0_quotient_8 ?_
  refine g_istore C dX0_quotient_9 (by decide) rfl ?_
  clear hN0
  refine g_loop (σ := Nat × Wd) (fun s => s.1 ≤ p ∧ NS τ ad s.2 ∧ KN τ w s.2 ∧ NW ad s.2 0 (x * 10 ^ s.1) ∧ NW ad s.2 k y) (fun s => G E X 5 11 [some (.ref (ad 110)), some (.ref (wo ad j)), some (.ref (wo ad k)), some (iI (p : Int)), some (iI (s.1 : Int))] [] s.2 0 0) (fun s => p - s.1) ?_ (0, w5) ⟨by dsimp only; omega, hN, hK, v0.eq (by rw [Int.pow_zero, Int.mul_one]), fy⟩
  clear hN hK v0 fx fy
  rintro ⟨i, u⟩ hqq ih
  obtain ⟨hi, hN, hK, v0, fy⟩ := hqq
  dsimp only at hi hN hK v0 fy ⊢
  obtain ⟨bq1, bq2⟩ := bd_q (i := i) px bx (by omega)
  refine g_iload C dX0_quotient_11 rfl ?_
  refine g_iload_n C dX0_quotient_13 rfl ?_
  refine g_icmp_ge (tgt := 33) C dX0_quotient_14 (by decide) (by omega) (by omega) (fun h14 => ?_) (fun h14 => ?_)
  · refine g_aload_n C dX0_quotient_33 rfl ?_
    refine g_aload_n C dX0_quotient_34 rfl ?_
    refine g_get (ci := 2) C rfl inTX0 0 (by decide) fl_RX0_12 rfl (hK.ob hN (t := 110) (by omega) hD) rfl dX0_quotient_35 ?_
    refine g_aload_n C dX0_quotient_38 rfl ?_
    refine g_callV C (s_X0_reduce _ hN (hK.ob hN (t := 110) (by omega) hD) (j := 0) (k := k) (by omega) (by omega) (by omega) v0 fy bq1 py) (ci := 2) rfl (hK.ob hN (t := 110) (by omega) hD) rfl ml_RX0_51 im_yX0_reduce se_RX0_yX0_reduce in_RX0 co_yX0_reduce hd_X0_reduce rfl ⟨by omega, by omega⟩ rfl (Nat.le_of_ble_eq_true rfl) ⟨by omega, by omega⟩ dX0_quotient_39 (fun v39 w39 hp39 => ?_)
    obtain ⟨rfl, hN39, hK39, -, -⟩ := hp39
    exact g_lreturn C hQ dX0_quotient_42 (Nat.le_refl _) (Nat.le_refl _) ⟨by rw [show i = p by omega], hN39, hK.tr hK39⟩
  · refine g_aload_n C dX0_quotient_17 rfl ?_
    refine g_get (ci := 2) C rfl inTX0 0 (by decide) fl_RX0_12 rfl (hK.ob hN (t := 110) (by omega) hD) rfl dX0_quotient_18 ?_
    refine g_bipush C dX0_quotient_21 (by decide) ?_
    refine g_iconst C dX0_quotient_23 ?_
    refine g_callV C (u_X5_multiplySmall _ v0 (by_ := 10) (mo := 0) (by omega) (by omega) (Or.inr rfl) bq2) (ci := 7) rfl (hN.W (j := 0) (by omega)).o rfl ml_RX0_35 im_yX5_multiplySmall se_RX5_yX5_multiplySmall in_RX5 co_yX5_multiplySmall hd_X5_multiplySmall rfl ⟨by omega, by omega⟩ rfl (Nat.le_of_ble_eq_true rfl) ⟨by omega, by omega⟩ dX0_quotient_24 (fun v24 w24 hp24 => ?_)
    obtain ⟨rfl, hws24, hfr24⟩ := hp24
    obtain ⟨hN24, v24w, hkj24⟩ := hN.stepV (j := 0) (by omega) hws24 hfr24
    replace fy := hkj24.nw hN (by omega) (by omega) fy
    replace hK := hK.tr (hkj24.kn (by omega))
    replace hN := hN24
    have v0 := v24w
    refine g_iinc C dX0_quotient_27 rfl (by decide) rfl ?_
    refine g_goto (tgt := 11) C dX0_quotient_30 (by decide) ?_
    rw [show (i : Int) + 1 = ((i + 1 : Nat) : Int) by omega]
    exact ih (i + 1, w24) ⟨by dsimp only; omega, hN, hK, v0.eq (by rw [Int.pow_succ, Int.add_zero, Int.mul_assoc]), fy⟩ (by dsimp only; omega)
def M140 : Int := 1393796574908163946345982392040522594123776
theorem bd_w {N u n : Int} (hN : aB N ≤ 1000) (hu : aB u < M125) (hn : 0 ≤ n ∧ n ≤ 10) : aB (aB N) * aB u < B28 ^ 18 ∧ aB (aB N * u) * n + 0 < B28 ^ 18 ∧ aB (aB N * u * n + 0) ≤ 10000 * M125 := by
  have h0 := aB_0 N
  have h1 := Int.mul_le_mul hN (Int.le_of_lt hu) (aB_0 u) (by decide)
  have h2 := Int.mul_le_mul h1 hn.2 hn.1 (by decide)
  have e : aB (aB N) = aB N := aB_p h0
  refine ⟨?_, ?_, ?_⟩
  · rw [e, B18]; unfold M125 at h1; omega
  · rw [aB_mul, e, B18]; unfold M125 at h2; omega
  · rw [Int.add_zero, aB_mul, aB_mul, e, aB_p hn.1]; omega
theorem bd_w2 {F x : Int} (hF : aB F ≤ 10000 * M125) (hx : aB x < M125) : aB F + aB x < B28 ^ 18 ∧ aB (F - x) < M140 := by
  have := aB_add F (-x)
  rw [aB_neg, ← Int.sub_eq_add_neg] at this
  refine ⟨?_, ?_⟩
  · rw [B18]; unfold M125 at *; omega
  · unfold M140; unfold M125 at *; omega
theorem bd_w3 {F : Int} (hF : aB F < M140) : aB F * aB F < B28 ^ 18 := by
  have h := Int.mul_le_mul (Int.le_of_lt hF) (Int.le_of_lt hF) (aB_0 F) (show 0 ≤ M140 by decide)
  rw [B18]
  unfold M140 at h
  omega
set_option maxHeartbeats 4000000 in
set_option maxRecDepth 100000 in
theorem s_X0_isWithin (l : Launch) {E : GE} {w : Wd} {τ ad : Nat → Nat} (hN0 : NS τ ad w) (hD : w.2 (ad 110) = some (true, oD ad)) {b n : Int} (hb : 0 ≤ b ∧ b ≤ 1000) (hn : 0 ≤ n ∧ n ≤ 10) {j : Nat} (hj : 4 ≤ j ∧ j < 70) {k : Nat} (hk : 4 ≤ k ∧ k < 70) {m : Nat} (hm : 4 ≤ m ∧ m < 70) {x y u : Int} (fx : NW ad w j x) (bx : aB x < M125) (fy : NW ad w k y) (by_ : aB y < M125) (fu : NW ad w m u) (bu : aB u < M125) (bN : aB (x * x - b * (y * y)) ≤ 1000) : Sp E l yX0_isWithin cX0_isWithin 7 (some .boolean) 4 (0) (0) [.ref (ad 110), iI b, .ref (wo ad j), .ref (wo ad k), .ref (wo ad m), iI n] w (fun r' w' => r' = some (iI (bI (aB (x * x - b * (y * y)) * u * n - x < 0 ∨ (aB (x * x - b * (y * y)) * u * n - x) * (aB (x * x - b * (y * y)) * u * n - x) < y * y * b))) ∧ NS τ ad w' ∧ KN τ w w') := by
  refine sp_intro [some (.ref (ad 110)), some (iI b), some (.ref (wo ad j)), some (.ref (wo ad k)), some (.ref (wo ad m)), some (iI n), none] rfl (Nat.le_of_ble_eq_true rfl) pn_X0 ?_
  intro X C hRm hl hnm hQ
  obtain ⟨hRf, hRl, hRc, hRs⟩ := hRm
  refine g_wf (fun hwf => ?_)
  have hN := hN0
  have hK : KN τ w w := KN.rf _ _
  refine g_aload_n C dX0_isWithin_0 rfl ?_
  refine g_iload_n C dX0_isWithin_1 rfl ?_
  refine g_aload_n C dX0_isWithin_2 rfl ?_
  refine g_aload_n C dX0_isWithin_3 rfl ?_
  refine g_callV C (s_X0_norm _ hN hD (b := b) hb (j := j) (k := k) hj hk fx bx fy by_) (ci := 2) rfl hD rfl ml_RX0_76 im_yX0_norm se_RX0_yX0_norm in_RX0 co_yX0_norm hd_X0_norm rfl ⟨by omega, by omega⟩ rfl (Nat.le_of_ble_eq_true rfl) ⟨by omega, by omega⟩ dX0_isWithin_4 (fun v4 w4 hp4 => ?_)
  obtain ⟨rfl, v1, hN4, hK4⟩ := hp4
  replace hK := hK.tr hK4
  replace hN := hN4
  replace fx := hK4.nw hN hj fx
  replace fy := hK4.nw hN hk fy
  replace fu := hK4.nw hN hm fu
  generalize hNv : x * x - b * (y * y) = Nv at v1 bN
  obtain ⟨w1, w2, w3⟩ := bd_w bN bu hn
  obtain ⟨w4, w5⟩ := bd_w2 w3 bx
  refine g_astore C dX0_isWithin_7 (by decide) rfl ?_
  refine g_aload C dX0_isWithin_9 rfl ?_
  refine g_callV C (c_X5_makeSize _ v1 ) (ci := 7) rfl (hN.W (j := 1) (by omega)).o rfl ml_RX0_80 im_yX5_makeSize se_RX5_yX5_makeSize in_RX5 co_yX5_makeSize hd_X5_makeSize rfl ⟨by omega, by omega⟩ rfl (Nat.le_of_ble_eq_true rfl) ⟨by omega, by omega⟩ dX0_isWithin_11 (fun v11 w11 hp11 => ?_)
  obtain ⟨rfl, hws11, hfr11⟩ := hp11
  obtain ⟨hN11, v11w, hkj11⟩ := hN.stepV (j := 1) (by omega) hws11 hfr11
  replace fx := hkj11.nw hN (by omega) (by omega) fx
  replace fy := hkj11.nw hN (by omega) (by omega) fy
  replace fu := hkj11.nw hN (by omega) (by omega) fu
  replace hK := hK.tr (hkj11.kn (by omega))
  replace hN := hN11
  have v1 := v11w
  refine g_aload_n C dX0_isWithin_14 rfl ?_
  refine g_get (ci := 2) C rfl inTX0 0 (by decide) fl_RX0_12 rfl (hK.ob hN (t := 110) (by omega) hD) rfl dX0_isWithin_15 ?_
  refine g_aload C dX0_isWithin_18 rfl ?_
  refine g_aload C dX0_isWithin_20 rfl ?_
  refine g_callV C (v_X5_setProduct _ (hN.W (j := 0) (by omega)) v1 fu (hN.ne (j := 0) (k := 1) (by omega) (by omega) (by omega)) (hN.ne (j := 0) (k := m) (by omega) (by omega) (by omega)) (hN.neo (j := 0) (k := 1) (by omega) (by omega) (by omega)) (hN.neo (j := 0) (k := m) (by omega) (by omega) (by omega)) w1) (ci := 7) rfl (hN.W (j := 0) (by omega)).o rfl ml_RX0_31 im_yX5_setProduct se_RX5_yX5_setProduct in_RX5 co_yX5_setProduct hd_X5_setProduct rfl ⟨by omega, by omega⟩ rfl (Nat.le_of_ble_eq_true rfl) ⟨by omega, by omega⟩ dX0_isWithin_22 (fun v22 w22 hp22 => ?_)
  obtain ⟨rfl, hws22, hfr22⟩ := hp22
  obtain ⟨hN22, v22w, hkj22⟩ := hN.stepV (j := 0) (by omega) hws22 hfr22
  replace fx := hkj22.nw hN (by omega) (by omega) fx
  replace fy := hkj22.nw hN (by omega) (by omega) fy
  replace fu := hkj22.nw hN (by omega) (by omega) fu
  replace v1 := hkj22.nw hN (by omega) (by omega) v1
  replace hK := hK.tr (hkj22.kn (by omega))
  replace hN := hN22
  have v0 := v22w
  refine g_aload_n C dX0_isWithin_25 rfl ?_
  refine g_get (ci := 2) C rfl inTX0 0 (by decide) fl_RX0_12 rfl (hK.ob hN (t := 110) (by omega) hD) rfl dX0_isWithin_26 ?_
  refine g_iload C dX0_isWithin_29 rfl ?_
  refine g_iconst C dX0_isWithin_31 ?_
  refine g_callV C (u_X5_multiplySmall _ v0 (by_ := n) (mo := 0) (by omega) (by omega) (Or.inr rfl) w2) (ci := 7) rfl (hN.W (j := 0) (by omega)).o rfl ml_RX0_35 im_yX5_multiplySmall se_RX5_yX5_multiplySmall in_RX5 co_yX5_multiplySmall hd_X5_multiplySmall rfl ⟨by omega, by omega⟩ rfl (Nat.le_of_ble_eq_true rfl) ⟨by omega, by omega⟩ dX0_isWithin_32 (fun v32 w32 hp32 => ?_)
  obtain ⟨rfl, hws32, hfr32⟩ := hp32
  obtain ⟨hN32, v32w, hkj32⟩ := hN.stepV (j := 0) (by omega) hws32 hfr32
  replace fx := hkj32.nw hN (by omega) (by omega) fx
  replace fy := hkj32.nw hN (by omega) (by omega) fy
  replace fu := hkj32.nw hN (by omega) (by omega) fu
  replace v1 := hkj32.nw hN (by omega) (by omega) v1
  replace hK := hK.tr (hkj32.kn (by omega))
  replace hN := hN32
  have v0 := v32w
  refine g_aload_n C dX0_isWithin_35 rfl ?_
  refine g_get (ci := 2) C rfl inTX0 0 (by decide) fl_RX0_12 rfl (hK.ob hN (t := 110) (by omega) hD) rfl dX0_isWithin_36 ?_
  refine g_aload_n C dX0_isWithin_39 rfl ?_
  refine g_iconst C dX0_isWithin_40 ?_
  refine g_callV C (c_X5_addOrTake _ v0 fx (y := 1) (by omega) (hN.ne (j := 0) (k := j) (by omega) (by omega) (by omega)) (hN.neo (j := 0) (k := j) (by omega) (by omega) (by omega)) w4) (ci := 7) rfl (hN.W (j := 0) (by omega)).o rfl ml_RX0_39 im_yX5_addOrTake se_RX5_yX5_addOrTake in_RX5 co_yX5_addOrTake hd_X5_addOrTake rfl ⟨by omega, by omega⟩ rfl (Nat.le_of_ble_eq_true rfl) ⟨by omega, by omega⟩ dX0_isWithin_41 (fun v41 w41 hp41 => ?_)
  obtain ⟨rfl, hws41, hfr41⟩ := hp41
  obtain ⟨hN41, v41w, hkj41⟩ := hN.stepV (j := 0) (by omega) hws41 hfr41
  replace fx := hkj41.nw hN (by omega) (by omega) fx
  replace fy := hkj41.nw hN (by omega) (by omega) fy
  replace fu := hkj41.nw hN (by omega) (by omega) fu
  replace v1 := hkj41.nw hN (by omega) (by omega) v1
  replace hK := hK.tr (hkj41.kn (by omega))
  replace hN := hN41
  have v0 := v41w
  replace v0 := v0.eq (if1 _ _)
  rw [Int.add_zero] at v0 w5
  refine g_aload_n C dX0_isWithin_44 rfl ?_
  refine g_get (ci := 2) C rfl inTX0 0 (by decide) fl_RX0_12 rfl (hK.ob hN (t := 110) (by omega) hD) rfl dX0_isWithin_45 ?_
  refine g_callV C (c_X5_isBelow _ v0 ) (ci := 7) rfl (hN.W (j := 0) (by omega)).o rfl ml_RX0_83 im_yX5_isBelow se_RX5_yX5_isBelow in_RX5 co_yX5_isBelow hd_X5_isBelow rfl ⟨by omega, by omega⟩ rfl (Nat.le_of_ble_eq_true rfl) ⟨by omega, by omega⟩ dX0_isWithin_48 (fun v48 w48 hp48 => ?_)
  obtain ⟨rfl, hw48⟩ := hp48
  subst w48
  refine g_if_eq (tgt := 56) C dX0_isWithin_51 (by decide) (bI_r _) (fun h51 => ?_) (fun h51 => ?_)
  · refine g_aload_n C dX0_isWithin_56 rfl ?_
    refine g_get (ci := 2) C rfl inTX0 1 (by decide) fl_RX0_18 rfl (hK.ob hN (t := 110) (by omega) hD) rfl dX0_isWithin_57 ?_
    refine g_aload_n C dX0_isWithin_60 rfl ?_
    refine g_get (ci := 2) C rfl inTX0 0 (by decide) fl_RX0_12 rfl (hK.ob hN (t := 110) (by omega) hD) rfl dX0_isWithin_61 ?_
    refine g_aload_n C dX0_isWithin_64 rfl ?_
    refine g_get (ci := 2) C rfl inTX0 0 (by decide) fl_RX0_12 rfl (hK.ob hN (t := 110) (by omega) hD) rfl dX0_isWithin_65 ?_
    refine g_callV C (v_X5_setProduct _ (hN.W (j := 1) (by omega)) v0 v0 (hN.ne (j := 1) (k := 0) (by omega) (by omega) (by omega)) (hN.ne (j := 1) (k := 0) (by omega) (by omega) (by omega)) (hN.neo (j := 1) (k := 0) (by omega) (by omega) (by omega)) (hN.neo (j := 1) (k := 0) (by omega) (by omega) (by omega)) (bd_w3 w5)) (ci := 7) rfl (hN.W (j := 1) (by omega)).o rfl ml_RX0_31 im_yX5_setProduct se_RX5_yX5_setProduct in_RX5 co_yX5_setProduct hd_X5_setProduct rfl ⟨by omega, by omega⟩ rfl (Nat.le_of_ble_eq_true rfl) ⟨by omega, by omega⟩ dX0_isWithin_68 (fun v68 w68 hp68 => ?_)
    obtain ⟨rfl, hws68, hfr68⟩ := hp68
    obtain ⟨hN68, v68w, hkj68⟩ := hN.stepV (j := 1) (by omega) hws68 hfr68
    replace fx := hkj68.nw hN (by omega) (by omega) fx
    replace fy := hkj68.nw hN (by omega) (by omega) fy
    replace fu := hkj68.nw hN (by omega) (by omega) fu
    replace v0 := hkj68.nw hN (by omega) (by omega) v0
    replace hK := hK.tr (hkj68.kn (by omega))
    replace hN := hN68
    have v1 := v68w
    refine g_aload_n C dX0_isWithin_71 rfl ?_
    refine g_get (ci := 2) C rfl inTX0 2 (by decide) fl_RX0_21 rfl (hK.ob hN (t := 110) (by omega) hD) rfl dX0_isWithin_72 ?_
    refine g_aload_n C dX0_isWithin_75 rfl ?_
    refine g_aload_n C dX0_isWithin_76 rfl ?_
    refine g_callV C (v_X5_setProduct _ (hN.W (j := 2) (by omega)) fy fy (hN.ne (j := 2) (k := k) (by omega) (by omega) (by omega)) (hN.ne (j := 2) (k := k) (by omega) (by omega) (by omega)) (hN.neo (j := 2) (k := k) (by omega) (by omega) (by omega)) (hN.neo (j := 2) (k := k) (by omega) (by omega) (by omega)) (bd_p by_ by_)) (ci := 7) rfl (hN.W (j := 2) (by omega)).o rfl ml_RX0_31 im_yX5_setProduct se_RX5_yX5_setProduct in_RX5 co_yX5_setProduct hd_X5_setProduct rfl ⟨by omega, by omega⟩ rfl (Nat.le_of_ble_eq_true rfl) ⟨by omega, by omega⟩ dX0_isWithin_77 (fun v77 w77 hp77 => ?_)
    obtain ⟨rfl, hws77, hfr77⟩ := hp77
    obtain ⟨hN77, v77w, hkj77⟩ := hN.stepV (j := 2) (by omega) hws77 hfr77
    replace fx := hkj77.nw hN (by omega) (by omega) fx
    replace fy := hkj77.nw hN (by omega) (by omega) fy
    replace fu := hkj77.nw hN (by omega) (by omega) fu
    replace v0 := hkj77.nw hN (by omega) (by omega) v0
    replace v1 := hkj77.nw hN (by omega) (by omega) v1
    replace hK := hK.tr (hkj77.kn (by omega))
    replace hN := hN77
    have v2 := v77w
    refine g_aload_n C dX0_isWithin_80 rfl ?_
    refine g_get (ci := 2) C rfl inTX0 2 (by decide) fl_RX0_21 rfl (hK.ob hN (t := 110) (by omega) hD) rfl dX0_isWithin_81 ?_
    refine g_iload_n C dX0_isWithin_84 rfl ?_
    refine g_iconst C dX0_isWithin_85 ?_
    refine g_callV C (u_X5_multiplySmall _ v2 (by_ := b) (mo := 0) (by omega) (by omega) (Or.inr rfl) (bd_b (bd_m by_ by_).1 hb)) (ci := 7) rfl (hN.W (j := 2) (by omega)).o rfl ml_RX0_35 im_yX5_multiplySmall se_RX5_yX5_multiplySmall in_RX5 co_yX5_multiplySmall hd_X5_multiplySmall rfl ⟨by omega, by omega⟩ rfl (Nat.le_of_ble_eq_true rfl) ⟨by omega, by omega⟩ dX0_isWithin_86 (fun v86 w86 hp86 => ?_)
    obtain ⟨rfl, hws86, hfr86⟩ := hp86
    obtain ⟨hN86, v86w, hkj86⟩ := hN.stepV (j := 2) (by omega) hws86 hfr86
    replace fx := hkj86.nw hN (by omega) (by omega) fx
    replace fy := hkj86.nw hN (by omega) (by omega) fy
    replace fu := hkj86.nw hN (by omega) (by omega) fu
    replace v0 := hkj86.nw hN (by omega) (by omega) v0
    replace v1 := hkj86.nw hN (by omega) (by omega) v1
    replace hK := hK.tr (hkj86.kn (by omega))
    replace hN := hN86
    have v2 := v86w
    refine g_aload_n C dX0_isWithin_89 rfl ?_
    refine g_get (ci := 2) C rfl inTX0 1 (by decide) fl_RX0_18 rfl (hK.ob hN (t := 110) (by omega) hD) rfl dX0_isWithin_90 ?_
    refine g_aload_n C dX0_isWithin_93 rfl ?_
    refine g_get (ci := 2) C rfl inTX0 2 (by decide) fl_RX0_21 rfl (hK.ob hN (t := 110) (by omega) hD) rfl dX0_isWithin_94 ?_
    refine g_callV C (u_X5_compareSize _ v1 v2) (ci := 7) rfl (hN.W (j := 1) (by omega)).o rfl ml_RX0_65 im_yX5_compareSize se_RX5_yX5_compareSize in_RX5 co_yX5_compareSize hd_X5_compareSize rfl ⟨by omega, by omega⟩ rfl (Nat.le_of_ble_eq_true rfl) ⟨by omega, by omega⟩ dX0_isWithin_97 (fun v97 w97 hp97 => ?_)
    obtain ⟨⟨d97, rfl, hd97⟩, hw97⟩ := hp97
    subst w97
    rw [Int.add_zero, aB_p (show 0 ≤ y * y * b from Int.mul_nonneg (by have := aB_sq y; have := Int.mul_nonneg (aB_0 y) (aB_0 y); omega) hb.1), aB_p (show 0 ≤ (aB Nv * u * n - x) * (aB Nv * u * n - x) by have := aB_sq (aB Nv * u * n - x); have := Int.mul_nonneg (aB_0 (aB Nv * u * n - x)) (aB_0 (aB Nv * u * n - x)); omega)] at hd97
    refine g_if_ge (tgt := 107) C dX0_isWithin_100 (by decide) (by omega) (fun h100 => ?_) (fun h100 => ?_)
    · refine g_iconst C dX0_isWithin_107 ?_
      exact g_zreturn C hQ dX0_isWithin_108 rfl (Nat.le_refl _) (Nat.le_refl _) ⟨by
        have hlt := bI_0 h51
        rw [hNv]
        first
        | rw [bI_t (Or.inr (by omega))]
        | rw [bI_f (fun q => by rcases q with q | q <;> omega)], hN, hK⟩
    · refine g_iconst C dX0_isWithin_103 ?_
      refine g_goto (tgt := 108) C dX0_isWithin_104 (by decide) ?_
      exact g_zreturn C hQ dX0_isWithin_108 rfl (Nat.le_refl _) (Nat.le_refl _) ⟨by
        have hlt := bI_0 h51
        rw [hNv]
        first
        | rw [bI_t (Or.inr (by omega))]
        | rw [bI_f (fun q => by rcases q with q | q <;> omega)], hN, hK⟩
  · refine g_iconst C dX0_isWithin_54 ?_
    exact g_zreturn C hQ dX0_isWithin_55 rfl (Nat.le_refl _) (Nat.le_refl _) ⟨by rw [hNv, bI_t (Or.inl (bI_1 h51))], hN, hK⟩
/-! calls of a nest mate's private members -/
theorem HT.nest {K : KC} {E : GE} {U : State} {H : Heap} (h : HT K E U H) (i : Nat) {own host : String} {index : Nat} {y : MethodName} (hn : nWs[i]? = some (own, index, y, host)) : va_Nw (.methodLinkNest own index y host) U := h.2.2.2.2.2.2.2.2 i _ hn
theorem t_nS {K : KC} {E X own cc nL ret pc L st st0 w k n} (C : CX E X own cc nL ret) (hT : HT K E (xs X) (xs X).heap) {y : MethodName} {bytes : ByteArray} {maxL : Nat} {rt : Option FieldType} {dep mc ms index nA : Nat} {host : String} {av : List Value} {Post : Option Value → Wd → Prop} (hS : St K E (xl X) y bytes maxL rt dep mc ms av w Post)
    (i : Nat) (hn : nWs[i]? = some (own, index, y, host)) (sm : Cond.static y ∈ GT) (ini : Cond.initialized y.cls ∈ GT) (co : Cond.code y bytes maxL rt ∈ GT)
    (hd : y.cls ≠ "java/lang/invoke/MethodHandle" ∧ y.cls ≠ "java/lang/invoke/VarHandle" ∧ (parseMethodDescriptor y.desc).map (fun d => d.parameters.length) = some nA) (hA : av.length = nA)
    (hR : dep + 1 ≤ (xR X).frames ∧ 8 + (maxL + 11) + 64 * dep ≤ (xR X).locals) (hst : st0 = av.reverse ++ st) (hcat : (st.map fun v => v.category).sum ≤ 8) (hf : k + mc ≤ (xR X).cells ∧ n + ms ≤ (xR X).slots) (d : decode cc pc = .ok (.invokestatic index, 3))
    (kk : ∀ v w', Post v w' → G E X nL (pc + 3) L (v.toList ++ st) w' (k + mc) (n + ms)) : G E X nL pc L st0 w k n := by
  refine g_run (a := av.toArray) C (fun H locs ls h1 h2 h3 => ?_) kk
  exact va_runSN (Ts := GT) ⟨C.ex, C.co, C.ml, C.ow, C.ts⟩ hS ⟨va_cnB nA C.ts (gt_gi (fun w hw => by
      rcases List.mem_cons.mp hw with rfl | h
      · exact co
      · exact h)) rfl rfl rfl (hT.nest i hn) (C.ts _ ini) hd hR, C.ts _ sm, trivial⟩
    ⟨pt_blind, fun U hU hW => t_pre C hT h1 h2 U hU hW⟩ rfl hA h3.1 hst (lv_room hcat) d hf
theorem t_nI {K : KC} {E X own cc nL ret pc L st st0 w k n} (C : CX E X own cc nL ret) (hT : HT K E (xs X) (xs X).heap) {y : MethodName} {bytes : ByteArray} {maxL : Nat} {dep mc ms index nA : Nat} {host : String} {a : Nat} {av : List Value} {Post : Option Value → Wd → Prop} (hS : St K E (xl X) y bytes maxL none dep mc ms (.ref a :: av) w Post)
    (i : Nat) (hn : nWs[i]? = some (own, index, y, host)) (im : Cond.instanceMethod y ∈ GT) (ini : Cond.initialized y.cls ∈ GT) (co : Cond.code y bytes maxL none ∈ GT) (hy : y.name = "<init>")
    (hd : y.cls ≠ "java/lang/invoke/MethodHandle" ∧ y.cls ≠ "java/lang/invoke/VarHandle" ∧ (parseMethodDescriptor y.desc).map (fun d => d.parameters.length) = some nA) (hA : av.length = nA)
    (hR : dep + 1 ≤ (xR X).frames ∧ 8 + (maxL + 11) + 64 * dep ≤ (xR X).locals) (hst : st0 = av.reverse ++ .ref a :: st) (hcat : (st.map fun v => v.category).sum ≤ 8) (hf : k + mc ≤ (xR X).cells ∧ n + ms ≤ (xR X).slots) (d : decode cc pc = .ok (.invokespecial index, 3))
    (kk : ∀ v w', Post v w' → G E X nL (pc + 3) L (v.toList ++ st) w' (k + mc) (n + ms)) : G E X nL pc L st0 w k n := by
  refine g_run (a := (Value.ref a :: av).toArray) C (fun H locs ls h1 h2 h3 => ?_) kk
  exact va_runIN (Ts := GT) ⟨C.ex, C.co, C.ml, C.ow, C.ts⟩ hS ⟨va_cnB nA C.ts (gt_gi (fun w hw => by
      rcases List.mem_cons.mp hw with rfl | h
      · exact co
      · exact h)) rfl rfl rfl (hT.nest i hn) (C.ts _ ini) hd hR, hy, C.ts _ im⟩
    ⟨pt_blind, fun U hU hW => t_pre C hT h1 h2 U hU hW⟩ rfl hA h3.1 hst (lv_room hcat) d hf
theorem SBw.frW {u u' : Wd} {a v n m b r : Nat} (h : SBw u a v n m) (x : FrW u u' b r) (h1 : a ≠ b ∧ a ≠ r ∧ v ≠ b ∧ v ≠ r) : SBw u' a v n m := by
  obtain ⟨mb, f, k1, k2, k3⟩ := h
  exact ⟨mb, f, by rw [x.2 a h1.1 h1.2.1]; exact k1, by rw [x.2 v h1.2.2.1 h1.2.2.2]; exact k2, k3⟩
theorem NS.frY {τ ad : Nat → Nat} {w u : Wd} {a v W : Nat} (h : NS τ ad w) (x : FrY w u a v) (hw : wF w) (hlt : ∀ t, 200 ≤ t → t ≤ 340 → ad t < W) (ha : W ≤ a) (hv : W ≤ v) : NS τ ad u := by
  obtain ⟨g, hg1, hg2⟩ := h.2.2
  refine ⟨h.1, fun i hi => ?_, g, ?_, hg2⟩
  · obtain ⟨f, uu, bl, e1, e2, e3⟩ := h.W hi
    have l1 := hlt (200 + 2 * i) (by omega) (by omega)
    have l2 := hlt (201 + 2 * i) (by omega) (by omega)
    exact ⟨f, uu, bl, by rw [x.2 _ (hw _ _ e1) (by show ad (200 + 2 * i) ≠ a; omega) (by show ad (200 + 2 * i) ≠ v; omega)]; exact e1, by rw [x.2 _ (hw _ _ e2) (by show ad (201 + 2 * i) ≠ a; omega) (by show ad (201 + 2 * i) ≠ v; omega)]; exact e2, e3⟩
  · have l1 := hlt 340 (by omega) (by omega)
    rw [x.2 _ (hw _ _ hg1) (by omega) (by omega)]
    exact hg1
theorem KN.frY {τ : Nat → Nat} {W0 w u : Wd} {a v : Nat} (k : KN τ W0 w) (hW0 : wF W0) (x : FrY w u a v) (hw : wF w) (ha : W0.1 ≤ a) (hv : W0.1 ≤ v) : KN τ W0 u := by
  refine ⟨Nat.le_trans k.1 x.1, fun b e ht h0 => ?_⟩
  have h1 := k.2 b e ht h0
  have hb := hW0 b e h0
  rw [x.2 b (hw b e h1) (by omega) (by omega)]
  exact h1
theorem NS.lt {τ ad : Nat → Nat} {w : Wd} (h : NS τ ad w) (hw : wF w) : ∀ t, 200 ≤ t → t ≤ 340 → ad t < w.1 := by
  intro t h1 h2
  obtain ⟨g, hg1, -⟩ := h.2.2
  by_cases q : t = 340
  · rw [q]; exact hw _ _ hg1
  · obtain ⟨f, uu, bl, e1, e2, -⟩ := h.W (j := (t - 200) / 2) (by omega)
    have l1 := hw _ _ e1
    have l2 := hw _ _ e2
    rcases (show t = 200 + 2 * ((t - 200) / 2) ∨ t = 201 + 2 * ((t - 200) / 2) by omega) with p | p
    · rw [p]; exact l1
    · rw [p]; exact l2
theorem wo_ne {ad : Nat → Nat} {W a v : Nat} (hlt : ∀ t, 200 ≤ t → t ≤ 340 → ad t < W) (ha : W ≤ a) (hv : W ≤ v) {j : Nat} (hj : j < 70) : a ≠ wo ad j ∧ a ≠ wr ad j ∧ v ≠ wo ad j ∧ v ≠ wr ad j := by
  have l1 := hlt (200 + 2 * j) (by omega) (by omega)
  have l2 := hlt (201 + 2 * j) (by omega) (by omega)
  unfold wo wr
  omega
theorem grow2 {n m c s m0 : Nat} (h1 : n ≤ m) (h16 : 16 ≤ m) (hn : n ≤ 505) (hm : m ≤ 1026) (h2 : 18 * c + m0 ≤ m) (h3 : s + 2 * m0 ≤ 2 * m) : 18 * (c + gC (n + 1) m) + m0 ≤ capG (n + 1) m ∧ s + gS (n + 1) m + 2 * m0 ≤ 2 * capG (n + 1) m ∧ capG (n + 1) m ≤ 1026 ∧ 16 ≤ capG (n + 1) m := by
  unfold gC gS
  by_cases q : n + 1 ≤ m
  · have e : capG (n + 1) m = m := if_pos q
    rw [if_pos q, if_pos q]
    omega
  · have e : capG (n + 1) m = 2 * m + 2 := by
      unfold capG
      rw [if_neg q, if_neg (by omega)]
    rw [if_neg q, if_neg q]
    omega
set_option maxHeartbeats 4000000 in
set_option maxRecDepth 100000 in
theorem s_X0_write (l : Launch) {K : KC} {E : GE} {w : Wd} {τ ad : Nat → Nat} (hN0 : NS τ ad w) {W0 : Wd} (hW0 : wF W0) (hlt : ∀ t, 200 ≤ t → t ≤ 340 → ad t < W0.1) (hK0 : KN τ W0 w) (hD : W0.2 (ad 110) = some (true, oD ad)) {a v n m : Nat} (hS : SBw w a v n m) (ha : W0.1 ≤ a) (hv : W0.1 ≤ v) (hm : 16 ≤ m ∧ m ≤ 1026) {j : Nat} (hj : j < 70 ∧ j ≠ 3) {rx : Int} (hrx : 2 ≤ rx ∧ rx ≤ 16) : St K E l yX0_write cX0_write 6 none 6 (57) (2052) [.ref (ad 110), .ref a, .ref (wo ad j), iI rx] w (fun r' w' => ∃ v' n' m', r' = none ∧ SBw w' a v' n' m' ∧ W0.1 ≤ v' ∧ n' ≤ 505 ∧ 16 ≤ m' ∧ m' ≤ 1026 ∧ NS τ ad w' ∧ KN τ W0 w') := by
  refine st_intro [some (.ref (ad 110)), some (.ref a), some (.ref (wo ad j)), some (iI rx), none, none] rfl (Nat.le_of_ble_eq_true rfl) pn_X0 ?_
  intro X C hT hRm hl hnm hQ
  obtain ⟨hRf, hRl, hRc, hRs⟩ := hRm
  refine g_wf (fun hwf => ?_)
  have hN := hN0
  have hK := hK0
  refine g_aload_n C dX0_write_0 rfl ?_
  refine g_iconst C dX0_write_1 ?_
  refine g_wf (fun hwf2 => ?_)
  refine t_callV C hT (c_J4_setLength_d00df _ hS (by omega)) (RcV.sb C hS) rfl ml_RX0_117 im_yJ4_setLength_d00df se_RJ4_yJ4_setLength_d00df in_RJ4 co_yJ4_setLength_d00df hd_J4_setLength_d00df rfl ⟨by omega, by omega⟩ rfl (Nat.le_of_ble_eq_true rfl) ⟨by omega, by omega⟩ dX0_write_2 (fun v2 w2 hp2 => ?_)
  obtain ⟨rfl, v2, hS2, hv2, fr2⟩ := hp2
  have hvv2 : W0.1 ≤ v2 := by have := hK0.1; omega
  replace hN := hN.frY fr2 hwf2 hlt ha hv
  replace hK := hK.frY hW0 fr2 hwf2 ha hv
  refine g_aload_n C dX0_write_5 rfl ?_
  refine g_get (ci := 2) C rfl inTX0 3 (by decide) fl_RX0_24 rfl (hK.ob hN (t := 110) (by omega) hD) rfl dX0_write_6 ?_
  refine g_aload_n C dX0_write_9 rfl ?_
  refine g_callV C (s_X5_setWhole _ (hN.W (j := 3) (by omega)) (hN.W (j := j) (by omega)) (hN.ne (j := 3) (k := j) (by omega) (by omega) (by omega))) (ci := 7) rfl (hN.W (j := 3) (by omega)).o rfl ml_RX0_43 im_yX5_setWhole se_RX5_yX5_setWhole in_RX5 co_yX5_setWhole hd_X5_setWhole rfl ⟨by omega, by omega⟩ rfl (Nat.le_of_ble_eq_true rfl) ⟨by omega, by omega⟩ dX0_write_10 (fun v10 w10 hp10 => ?_)
  obtain ⟨rfl, hws10, hfr10⟩ := hp10
  obtain ⟨hN10, hK10⟩ := hN.step (j := 3) (by omega) hws10 hfr10
  replace hK := hK.tr hK10
  replace hN := hN10
  have hS10 := hS2.frW hfr10 (wo_ne hlt ha hvv2 (by omega))
  refine g_iconst C dX0_write_13 ?_
  refine g_istore C dX0_write_14 (by decide) rfl ?_
  clear hN0 hK0 hS hv
  refine g_widen (k' := 0) (n' := 0) (by omega) (by omega) ?_
  refine g_loop (σ := Nat × Wd × Nat × Nat × Nat × Nat × Nat) (fun q => q.1 ≤ 504 ∧ q.2.2.2.1 ≤ q.1 ∧ SBw q.2.1 a q.2.2.1 q.2.2.2.1 q.2.2.2.2.1 ∧ W0.1 ≤ q.2.2.1 ∧ 16 ≤ q.2.2.2.2.1 ∧ q.2.2.2.2.1 ≤ 1026 ∧ 18 * q.2.2.2.2.2.1 + m ≤ q.2.2.2.2.1 ∧ q.2.2.2.2.2.2 + 2 * m ≤ 2 * q.2.2.2.2.1 ∧ NS τ ad q.2.1 ∧ KN τ W0 q.2.1) (fun q => G E X 6 16 [some (.ref (ad 110)), some (.ref a), some (.ref (wo ad j)), some (iI rx), some (iI (q.1 : Int)), none] [] q.2.1 q.2.2.2.2.2.1 q.2.2.2.2.2.2) (fun q => 504 - q.1) ?_ (0, w10, v2, 0, m, 0, 0) ⟨by dsimp only; omega, by dsimp only; omega, hS10, hvv2, by dsimp only; omega, by dsimp only; omega, by dsimp only; omega, by dsimp only; omega, hN, hK⟩
  clear hN hK hS10 hvv2 hS2 hwf2 hwf
  rintro ⟨i, u, v, n, mm, c, sl⟩ hqq ih
  obtain ⟨hi, hni, hS, hv, h16, hmm, hc, hs, hN, hK⟩ := hqq
  dsimp only at hi hni hS hv h16 hmm hc hs hN hK ⊢
  have hnm : n ≤ mm := by obtain ⟨_, _, _, _, _, _, q⟩ := id hS; exact q
  have J84 : G E X 6 84 [some (.ref (ad 110)), some (.ref a), some (.ref (wo ad j)), some (iI rx), some (iI (i : Int)), none] [] u c sl := by
    refine g_aload_n C dX0_write_84 rfl ?_
    have J98 : ∀ (u2 : Wd) (v2 n2 m2 c2 s2 : Nat), SBw u2 a v2 n2 m2 → W0.1 ≤ v2 → n2 ≤ 505 → 16 ≤ m2 → m2 ≤ 1026 → c2 ≤ 57 → s2 ≤ 2052 → NS τ ad u2 → KN τ W0 u2 → G E X 6 98 [some (.ref (ad 110)), some (.ref a), some (.ref (wo ad j)), some (iI rx), some (iI (i : Int)), none] [] u2 c2 s2 := by
      clear hS hv hnm hmm h16 hc hs hN hK
      intro u2 v2 n2 m2 c2 s2 hS hv hn2 hm16 hm2 hc2 hs2 hN hK
      refine g_aload_n C dX0_write_98 rfl ?_
      refine g_wf (fun hwf99 => ?_)
      refine t_callV C hT (c_J4_reverse_43fcb _ hS (by omega)) (RcV.sb C hS) rfl ml_RX0_124 im_yJ4_reverse_43fcb se_RJ4_yJ4_reverse_43fcb in_RJ4 co_yJ4_reverse_43fcb hd_J4_reverse_43fcb rfl ⟨by omega, by omega⟩ rfl (Nat.le_of_ble_eq_true rfl) ⟨by omega, by omega⟩ dX0_write_99 (fun v99 w99 hp99 => ?_)
      obtain ⟨rfl, v99, hS99, hv99, fr99⟩ := hp99
      have hvv : W0.1 ≤ v99 := by have := hK.1; omega
      replace hN := hN.frY fr99 hwf99 hlt ha hv
      replace hK := hK.frY hW0 fr99 hwf99 ha hv
      refine g_pop C dX0_write_102 rfl ?_
      exact g_return C hQ dX0_write_103 (by omega) (by omega) ⟨v99, _, _, rfl, hS99, hvv, by omega, by omega, by omega, hN, hK⟩
    obtain ⟨gr1, gr2, gr3, gr4⟩ := grow2 hnm h16 (by omega) hmm hc hs
    refine g_callV C (s_X5_isBelow _ (hN.W (j := j) (by omega)) ) (ci := 7) rfl (hN.W (j := j) (by omega)).o rfl ml_RX0_83 im_yX5_isBelow se_RX5_yX5_isBelow in_RX5 co_yX5_isBelow hd_X5_isBelow rfl ⟨by omega, by omega⟩ rfl (Nat.le_of_ble_eq_true rfl) ⟨by omega, by omega⟩ dX0_write_85 (fun v85 w85 hp85 => ?_)
    obtain ⟨⟨d85, rfl, hd85⟩, hw85⟩ := hp85
    subst w85
    refine g_if_eq (tgt := 98) C dX0_write_88 (by decide) (by omega) (fun h88 => ?_) (fun h88 => ?_)
    · first
      | exact J98 _ _ _ _ _ _ hS94 hvv (by omega) (by omega) (by omega) (by omega) (by omega) hN94 hK94
      | exact J98 _ _ _ _ _ _ hS hv (by omega) (by omega) (by omega) (by omega) (by omega) hN hK
    · refine g_aload_n C dX0_write_91 rfl ?_
      refine g_bipush C dX0_write_92 (by decide) ?_
      refine g_wf (fun hwf94 => ?_)
      refine t_callV C hT (c_J4_append_cf468 _ hS (x := 45) (by omega) (by omega) (by omega)) (RcV.sb C hS) rfl ml_RX0_120 im_yJ4_append_cf468 se_RJ4_yJ4_append_cf468 in_RJ4 co_yJ4_append_cf468 hd_J4_append_cf468 rfl ⟨by omega, by omega⟩ rfl (Nat.le_of_ble_eq_true rfl) ⟨by omega, by omega⟩ dX0_write_94 (fun v94 w94 hp94 => ?_)
      obtain ⟨rfl, v94, hS94, hv94, fr94⟩ := hp94
      have hvv : W0.1 ≤ v94 := by have := hK.1; omega
      have hN94 := hN.frY fr94 hwf94 hlt ha hv
      have hK94 := hK.frY hW0 fr94 hwf94 ha hv
      refine g_pop C dX0_write_97 rfl ?_
      first
      | exact J98 _ _ _ _ _ _ hS94 hvv (by omega) (by omega) (by omega) (by omega) (by omega) hN94 hK94
      | exact J98 _ _ _ _ _ _ hS hv (by omega) (by omega) (by omega) (by omega) (by omega) hN hK
  refine g_iload C dX0_write_16 rfl ?_
  refine g_sipush C dX0_write_18 (by decide) ?_
  refine g_icmp_ge (tgt := 84) C dX0_write_21 (by decide) (by omega) (by omega) (fun h21 => ?_) (fun h21 => ?_)
  · exact J84
  · have J39 : G E X 6 39 [some (.ref (ad 110)), some (.ref a), some (.ref (wo ad j)), some (iI rx), some (iI (i : Int)), none] [] u c sl := by
      refine g_aload_n C dX0_write_39 rfl ?_
      refine g_get (ci := 2) C rfl inTX0 3 (by decide) fl_RX0_24 rfl (hK.ob hN (t := 110) (by omega) hD) rfl dX0_write_40 ?_
      refine g_iload_n C dX0_write_43 rfl ?_
      refine g_callV C (s_X5_divideSmall _ (hN.W (j := 3) (by omega)) (y := rx) (by omega)) (ci := 7) rfl (hN.W (j := 3) (by omega)).o rfl ml_RX0_72 im_yX5_divideSmall se_RX5_yX5_divideSmall in_RX5 co_yX5_divideSmall hd_X5_divideSmall rfl ⟨by omega, by omega⟩ rfl (Nat.le_of_ble_eq_true rfl) ⟨by omega, by omega⟩ dX0_write_44 (fun v44 w44 hp44 => ?_)
      obtain ⟨⟨d44, rfl, hd44⟩, hp44⟩ := hp44
      replace hp44 : True ∧ _ := ⟨trivial, hp44⟩
      obtain ⟨-, hws44, hfr44⟩ := hp44
      obtain ⟨hN44, hK44⟩ := hN.step (j := 3) (by omega) hws44 hfr44
      replace hK := hK.tr hK44
      replace hN := hN44
      have hS44 := hS.frW hfr44 (wo_ne hlt ha hv (by omega))
      obtain ⟨gr1, gr2, gr3, gr4⟩ := grow2 hnm h16 (by omega) hmm hc hs
      refine g_istore C dX0_write_47 (by decide) rfl ?_
      have J73 : ∀ y : Int, 0 ≤ y ∧ y ≤ 255 → G E X 6 73 [some (.ref (ad 110)), some (.ref a), some (.ref (wo ad j)), some (iI rx), some (iI (i : Int)), some (iI d44)] [iI y, .ref a] w44 c sl := by
        intro y hy
        refine g_i2c (z := y) C dX0_write_73 (i2c_n hy.1 (by omega)) ?_
        refine g_wf (fun hwf74 => ?_)
        refine t_callV C hT (c_J4_append_cf468 _ hS44 (x := y) (by omega) (by omega) (by omega)) (RcV.sb C hS44) rfl ml_RX0_120 im_yJ4_append_cf468 se_RJ4_yJ4_append_cf468 in_RJ4 co_yJ4_append_cf468 hd_J4_append_cf468 rfl ⟨by omega, by omega⟩ rfl (Nat.le_of_ble_eq_true rfl) ⟨by omega, by omega⟩ dX0_write_74 (fun v74 w74 hp74 => ?_)
        obtain ⟨rfl, v74, hS74, hv74, fr74⟩ := hp74
        have hvv : W0.1 ≤ v74 := by have := hK.1; omega
        replace hN := hN.frY fr74 hwf74 hlt ha hv
        replace hK := hK.frY hW0 fr74 hwf74 ha hv
        refine g_pop C dX0_write_77 rfl ?_
        refine g_iinc C dX0_write_78 rfl (by decide) rfl ?_
        refine g_goto (tgt := 16) C dX0_write_81 (by decide) ?_
        refine g_drop 5 ?_
        exact ih (i + 1, w74, v74, n + 1, capG (n + 1) mm, c + gC (n + 1) mm, sl + gS (n + 1) mm) ⟨by dsimp only; omega, by dsimp only; omega, hS74, hvv, gr4, gr3, gr1, gr2, hN, hK⟩ (by dsimp only; omega)
      refine g_aload_n C dX0_write_49 rfl ?_
      refine g_iload C dX0_write_50 rfl ?_
      refine g_bipush C dX0_write_52 (by decide) ?_
      refine g_icmp_ge (tgt := 65) C dX0_write_54 (by decide) (by omega) (by omega) (fun h54 => ?_) (fun h54 => ?_)
      · refine g_bipush C dX0_write_65 (by decide) ?_
        refine g_iload C dX0_write_67 rfl ?_
        refine g_iadd C dX0_write_69 ?_
        refine g_bipush C dX0_write_70 (by decide) ?_
        refine g_isub C dX0_write_72 ?_
        exact J73 _ (by omega)
      · refine g_bipush C dX0_write_57 (by decide) ?_
        refine g_iload C dX0_write_59 rfl ?_
        refine g_iadd C dX0_write_61 ?_
        refine g_goto (tgt := 73) C dX0_write_62 (by decide) ?_
        exact J73 _ (by omega)
    refine g_iload C dX0_write_24 rfl ?_
    refine g_if_eq (tgt := 39) C dX0_write_26 (by decide) (by omega) (fun h26 => ?_) (fun h26 => ?_)
    · exact J39
    · refine g_aload_n C dX0_write_29 rfl ?_
      refine g_get (ci := 2) C rfl inTX0 3 (by decide) fl_RX0_24 rfl (hK.ob hN (t := 110) (by omega) hD) rfl dX0_write_30 ?_
      refine g_callV C (s_X5_isZero _ (hN.W (j := 3) (by omega)) ) (ci := 7) rfl (hN.W (j := 3) (by omega)).o rfl ml_RX0_47 im_yX5_isZero se_RX5_yX5_isZero in_RX5 co_yX5_isZero hd_X5_isZero rfl ⟨by omega, by omega⟩ rfl (Nat.le_of_ble_eq_true rfl) ⟨by omega, by omega⟩ dX0_write_33 (fun v33 w33 hp33 => ?_)
      obtain ⟨⟨d33, rfl, hd33⟩, hw33⟩ := hp33
      subst w33
      refine g_if_ne (tgt := 84) C dX0_write_36 (by decide) (by omega) (fun h36 => ?_) (fun h36 => ?_)
      · exact J84
      · exact J39
set_option maxHeartbeats 4000000 in
set_option maxRecDepth 100000 in
theorem s_X0_text (l : Launch) {K : KC} {E : GE} {w : Wd} {τ ad : Nat → Nat} (hN0 : NS τ ad w) (hD : w.2 (ad 110) = some (true, oD ad)) {j : Nat} (hj : j < 70 ∧ j ≠ 3) {rx : Int} (hrx : 2 ≤ rx ∧ rx ≤ 16) : St K E l yX0_text cX0_text 4 (some (.object "java/lang/String")) 7 (61) (2600) [.ref (ad 110), .ref (wo ad j), iI rx] w (fun r' w' => (∃ s : Nat, r' = some (.ref s)) ∧ NS τ ad w' ∧ KN τ w w') := by
  refine st_intro [some (.ref (ad 110)), some (.ref (wo ad j)), some (iI rx), none] rfl (Nat.le_of_ble_eq_true rfl) pn_X0 ?_
  intro X C hT hRm hl hnm hQ
  obtain ⟨hRf, hRl, hRc, hRs⟩ := hRm
  refine g_wf (fun hwf => ?_)
  refine g_new (ci := 1) C rfl inTJ4 tyJ4 tyJ4_ok kl_RX0_106 ib_RJ4 in_RJ4 (fs := [.null, iI 0, iI 0, iI 0]) (by intro j hj; repeat (first | rfl | (cases j; rfl) | (rename_i j; cases j; rfl) | omega)) (by omega) dX0_text_0 ?_
  refine g_dup C dX0_text_3 rfl ?_
  refine t_callI C hT (c_J4_init_da8c8 _ wpush_s) ml_RX0_108 im_yJ4_init_da8c8 in_RJ4 co_yJ4_init_da8c8 rfl hd_J4_init_da8c8 rfl ⟨by omega, by omega⟩ rfl (Nat.le_of_ble_eq_true rfl) ⟨by omega, by omega⟩ dX0_text_4 (fun v4 w4 hp4 => ?_)
  obtain ⟨rfl, v4, hS4, hv4, fr4⟩ := hp4
  have hv4 : w.1 + 1 ≤ v4 := hv4
  have hf4 : Fr w w4 := FrY.fr ((Fr.rf w).push _) fr4 (Nat.le_refl _) (Nat.le_refl _)
  have hN4 := hN0.fr hf4 hwf
  have hK4 : KN τ w w4 := KN.fr hf4 hwf
  have hlt := hN0.lt hwf
  have hdl := hwf _ _ hD
  refine g_astore_n C dX0_text_7 (by decide) rfl ?_
  refine g_aload_n C dX0_text_8 rfl ?_
  refine g_aload_n C dX0_text_9 rfl ?_
  refine g_aload_n C dX0_text_10 rfl ?_
  refine g_iload_n C dX0_text_11 rfl ?_
  refine t_callV C hT (s_X0_write _ hN4 hwf hlt hK4 hD hS4 (Nat.le_refl _) (by omega) (by omega) (j := j) (by omega) (rx := rx) hrx) (RcV.ob (ci := 2) C rfl (hK4.ob hN4 (t := 110) (by omega) hD)) rfl ml_RX0_109 im_yX0_write se_RX0_yX0_write in_RX0 co_yX0_write hd_X0_write rfl ⟨by omega, by omega⟩ rfl (Nat.le_of_ble_eq_true rfl) ⟨by omega, by omega⟩ dX0_text_12 (fun v12 w12 hp12 => ?_)
  obtain ⟨v12, n12, m12, rfl, hS12, hv12, hn12, h16, hm12, hN12, hK12⟩ := hp12
  refine g_wf (fun hwf12 => ?_)
  refine g_aload_n C dX0_text_15 rfl ?_
  refine t_callV C hT (c_J4_toString_0e30d _ hS12 (by omega)) (RcV.sb C hS12) rfl ml_RX0_113 im_yJ4_toString_0e30d se_RJ4_yJ4_toString_0e30d in_RJ4 co_yJ4_toString_0e30d hd_J4_toString_0e30d rfl ⟨by omega, by omega⟩ rfl (Nat.le_of_ble_eq_true rfl) ⟨by omega, by omega⟩ dX0_text_16 (fun v16 w16 hp16 => ?_)
  obtain ⟨rfl, hf16⟩ := hp16
  exact g_areturn C (Or.inl ⟨_, rfl⟩) hQ (Or.inr ⟨_, rfl⟩) dX0_text_19 (by omega) (by omega) ⟨⟨_, rfl⟩, hN12.fr hf16 hwf12, hK12.tr (KN.fr hf16 hwf12)⟩
set_option maxHeartbeats 4000000 in
set_option maxRecDepth 100000 in
theorem s_X0_longText (l : Launch) {K : KC} {E : GE} {w : Wd} {τ ad : Nat → Nat} (hN0 : NS τ ad w) (hD : w.2 (ad 110) = some (true, oD ad)) {x : Int} (hx : -9223372036854775808 ≤ x ∧ x < 9223372036854775808) : St K E l yX0_longText cX0_longText 3 (some (.object "java/lang/String")) 8 (61) (2600) [.ref (ad 110), jJ x] w (fun r' w' => (∃ s : Nat, r' = some (.ref s)) ∧ NS τ ad w' ∧ KN τ w w') := by
  refine st_intro [some (.ref (ad 110)), some (jJ x), none] rfl (Nat.le_of_ble_eq_true rfl) pn_X0 ?_
  intro X C hT hRm hl hnm hQ
  obtain ⟨hRf, hRl, hRc, hRs⟩ := hRm
  refine g_wf (fun hwf => ?_)
  have hN := hN0
  have hK : KN τ w w := KN.rf _ _
  refine g_aload_n C dX0_longText_0 rfl ?_
  refine g_get (ci := 2) C rfl inTX0 0 (by decide) fl_RX0_12 rfl (hK.ob hN (t := 110) (by omega) hD) rfl dX0_longText_1 ?_
  refine g_lload_n C dX0_longText_4 rfl ?_
  refine g_callV C (s_X5_setNumber _ (hN.W (j := 0) (by omega)) (x := x) hx) (ci := 7) rfl (hN.W (j := 0) (by omega)).o rfl ml_RX0_98 im_yX5_setNumber se_RX5_yX5_setNumber in_RX5 co_yX5_setNumber hd_X5_setNumber rfl ⟨by omega, by omega⟩ rfl (Nat.le_of_ble_eq_true rfl) ⟨by omega, by omega⟩ dX0_longText_5 (fun v5 w5 hp5 => ?_)
  obtain ⟨rfl, hws5, hfr5⟩ := hp5
  obtain ⟨hN5, hK5⟩ := hN.step (j := 0) (by omega) hws5 hfr5
  replace hK := hK.tr hK5
  replace hN := hN5
  refine g_aload_n C dX0_longText_8 rfl ?_
  refine g_aload_n C dX0_longText_9 rfl ?_
  refine g_get (ci := 2) C rfl inTX0 0 (by decide) fl_RX0_12 rfl (hK.ob hN (t := 110) (by omega) hD) rfl dX0_longText_10 ?_
  refine g_bipush C dX0_longText_13 (by decide) ?_
  refine t_callV C hT (s_X0_text _ hN (hK.ob hN (t := 110) (by omega) hD) (j := 0) (by omega) (rx := 10) (by omega)) (RcV.ob (ci := 2) C rfl (hK.ob hN (t := 110) (by omega) hD)) rfl ml_RX0_102 im_yX0_text se_RX0_yX0_text in_RX0 co_yX0_text hd_X0_text rfl ⟨by omega, by omega⟩ rfl (Nat.le_of_ble_eq_true rfl) ⟨by omega, by omega⟩ dX0_longText_15 (fun v15 w15 hp15 => ?_)
  obtain ⟨⟨s15, rfl⟩, hN15, hK15⟩ := hp15
  exact g_areturn C (Or.inl ⟨_, rfl⟩) hQ (Or.inr ⟨_, rfl⟩) dX0_longText_18 (by omega) (by omega) ⟨⟨_, rfl⟩, hN15, hK.tr hK15⟩
set_option maxHeartbeats 4000000 in
set_option maxRecDepth 100000 in
theorem s_X0_isReadFrom (l : Launch) {K : KC} {E : GE} {w : Wd} {τ ad : Nat → Nat} (hN0 : NS τ ad w) {W0 : Wd} (hW0 : wF W0) (hlt : ∀ t, 200 ≤ t → t ≤ 340 → ad t < W0.1) (hK0 : KN τ W0 w) (hD : W0.2 (ad 110) = some (true, oD ad)) {a v n m : Nat} (hS : SBw w a v n m) (ha : W0.1 ≤ a) (hv : W0.1 ≤ v) (hn : n ≤ 505 ∧ m ≤ 1026) {j : Nat} (hj : j < 70 ∧ j ≠ 0) {rx : Int} (hrx : 2 ≤ rx ∧ rx ≤ 16) : St K E l yX0_isReadFrom cX0_isReadFrom 6 (some .boolean) 4 (0) (0) [.ref (ad 110), .ref a, .ref (wo ad j), iI rx] w (fun r' w' => (∃ d : Int, r' = some (iI d) ∧ (d = 0 ∨ d = 1)) ∧ SBw w' a v n m ∧ NS τ ad w' ∧ KN τ W0 w') := by
  refine st_intro [some (.ref (ad 110)), some (.ref a), some (.ref (wo ad j)), some (iI rx), none, none] rfl (Nat.le_of_ble_eq_true rfl) pn_X0 ?_
  intro X C hT hRm hl hnm hQ
  obtain ⟨hRf, hRl, hRc, hRs⟩ := hRm
  refine g_wf (fun hwf => ?_)
  have hN := hN0
  have hK := hK0
  refine g_aload_n C dX0_isReadFrom_0 rfl ?_
  refine g_get (ci := 2) C rfl inTX0 0 (by decide) fl_RX0_12 rfl (hK.ob hN (t := 110) (by omega) hD) rfl dX0_isReadFrom_1 ?_
  refine g_lconst (z := 0) C dX0_isReadFrom_4 (by decide) ?_
  refine g_callV C (s_X5_setNumber _ (hN.W (j := 0) (by omega)) (x := 0) (by omega)) (ci := 7) rfl (hN.W (j := 0) (by omega)).o rfl ml_RX0_98 im_yX5_setNumber se_RX5_yX5_setNumber in_RX5 co_yX5_setNumber hd_X5_setNumber rfl ⟨by omega, by omega⟩ rfl (Nat.le_of_ble_eq_true rfl) ⟨by omega, by omega⟩ dX0_isReadFrom_5 (fun v5 w5 hp5 => ?_)
  obtain ⟨rfl, hws5, hfr5⟩ := hp5
  obtain ⟨hN5, hK5⟩ := hN.step (j := 0) (by omega) hws5 hfr5
  replace hK := hK.tr hK5
  replace hN := hN5
  have hS5 := hS.frW hfr5 (wo_ne hlt ha hv (by omega))
  refine g_iconst C dX0_isReadFrom_8 ?_
  refine g_istore C dX0_isReadFrom_9 (by decide) rfl ?_
  clear hN0 hK0 hS
  refine g_loop (σ := Nat × Wd) (fun q => q.1 ≤ n ∧ SBw q.2 a v n m ∧ NS τ ad q.2 ∧ KN τ W0 q.2) (fun q => G E X 6 11 [some (.ref (ad 110)), some (.ref a), some (.ref (wo ad j)), some (iI rx), some (iI (q.1 : Int)), none] [] q.2 0 0) (fun q => n - q.1) ?_ (0, w5) ⟨by dsimp only; omega, hS5, hN, hK⟩
  clear hN hK hS5
  rintro ⟨i, u⟩ hqq ih
  obtain ⟨hi, hS, hN, hK⟩ := hqq
  dsimp only at hi hS hN hK ⊢
  refine g_iload C dX0_isReadFrom_11 rfl ?_
  refine g_aload_n C dX0_isReadFrom_13 rfl ?_
  refine t_callV C hT (c_J4_length_8abf5 _ hS) (RcV.sb C hS) rfl ml_RX0_132 im_yJ4_length_8abf5 se_RJ4_yJ4_length_8abf5 in_RJ4 co_yJ4_length_8abf5 hd_J4_length_8abf5 rfl ⟨by omega, by omega⟩ rfl (Nat.le_of_ble_eq_true rfl) ⟨by omega, by omega⟩ dX0_isReadFrom_14 (fun v14 w14 hp14 => ?_)
  obtain ⟨rfl, hw14⟩ := hp14
  subst w14
  refine g_icmp_ge (tgt := 65) C dX0_isReadFrom_17 (by decide) (by omega) (by omega) (fun h17 => ?_) (fun h17 => ?_)
  · refine g_aload_n C dX0_isReadFrom_65 rfl ?_
    refine g_get (ci := 2) C rfl inTX0 0 (by decide) fl_RX0_12 rfl (hK.ob hN (t := 110) (by omega) hD) rfl dX0_isReadFrom_66 ?_
    refine g_aload_n C dX0_isReadFrom_69 rfl ?_
    refine g_callV C (s_X5_compareValue _ (hN.W (j := 0) (by omega)) (hN.W (j := j) (by omega))) (ci := 7) rfl (hN.W (j := 0) (by omega)).o rfl ml_RX0_139 im_yX5_compareValue se_RX5_yX5_compareValue in_RX5 co_yX5_compareValue hd_X5_compareValue rfl ⟨by omega, by omega⟩ rfl (Nat.le_of_ble_eq_true rfl) ⟨by omega, by omega⟩ dX0_isReadFrom_70 (fun v70 w70 hp70 => ?_)
    obtain ⟨⟨d70, rfl, hd70⟩, hw70⟩ := hp70
    subst w70
    refine g_if_ne (tgt := 80) C dX0_isReadFrom_73 (by decide) (by omega) (fun h73 => ?_) (fun h73 => ?_)
    · refine g_iconst C dX0_isReadFrom_80 ?_
      exact g_zreturn C hQ dX0_isReadFrom_81 rfl (by omega) (by omega) ⟨⟨_, rfl, by omega⟩, hS, hN, hK⟩
    · refine g_iconst C dX0_isReadFrom_76 ?_
      refine g_goto (tgt := 81) C dX0_isReadFrom_77 (by decide) ?_
      exact g_zreturn C hQ dX0_isReadFrom_81 rfl (by omega) (by omega) ⟨⟨_, rfl, by omega⟩, hS, hN, hK⟩
  · refine g_aload_n C dX0_isReadFrom_20 rfl ?_
    refine g_iload C dX0_isReadFrom_21 rfl ?_
    refine t_callV C hT (c_J4_charAt_5068e _ hS (p := i) (by omega) (by omega)) (RcV.sb C hS) rfl ml_RX0_135 im_yJ4_charAt_5068e se_RJ4_yJ4_charAt_5068e in_RJ4 co_yJ4_charAt_5068e hd_J4_charAt_5068e rfl ⟨by omega, by omega⟩ rfl (Nat.le_of_ble_eq_true rfl) ⟨by omega, by omega⟩ dX0_isReadFrom_23 (fun v23 w23 hp23 => ?_)
    obtain ⟨⟨y, rfl, hy0, hy1⟩, hw23⟩ := hp23
    subst w23
    refine g_istore C dX0_isReadFrom_26 (by decide) rfl ?_
    have J56 : ∀ z : Int, -1000 ≤ z ∧ z ≤ 1000 → G E X 6 56 [some (.ref (ad 110)), some (.ref a), some (.ref (wo ad j)), some (iI rx), some (iI (i : Int)), some (iI y)] [iI z, iI rx, .ref (wo ad 0)] u 0 0 := by
      intro z hz
      refine g_callV C (s_X5_multiplySmall _ (hN.W (j := 0) (by omega)) (by_ := rx) (mo := z) (by omega) (by omega)) (ci := 7) rfl (hN.W (j := 0) (by omega)).o rfl ml_RX0_35 im_yX5_multiplySmall se_RX5_yX5_multiplySmall in_RX5 co_yX5_multiplySmall hd_X5_multiplySmall rfl ⟨by omega, by omega⟩ rfl (Nat.le_of_ble_eq_true rfl) ⟨by omega, by omega⟩ dX0_isReadFrom_56 (fun v56 w56 hp56 => ?_)
      obtain ⟨rfl, hws56, hfr56⟩ := hp56
      obtain ⟨hN56, hK56⟩ := hN.step (j := 0) (by omega) hws56 hfr56
      replace hK := hK.tr hK56
      replace hN := hN56
      have hS56 := hS.frW hfr56 (wo_ne hlt ha hv (by omega))
      refine g_iinc C dX0_isReadFrom_59 rfl (by decide) rfl ?_
      refine g_goto (tgt := 11) C dX0_isReadFrom_62 (by decide) ?_
      refine g_drop 5 ?_
      exact ih (i + 1, w56) ⟨by dsimp only; omega, hS56, hN, hK⟩ (by dsimp only; omega)
    refine g_aload_n C dX0_isReadFrom_28 rfl ?_
    refine g_get (ci := 2) C rfl inTX0 0 (by decide) fl_RX0_12 rfl (hK.ob hN (t := 110) (by omega) hD) rfl dX0_isReadFrom_29 ?_
    refine g_iload_n C dX0_isReadFrom_32 rfl ?_
    refine g_iload C dX0_isReadFrom_33 rfl ?_
    refine g_bipush C dX0_isReadFrom_35 (by decide) ?_
    refine g_icmp_gt (tgt := 48) C dX0_isReadFrom_37 (by decide) (by omega) (by omega) (fun h37 => ?_) (fun h37 => ?_)
    · refine g_iload C dX0_isReadFrom_48 rfl ?_
      refine g_bipush C dX0_isReadFrom_50 (by decide) ?_
      refine g_isub C dX0_isReadFrom_52 ?_
      refine g_bipush C dX0_isReadFrom_53 (by decide) ?_
      refine g_iadd C dX0_isReadFrom_55 ?_
      exact J56 _ (by omega)
    · refine g_iload C dX0_isReadFrom_40 rfl ?_
      refine g_bipush C dX0_isReadFrom_42 (by decide) ?_
      refine g_isub C dX0_isReadFrom_44 ?_
      refine g_goto (tgt := 56) C dX0_isReadFrom_45 (by decide) ?_
      exact J56 _ (by omega)
set_option maxHeartbeats 4000000 in
set_option maxRecDepth 100000 in
theorem s_X0_areReadFromText (l : Launch) {K : KC} {E : GE} {w : Wd} {τ ad : Nat → Nat} (hN0 : NS τ ad w) (hD : w.2 (ad 110) = some (true, oD ad)) {j k : Nat} (hj : 4 ≤ j ∧ j < 70) (hk : 4 ≤ k ∧ k < 70) {rx : Int} (hrx : 2 ≤ rx ∧ rx ≤ 16) : St K E l yX0_areReadFromText cX0_areReadFromText 6 (some .boolean) 7 (120) (4200) [.ref (ad 110), .ref (wo ad j), .ref (wo ad k), iI rx] w (fun r' w' => (∃ d : Int, r' = some (iI d) ∧ (d = 0 ∨ d = 1)) ∧ NS τ ad w' ∧ KN τ w w') := by
  refine st_intro [some (.ref (ad 110)), some (.ref (wo ad j)), some (.ref (wo ad k)), some (iI rx), none, none] rfl (Nat.le_of_ble_eq_true rfl) pn_X0 ?_
  intro X C hT hRm hl hnm hQ
  obtain ⟨hRf, hRl, hRc, hRs⟩ := hRm
  refine g_wf (fun hwf => ?_)
  refine g_new (ci := 1) C rfl inTJ4 tyJ4 tyJ4_ok kl_RX0_106 ib_RJ4 in_RJ4 (fs := [.null, iI 0, iI 0, iI 0]) (by intro j hj; repeat (first | rfl | (cases j; rfl) | (rename_i j; cases j; rfl) | omega)) (by omega) dX0_areReadFromText_0 ?_
  refine g_dup C dX0_areReadFromText_3 rfl ?_
  refine t_callI C hT (c_J4_init_da8c8 _ wpush_s) ml_RX0_108 im_yJ4_init_da8c8 in_RJ4 co_yJ4_init_da8c8 rfl hd_J4_init_da8c8 rfl ⟨by omega, by omega⟩ rfl (Nat.le_of_ble_eq_true rfl) ⟨by omega, by omega⟩ dX0_areReadFromText_4 (fun v4 w4 hp4 => ?_)
  obtain ⟨rfl, v4, hS4, hv4, fr4⟩ := hp4
  have hv4 : w.1 + 1 ≤ v4 := hv4
  have hf4 : Fr w w4 := FrY.fr ((Fr.rf w).push _) fr4 (Nat.le_refl _) (Nat.le_refl _)
  have hN4 := hN0.fr hf4 hwf
  have hK4 : KN τ w w4 := KN.fr hf4 hwf
  have hlt := hN0.lt hwf
  have hdl := hwf _ _ hD
  refine g_astore C dX0_areReadFromText_7 (by decide) rfl ?_
  refine g_aload_n C dX0_areReadFromText_9 rfl ?_
  refine g_aload C dX0_areReadFromText_10 rfl ?_
  refine g_aload_n C dX0_areReadFromText_12 rfl ?_
  refine g_iload_n C dX0_areReadFromText_13 rfl ?_
  refine t_callV C hT (s_X0_write _ hN4 hwf hlt hK4 hD hS4 (Nat.le_refl _) (by omega) (by omega) (j := j) (by omega) (rx := rx) hrx) (RcV.ob (ci := 2) C rfl (hK4.ob hN4 (t := 110) (by omega) hD)) rfl ml_RX0_109 im_yX0_write se_RX0_yX0_write in_RX0 co_yX0_write hd_X0_write rfl ⟨by omega, by omega⟩ rfl (Nat.le_of_ble_eq_true rfl) ⟨by omega, by omega⟩ dX0_areReadFromText_14 (fun v14 w14 hp14 => ?_)
  obtain ⟨v14, n14, m14, rfl, hS14, hv14, hn14, h16, hm14, hN14, hK14⟩ := hp14
  refine g_aload_n C dX0_areReadFromText_17 rfl ?_
  refine g_aload C dX0_areReadFromText_18 rfl ?_
  refine g_aload_n C dX0_areReadFromText_20 rfl ?_
  refine g_iload_n C dX0_areReadFromText_21 rfl ?_
  refine t_callV C hT (s_X0_isReadFrom _ hN14 hwf hlt hK14 hD hS14 (Nat.le_refl _) hv14 (by omega) (j := j) (by omega) (rx := rx) hrx) (RcV.ob (ci := 2) C rfl (hK14.ob hN14 (t := 110) (by omega) hD)) rfl ml_RX0_128 im_yX0_isReadFrom se_RX0_yX0_isReadFrom in_RX0 co_yX0_isReadFrom hd_X0_isReadFrom rfl ⟨by omega, by omega⟩ rfl (Nat.le_of_ble_eq_true rfl) ⟨by omega, by omega⟩ dX0_areReadFromText_22 (fun v22 w22 hp22 => ?_)
  obtain ⟨⟨d22, rfl, hd22⟩, hS22, hN22, hK22⟩ := hp22
  refine g_istore C dX0_areReadFromText_25 (by decide) rfl ?_
  refine g_aload_n C dX0_areReadFromText_27 rfl ?_
  refine g_aload C dX0_areReadFromText_28 rfl ?_
  refine g_aload_n C dX0_areReadFromText_30 rfl ?_
  refine g_iload_n C dX0_areReadFromText_31 rfl ?_
  refine t_callV C hT (s_X0_write _ hN22 hwf hlt hK22 hD hS22 (Nat.le_refl _) hv14 (by omega) (j := k) (by omega) (rx := rx) hrx) (RcV.ob (ci := 2) C rfl (hK22.ob hN22 (t := 110) (by omega) hD)) rfl ml_RX0_109 im_yX0_write se_RX0_yX0_write in_RX0 co_yX0_write hd_X0_write rfl ⟨by omega, by omega⟩ rfl (Nat.le_of_ble_eq_true rfl) ⟨by omega, by omega⟩ dX0_areReadFromText_32 (fun v32 w32 hp32 => ?_)
  obtain ⟨v32, n32, m32, rfl, hS32, hv32, hn32, h16b, hm32, hN32, hK32⟩ := hp32
  refine g_iload C dX0_areReadFromText_35 rfl ?_
  refine g_if_eq (tgt := 55) C dX0_areReadFromText_37 (by decide) (by omega) (fun h37 => ?_) (fun h37 => ?_)
  · refine g_iconst C dX0_areReadFromText_55 ?_
    exact g_zreturn C hQ dX0_areReadFromText_56 rfl (by omega) (by omega) (by
      first
      | exact ⟨⟨_, rfl, by omega⟩, hN45, hK45⟩
      | exact ⟨⟨_, rfl, by omega⟩, hN32, hK32⟩)
  · refine g_aload_n C dX0_areReadFromText_40 rfl ?_
    refine g_aload C dX0_areReadFromText_41 rfl ?_
    refine g_aload_n C dX0_areReadFromText_43 rfl ?_
    refine g_iload_n C dX0_areReadFromText_44 rfl ?_
    refine t_callV C hT (s_X0_isReadFrom _ hN32 hwf hlt hK32 hD hS32 (Nat.le_refl _) hv32 (by omega) (j := k) (by omega) (rx := rx) hrx) (RcV.ob (ci := 2) C rfl (hK32.ob hN32 (t := 110) (by omega) hD)) rfl ml_RX0_128 im_yX0_isReadFrom se_RX0_yX0_isReadFrom in_RX0 co_yX0_isReadFrom hd_X0_isReadFrom rfl ⟨by omega, by omega⟩ rfl (Nat.le_of_ble_eq_true rfl) ⟨by omega, by omega⟩ dX0_areReadFromText_45 (fun v45 w45 hp45 => ?_)
    obtain ⟨⟨d45, rfl, hd45⟩, hS45, hN45, hK45⟩ := hp45
    refine g_if_eq (tgt := 55) C dX0_areReadFromText_48 (by decide) (by omega) (fun h48 => ?_) (fun h48 => ?_)
    · refine g_iconst C dX0_areReadFromText_55 ?_
      exact g_zreturn C hQ dX0_areReadFromText_56 rfl (by omega) (by omega) (by
        first
        | exact ⟨⟨_, rfl, by omega⟩, hN45, hK45⟩
        | exact ⟨⟨_, rfl, by omega⟩, hN32, hK32⟩)
    · refine g_iconst C dX0_areReadFromText_51 ?_
      refine g_goto (tgt := 56) C dX0_areReadFromText_52 (by decide) ?_
      exact g_zreturn C hQ dX0_areReadFromText_56 rfl (by omega) (by omega) (by
        first
        | exact ⟨⟨_, rfl, by omega⟩, hN45, hK45⟩
        | exact ⟨⟨_, rfl, by omega⟩, hN32, hK32⟩)
/-! pairs: their objects and numbers -/
abbrev PT : Type := Int × Int × Int
/-- all cells but numbers stay -/
def KB (τ : Nat → Nat) (w w' : Wd) : Prop := w.1 ≤ w'.1 ∧ ∀ a x, τ a < 200 → w.2 a = some x → w'.2 a = some x
/-- all but pair i, its numbers and the desk's stays -/
def KX (τ : Nat → Nat) (i : Nat) (w w' : Wd) : Prop := w.1 ≤ w'.1 ∧ ∀ a x, τ a < 340 → ¬ (200 ≤ τ a ∧ τ a < 208) → τ a ≠ 140 + i → ¬ (208 + 4 * i ≤ τ a ∧ τ a < 212 + 4 * i) → w.2 a = some x → w'.2 a = some x
theorem KB.rf (τ : Nat → Nat) (w : Wd) : KB τ w w := ⟨Nat.le_refl _, fun _ _ _ h => h⟩
theorem KB.tr {τ : Nat → Nat} {w u v : Wd} (h : KB τ w u) (g : KB τ u v) : KB τ w v := ⟨Nat.le_trans h.1 g.1, fun a x t e => g.2 a x t (h.2 a x t e)⟩
theorem KN.kb {τ : Nat → Nat} {w u : Wd} (h : KN τ w u) : KB τ w u := ⟨h.1, fun a x q e => h.2 a x (Or.inl q) e⟩
theorem KJ.kb {τ : Nat → Nat} {j : Nat} {w u : Wd} (h : KJ τ j w u) : KB τ w u := ⟨h.1, fun a x q e => h.2 a x (by omega) (by omega) e⟩
theorem KB.ob {τ ad : Nat → Nat} {w w' : Wd} (k : KB τ w w') (h : NS τ ad w') {t : Nat} (ht : 100 ≤ t ∧ t < 200) {x : WdE} (e : w.2 (ad t) = some x) : w'.2 (ad t) = some x := k.2 _ _ (by rw [h.t t (by omega)]; exact ht.2) e
theorem KN.kx {τ : Nat → Nat} {w w' : Wd} (h : KN τ w w') (i : Nat) : KX τ i w w' := ⟨h.1, fun a x q1 q2 _ _ e => h.2 a x (by omega) e⟩
theorem KJ.kx {τ : Nat → Nat} {j i : Nat} {w w' : Wd} (h : KJ τ j w w') (hj : j < 4 ∨ j = 4 + 2 * i ∨ j = 5 + 2 * i) : KX τ i w w' := ⟨h.1, fun a x q1 q2 _ q4 e => h.2 a x (by omega) (by omega) e⟩
theorem KX.tr {τ : Nat → Nat} {t : Nat} {w u v : Wd} (h : KX τ t w u) (g : KX τ t u v) : KX τ t w v := ⟨Nat.le_trans h.1 g.1, fun a x q1 q2 q3 q4 e => g.2 a x q1 q2 q3 q4 (h.2 a x q1 q2 q3 q4 e)⟩
theorem KX.set {τ ad : Nat → Nat} {w : Wd} (h : NS τ ad w) {i : Nat} (ht : i < 60) (e : WdE) : KX τ i w (wset w (ad (140 + i)) e) := ⟨Nat.le_refl _, fun a x _ _ n _ q => by rw [wset_n (fun c => n (by rw [c]; exact h.t (140 + i) (by omega)))]; exact q⟩
theorem KX.ob {τ ad : Nat → Nat} {s : Nat} {w w' : Wd} (k : KX τ s w w') (h : NS τ ad w') {t : Nat} (ht : 100 ≤ t ∧ t < 200) (hn : t ≠ 140 + s) {x : WdE} (e : w.2 (ad t) = some x) : w'.2 (ad t) = some x := k.2 _ _ (by rw [h.t t (by omega)]; omega) (by rw [h.t t (by omega)]; omega) (by rw [h.t t (by omega)]; exact hn) (by rw [h.t t (by omega)]; omega) e
theorem KX.nw {τ ad : Nat → Nat} {s : Nat} {w w' : Wd} (k : KX τ s w w') (h : NS τ ad w') {j : Nat} (hj : 4 ≤ j ∧ j < 70) (hn : j ≠ 4 + 2 * s ∧ j ≠ 5 + 2 * s) {z : Int} (hs : s < 6) (e : NW ad w j z) : NW ad w' j z := e.k
  (fun x q => k.2 _ _ (by rw [h.to hj.2]; omega) (by rw [h.to hj.2]; omega) (by rw [h.to hj.2]; omega) (by rw [h.to hj.2]; omega) q)
  (fun x q => k.2 _ _ (by rw [h.tr hj.2]; omega) (by rw [h.tr hj.2]; omega) (by rw [h.tr hj.2]; omega) (by rw [h.tr hj.2]; omega) q)
theorem NS.wst {τ ad : Nat → Nat} {w : Wd} (h : NS τ ad w) {t : Nat} (ht : 100 ≤ t ∧ t < 200) (e : WdE) : NS τ ad (wset w (ad t) e) := by
  obtain ⟨g, hg1, hg2⟩ := h.2.2
  refine ⟨h.1, fun i hi => ?_, g, ?_, hg2⟩
  · obtain ⟨f, uu, bl, e1, e2, e3⟩ := h.W hi
    have n1 : wo ad i ≠ ad t := h.inj (s := 200 + 2 * i) (t := t) (by omega) (by omega) (by omega)
    have n2 : wr ad i ≠ ad t := h.inj (s := 201 + 2 * i) (t := t) (by omega) (by omega) (by omega)
    exact ⟨f, uu, bl, by rw [wset_n n1]; exact e1, by rw [wset_n n2]; exact e2, e3⟩
  · rw [wset_n (h.inj (s := 340) (t := t) (by omega) (by omega) (by omega))]; exact hg1
theorem NW.wst {τ ad : Nat → Nat} {w : Wd} (h : NS τ ad w) {t : Nat} (ht : 100 ≤ t ∧ t < 200) {j : Nat} (hj : j < 70) {z : Int} (g : NW ad w j z) (e : WdE) : NW ad (wset w (ad t) e) j z := g.k
  (fun x q => by rw [wset_n (show wo ad j ≠ ad t from h.inj (s := 200 + 2 * j) (t := t) (by omega) (by omega) (by omega))]; exact q)
  (fun x q => by rw [wset_n (show wr ad j ≠ ad t from h.inj (s := 201 + 2 * j) (t := t) (by omega) (by omega) (by omega))]; exact q)
theorem NS.bytes {τ ad : Nat → Nat} {w : Wd} (h : NS τ ad w) {g : Nat → Int} (hg : bF g) : NS τ ad (wset w (ad 340) (true, eB 63 g)) ∧ KN τ w (wset w (ad 340) (true, eB 63 g)) ∧ ∀ j z, j < 70 → NW ad w j z → NW ad (wset w (ad 340) (true, eB 63 g)) j z := by
  refine ⟨⟨h.1, fun i hi => ?_, g, wset_s, hg⟩, ⟨Nat.le_refl _, fun a x ht e => ?_⟩, fun j z hj q => q.k (fun x q => ?_) (fun x q => ?_)⟩
  · obtain ⟨f, uu, bl, e1, e2, e3⟩ := h.W hi
    have n1 : wo ad i ≠ ad 340 := h.inj (s := 200 + 2 * i) (t := 340) (by omega) (by omega) (by omega)
    have n2 : wr ad i ≠ ad 340 := h.inj (s := 201 + 2 * i) (t := 340) (by omega) (by omega) (by omega)
    exact ⟨f, uu, bl, by rw [wset_n n1]; exact e1, by rw [wset_n n2]; exact e2, e3⟩
  · rw [wset_n (fun q => by have := h.t 340 (by omega); rw [q] at ht; omega)]; exact e
  · rw [wset_n (show wo ad j ≠ ad 340 from h.inj (s := 200 + 2 * j) (t := 340) (by omega) (by omega) (by omega))]; exact q
  · rw [wset_n (show wr ad j ≠ ad 340 from h.inj (s := 201 + 2 * j) (t := 340) (by omega) (by omega) (by omega))]; exact q
def PO (ad : Nat → Nat) (w : Wd) (i : Nat) (b : Int) : Prop := w.2 (ad (140 + i)) = some (true, eO 4 [iI b, .ref (wo ad (4 + 2 * i)), .ref (wo ad (5 + 2 * i))])
theorem PO.kb {τ ad : Nat → Nat} {w w' : Wd} {i : Nat} {b : Int} (h : PO ad w i b) (k : KB τ w w') (hN : NS τ ad w') (hi : i < 6) : PO ad w' i b := k.ob hN (t := 140 + i) (by omega) h
theorem PO.kn {τ ad : Nat → Nat} {w w' : Wd} {i : Nat} {b : Int} (h : PO ad w i b) (k : KN τ w w') (hN : NS τ ad w') (hi : i < 6) : PO ad w' i b := h.kb k.kb hN hi
theorem PO.kx {τ ad : Nat → Nat} {w w' : Wd} {i s : Nat} {b : Int} (h : PO ad w i b) (k : KX τ s w w') (hN : NS τ ad w') (hi : i < 6) (hs : s ≠ i) : PO ad w' i b := k.ob hN (t := 140 + i) (by omega) (by omega) h
/-- a pair: base, left, right -/
def PV (ad : Nat → Nat) (w : Wd) (i : Nat) (p : PT) : Prop := PO ad w i p.1 ∧ NW ad w (4 + 2 * i) p.2.1 ∧ NW ad w (5 + 2 * i) p.2.2
theorem PV.kx {τ ad : Nat → Nat} {w w' : Wd} {i s : Nat} {p : PT} (h : PV ad w i p) (k : KX τ s w w') (hN : NS τ ad w') (hi : i < 6) (hs : s ≠ i) (hs6 : s < 6) : PV ad w' i p := ⟨h.1.kx k hN hi hs, k.nw hN (by omega) (by omega) hs6 h.2.1, k.nw hN (by omega) (by omega) hs6 h.2.2⟩
theorem PV.kn {τ ad : Nat → Nat} {w w' : Wd} {i : Nat} {p : PT} (h : PV ad w i p) (k : KN τ w w') (hN : NS τ ad w') (hi : i < 6) : PV ad w' i p := ⟨h.1.kn k hN hi, k.nw hN (by omega) h.2.1, k.nw hN (by omega) h.2.2⟩
set_option maxHeartbeats 4000000 in
set_option maxRecDepth 100000 in
theorem s_X2_setWholes (l : Launch) {E : GE} {w : Wd} {τ ad : Nat → Nat} (hN0 : NS τ ad w) {i : Nat} {b0 : Int} (hi : i < 6) (hP : PO ad w i b0) {b : Int} {j k : Nat} (hj : j < 70 ∧ j ≠ 4 + 2 * i ∧ j ≠ 5 + 2 * i) (hk : k < 70 ∧ k ≠ 4 + 2 * i ∧ k ≠ 5 + 2 * i) {x y : Int} (fx : NW ad w j x) (fy : NW ad w k y) : Sp E l yX2_setWholes cX2_setWholes 4 none 2 (0) (0) [.ref (ad (140 + i)), iI b, .ref (wo ad j), .ref (wo ad k)] w (fun r' w' => r' = none ∧ NS τ ad w' ∧ PV ad w' i (b, x, y) ∧ KX τ i w w') := by
  refine sp_intro [some (.ref (ad (140 + i))), some (iI b), some (.ref (wo ad j)), some (.ref (wo ad k))] rfl (Nat.le_of_ble_eq_true rfl) pn_X2 ?_
  intro X C hRm hl hnm hQ
  obtain ⟨hRf, hRl, hRc, hRs⟩ := hRm
  refine g_wf (fun hwf => ?_)
  refine g_aload_n C dX2_setWholes_0 rfl ?_
  refine g_iload_n C dX2_setWholes_1 rfl ?_
  refine g_put (ci := 4) C rfl inTX2 tyX2 tyX2_ok nmX2 0 (by decide) fl_RX2_9 rfl rfl hP (Nat.le_of_ble_eq_true rfl) rfl rfl dX2_setWholes_2 ?_
  obtain ⟨u0, hu0⟩ : ∃ u0, u0 = wset w (ad (140 + i)) (true, eO 4 [iI b, .ref (wo ad (4 + 2 * i)), .ref (wo ad (5 + 2 * i))]) := ⟨_, rfl⟩
  refine g_eqw (w' := u0) hu0.symm ?_
  have hN : NS τ ad u0 := by rw [hu0]; exact hN0.wst (by omega) _
  have hQ1 : PO ad u0 i b := by rw [hu0]; exact wset_s
  have hX : KX τ i w u0 := by rw [hu0]; exact KX.set hN0 (by omega) _
  have hK : KB τ u0 u0 := KB.rf _ _
  replace fx : NW ad u0 (j) x := by rw [hu0]; exact fx.wst hN0 (by omega) (by omega) _
  replace fy : NW ad u0 (k) y := by rw [hu0]; exact fy.wst hN0 (by omega) (by omega) _
  refine g_aload_n C dX2_setWholes_5 rfl ?_
  refine g_get (ci := 4) C rfl inTX2 1 (by decide) fl_RX2_18 rfl (hQ1.kb hK hN hi) rfl dX2_setWholes_6 ?_
  refine g_aload_n C dX2_setWholes_9 rfl ?_
  refine g_callV C (v_X5_setWhole _ (hN.W (j := (4 + 2 * i)) (by omega)) fx (hN.ne (j := (4 + 2 * i)) (k := j) (by omega) (by omega) (by omega))) (ci := 7) rfl (hN.W (j := (4 + 2 * i)) (by omega)).o rfl ml_RX2_29 im_yX5_setWhole se_RX5_yX5_setWhole in_RX5 co_yX5_setWhole hd_X5_setWhole rfl ⟨by omega, by omega⟩ rfl (Nat.le_of_ble_eq_true rfl) ⟨by omega, by omega⟩ dX2_setWholes_10 (fun v10 w10 hp10 => ?_)
  obtain ⟨rfl, hws10, hfr10⟩ := hp10
  obtain ⟨hN10, v10w, hkj10⟩ := hN.stepV (j := (4 + 2 * i)) (by omega) hws10 hfr10
  replace fx := hkj10.nw hN (by omega) (by omega) fx
  replace fy := hkj10.nw hN (by omega) (by omega) fy
  replace hK := hK.tr hkj10.kb
  replace hX := hX.tr (hkj10.kx (i := i) (by omega))
  replace hN := hN10
  have gx := v10w
  refine g_aload_n C dX2_setWholes_13 rfl ?_
  refine g_get (ci := 4) C rfl inTX2 2 (by decide) fl_RX2_22 rfl (hQ1.kb hK hN hi) rfl dX2_setWholes_14 ?_
  refine g_aload_n C dX2_setWholes_17 rfl ?_
  refine g_callV C (v_X5_setWhole _ (hN.W (j := (5 + 2 * i)) (by omega)) fy (hN.ne (j := (5 + 2 * i)) (k := k) (by omega) (by omega) (by omega))) (ci := 7) rfl (hN.W (j := (5 + 2 * i)) (by omega)).o rfl ml_RX2_29 im_yX5_setWhole se_RX5_yX5_setWhole in_RX5 co_yX5_setWhole hd_X5_setWhole rfl ⟨by omega, by omega⟩ rfl (Nat.le_of_ble_eq_true rfl) ⟨by omega, by omega⟩ dX2_setWholes_18 (fun v18 w18 hp18 => ?_)
  obtain ⟨rfl, hws18, hfr18⟩ := hp18
  obtain ⟨hN18, v18w, hkj18⟩ := hN.stepV (j := (5 + 2 * i)) (by omega) hws18 hfr18
  replace fx := hkj18.nw hN (by omega) (by omega) fx
  replace fy := hkj18.nw hN (by omega) (by omega) fy
  replace gx := hkj18.nw hN (by omega) (by omega) gx
  replace hK := hK.tr hkj18.kb
  replace hX := hX.tr (hkj18.kx (i := i) (by omega))
  replace hN := hN18
  have gy := v18w
  exact g_return C hQ dX2_setWholes_21 (by omega) (by omega) ⟨rfl, hN, ⟨hQ1.kb hK hN hi, gx, gy⟩, hX⟩
set_option maxHeartbeats 4000000 in
set_option maxRecDepth 100000 in
theorem s_X2_setNumbers (l : Launch) {E : GE} {w : Wd} {τ ad : Nat → Nat} (hN0 : NS τ ad w) {i : Nat} {b0 : Int} (hi : i < 6) (hP : PO ad w i b0) {b x y : Int} (hx : -2147483648 ≤ x ∧ x < 2147483648) (hy : -2147483648 ≤ y ∧ y < 2147483648) : Sp E l yX2_setNumbers cX2_setNumbers 4 none 3 (0) (0) [.ref (ad (140 + i)), iI b, iI x, iI y] w (fun r' w' => r' = none ∧ NS τ ad w' ∧ PV ad w' i (b, x, y) ∧ KX τ i w w') := by
  refine sp_intro [some (.ref (ad (140 + i))), some (iI b), some (iI x), some (iI y)] rfl (Nat.le_of_ble_eq_true rfl) pn_X2 ?_
  intro X C hRm hl hnm hQ
  obtain ⟨hRf, hRl, hRc, hRs⟩ := hRm
  refine g_wf (fun hwf => ?_)
  refine g_aload_n C dX2_setNumbers_0 rfl ?_
  refine g_iload_n C dX2_setNumbers_1 rfl ?_
  refine g_put (ci := 4) C rfl inTX2 tyX2 tyX2_ok nmX2 0 (by decide) fl_RX2_9 rfl rfl hP (Nat.le_of_ble_eq_true rfl) rfl rfl dX2_setNumbers_2 ?_
  obtain ⟨u0, hu0⟩ : ∃ u0, u0 = wset w (ad (140 + i)) (true, eO 4 [iI b, .ref (wo ad (4 + 2 * i)), .ref (wo ad (5 + 2 * i))]) := ⟨_, rfl⟩
  refine g_eqw (w' := u0) hu0.symm ?_
  have hN : NS τ ad u0 := by rw [hu0]; exact hN0.wst (by omega) _
  have hQ1 : PO ad u0 i b := by rw [hu0]; exact wset_s
  have hX : KX τ i w u0 := by rw [hu0]; exact KX.set hN0 (by omega) _
  have hK : KB τ u0 u0 := KB.rf _ _
  refine g_aload_n C dX2_setNumbers_5 rfl ?_
  refine g_get (ci := 4) C rfl inTX2 1 (by decide) fl_RX2_18 rfl (hQ1.kb hK hN hi) rfl dX2_setNumbers_6 ?_
  refine g_iload_n C dX2_setNumbers_9 rfl ?_
  refine g_i2l C dX2_setNumbers_10 (by omega) ?_
  refine g_callV C (v_X5_setNumber _ (hN.W (j := (4 + 2 * i)) (by omega)) (x := x) (by omega)) (ci := 7) rfl (hN.W (j := (4 + 2 * i)) (by omega)).o rfl ml_RX2_25 im_yX5_setNumber se_RX5_yX5_setNumber in_RX5 co_yX5_setNumber hd_X5_setNumber rfl ⟨by omega, by omega⟩ rfl (Nat.le_of_ble_eq_true rfl) ⟨by omega, by omega⟩ dX2_setNumbers_11 (fun v11 w11 hp11 => ?_)
  obtain ⟨rfl, hws11, hfr11⟩ := hp11
  obtain ⟨hN11, v11w, hkj11⟩ := hN.stepV (j := (4 + 2 * i)) (by omega) hws11 hfr11
  replace hK := hK.tr hkj11.kb
  replace hX := hX.tr (hkj11.kx (i := i) (by omega))
  replace hN := hN11
  have gx := v11w
  refine g_aload_n C dX2_setNumbers_14 rfl ?_
  refine g_get (ci := 4) C rfl inTX2 2 (by decide) fl_RX2_22 rfl (hQ1.kb hK hN hi) rfl dX2_setNumbers_15 ?_
  refine g_iload_n C dX2_setNumbers_18 rfl ?_
  refine g_i2l C dX2_setNumbers_19 (by omega) ?_
  refine g_callV C (v_X5_setNumber _ (hN.W (j := (5 + 2 * i)) (by omega)) (x := y) (by omega)) (ci := 7) rfl (hN.W (j := (5 + 2 * i)) (by omega)).o rfl ml_RX2_25 im_yX5_setNumber se_RX5_yX5_setNumber in_RX5 co_yX5_setNumber hd_X5_setNumber rfl ⟨by omega, by omega⟩ rfl (Nat.le_of_ble_eq_true rfl) ⟨by omega, by omega⟩ dX2_setNumbers_20 (fun v20 w20 hp20 => ?_)
  obtain ⟨rfl, hws20, hfr20⟩ := hp20
  obtain ⟨hN20, v20w, hkj20⟩ := hN.stepV (j := (5 + 2 * i)) (by omega) hws20 hfr20
  replace gx := hkj20.nw hN (by omega) (by omega) gx
  replace hK := hK.tr hkj20.kb
  replace hX := hX.tr (hkj20.kx (i := i) (by omega))
  replace hN := hN20
  have gy := v20w
  exact g_return C hQ dX2_setNumbers_23 (by omega) (by omega) ⟨rfl, hN, ⟨hQ1.kb hK hN hi, gx, gy⟩, hX⟩
set_option maxHeartbeats 4000000 in
set_option maxRecDepth 100000 in
theorem s_X2_setPair (l : Launch) {E : GE} {w : Wd} {τ ad : Nat → Nat} (hN0 : NS τ ad w) {i : Nat} {b0 : Int} (hi : i < 6) (hP : PO ad w i b0) {m : Nat} {p : PT} (hm : m < 6 ∧ m ≠ i) (hP2 : PV ad w m p) : Sp E l yX2_setPair cX2_setPair 2 none 3 (0) (0) [.ref (ad (140 + i)), .ref (ad (140 + m))] w (fun r' w' => r' = none ∧ NS τ ad w' ∧ PV ad w' i p ∧ KX τ i w w') := by
  refine sp_intro [some (.ref (ad (140 + i))), some (.ref (ad (140 + m)))] rfl (Nat.le_of_ble_eq_true rfl) pn_X2 ?_
  intro X C hRm hl hnm hQ
  obtain ⟨hRf, hRl, hRc, hRs⟩ := hRm
  refine g_wf (fun hwf => ?_)
  refine g_aload_n C dX2_setPair_0 rfl ?_
  refine g_aload_n C dX2_setPair_1 rfl ?_
  refine g_get (ci := 4) C rfl inTX2 0 (by decide) fl_RX2_9 rfl hP2.1 rfl dX2_setPair_2 ?_
  refine g_aload_n C dX2_setPair_5 rfl ?_
  refine g_get (ci := 4) C rfl inTX2 1 (by decide) fl_RX2_18 rfl hP2.1 rfl dX2_setPair_6 ?_
  refine g_aload_n C dX2_setPair_9 rfl ?_
  refine g_get (ci := 4) C rfl inTX2 2 (by decide) fl_RX2_22 rfl hP2.1 rfl dX2_setPair_10 ?_
  refine g_callV C (s_X2_setWholes _ hN0 hi hP (b := p.1) (j := 4 + 2 * m) (k := 5 + 2 * m) (by omega) (by omega) hP2.2.1 hP2.2.2) (ci := 4) rfl hP rfl ml_RX2_33 im_yX2_setWholes se_RX2_yX2_setWholes in_RX2 co_yX2_setWholes hd_X2_setWholes rfl ⟨by omega, by omega⟩ rfl (Nat.le_of_ble_eq_true rfl) ⟨by omega, by omega⟩ dX2_setPair_13 (fun v13 w13 hp13 => ?_)
  obtain ⟨rfl, hp13⟩ := hp13
  exact g_return C hQ dX2_setPair_16 (by omega) (by omega) ⟨rfl, hp13⟩
set_option maxHeartbeats 4000000 in
set_option maxRecDepth 100000 in
theorem s_X2_side (l : Launch) {E : GE} {w : Wd} {ad : Nat → Nat} {i : Nat} {b0 : Int} (hi : i < 6) (hP : PO ad w i b0) {y : Int} (hy : y = 0 ∨ y = 1) : Sp E l yX2_side cX2_side 2 (some (.object "Rootwalk$Whole")) 0 (0) (0) [.ref (ad (140 + i)), iI y] w (fun r' w' => (∃ j, r' = some (.ref (wo ad j)) ∧ (y = 1 ∧ j = 4 + 2 * i ∨ y = 0 ∧ j = 5 + 2 * i)) ∧ w' = w) := by
  refine sp_intro [some (.ref (ad (140 + i))), some (iI y)] rfl (Nat.le_of_ble_eq_true rfl) pn_X2 ?_
  intro X C hRm hl hnm hQ
  obtain ⟨hRf, hRl, hRc, hRs⟩ := hRm
  refine g_wf (fun hwf => ?_)
  refine g_iload_n C dX2_side_0 rfl ?_
  refine g_if_eq (tgt := 11) C dX2_side_1 (by decide) (by omega) (fun h1 => ?_) (fun h1 => ?_)
  · refine g_aload_n C dX2_side_11 rfl ?_
    refine g_get (ci := 4) C rfl inTX2 2 (by decide) fl_RX2_22 rfl hP rfl dX2_side_12 ?_
    exact g_areturn C (Or.inl ⟨_, rfl⟩) hQ (Or.inr ⟨_, rfl⟩) dX2_side_15 (by omega) (by omega) ⟨⟨_, rfl, by omega⟩, rfl⟩
  · refine g_aload_n C dX2_side_4 rfl ?_
    refine g_get (ci := 4) C rfl inTX2 1 (by decide) fl_RX2_18 rfl hP rfl dX2_side_5 ?_
    refine g_goto (tgt := 15) C dX2_side_8 (by decide) ?_
    exact g_areturn C (Or.inl ⟨_, rfl⟩) hQ (Or.inr ⟨_, rfl⟩) dX2_side_15 (by omega) (by omega) ⟨⟨_, rfl, by omega⟩, rfl⟩
set_option maxHeartbeats 4000000 in
set_option maxRecDepth 100000 in
theorem s_X2_isLike (l : Launch) {E : GE} {w : Wd} {τ ad : Nat → Nat} (hN0 : NS τ ad w) {i : Nat} (hi : i < 6) {p q : PT} (hP : PV ad w i p) {m : Nat} (hb0 : -2147483648 ≤ p.1 ∧ p.1 < 2147483648) (hb : -2147483648 ≤ q.1 ∧ q.1 < 2147483648) (hm : m < 6) (hP2 : PV ad w m q) : Sp E l yX2_isLike cX2_isLike 2 (some .boolean) 3 (0) (0) [.ref (ad (140 + i)), .ref (ad (140 + m))] w (fun r' w' => r' = some (iI (bI (p.1 = q.1 ∧ p.2.1 = q.2.1 ∧ p.2.2 = q.2.2))) ∧ w' = w) := by
  refine sp_intro [some (.ref (ad (140 + i))), some (.ref (ad (140 + m)))] rfl (Nat.le_of_ble_eq_true rfl) pn_X2 ?_
  intro X C hRm hl hnm hQ
  obtain ⟨hRf, hRl, hRc, hRs⟩ := hRm
  refine g_wf (fun hwf => ?_)
  have hN := hN0
  have hK : KN τ w w := KN.rf _ _
  refine g_aload_n C dX2_isLike_0 rfl ?_
  refine g_get (ci := 4) C rfl inTX2 0 (by decide) fl_RX2_9 rfl hP.1 rfl dX2_isLike_1 ?_
  refine g_aload_n C dX2_isLike_4 rfl ?_
  refine g_get (ci := 4) C rfl inTX2 0 (by decide) fl_RX2_9 rfl hP2.1 rfl dX2_isLike_5 ?_
  refine g_icmp_ne (tgt := 43) C dX2_isLike_8 (by decide) (by omega) (by omega) (fun h8 => ?_) (fun h8 => ?_)
  · refine g_iconst C dX2_isLike_43 ?_
    exact g_zreturn C hQ dX2_isLike_44 rfl (by omega) (by omega) ⟨by
      first
      | rw [bI_t (⟨by omega, by omega, by omega⟩ : p.1 = q.1 ∧ p.2.1 = q.2.1 ∧ p.2.2 = q.2.2)]
      | rw [bI_f (fun c => by omega)], rfl⟩
  · refine g_aload_n C dX2_isLike_11 rfl ?_
    refine g_get (ci := 4) C rfl inTX2 1 (by decide) fl_RX2_18 rfl hP.1 rfl dX2_isLike_12 ?_
    refine g_aload_n C dX2_isLike_15 rfl ?_
    refine g_get (ci := 4) C rfl inTX2 1 (by decide) fl_RX2_18 rfl hP2.1 rfl dX2_isLike_16 ?_
    refine g_callV C (c_X5_compareValue _ hP.2.1 hP2.2.1) (ci := 7) rfl (hN.W (j := (4 + 2 * i)) (by omega)).o rfl ml_RX2_37 im_yX5_compareValue se_RX5_yX5_compareValue in_RX5 co_yX5_compareValue hd_X5_compareValue rfl ⟨by omega, by omega⟩ rfl (Nat.le_of_ble_eq_true rfl) ⟨by omega, by omega⟩ dX2_isLike_19 (fun v19 w19 hp19 => ?_)
    obtain ⟨⟨d19, rfl, hd19⟩, hw19⟩ := hp19
    subst w19
    refine g_if_ne (tgt := 43) C dX2_isLike_22 (by decide) (by omega) (fun h22 => ?_) (fun h22 => ?_)
    · refine g_iconst C dX2_isLike_43 ?_
      exact g_zreturn C hQ dX2_isLike_44 rfl (by omega) (by omega) ⟨by
        first
        | rw [bI_t (⟨by omega, by omega, by omega⟩ : p.1 = q.1 ∧ p.2.1 = q.2.1 ∧ p.2.2 = q.2.2)]
        | rw [bI_f (fun c => by omega)], rfl⟩
    · refine g_aload_n C dX2_isLike_25 rfl ?_
      refine g_get (ci := 4) C rfl inTX2 2 (by decide) fl_RX2_22 rfl hP.1 rfl dX2_isLike_26 ?_
      refine g_aload_n C dX2_isLike_29 rfl ?_
      refine g_get (ci := 4) C rfl inTX2 2 (by decide) fl_RX2_22 rfl hP2.1 rfl dX2_isLike_30 ?_
      refine g_callV C (c_X5_compareValue _ hP.2.2 hP2.2.2) (ci := 7) rfl (hN.W (j := (5 + 2 * i)) (by omega)).o rfl ml_RX2_37 im_yX5_compareValue se_RX5_yX5_compareValue in_RX5 co_yX5_compareValue hd_X5_compareValue rfl ⟨by omega, by omega⟩ rfl (Nat.le_of_ble_eq_true rfl) ⟨by omega, by omega⟩ dX2_isLike_33 (fun v33 w33 hp33 => ?_)
      obtain ⟨⟨d33, rfl, hd33⟩, hw33⟩ := hp33
      subst w33
      refine g_if_ne (tgt := 43) C dX2_isLike_36 (by decide) (by omega) (fun h36 => ?_) (fun h36 => ?_)
      · refine g_iconst C dX2_isLike_43 ?_
        exact g_zreturn C hQ dX2_isLike_44 rfl (by omega) (by omega) ⟨by
          first
          | rw [bI_t (⟨by omega, by omega, by omega⟩ : p.1 = q.1 ∧ p.2.1 = q.2.1 ∧ p.2.2 = q.2.2)]
          | rw [bI_f (fun c => by omega)], rfl⟩
      · refine g_iconst C dX2_isLike_39 ?_
        refine g_goto (tgt := 44) C dX2_isLike_40 (by decide) ?_
        exact g_zreturn C hQ dX2_isLike_44 rfl (by omega) (by omega) ⟨by
          first
          | rw [bI_t (⟨by omega, by omega, by omega⟩ : p.1 = q.1 ∧ p.2.1 = q.2.1 ∧ p.2.2 = q.2.2)]
          | rw [bI_f (fun c => by omega)], rfl⟩
set_option maxHeartbeats 4000000 in
set_option maxRecDepth 100000 in
theorem s_X2_isTooLong (l : Launch) {E : GE} {w : Wd} {τ ad : Nat → Nat} (hN0 : NS τ ad w) {i : Nat} (hi : i < 6) {p : PT} (hP : PV ad w i p) : Sp E l yX2_isTooLong cX2_isTooLong 1 (some .boolean) 2 (0) (0) [.ref (ad (140 + i))] w (fun r' w' => r' = some (iI (bI (LGN ≤ aB p.2.1 ∨ LGN ≤ aB p.2.2))) ∧ w' = w) := by
  refine sp_intro [some (.ref (ad (140 + i)))] rfl (Nat.le_of_ble_eq_true rfl) pn_X2 ?_
  intro X C hRm hl hnm hQ
  obtain ⟨hRf, hRl, hRc, hRs⟩ := hRm
  refine g_wf (fun hwf => ?_)
  have hN := hN0
  have hK : KN τ w w := KN.rf _ _
  have r1 := bits_r (z := p.2.1)
  have r2 := bits_r (z := p.2.2)
  have t1 := bits_80 hP.2.1.cap
  have t2 := bits_80 hP.2.2.cap
  refine g_aload_n C dX2_isTooLong_0 rfl ?_
  refine g_get (ci := 4) C rfl inTX2 1 (by decide) fl_RX2_18 rfl hP.1 rfl dX2_isTooLong_1 ?_
  refine g_callV C (u_X5_bits _ hP.2.1 ) (ci := 7) rfl (hN.W (j := (4 + 2 * i)) (by omega)).o rfl ml_RX2_41 im_yX5_bits se_RX5_yX5_bits in_RX5 co_yX5_bits hd_X5_bits rfl ⟨by omega, by omega⟩ rfl (Nat.le_of_ble_eq_true rfl) ⟨by omega, by omega⟩ dX2_isTooLong_4 (fun v4 w4 hp4 => ?_)
  obtain ⟨rfl, hw4⟩ := hp4
  subst w4
  refine g_bipush C dX2_isTooLong_7 (by decide) ?_
  refine g_icmp_gt (tgt := 24) C dX2_isTooLong_9 (by decide) (by omega) (by omega) (fun h9 => ?_) (fun h9 => ?_)
  · refine g_iconst C dX2_isTooLong_24 ?_
    refine g_goto (tgt := 29) C dX2_isTooLong_25 (by decide) ?_
    exact g_zreturn C hQ dX2_isTooLong_29 rfl (by omega) (by omega) ⟨by
      first
      | rw [bI_t (Or.inl (t1.mp (by omega)))]
      | rw [bI_t (Or.inr (t2.mp (by omega)))]
      | rw [bI_f (fun c => by
          rcases c with c | c
          · have := t1.mpr c; omega
          · have := t2.mpr c; omega)], rfl⟩
  · refine g_aload_n C dX2_isTooLong_12 rfl ?_
    refine g_get (ci := 4) C rfl inTX2 2 (by decide) fl_RX2_22 rfl hP.1 rfl dX2_isTooLong_13 ?_
    refine g_callV C (u_X5_bits _ hP.2.2 ) (ci := 7) rfl (hN.W (j := (5 + 2 * i)) (by omega)).o rfl ml_RX2_41 im_yX5_bits se_RX5_yX5_bits in_RX5 co_yX5_bits hd_X5_bits rfl ⟨by omega, by omega⟩ rfl (Nat.le_of_ble_eq_true rfl) ⟨by omega, by omega⟩ dX2_isTooLong_16 (fun v16 w16 hp16 => ?_)
    obtain ⟨rfl, hw16⟩ := hp16
    subst w16
    refine g_bipush C dX2_isTooLong_19 (by decide) ?_
    refine g_icmp_le (tgt := 28) C dX2_isTooLong_21 (by decide) (by omega) (by omega) (fun h21 => ?_) (fun h21 => ?_)
    · refine g_iconst C dX2_isTooLong_28 ?_
      exact g_zreturn C hQ dX2_isTooLong_29 rfl (by omega) (by omega) ⟨by
        first
        | rw [bI_t (Or.inl (t1.mp (by omega)))]
        | rw [bI_t (Or.inr (t2.mp (by omega)))]
        | rw [bI_f (fun c => by
            rcases c with c | c
            · have := t1.mpr c; omega
            · have := t2.mpr c; omega)], rfl⟩
    · refine g_iconst C dX2_isTooLong_24 ?_
      refine g_goto (tgt := 29) C dX2_isTooLong_25 (by decide) ?_
      exact g_zreturn C hQ dX2_isTooLong_29 rfl (by omega) (by omega) ⟨by
        first
        | rw [bI_t (Or.inl (t1.mp (by omega)))]
        | rw [bI_t (Or.inr (t2.mp (by omega)))]
        | rw [bI_f (fun c => by
            rcases c with c | c
            · have := t1.mpr c; omega
            · have := t2.mpr c; omega)], rfl⟩
theorem bd_ml {x v b B1 B2 : Int} (hx : aB x ≤ B1) (hv : aB v ≤ B2) (hb : 0 ≤ b ∧ b ≤ 1000) (hB : B1 * B2 * 2000 < B28 ^ 18) : aB x * aB v ≤ B1 * B2 ∧ aB (x * v) ≤ B1 * B2 ∧ aB (x * v) * b + 0 ≤ B1 * B2 * 1000 ∧ 0 ≤ B1 * B2 := by
  have h0 := aB_0 x
  have h1 := aB_0 v
  have h := Int.mul_le_mul hx hv h1 (by omega)
  have hp := Int.mul_nonneg h0 h1
  refine ⟨h, by rw [aB_mul]; exact h, ?_, by omega⟩
  rw [aB_mul]
  have := Int.mul_le_mul h hb.2 hb.1 (by omega)
  omega
set_option maxHeartbeats 4000000 in
set_option maxRecDepth 100000 in
theorem s_X0_multiply (l : Launch) {E : GE} {w : Wd} {τ ad : Nat → Nat} (hN0 : NS τ ad w) (hD : w.2 (ad 110) = some (true, oD ad)) {i : Nat} {b0 : Int} (hi : i < 6) (hP : PO ad w i b0) {m n : Nat} {b b2 x y u v B1 B2 : Int} (hm : m < 6 ∧ m ≠ i) (hn : n < 6 ∧ n ≠ i) (hb : 0 ≤ b ∧ b ≤ 1000) (hP1 : PV ad w m (b, x, y)) (hP2 : PV ad w n (b2, u, v)) (bx : aB x ≤ B1) (by_ : aB y ≤ B1) (bu : aB u ≤ B2) (bv : aB v ≤ B2) (hB : B1 * B2 * 2000 < B28 ^ 18) : Sp E l yX0_multiply cX0_multiply 4 none 3 (0) (0) [.ref (ad 110), .ref (ad (140 + m)), .ref (ad (140 + n)), .ref (ad (140 + i))] w (fun r' w' => r' = none ∧ NS τ ad w' ∧ PV ad w' i (b, x * u + b * (y * v), x * v + y * u) ∧ KX τ i w w') := by
  refine sp_intro [some (.ref (ad 110)), some (.ref (ad (140 + m))), some (.ref (ad (140 + n))), some (.ref (ad (140 + i)))] rfl (Nat.le_of_ble_eq_true rfl) pn_X0 ?_
  intro X C hRm hl hnm hQ
  obtain ⟨hRf, hRl, hRc, hRs⟩ := hRm
  refine g_wf (fun hwf => ?_)
  refine g_aload_n C dX0_multiply_0 rfl ?_
  refine g_aload_n C dX0_multiply_1 rfl ?_
  refine g_get (ci := 4) C rfl inTX2 0 (by decide) fl_RX0_86 rfl hP1.1 rfl dX0_multiply_2 ?_
  obtain ⟨m1, m2, m3, m4⟩ := bd_ml by_ bv hb hB
  obtain ⟨m5, m6, m7, -⟩ := bd_ml bx bu hb hB
  obtain ⟨m8, m9, -, -⟩ := bd_ml bx bv hb hB
  obtain ⟨m10, m11, -, -⟩ := bd_ml by_ bu hb hB
  refine g_put (ci := 4) C rfl inTX2 tyX2 tyX2_ok nmX2 0 (by decide) fl_RX0_86 rfl rfl hP (Nat.le_of_ble_eq_true rfl) rfl rfl dX0_multiply_5 ?_
  obtain ⟨u0, hu0⟩ : ∃ u0, u0 = wset w (ad (140 + i)) (true, eO 4 [iI b, .ref (wo ad (4 + 2 * i)), .ref (wo ad (5 + 2 * i))]) := ⟨_, rfl⟩
  refine g_eqw (w' := u0) hu0.symm ?_
  have hN : NS τ ad u0 := by rw [hu0]; exact hN0.wst (by omega) _
  have hQ1 : PO ad u0 i b := by rw [hu0]; exact wset_s
  have hX : KX τ i w u0 := by rw [hu0]; exact KX.set hN0 (by omega) _
  have hK : KB τ u0 u0 := KB.rf _ _
  have hP1' : PO ad u0 m b := hP1.1.kx hX hN (by omega) (by omega)
  have hP2' : PO ad u0 n b2 := hP2.1.kx hX hN (by omega) (by omega)
  have hD' : u0.2 (ad 110) = some (true, oD ad) := hX.ob hN (t := 110) (by omega) (by omega) hD
  have fx : NW ad u0 (4 + 2 * m) x := hX.nw hN (by omega) (by omega) hi hP1.2.1
  have fy : NW ad u0 (5 + 2 * m) y := hX.nw hN (by omega) (by omega) hi hP1.2.2
  have fu : NW ad u0 (4 + 2 * n) u := hX.nw hN (by omega) (by omega) hi hP2.2.1
  have fv : NW ad u0 (5 + 2 * n) v := hX.nw hN (by omega) (by omega) hi hP2.2.2
  refine g_aload_n C dX0_multiply_8 rfl ?_
  refine g_get (ci := 4) C rfl inTX2 1 (by decide) fl_RX0_92 rfl (hQ1.kb hK hN hi) rfl dX0_multiply_9 ?_
  refine g_aload_n C dX0_multiply_12 rfl ?_
  refine g_get (ci := 4) C rfl inTX2 2 (by decide) fl_RX0_95 rfl (hP1'.kb hK hN (by omega)) rfl dX0_multiply_13 ?_
  refine g_aload_n C dX0_multiply_16 rfl ?_
  refine g_get (ci := 4) C rfl inTX2 2 (by decide) fl_RX0_95 rfl (hP2'.kb hK hN (by omega)) rfl dX0_multiply_17 ?_
  refine g_callV C (v_X5_setProduct _ (hN.W (j := (4 + 2 * i)) (by omega)) fy fv (hN.ne (j := (4 + 2 * i)) (k := (5 + 2 * m)) (by omega) (by omega) (by omega)) (hN.ne (j := (4 + 2 * i)) (k := (5 + 2 * n)) (by omega) (by omega) (by omega)) (hN.neo (j := (4 + 2 * i)) (k := (5 + 2 * m)) (by omega) (by omega) (by omega)) (hN.neo (j := (4 + 2 * i)) (k := (5 + 2 * n)) (by omega) (by omega) (by omega)) (by omega)) (ci := 7) rfl (hN.W (j := (4 + 2 * i)) (by omega)).o rfl ml_RX0_31 im_yX5_setProduct se_RX5_yX5_setProduct in_RX5 co_yX5_setProduct hd_X5_setProduct rfl ⟨by omega, by omega⟩ rfl (Nat.le_of_ble_eq_true rfl) ⟨by omega, by omega⟩ dX0_multiply_20 (fun v20 w20 hp20 => ?_)
  obtain ⟨rfl, hws20, hfr20⟩ := hp20
  obtain ⟨hN20, v20w, hkj20⟩ := hN.stepV (j := (4 + 2 * i)) (by omega) hws20 hfr20
  replace fx := hkj20.nw hN (by omega) (by omega) fx
  replace fy := hkj20.nw hN (by omega) (by omega) fy
  replace fu := hkj20.nw hN (by omega) (by omega) fu
  replace fv := hkj20.nw hN (by omega) (by omega) fv
  replace hK := hK.tr hkj20.kb
  replace hX := hX.tr (hkj20.kx (i := i) (by omega))
  replace hN := hN20
  have gx := v20w
  refine g_aload_n C dX0_multiply_23 rfl ?_
  refine g_get (ci := 4) C rfl inTX2 1 (by decide) fl_RX0_92 rfl (hQ1.kb hK hN hi) rfl dX0_multiply_24 ?_
  refine g_aload_n C dX0_multiply_27 rfl ?_
  refine g_get (ci := 4) C rfl inTX2 0 (by decide) fl_RX0_86 rfl (hP1'.kb hK hN (by omega)) rfl dX0_multiply_28 ?_
  refine g_iconst C dX0_multiply_31 ?_
  refine g_callV C (u_X5_multiplySmall _ gx (by_ := b) (mo := 0) (by omega) (by omega) (Or.inr rfl) (by omega)) (ci := 7) rfl (hN.W (j := (4 + 2 * i)) (by omega)).o rfl ml_RX0_35 im_yX5_multiplySmall se_RX5_yX5_multiplySmall in_RX5 co_yX5_multiplySmall hd_X5_multiplySmall rfl ⟨by omega, by omega⟩ rfl (Nat.le_of_ble_eq_true rfl) ⟨by omega, by omega⟩ dX0_multiply_32 (fun v32 w32 hp32 => ?_)
  obtain ⟨rfl, hws32, hfr32⟩ := hp32
  obtain ⟨hN32, v32w, hkj32⟩ := hN.stepV (j := (4 + 2 * i)) (by omega) hws32 hfr32
  replace fx := hkj32.nw hN (by omega) (by omega) fx
  replace fy := hkj32.nw hN (by omega) (by omega) fy
  replace fu := hkj32.nw hN (by omega) (by omega) fu
  replace fv := hkj32.nw hN (by omega) (by omega) fv
  replace hK := hK.tr hkj32.kb
  replace hX := hX.tr (hkj32.kx (i := i) (by omega))
  replace hN := hN32
  have gx := v32w
  refine g_aload_n C dX0_multiply_35 rfl ?_
  refine g_get (ci := 2) C rfl inTX0 0 (by decide) fl_RX0_12 rfl (hK.ob hN (t := 110) (by omega) hD') rfl dX0_multiply_36 ?_
  refine g_aload_n C dX0_multiply_39 rfl ?_
  refine g_get (ci := 4) C rfl inTX2 1 (by decide) fl_RX0_92 rfl (hP1'.kb hK hN (by omega)) rfl dX0_multiply_40 ?_
  refine g_aload_n C dX0_multiply_43 rfl ?_
  refine g_get (ci := 4) C rfl inTX2 1 (by decide) fl_RX0_92 rfl (hP2'.kb hK hN (by omega)) rfl dX0_multiply_44 ?_
  refine g_callV C (v_X5_setProduct _ (hN.W (j := 0) (by omega)) fx fu (hN.ne (j := 0) (k := (4 + 2 * m)) (by omega) (by omega) (by omega)) (hN.ne (j := 0) (k := (4 + 2 * n)) (by omega) (by omega) (by omega)) (hN.neo (j := 0) (k := (4 + 2 * m)) (by omega) (by omega) (by omega)) (hN.neo (j := 0) (k := (4 + 2 * n)) (by omega) (by omega) (by omega)) (by omega)) (ci := 7) rfl (hN.W (j := 0) (by omega)).o rfl ml_RX0_31 im_yX5_setProduct se_RX5_yX5_setProduct in_RX5 co_yX5_setProduct hd_X5_setProduct rfl ⟨by omega, by omega⟩ rfl (Nat.le_of_ble_eq_true rfl) ⟨by omega, by omega⟩ dX0_multiply_47 (fun v47 w47 hp47 => ?_)
  obtain ⟨rfl, hws47, hfr47⟩ := hp47
  obtain ⟨hN47, v47w, hkj47⟩ := hN.stepV (j := 0) (by omega) hws47 hfr47
  replace fx := hkj47.nw hN (by omega) (by omega) fx
  replace fy := hkj47.nw hN (by omega) (by omega) fy
  replace fu := hkj47.nw hN (by omega) (by omega) fu
  replace fv := hkj47.nw hN (by omega) (by omega) fv
  replace gx := hkj47.nw hN (by omega) (by omega) gx
  replace hK := hK.tr hkj47.kb
  replace hX := hX.tr (hkj47.kx (i := i) (by omega))
  replace hN := hN47
  have v0 := v47w
  refine g_aload_n C dX0_multiply_50 rfl ?_
  refine g_get (ci := 4) C rfl inTX2 1 (by decide) fl_RX0_92 rfl (hQ1.kb hK hN hi) rfl dX0_multiply_51 ?_
  refine g_aload_n C dX0_multiply_54 rfl ?_
  refine g_get (ci := 2) C rfl inTX0 0 (by decide) fl_RX0_12 rfl (hK.ob hN (t := 110) (by omega) hD') rfl dX0_multiply_55 ?_
  refine g_iconst C dX0_multiply_58 ?_
  refine g_callV C (c_X5_addOrTake _ gx v0 (y := 0) (by omega) (hN.ne (j := (4 + 2 * i)) (k := 0) (by omega) (by omega) (by omega)) (hN.neo (j := (4 + 2 * i)) (k := 0) (by omega) (by omega) (by omega)) (by rw [Int.add_zero, aB_mul, aB_p hb.1]; omega)) (ci := 7) rfl (hN.W (j := (4 + 2 * i)) (by omega)).o rfl ml_RX0_39 im_yX5_addOrTake se_RX5_yX5_addOrTake in_RX5 co_yX5_addOrTake hd_X5_addOrTake rfl ⟨by omega, by omega⟩ rfl (Nat.le_of_ble_eq_true rfl) ⟨by omega, by omega⟩ dX0_multiply_59 (fun v59 w59 hp59 => ?_)
  obtain ⟨rfl, hws59, hfr59⟩ := hp59
  obtain ⟨hN59, v59w, hkj59⟩ := hN.stepV (j := (4 + 2 * i)) (by omega) hws59 hfr59
  replace fx := hkj59.nw hN (by omega) (by omega) fx
  replace fy := hkj59.nw hN (by omega) (by omega) fy
  replace fu := hkj59.nw hN (by omega) (by omega) fu
  replace fv := hkj59.nw hN (by omega) (by omega) fv
  replace v0 := hkj59.nw hN (by omega) (by omega) v0
  replace hK := hK.tr hkj59.kb
  replace hX := hX.tr (hkj59.kx (i := i) (by omega))
  replace hN := hN59
  have gx := v59w
  refine g_aload_n C dX0_multiply_62 rfl ?_
  refine g_get (ci := 4) C rfl inTX2 2 (by decide) fl_RX0_95 rfl (hQ1.kb hK hN hi) rfl dX0_multiply_63 ?_
  refine g_aload_n C dX0_multiply_66 rfl ?_
  refine g_get (ci := 4) C rfl inTX2 1 (by decide) fl_RX0_92 rfl (hP1'.kb hK hN (by omega)) rfl dX0_multiply_67 ?_
  refine g_aload_n C dX0_multiply_70 rfl ?_
  refine g_get (ci := 4) C rfl inTX2 2 (by decide) fl_RX0_95 rfl (hP2'.kb hK hN (by omega)) rfl dX0_multiply_71 ?_
  refine g_callV C (v_X5_setProduct _ (hN.W (j := (5 + 2 * i)) (by omega)) fx fv (hN.ne (j := (5 + 2 * i)) (k := (4 + 2 * m)) (by omega) (by omega) (by omega)) (hN.ne (j := (5 + 2 * i)) (k := (5 + 2 * n)) (by omega) (by omega) (by omega)) (hN.neo (j := (5 + 2 * i)) (k := (4 + 2 * m)) (by omega) (by omega) (by omega)) (hN.neo (j := (5 + 2 * i)) (k := (5 + 2 * n)) (by omega) (by omega) (by omega)) (by omega)) (ci := 7) rfl (hN.W (j := (5 + 2 * i)) (by omega)).o rfl ml_RX0_31 im_yX5_setProduct se_RX5_yX5_setProduct in_RX5 co_yX5_setProduct hd_X5_setProduct rfl ⟨by omega, by omega⟩ rfl (Nat.le_of_ble_eq_true rfl) ⟨by omega, by omega⟩ dX0_multiply_74 (fun v74 w74 hp74 => ?_)
  obtain ⟨rfl, hws74, hfr74⟩ := hp74
  obtain ⟨hN74, v74w, hkj74⟩ := hN.stepV (j := (5 + 2 * i)) (by omega) hws74 hfr74
  replace fx := hkj74.nw hN (by omega) (by omega) fx
  replace fy := hkj74.nw hN (by omega) (by omega) fy
  replace fu := hkj74.nw hN (by omega) (by omega) fu
  replace fv := hkj74.nw hN (by omega) (by omega) fv
  replace v0 := hkj74.nw hN (by omega) (by omega) v0
  replace gx := hkj74.nw hN (by omega) (by omega) gx
  replace hK := hK.tr hkj74.kb
  replace hX := hX.tr (hkj74.kx (i := i) (by omega))
  replace hN := hN74
  have gy := v74w
  refine g_aload_n C dX0_multiply_77 rfl ?_
  refine g_get (ci := 2) C rfl inTX0 0 (by decide) fl_RX0_12 rfl (hK.ob hN (t := 110) (by omega) hD') rfl dX0_multiply_78 ?_
  refine g_aload_n C dX0_multiply_81 rfl ?_
  refine g_get (ci := 4) C rfl inTX2 2 (by decide) fl_RX0_95 rfl (hP1'.kb hK hN (by omega)) rfl dX0_multiply_82 ?_
  refine g_aload_n C dX0_multiply_85 rfl ?_
  refine g_get (ci := 4) C rfl inTX2 1 (by decide) fl_RX0_92 rfl (hP2'.kb hK hN (by omega)) rfl dX0_multiply_86 ?_
  refine g_callV C (v_X5_setProduct _ (hN.W (j := 0) (by omega)) fy fu (hN.ne (j := 0) (k := (5 + 2 * m)) (by omega) (by omega) (by omega)) (hN.ne (j := 0) (k := (4 + 2 * n)) (by omega) (by omega) (by omega)) (hN.neo (j := 0) (k := (5 + 2 * m)) (by omega) (by omega) (by omega)) (hN.neo (j := 0) (k := (4 + 2 * n)) (by omega) (by omega) (by omega)) (by omega)) (ci := 7) rfl (hN.W (j := 0) (by omega)).o rfl ml_RX0_31 im_yX5_setProduct se_RX5_yX5_setProduct in_RX5 co_yX5_setProduct hd_X5_setProduct rfl ⟨by omega, by omega⟩ rfl (Nat.le_of_ble_eq_true rfl) ⟨by omega, by omega⟩ dX0_multiply_89 (fun v89 w89 hp89 => ?_)
  obtain ⟨rfl, hws89, hfr89⟩ := hp89
  obtain ⟨hN89, v89w, hkj89⟩ := hN.stepV (j := 0) (by omega) hws89 hfr89
  replace fx := hkj89.nw hN (by omega) (by omega) fx
  replace fy := hkj89.nw hN (by omega) (by omega) fy
  replace fu := hkj89.nw hN (by omega) (by omega) fu
  replace fv := hkj89.nw hN (by omega) (by omega) fv
  replace gx := hkj89.nw hN (by omega) (by omega) gx
  replace gy := hkj89.nw hN (by omega) (by omega) gy
  replace hK := hK.tr hkj89.kb
  replace hX := hX.tr (hkj89.kx (i := i) (by omega))
  replace hN := hN89
  have v0 := v89w
  refine g_aload_n C dX0_multiply_92 rfl ?_
  refine g_get (ci := 4) C rfl inTX2 2 (by decide) fl_RX0_95 rfl (hQ1.kb hK hN hi) rfl dX0_multiply_93 ?_
  refine g_aload_n C dX0_multiply_96 rfl ?_
  refine g_get (ci := 2) C rfl inTX0 0 (by decide) fl_RX0_12 rfl (hK.ob hN (t := 110) (by omega) hD') rfl dX0_multiply_97 ?_
  refine g_iconst C dX0_multiply_100 ?_
  refine g_callV C (c_X5_addOrTake _ gy v0 (y := 0) (by omega) (hN.ne (j := (5 + 2 * i)) (k := 0) (by omega) (by omega) (by omega)) (hN.neo (j := (5 + 2 * i)) (k := 0) (by omega) (by omega) (by omega)) (by omega)) (ci := 7) rfl (hN.W (j := (5 + 2 * i)) (by omega)).o rfl ml_RX0_39 im_yX5_addOrTake se_RX5_yX5_addOrTake in_RX5 co_yX5_addOrTake hd_X5_addOrTake rfl ⟨by omega, by omega⟩ rfl (Nat.le_of_ble_eq_true rfl) ⟨by omega, by omega⟩ dX0_multiply_101 (fun v101 w101 hp101 => ?_)
  obtain ⟨rfl, hws101, hfr101⟩ := hp101
  obtain ⟨hN101, v101w, hkj101⟩ := hN.stepV (j := (5 + 2 * i)) (by omega) hws101 hfr101
  replace fx := hkj101.nw hN (by omega) (by omega) fx
  replace fy := hkj101.nw hN (by omega) (by omega) fy
  replace fu := hkj101.nw hN (by omega) (by omega) fu
  replace fv := hkj101.nw hN (by omega) (by omega) fv
  replace gx := hkj101.nw hN (by omega) (by omega) gx
  replace v0 := hkj101.nw hN (by omega) (by omega) v0
  replace hK := hK.tr hkj101.kb
  replace hX := hX.tr (hkj101.kx (i := i) (by omega))
  replace hN := hN101
  have gy := v101w
  exact g_return C hQ dX0_multiply_104 (by omega) (by omega) ⟨rfl, hN, ⟨hQ1.kb hK hN hi, gx.eq (by rw [if0, Int.add_zero, Int.mul_comm (y * v) b, Int.add_comm]), gy.eq (if0 _ _)⟩, hX⟩
set_option maxHeartbeats 4000000 in
set_option maxRecDepth 100000 in
theorem s_X0_isReadFromBytes (l : Launch) {E : GE} {w : Wd} {τ ad : Nat → Nat} (hN0 : NS τ ad w) (hD : w.2 (ad 110) = some (true, oD ad)) {j : Nat} (hj : 4 ≤ j ∧ j < 70) : Sp E l yX0_isReadFromBytes cX0_isReadFromBytes 3 (some .boolean) 3 (0) (0) [.ref (ad 110), .ref (wo ad j)] w (fun r' w' => (∃ d : Int, r' = some (iI d) ∧ (d = 0 ∨ d = 1)) ∧ NS τ ad w' ∧ KN τ w w') := by
  refine sp_intro [some (.ref (ad 110)), some (.ref (wo ad j)), none] rfl (Nat.le_of_ble_eq_true rfl) pn_X0 ?_
  intro X C hRm hl hnm hQ
  obtain ⟨hRf, hRl, hRc, hRs⟩ := hRm
  refine g_wf (fun hwf => ?_)
  have hN := hN0
  have hK : KN τ w w := KN.rf _ _
  refine g_aload_n C dX0_isReadFromBytes_0 rfl ?_
  refine g_get (ci := 2) C rfl inTX0 3 (by decide) fl_RX0_24 rfl (hK.ob hN (t := 110) (by omega) hD) rfl dX0_isReadFromBytes_1 ?_
  refine g_aload_n C dX0_isReadFromBytes_4 rfl ?_
  refine g_callV C (s_X5_setWhole _ (hN.W (j := 3) (by omega)) (hN.W (j := j) (by omega)) (hN.ne (j := 3) (k := j) (by omega) (by omega) (by omega))) (ci := 7) rfl (hN.W (j := 3) (by omega)).o rfl ml_RX0_43 im_yX5_setWhole se_RX5_yX5_setWhole in_RX5 co_yX5_setWhole hd_X5_setWhole rfl ⟨by omega, by omega⟩ rfl (Nat.le_of_ble_eq_true rfl) ⟨by omega, by omega⟩ dX0_isReadFromBytes_5 (fun v5 w5 hp5 => ?_)
  obtain ⟨rfl, hws5, hfr5⟩ := hp5
  obtain ⟨hN5, hK5⟩ := hN.step (j := 3) (by omega) hws5 hfr5
  replace hK := hK.tr hK5
  replace hN := hN5
  refine g_iconst C dX0_isReadFromBytes_8 ?_
  refine g_istore_n C dX0_isReadFromBytes_9 (by decide) rfl ?_
  clear hN0
  refine g_loop (σ := Nat × Wd) (fun q => q.1 ≤ 63 ∧ NS τ ad q.2 ∧ KN τ w q.2) (fun q => G E X 3 10 [some (.ref (ad 110)), some (.ref (wo ad j)), some (iI (q.1 : Int))] [] q.2 0 0) (fun q => 63 - q.1) ?_ (0, w5) ⟨by dsimp only; omega, hN, hK⟩
  clear hN hK
  rintro ⟨i, u⟩ hqq ih
  obtain ⟨hi, hN, hK⟩ := hqq
  dsimp only at hi hN hK ⊢
  obtain ⟨g, hg1, hg2⟩ := hN.2.2
  refine g_iload_n C dX0_isReadFromBytes_10 rfl ?_
  refine g_aload_n C dX0_isReadFromBytes_11 rfl ?_
  refine g_get (ci := 2) C rfl inTX0 4 (by decide) fl_RX0_27 rfl (hK.ob hN (t := 110) (by omega) hD) rfl dX0_isReadFromBytes_12 ?_
  refine g_alen C hg1 (Or.inr (Or.inl ⟨_, rfl⟩)) dX0_isReadFromBytes_15 ?_
  refine g_icmp_ge (tgt := 42) C dX0_isReadFromBytes_16 (by decide) (by omega) (by omega) (fun h16 => ?_) (fun h16 => ?_)
  · refine g_aload_n C dX0_isReadFromBytes_42 rfl ?_
    refine g_get (ci := 2) C rfl inTX0 0 (by decide) fl_RX0_12 rfl (hK.ob hN (t := 110) (by omega) hD) rfl dX0_isReadFromBytes_43 ?_
    refine g_lconst (z := 0) C dX0_isReadFromBytes_46 (by decide) ?_
    refine g_callV C (s_X5_setNumber _ (hN.W (j := 0) (by omega)) (x := 0) (by omega)) (ci := 7) rfl (hN.W (j := 0) (by omega)).o rfl ml_RX0_98 im_yX5_setNumber se_RX5_yX5_setNumber in_RX5 co_yX5_setNumber hd_X5_setNumber rfl ⟨by omega, by omega⟩ rfl (Nat.le_of_ble_eq_true rfl) ⟨by omega, by omega⟩ dX0_isReadFromBytes_47 (fun v47 w47 hp47 => ?_)
    obtain ⟨rfl, hws47, hfr47⟩ := hp47
    obtain ⟨hN47, hK47⟩ := hN.step (j := 0) (by omega) hws47 hfr47
    replace hK := hK.tr hK47
    replace hN := hN47
    obtain ⟨g4, hg41, hg42⟩ := hN.2.2
    refine g_aload_n C dX0_isReadFromBytes_50 rfl ?_
    refine g_get (ci := 2) C rfl inTX0 4 (by decide) fl_RX0_27 rfl (hK.ob hN (t := 110) (by omega) hD) rfl dX0_isReadFromBytes_51 ?_
    refine g_alen C hg41 (Or.inr (Or.inl ⟨_, rfl⟩)) dX0_isReadFromBytes_54 ?_
    refine g_iconst C dX0_isReadFromBytes_55 ?_
    refine g_isub C dX0_isReadFromBytes_56 ?_
    refine g_istore_n C dX0_isReadFromBytes_57 (by decide) rfl ?_
    refine g_loop (σ := Int × Wd) (fun q => -1 ≤ q.1 ∧ q.1 ≤ 62 ∧ NS τ ad q.2 ∧ KN τ w q.2) (fun q => G E X 3 58 [some (.ref (ad 110)), some (.ref (wo ad j)), some (iI q.1)] [] q.2 0 0) (fun q => (q.1 + 1).toNat) ?_ (62, w47) ⟨by dsimp only; omega, by dsimp only; omega, hN, hK⟩
    clear hN hK ih
    rintro ⟨z, u5⟩ hqq ih
    obtain ⟨hz0, hz1, hN, hK⟩ := hqq
    dsimp only at hz0 hz1 hN hK ⊢
    obtain ⟨g5, hg51, hg52⟩ := hN.2.2
    refine g_iload_n C dX0_isReadFromBytes_58 rfl ?_
    refine g_if_lt (tgt := 88) C dX0_isReadFromBytes_59 (by decide) (by omega) (fun h59 => ?_) (fun h59 => ?_)
    · refine g_aload_n C dX0_isReadFromBytes_88 rfl ?_
      refine g_get (ci := 2) C rfl inTX0 0 (by decide) fl_RX0_12 rfl (hK.ob hN (t := 110) (by omega) hD) rfl dX0_isReadFromBytes_89 ?_
      refine g_aload_n C dX0_isReadFromBytes_92 rfl ?_
      refine g_callV C (s_X5_compareValue _ (hN.W (j := 0) (by omega)) (hN.W (j := j) (by omega))) (ci := 7) rfl (hN.W (j := 0) (by omega)).o rfl ml_RX0_139 im_yX5_compareValue se_RX5_yX5_compareValue in_RX5 co_yX5_compareValue hd_X5_compareValue rfl ⟨by omega, by omega⟩ rfl (Nat.le_of_ble_eq_true rfl) ⟨by omega, by omega⟩ dX0_isReadFromBytes_93 (fun v93 w93 hp93 => ?_)
      obtain ⟨⟨d93, rfl, hd93⟩, hw93⟩ := hp93
      subst w93
      refine g_if_ne (tgt := 103) C dX0_isReadFromBytes_96 (by decide) (by omega) (fun h96 => ?_) (fun h96 => ?_)
      · refine g_iconst C dX0_isReadFromBytes_103 ?_
        exact g_zreturn C hQ dX0_isReadFromBytes_104 rfl (by omega) (by omega) ⟨⟨_, rfl, by omega⟩, hN, hK⟩
      · refine g_iconst C dX0_isReadFromBytes_99 ?_
        refine g_goto (tgt := 104) C dX0_isReadFromBytes_100 (by decide) ?_
        exact g_zreturn C hQ dX0_isReadFromBytes_104 rfl (by omega) (by omega) ⟨⟨_, rfl, by omega⟩, hN, hK⟩
    · refine g_aload_n C dX0_isReadFromBytes_62 rfl ?_
      refine g_get (ci := 2) C rfl inTX0 0 (by decide) fl_RX0_12 rfl (hK.ob hN (t := 110) (by omega) hD) rfl dX0_isReadFromBytes_63 ?_
      refine g_sipush C dX0_isReadFromBytes_66 (by decide) ?_
      refine g_aload_n C dX0_isReadFromBytes_69 rfl ?_
      refine g_get (ci := 2) C rfl inTX0 4 (by decide) fl_RX0_27 rfl (hK.ob hN (t := 110) (by omega) hD) rfl dX0_isReadFromBytes_70 ?_
      refine g_iload_n C dX0_isReadFromBytes_73 rfl ?_
      refine g_baload C hg51 (by omega) dX0_isReadFromBytes_74 ?_
      refine g_sipush C dX0_isReadFromBytes_75 (by decide) ?_
      refine g_iand (z := g5 z.toNat % 2 ^ 8) C dX0_isReadFromBytes_78 (i_mask 8 (by omega) (by decide)) ?_
      have hm8 : 0 ≤ g5 z.toNat % 2 ^ 8 ∧ g5 z.toNat % 2 ^ 8 < 256 := ⟨Int.emod_nonneg _ (by decide), Int.emod_lt_of_pos _ (by decide)⟩
      refine g_callV C (s_X5_multiplySmall _ (hN.W (j := 0) (by omega)) (by_ := 256) (mo := g5 z.toNat % 2 ^ 8) (by omega) (by omega)) (ci := 7) rfl (hN.W (j := 0) (by omega)).o rfl ml_RX0_35 im_yX5_multiplySmall se_RX5_yX5_multiplySmall in_RX5 co_yX5_multiplySmall hd_X5_multiplySmall rfl ⟨by omega, by omega⟩ rfl (Nat.le_of_ble_eq_true rfl) ⟨by omega, by omega⟩ dX0_isReadFromBytes_79 (fun v79 w79 hp79 => ?_)
      obtain ⟨rfl, hws79, hfr79⟩ := hp79
      obtain ⟨hN79, hK79⟩ := hN.step (j := 0) (by omega) hws79 hfr79
      replace hK := hK.tr hK79
      replace hN := hN79
      refine g_iinc C dX0_isReadFromBytes_82 rfl (by decide) rfl ?_
      refine g_goto (tgt := 58) C dX0_isReadFromBytes_85 (by decide) ?_
      exact ih (z + -1, w79) ⟨by dsimp only; omega, by dsimp only; omega, hN, hK⟩ (by dsimp only; omega)
  · refine g_aload_n C dX0_isReadFromBytes_19 rfl ?_
    refine g_get (ci := 2) C rfl inTX0 4 (by decide) fl_RX0_27 rfl (hK.ob hN (t := 110) (by omega) hD) rfl dX0_isReadFromBytes_20 ?_
    refine g_iload_n C dX0_isReadFromBytes_23 rfl ?_
    refine g_aload_n C dX0_isReadFromBytes_24 rfl ?_
    refine g_get (ci := 2) C rfl inTX0 3 (by decide) fl_RX0_24 rfl (hK.ob hN (t := 110) (by omega) hD) rfl dX0_isReadFromBytes_25 ?_
    refine g_sipush C dX0_isReadFromBytes_28 (by decide) ?_
    refine g_callV C (s_X5_divideSmall _ (hN.W (j := 3) (by omega)) (y := 256) (by omega)) (ci := 7) rfl (hN.W (j := 3) (by omega)).o rfl ml_RX0_72 im_yX5_divideSmall se_RX5_yX5_divideSmall in_RX5 co_yX5_divideSmall hd_X5_divideSmall rfl ⟨by omega, by omega⟩ rfl (Nat.le_of_ble_eq_true rfl) ⟨by omega, by omega⟩ dX0_isReadFromBytes_31 (fun v31 w31 hp31 => ?_)
    obtain ⟨⟨d31, rfl, hd31⟩, hp31⟩ := hp31
    replace hp31 : True ∧ _ := ⟨trivial, hp31⟩
    obtain ⟨-, hws31, hfr31⟩ := hp31
    obtain ⟨hN31, hK31⟩ := hN.step (j := 3) (by omega) hws31 hfr31
    replace hK := hK.tr hK31
    replace hN := hN31
    obtain ⟨g3, hg31, hg32⟩ := hN.2.2
    obtain ⟨z34, hz34, -⟩ := b_nar (Int32.ofInt d31)
    obtain ⟨y35, hy35, hy351, hy352⟩ := b_nar (Int32.ofInt z34)
    refine g_i2b (z := z34) C dX0_isReadFromBytes_34 hz34 ?_
    refine g_bastore C hg31 (by omega) hy35 dX0_isReadFromBytes_35 ?_
    refine g_iinc C dX0_isReadFromBytes_36 rfl (by decide) rfl ?_
    refine g_goto (tgt := 10) C dX0_isReadFromBytes_39 (by decide) ?_
    have hb9 : bF (iup g3 i y35) := fun q => by
      unfold iup
      split
      · exact ⟨hy351, hy352⟩
      · exact hg32 q
    obtain ⟨hN9, hK9, -⟩ := hN.bytes hb9
    exact ih (i + 1, wset w31 (ad 340) (true, eB 63 (iup g3 i y35))) ⟨by dsimp only; omega, hN9, hK.tr hK9⟩ (by dsimp only; omega)
