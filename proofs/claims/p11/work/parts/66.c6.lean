theorem j_shl28 (x : Int) : Int64.ofInt x <<< ((Int32.ofInt 28).toInt64 &&& 63) = Int64.ofInt (x * 268435456) := by
  apply Int64.toBitVec_inj.mp
  rw [Int64.toBitVec_shiftLeft]
  have hD : (((Int32.ofInt 28).toInt64 &&& 63).toBitVec.smod 64).toNat = 28 := by decide
  show BitVec.ofInt 64 x <<< (((Int32.ofInt 28).toInt64 &&& 63).toBitVec.smod 64) = BitVec.ofInt 64 (x * 268435456)
  rw [BitVec.shiftLeft_eq', hD, BitVec.shiftLeft_eq_mul_twoPow, BitVec.ofInt_mul]
  congr 1
theorem mxn {x : Int} {N : Nat} (h : x ≤ N) : ∃ m : Nat, m ≤ N ∧ (if (0 : Int) < x then x else 0) = (m : Int) := by
  refine ⟨x.toNat, by omega, ?_⟩
  split <;> omega
theorem dv28 (m : Nat) : ((m : Int) / 28 = ((m / 28 : Nat) : Int)) ∧ ((m : Int) % 28 = ((m % 28 : Nat) : Int)) := ⟨by simp, by simp⟩
theorem div28 {c x y : Int} (hc : 0 ≤ c ∧ c < y) (hx : 0 ≤ x ∧ x < B28) : 0 ≤ (c * 268435456 + x) / y ∧ (c * 268435456 + x) / y < B28 ∧ 0 ≤ (c * 268435456 + x) % y ∧ (c * 268435456 + x) % y < y := by
  have hB28 : B28 = 268435456 := rfl
  refine ⟨Int.ediv_nonneg (by omega) (by omega), Int.ediv_lt_of_lt_mul (by omega) ?_, Int.emod_nonneg _ (by omega), Int.emod_lt_of_pos _ (by omega)⟩
  rw [hB28]
  omega
set_option maxHeartbeats 4000000 in
set_option maxRecDepth 100000 in
theorem s_X5_multiplySmall (l : Launch) {E : GE} {w : Wd} {a r : Nat} (hW : WS w a r) {by_ mo : Int} (hby : 0 ≤ by_ ∧ by_ ≤ 1000) (hmo : -1000 ≤ mo ∧ mo ≤ 1000) : Sp E l yX5_multiplySmall cX5_multiplySmall 7 none 1 (0) (0) [.ref a, iI by_, iI mo] w (fun r' w' => r' = none ∧ WS w' a r ∧ FrW w w' a r) := by
  refine sp_intro [some (.ref a), some (iI by_), some (iI mo), none, none, none, none] rfl (Nat.le_of_ble_eq_true rfl) pn_X5 ?_
  intro X C hRm hl hnm hQ
  obtain ⟨hRf, hRl, hRc, hRs⟩ := hRm
  refine g_wf (fun hwf => ?_)
  have hB28 : B28 = 268435456 := rfl
  obtain ⟨f, u, bl, hO, hR, hf, hu18, hbl⟩ := id hW
  have hne := oI_ne hO hR
  obtain ⟨e, he1, he2, he3⟩ := mn18 (u + 1)
  refine g_bipush C dX5_multiplySmall_0 (by decide) ?_
  refine g_aload_n C dX5_multiplySmall_2 rfl ?_
  refine g_get (ci := 7) C rfl inTX5 1 (by decide) fl_RX5_17 rfl hO rfl dX5_multiplySmall_3 ?_
  refine g_iconst C dX5_multiplySmall_6 ?_
  refine g_iadd C dX5_multiplySmall_7 ?_
  rw [show (u : Int) + 1 = ((u + 1 : Nat) : Int) by omega]
  refine g_min C ml_RX5_66 (by omega) (by omega) (by omega) (by omega) (Nat.le_of_ble_eq_true rfl) (by omega) dX5_multiplySmall_8 ?_
  rw [he3]
  refine g_istore_n C dX5_multiplySmall_11 (by decide) rfl ?_
  refine g_iload_n C dX5_multiplySmall_12 rfl ?_
  refine g_i2l C dX5_multiplySmall_13 (by omega) ?_
  refine g_lstore C dX5_multiplySmall_14 (by decide) rfl ?_
  refine g_iconst C dX5_multiplySmall_16 ?_
  refine g_istore C dX5_multiplySmall_17 (by decide) rfl ?_
  suffices hh : G E X 7 19 [some (.ref a), some (iI by_), some (iI mo), some (iI (e : Int)), some (jJ mo), none, some (iI ((0 : Nat) : Int))] [] (wset w r (true, eI 18 f)) 0 0 by rw [wset_id hR] at hh; exact hh
  refine g_loop (σ := Nat × Int × (Nat → Int)) (fun t => t.1 ≤ e ∧ (-1000 ≤ t.2.1 ∧ t.2.1 < 68719476736) ∧ DC t.2.2) (fun t => G E X 7 19 [some (.ref a), some (iI by_), some (iI mo), some (iI (e : Int)), some (jJ t.2.1), none, some (iI (t.1 : Int))] [] (wset w r (true, eI 18 t.2.2)) 0 0) (fun t => e - t.1) ?_ (0, mo, f) ⟨Nat.zero_le _, by dsimp only; omega, hf⟩
  rintro ⟨j, c, h⟩ hq ih
  obtain ⟨hj, hc, hdh⟩ := hq
  dsimp only at hj hc hdh ⊢
  have hOk : (wset w r (true, eI 18 h)).2 a = some (true, oW r u bl) := by rw [wset_n hne]; exact hO
  refine g_iload C dX5_multiplySmall_19 rfl ?_
  refine g_iload_n C dX5_multiplySmall_21 rfl ?_
  refine g_icmp_ge (tgt := 68) C dX5_multiplySmall_22 (by decide) (by omega) (by omega) (fun h22 => ?_) (fun h22 => ?_)
  · refine g_aload_n C dX5_multiplySmall_68 rfl ?_
    refine g_iload_n C dX5_multiplySmall_69 rfl ?_
    refine g_callV C (s_X5_trim _ (p := e) hOk wset_s hdh he1 hbl) (ci := 7) rfl hOk rfl ml_RX5_30 im_yX5_trim se_RX5_yX5_trim in_RX5 co_yX5_trim hd_X5_trim rfl ⟨by omega, by omega⟩ rfl (Nat.le_of_ble_eq_true rfl) ⟨by omega, by omega⟩ dX5_multiplySmall_70 (fun v70 w70 hp70 => ?_)
    obtain ⟨rfl, hw9, fr9⟩ := hp70
    exact g_return C hQ dX5_multiplySmall_73 (Nat.le_refl _) (Nat.le_refl _) ⟨rfl, hw9, ⟨fr9.1, fun x h3 h4 => by rw [fr9.2 x h3, wset_n h4]⟩⟩
  · have hhj := hdh j (by omega)
    have hmb : 0 ≤ h j * by_ ∧ h j * by_ ≤ 268435456 * 1000 := ⟨Int.mul_nonneg hhj.1 hby.1, Int.mul_le_mul (by omega) hby.2 hby.1 (by decide)⟩
    have hm28 := mod28 (c + h j * by_)
    obtain ⟨z59, hz59, hz59a, hz59b⟩ := ushr28 (c + h j * by_)
    refine g_lload C dX5_multiplySmall_25 rfl ?_
    refine g_aload_n C dX5_multiplySmall_27 rfl ?_
    refine g_get (ci := 7) C rfl inTX5 0 (by decide) fl_RX5_9 rfl hOk rfl dX5_multiplySmall_28 ?_
    refine g_iload C dX5_multiplySmall_31 rfl ?_
    refine g_ialoadN (j) C wset_s (by omega) (by omega) dX5_multiplySmall_33 ?_
    refine g_i2l C dX5_multiplySmall_34 (by omega) ?_
    refine g_iload_n C dX5_multiplySmall_35 rfl ?_
    refine g_i2l C dX5_multiplySmall_36 (by omega) ?_
    refine g_lmul C dX5_multiplySmall_37 ?_
    refine g_ladd C dX5_multiplySmall_38 ?_
    refine g_lstore C dX5_multiplySmall_39 (by decide) rfl ?_
    refine g_aload_n C dX5_multiplySmall_41 rfl ?_
    refine g_get (ci := 7) C rfl inTX5 0 (by decide) fl_RX5_9 rfl hOk rfl dX5_multiplySmall_42 ?_
    refine g_iload C dX5_multiplySmall_45 rfl ?_
    refine g_lload C dX5_multiplySmall_47 rfl ?_
    refine g_ldc2 (z := 268435455) C kj_RX5_28 (by decide) dX5_multiplySmall_49 ?_
    refine g_land (z := (c + h j * by_) % B28) C dX5_multiplySmall_52 (j_mask 28 (by omega) mask28) ?_
    refine g_l2i C dX5_multiplySmall_53 ?_
    refine g_iastoreN (j) C wset_s (by omega) (by omega) dX5_multiplySmall_54 ?_
    rw [wset_set]
    refine g_lload C dX5_multiplySmall_55 rfl ?_
    refine g_bipush C dX5_multiplySmall_57 (by decide) ?_
    refine g_lushr (z := z59) C dX5_multiplySmall_59 hz59 ?_
    refine g_lstore C dX5_multiplySmall_60 (by decide) rfl ?_
    refine g_iinc C dX5_multiplySmall_62 rfl (by decide) rfl ?_
    refine g_goto (tgt := 19) C dX5_multiplySmall_65 (by decide) ?_
    exact ih (j + 1, z59, iup h j ((c + h j * by_) % B28)) ⟨by dsimp only; omega, by dsimp only; omega, hdh.up _ hm28⟩ (by dsimp only; omega)
set_option maxHeartbeats 4000000 in
set_option maxRecDepth 100000 in
theorem s_X5_divideSmall (l : Launch) {E : GE} {w : Wd} {a r : Nat} (hW : WS w a r) {y : Int} (hy : 1 ≤ y ∧ y ≤ 1000) : Sp E l yX5_divideSmall cX5_divideSmall 7 (some .int) 1 (0) (0) [.ref a, iI y] w (fun r' w' => (∃ d : Int, r' = some (iI d) ∧ 0 ≤ d ∧ d < y) ∧ WS w' a r ∧ FrW w w' a r) := by
  refine sp_intro [some (.ref a), some (iI y), none, none, none, none, none] rfl (Nat.le_of_ble_eq_true rfl) pn_X5 ?_
  intro X C hRm hl hnm hQ
  obtain ⟨hRf, hRl, hRc, hRs⟩ := hRm
  refine g_wf (fun hwf => ?_)
  have hB28 : B28 = 268435456 := rfl
  obtain ⟨f, u, bl, hO, hR, hf, hu18, hbl⟩ := id hW
  have hne := oI_ne hO hR
  obtain ⟨e, he1, he2, he3⟩ := mn18 u
  refine g_iload_n C dX5_divideSmall_0 rfl ?_
  refine g_iconst C dX5_divideSmall_1 ?_
  refine g_icmp_ge (tgt := 7) C dX5_divideSmall_2 (by decide) (by omega) (by omega) (fun h2 => ?_) (fun h2 => ?_)
  · refine g_lconst (z := 0) C dX5_divideSmall_7 (by decide) ?_
    refine g_lstore_n C dX5_divideSmall_8 (by decide) rfl ?_
    refine g_bipush C dX5_divideSmall_9 (by decide) ?_
    refine g_aload_n C dX5_divideSmall_11 rfl ?_
    refine g_get (ci := 7) C rfl inTX5 1 (by decide) fl_RX5_17 rfl hO rfl dX5_divideSmall_12 ?_
    refine g_min C ml_RX5_66 (by omega) (by omega) (by omega) (by omega) (Nat.le_of_ble_eq_true rfl) (by omega) dX5_divideSmall_15 ?_
    rw [he3]
    refine g_iconst C dX5_divideSmall_18 ?_
    refine g_isub C dX5_divideSmall_19 ?_
    refine g_istore C dX5_divideSmall_20 (by decide) rfl ?_
    suffices hh : G E X 7 22 [some (.ref a), some (iI y), some (jJ 0), none, some (iI ((e : Int) - 1)), none, none] [] (wset w r (true, eI 18 f)) 0 0 by rw [wset_id hR] at hh; exact hh
    refine g_loop (σ := Int × Int × (Nat → Int)) (fun t => -1 ≤ t.1 ∧ t.1 ≤ 17 ∧ (0 ≤ t.2.1 ∧ t.2.1 < y) ∧ DC t.2.2) (fun t => G E X 7 22 [some (.ref a), some (iI y), some (jJ t.2.1), none, some (iI t.1), none, none] [] (wset w r (true, eI 18 t.2.2)) 0 0) (fun t => (t.1 + 1).toNat) ?_ ((e : Int) - 1, 0, f) ⟨by dsimp only; omega, by dsimp only; omega, by dsimp only; omega, hf⟩
    rintro ⟨k, c, h⟩ hq ih
    obtain ⟨hk0, hk1, hc, hdh⟩ := hq
    dsimp only at hk0 hk1 hc hdh ⊢
    have hOk : (wset w r (true, eI 18 h)).2 a = some (true, oW r u bl) := by rw [wset_n hne]; exact hO
    refine g_iload C dX5_divideSmall_22 rfl ?_
    refine g_if_lt (tgt := 67) C dX5_divideSmall_24 (by decide) (by omega) (fun h24 => ?_) (fun h24 => ?_)
    · refine g_aload_n C dX5_divideSmall_67 rfl ?_
      refine g_aload_n C dX5_divideSmall_68 rfl ?_
      refine g_get (ci := 7) C rfl inTX5 1 (by decide) fl_RX5_17 rfl hOk rfl dX5_divideSmall_69 ?_
      refine g_callV C (s_X5_trim _ (p := u) hOk wset_s hdh hu18 hbl) (ci := 7) rfl hOk rfl ml_RX5_30 im_yX5_trim se_RX5_yX5_trim in_RX5 co_yX5_trim hd_X5_trim rfl ⟨by omega, by omega⟩ rfl (Nat.le_of_ble_eq_true rfl) ⟨by omega, by omega⟩ dX5_divideSmall_72 (fun v72 w72 hp72 => ?_)
      obtain ⟨rfl, hw9, fr9⟩ := hp72
      refine g_lload_n C dX5_divideSmall_75 rfl ?_
      refine g_l2i C dX5_divideSmall_76 ?_
      exact g_ireturn C hQ dX5_divideSmall_77 (Nat.le_refl _) (Nat.le_refl _) ⟨⟨c, rfl, hc.1, hc.2⟩, hw9, ⟨fr9.1, fun x h3 h4 => by rw [fr9.2 x h3, wset_n h4]⟩⟩
    · have hhj := hdh k.toNat (by omega)
      have hdv := div28 hc hhj
      refine g_lload_n C dX5_divideSmall_27 rfl ?_
      refine g_bipush C dX5_divideSmall_28 (by decide) ?_
      refine g_lshl (z := c * 268435456) C dX5_divideSmall_30 (j_shl28 c) ?_
      refine g_aload_n C dX5_divideSmall_31 rfl ?_
      refine g_get (ci := 7) C rfl inTX5 0 (by decide) fl_RX5_9 rfl hOk rfl dX5_divideSmall_32 ?_
      refine g_iload C dX5_divideSmall_35 rfl ?_
      refine g_iaload C wset_s (by omega) dX5_divideSmall_37 ?_
      refine g_i2l C dX5_divideSmall_38 (by omega) ?_
      refine g_ladd C dX5_divideSmall_39 ?_
      refine g_lstore C dX5_divideSmall_40 (by decide) rfl ?_
      refine g_aload_n C dX5_divideSmall_42 rfl ?_
      refine g_get (ci := 7) C rfl inTX5 0 (by decide) fl_RX5_9 rfl hOk rfl dX5_divideSmall_43 ?_
      refine g_iload C dX5_divideSmall_46 rfl ?_
      refine g_lload C dX5_divideSmall_48 rfl ?_
      refine g_iload_n C dX5_divideSmall_50 rfl ?_
      refine g_i2l C dX5_divideSmall_51 (by omega) ?_
      refine g_ldivN C dX5_divideSmall_52 (by omega) (by omega) ?_
      refine g_l2i C dX5_divideSmall_53 ?_
      refine g_iastore C wset_s (by omega) dX5_divideSmall_54 ?_
      rw [wset_set]
      refine g_lload C dX5_divideSmall_55 rfl ?_
      refine g_iload_n C dX5_divideSmall_57 rfl ?_
      refine g_i2l C dX5_divideSmall_58 (by omega) ?_
      refine g_lremN C dX5_divideSmall_59 (by omega) (by omega) ?_
      refine g_lstore_n C dX5_divideSmall_60 (by decide) rfl ?_
      refine g_iinc C dX5_divideSmall_61 rfl (by decide) rfl ?_
      refine g_goto (tgt := 22) C dX5_divideSmall_64 (by decide) ?_
      refine g_drop 5 ?_
      exact ih (k + -1, (c * 268435456 + h k.toNat) % y, iup h k.toNat ((c * 268435456 + h k.toNat) / y)) ⟨by dsimp only; omega, by dsimp only; omega, ⟨hdv.2.2.1, hdv.2.2.2⟩, hdh.up _ ⟨hdv.1, hdv.2.1⟩⟩ (by dsimp only; omega)
  · omega
set_option maxHeartbeats 4000000 in
set_option maxRecDepth 100000 in
theorem s_X5_shiftUp (l : Launch) {E : GE} {w : Wd} {a r : Nat} (hW : WS w a r) {mn : Int} (hmn : -2000 ≤ mn ∧ mn ≤ 2000) : Sp E l yX5_shiftUp cX5_shiftUp 9 none 1 (0) (0) [.ref a, iI mn] w (fun r' w' => r' = none ∧ WS w' a r ∧ FrW w w' a r) := by
  refine sp_intro [some (.ref a), some (iI mn), none, none, none, none, none, none, none] rfl (Nat.le_of_ble_eq_true rfl) pn_X5 ?_
  intro X C hRm hl hnm hQ
  obtain ⟨hRf, hRl, hRc, hRs⟩ := hRm
  refine g_wf (fun hwf => ?_)
  have hB28 : B28 = 268435456 := rfl
  obtain ⟨f, u, bl, hO, hR, hf, hu18, hbl⟩ := id hW
  have hne := oI_ne hO hR
  obtain ⟨mm, hmm, hmx⟩ := mxn (x := mn) (N := 2000) (by omega)
  obtain ⟨hD, hB⟩ := dv28 mm
  have hD9 : mm / 28 ≤ 72 := by omega
  have hB9 : mm % 28 ≤ 27 := by omega
  generalize mm / 28 = D at hD hD9
  generalize mm % 28 = Bt at hB hB9
  obtain ⟨e, he1, he2, he3⟩ := mn18 (u + D + 1)
  refine g_iconst C dX5_shiftUp_0 ?_
  refine g_iload_n C dX5_shiftUp_1 rfl ?_
  refine g_max C ml_RX5_60 (by omega) (by omega) (by omega) (by omega) (Nat.le_of_ble_eq_true rfl) (by omega) dX5_shiftUp_2 ?_
  rw [hmx]
  refine g_bipush C dX5_shiftUp_5 (by decide) ?_
  refine g_idivN C dX5_shiftUp_7 (by omega) (by omega) ?_
  rw [hD]
  refine g_istore_n C dX5_shiftUp_8 (by decide) rfl ?_
  refine g_iconst C dX5_shiftUp_9 ?_
  refine g_iload_n C dX5_shiftUp_10 rfl ?_
  refine g_max C ml_RX5_60 (by omega) (by omega) (by omega) (by omega) (Nat.le_of_ble_eq_true rfl) (by omega) dX5_shiftUp_11 ?_
  rw [hmx]
  refine g_bipush C dX5_shiftUp_14 (by decide) ?_
  refine g_iremN C dX5_shiftUp_16 (by omega) (by omega) ?_
  rw [hB]
  refine g_istore_n C dX5_shiftUp_17 (by decide) rfl ?_
  refine g_bipush C dX5_shiftUp_18 (by decide) ?_
  refine g_aload_n C dX5_shiftUp_20 rfl ?_
  refine g_get (ci := 7) C rfl inTX5 1 (by decide) fl_RX5_17 rfl hO rfl dX5_shiftUp_21 ?_
  refine g_iload_n C dX5_shiftUp_24 rfl ?_
  refine g_iadd C dX5_shiftUp_25 ?_
  refine g_iconst C dX5_shiftUp_26 ?_
  refine g_iadd C dX5_shiftUp_27 ?_
  rw [show (u : Int) + (D : Int) + 1 = ((u + D + 1 : Nat) : Int) by omega]
  refine g_min C ml_RX5_66 (by omega) (by omega) (by omega) (by omega) (Nat.le_of_ble_eq_true rfl) (by omega) dX5_shiftUp_28 ?_
  rw [he3]
  refine g_istore C dX5_shiftUp_31 (by decide) rfl ?_
  refine g_iload C dX5_shiftUp_33 rfl ?_
  refine g_iconst C dX5_shiftUp_35 ?_
  refine g_isub C dX5_shiftUp_36 ?_
  refine g_istore C dX5_shiftUp_37 (by decide) rfl ?_
  suffices hh : G E X 9 39 [some (.ref a), some (iI mn), some (iI (D : Int)), some (iI (Bt : Int)), some (iI (e : Int)), some (iI ((e : Int) - 1)), none, none, none] [] (wset w r (true, eI 18 f)) 0 0 by rw [wset_id hR] at hh; exact hh
  refine g_loop (σ := Int × (Nat → Int)) (fun t => -1 ≤ t.1 ∧ t.1 ≤ 17 ∧ DC t.2) (fun t => G E X 9 39 [some (.ref a), some (iI mn), some (iI (D : Int)), some (iI (Bt : Int)), some (iI (e : Int)), some (iI t.1), none, none, none] [] (wset w r (true, eI 18 t.2)) 0 0) (fun t => (t.1 + 1).toNat) ?_ ((e : Int) - 1, f) ⟨by dsimp only; omega, by dsimp only; omega, hf⟩
  rintro ⟨k, h⟩ hq ih
  obtain ⟨hk0, hk1, hdh⟩ := hq
  dsimp only at hk0 hk1 hdh ⊢
  have hOk : (wset w r (true, eI 18 h)).2 a = some (true, oW r u bl) := by rw [wset_n hne]; exact hO
  refine g_iload C dX5_shiftUp_39 rfl ?_
  refine g_if_lt (tgt := 117) C dX5_shiftUp_41 (by decide) (by omega) (fun h41 => ?_) (fun h41 => ?_)
  · refine g_aload_n C dX5_shiftUp_117 rfl ?_
    refine g_iload C dX5_shiftUp_118 rfl ?_
    refine g_callV C (s_X5_trim _ (p := e) hOk wset_s hdh he1 hbl) (ci := 7) rfl hOk rfl ml_RX5_30 im_yX5_trim se_RX5_yX5_trim in_RX5 co_yX5_trim hd_X5_trim rfl ⟨by omega, by omega⟩ rfl (Nat.le_of_ble_eq_true rfl) ⟨by omega, by omega⟩ dX5_shiftUp_120 (fun v120 w120 hp120 => ?_)
    obtain ⟨rfl, hw9, fr9⟩ := hp120
    exact g_return C hQ dX5_shiftUp_123 (Nat.le_refl _) (Nat.le_refl _) ⟨rfl, hw9, ⟨fr9.1, fun x h3 h4 => by rw [fr9.2 x h3, wset_n h4]⟩⟩
  · refine g_iload C dX5_shiftUp_44 rfl ?_
    refine g_iload_n C dX5_shiftUp_46 rfl ?_
    refine g_isub C dX5_shiftUp_47 ?_
    refine g_istore C dX5_shiftUp_48 (by decide) rfl ?_
    have J68 : ∀ x : Int, G E X 9 68 [some (.ref a), some (iI mn), some (iI (D : Int)), some (iI (Bt : Int)), some (iI (e : Int)), some (iI k), some (iI (k - (D : Int))), none, none] [iI x] (wset w r (true, eI 18 h)) 0 0 := by
      intro x
      refine g_istore C dX5_shiftUp_68 (by decide) rfl ?_
      have J94 : ∀ y : Int, 0 ≤ y ∧ y < B28 → G E X 9 94 [some (.ref a), some (iI mn), some (iI (D : Int)), some (iI (Bt : Int)), some (iI (e : Int)), some (iI k), some (iI (k - (D : Int))), some (iI x), none] [iI y] (wset w r (true, eI 18 h)) 0 0 := by
        intro y hy
        obtain ⟨z109, hz109, hz109a, hz109b⟩ := or28 (mod28 x) hy
        refine g_istore C dX5_shiftUp_94 (by decide) rfl ?_
        refine g_aload_n C dX5_shiftUp_96 rfl ?_
        refine g_get (ci := 7) C rfl inTX5 0 (by decide) fl_RX5_9 rfl hOk rfl dX5_shiftUp_97 ?_
        refine g_iload C dX5_shiftUp_100 rfl ?_
        refine g_iload C dX5_shiftUp_102 rfl ?_
        refine g_ldc (z := 268435455) C ko_RX5_69 (by decide) dX5_shiftUp_104 ?_
        refine g_iand (z := x % B28) C dX5_shiftUp_106 (i_mask 28 (by omega) mask28) ?_
        refine g_iload C dX5_shiftUp_107 rfl ?_
        refine g_ior (z := z109) C dX5_shiftUp_109 hz109 ?_
        refine g_iastore C wset_s (by omega) dX5_shiftUp_110 ?_
        rw [wset_set]
        refine g_iinc C dX5_shiftUp_111 rfl (by decide) rfl ?_
        refine g_goto (tgt := 39) C dX5_shiftUp_114 (by decide) ?_
        refine g_drop 8 ?_
        refine g_drop 7 ?_
        refine g_drop 6 ?_
        exact ih (k + -1, iup h k.toNat z109) ⟨by dsimp only; omega, by dsimp only; omega, hdh.up _ ⟨hz109a, hz109b⟩⟩ (by dsimp only; omega)
      refine g_iload C dX5_shiftUp_70 rfl ?_
      refine g_iconst C dX5_shiftUp_72 ?_
      refine g_icmp_lt (tgt := 93) C dX5_shiftUp_73 (by decide) (by omega) (by omega) (fun h73 => ?_) (fun h73 => ?_)
      · refine g_iconst C dX5_shiftUp_93 ?_
        first
        | exact J94 _ ⟨Int.ediv_nonneg hhl.1 (Int.le_of_lt (Int.pow_pos (by decide))), Int.lt_of_le_of_lt (Int.ediv_le_self _ hhl.1) hhl.2⟩
        | exact J94 0 (by omega)
      · have hhl := hdh (k - (D : Int) - 1).toNat (by omega)
        refine g_aload_n C dX5_shiftUp_76 rfl ?_
        refine g_get (ci := 7) C rfl inTX5 0 (by decide) fl_RX5_9 rfl hOk rfl dX5_shiftUp_77 ?_
        refine g_iload C dX5_shiftUp_80 rfl ?_
        refine g_iconst C dX5_shiftUp_82 ?_
        refine g_isub C dX5_shiftUp_83 ?_
        refine g_iaload C wset_s (by omega) dX5_shiftUp_84 ?_
        refine g_bipush C dX5_shiftUp_85 (by decide) ?_
        refine g_iload_n C dX5_shiftUp_87 rfl ?_
        refine g_isub C dX5_shiftUp_88 ?_
        rw [show (28 : Int) - (Bt : Int) = ((28 - Bt : Nat) : Int) by omega]
        refine g_iushr (z := h (k - (D : Int) - 1).toNat / 2 ^ (28 - Bt)) C dX5_shiftUp_89 (i_ushr (28 - Bt) (by omega) (by omega) (shd28 (28 - Bt) (by omega))) ?_
        refine g_goto (tgt := 94) C dX5_shiftUp_90 (by decide) ?_
        first
        | exact J94 _ ⟨Int.ediv_nonneg hhl.1 (Int.le_of_lt (Int.pow_pos (by decide))), Int.lt_of_le_of_lt (Int.ediv_le_self _ hhl.1) hhl.2⟩
        | exact J94 0 (by omega)
    refine g_iload C dX5_shiftUp_50 rfl ?_
    refine g_if_lt (tgt := 67) C dX5_shiftUp_52 (by decide) (by omega) (fun h52 => ?_) (fun h52 => ?_)
    · refine g_iconst C dX5_shiftUp_67 ?_
      exact J68 _
    · refine g_aload_n C dX5_shiftUp_55 rfl ?_
      refine g_get (ci := 7) C rfl inTX5 0 (by decide) fl_RX5_9 rfl hOk rfl dX5_shiftUp_56 ?_
      refine g_iload C dX5_shiftUp_59 rfl ?_
      refine g_iaload C wset_s (by omega) dX5_shiftUp_61 ?_
      refine g_iload_n C dX5_shiftUp_62 rfl ?_
      refine g_ishl (z := h (k - (D : Int)).toNat * 2 ^ Bt) C dX5_shiftUp_63 (i_shl Bt (by omega)) ?_
      refine g_goto (tgt := 68) C dX5_shiftUp_64 (by decide) ?_
      exact J68 _
set_option maxHeartbeats 4000000 in
set_option maxRecDepth 100000 in
theorem s_X5_setWhole (l : Launch) {E : GE} {w : Wd} {a r b s : Nat} (h1 : WS w a r) (h2 : WS w b s) (hrs : r ≠ s) : Sp E l yX5_setWhole cX5_setWhole 2 none 1 (0) (0) [.ref a, .ref b] w (fun r' w' => r' = none ∧ WS w' a r ∧ FrW w w' a r) := by
  refine sp_intro [some (.ref a), some (.ref b)] rfl (Nat.le_of_ble_eq_true rfl) pn_X5 ?_
  intro X C hRm hl hnm hQ
  obtain ⟨hRf, hRl, hRc, hRs⟩ := hRm
  refine g_wf (fun hwf => ?_)
  have hB28 : B28 = 268435456 := rfl
  obtain ⟨f, u, bl, hO, hR, hf, hu18, hbl⟩ := id h1
  obtain ⟨g, v, bm, hO2, hR2, hg, hv18, hbm⟩ := id h2
  have hne := oI_ne hO hR
  have hne2 := oI_ne hO2 hR2
  have hn12 := oI_ne hO hR2
  have hn21 := oI_ne hO2 hR
  have hcp : DC (cpyI g f (0 : Int).toNat (0 : Int).toNat (18 : Int).toNat) := fun i hi => by
    have e : cpyI g f (0 : Int).toNat (0 : Int).toNat (18 : Int).toNat i = g i := by
      show (if 0 ≤ i ∧ i < 0 + 18 then g (0 + (i - 0)) else f i) = g i
      rw [if_pos ⟨Nat.zero_le _, by omega⟩, Nat.zero_add, Nat.sub_zero]
    rw [e]; exact hg i hi
  have hab := oo_ne hO hO2 hrs
  refine g_aload_n C dX5_setWhole_0 rfl ?_
  refine g_get (ci := 7) C rfl inTX5 0 (by decide) fl_RX5_9 rfl hO2 rfl dX5_setWhole_1 ?_
  refine g_iconst C dX5_setWhole_4 ?_
  refine g_aload_n C dX5_setWhole_5 rfl ?_
  refine g_get (ci := 7) C rfl inTX5 0 (by decide) fl_RX5_9 rfl hO rfl dX5_setWhole_6 ?_
  refine g_iconst C dX5_setWhole_9 ?_
  refine g_bipush C dX5_setWhole_10 (by decide) ?_
  refine g_acopyI C (f := g) (g := f) ⟨hR2, hR, by omega⟩ ml_RX5_34 (by omega) (by omega) (Nat.le_of_ble_eq_true rfl) dX5_setWhole_12 ?_
  refine g_aload_n C dX5_setWhole_15 rfl ?_
  refine g_aload_n C dX5_setWhole_16 rfl ?_
  refine g_get (ci := 7) C rfl inTX5 1 (by decide) fl_RX5_17 rfl (by rw [wset_n hn21]; exact hO2) rfl dX5_setWhole_17 ?_
  refine g_put (ci := 7) C rfl inTX5 tyX5 tyX5_ok nmX5 1 (by decide) fl_RX5_17 rfl rfl (by rw [wset_n hne]; exact hO) (Nat.le_of_ble_eq_true rfl) rfl rfl dX5_setWhole_20 ?_
  refine g_aload_n C dX5_setWhole_23 rfl ?_
  refine g_aload_n C dX5_setWhole_24 rfl ?_
  refine g_get (ci := 7) C rfl inTX5 2 (by decide) fl_RX5_13 rfl (by rw [wset_n (Ne.symm hab), wset_n hn21]; exact hO2) rfl dX5_setWhole_25 ?_
  refine g_put (ci := 7) C rfl inTX5 tyX5 tyX5_ok nmX5 2 (by decide) fl_RX5_13 rfl rfl wset_s (Nat.le_of_ble_eq_true rfl) (by rcases hbm with c | c <;> (rw [c]; rfl)) (by rcases hbm with c | c <;> (rw [c]; rfl)) dX5_setWhole_28 ?_
  exact g_return C hQ dX5_setWhole_31 (Nat.le_refl _) (Nat.le_refl _) ⟨rfl, ⟨_, v, bm, wset_s, by rw [wset_n (Ne.symm hne), wset_n (Ne.symm hne)]; exact wset_s, hcp, hv18, hbm⟩, (((FrW.rf w a r).set (Or.inr rfl) _).set (Or.inl rfl) _).set (Or.inl rfl) _⟩
set_option maxHeartbeats 4000000 in
set_option maxRecDepth 100000 in
theorem s_X5_setNumber (l : Launch) {E : GE} {w : Wd} {a r : Nat} (hW : WS w a r) {x : Int} (hx : -9223372036854775808 ≤ x ∧ x < 9223372036854775808) : Sp E l yX5_setNumber cX5_setNumber 6 none 2 (0) (0) [.ref a, jJ x] w (fun r' w' => r' = none ∧ WS w' a r ∧ FrW w w' a r) := by
  refine sp_intro [some (.ref a), some (jJ x), none, none, none, none] rfl (Nat.le_of_ble_eq_true rfl) pn_X5 ?_
  intro X C hRm hl hnm hQ
  obtain ⟨hRf, hRl, hRc, hRs⟩ := hRm
  refine g_wf (fun hwf => ?_)
  have hB28 : B28 = 268435456 := rfl
  obtain ⟨f, u, bl, hO, hR, hf, hu18, hbl⟩ := id hW
  have hne := oI_ne hO hR
  refine g_aload_n C dX5_setNumber_0 rfl ?_
  refine g_callV C (c_X5_clear _ hO hR) (ci := 7) rfl hO rfl ml_RX5_25 im_yX5_clear se_RX5_yX5_clear in_RX5 co_yX5_clear hd_X5_clear rfl ⟨by omega, by omega⟩ rfl (Nat.le_of_ble_eq_true rfl) ⟨by omega, by omega⟩ dX5_setNumber_1 (fun v1 w1 hp1 => ?_)
  obtain ⟨rfl, g1, hO1, hR1, hg1, fr1⟩ := hp1
  have J16 : ∀ q : Int, (q = 1 ∨ q = 0) → G E X 6 16 [some (.ref a), some (jJ x), none, none, none, none] [iI q, .ref a] w1 0 0 := by
    intro q hq
    refine g_put (ci := 7) C rfl inTX5 tyX5 tyX5_ok nmX5 2 (by decide) fl_RX5_13 rfl rfl hO1 (Nat.le_of_ble_eq_true rfl) (by rcases hq with c | c <;> (rw [c]; rfl)) (by rcases hq with c | c <;> (rw [c]; rfl)) dX5_setNumber_16 ?_
    obtain ⟨w2, hw0⟩ : ∃ w2, w2 = wset w1 a (true, eO 7 [.ref r, iI 0, iI q]) := ⟨_, rfl⟩
    refine g_eqw (w' := w2) hw0.symm ?_
    have hO2 : w2.2 a = some (true, eO 7 [.ref r, iI 0, iI q]) := by rw [hw0]; exact wset_s
    have hR2 : w2.2 r = some (true, eI 18 g1) := by rw [hw0, wset_n (Ne.symm hne)]; exact hR1
    have fr2 : FrW w w2 a r := by rw [hw0]; exact fr1.set (Or.inl rfl) _
    have hq01 : q = 0 ∨ q = 1 := by omega
    have J32 : ∀ y : Int, -9223372036854775808 ≤ y ∧ y < 9223372036854775808 → G E X 6 32 [some (.ref a), some (jJ x), none, none, none, none] [jJ y] w2 0 0 := by
      intro y hy
      refine g_lstore_n C dX5_setNumber_32 (by decide) rfl ?_
      refine g_iconst C dX5_setNumber_33 ?_
      refine g_istore C dX5_setNumber_34 (by decide) rfl ?_
      have J73 : ∀ (k : Nat) (lf : Int) (h : Nat → Int), DC h → G E X 6 73 [some (.ref a), some (jJ x), none, some (jJ lf), none, some (iI (k : Int))] [] (wset w2 r (true, eI 18 h)) 0 0 := by
        intro k lf h hdh
        have hOk : (wset w2 r (true, eI 18 h)).2 a = some (true, eO 7 [.ref r, iI 0, iI q]) := by rw [wset_n hne]; exact hO2
        refine g_aload_n C dX5_setNumber_73 rfl ?_
        refine g_bipush C dX5_setNumber_74 (by decide) ?_
        refine g_callV C (s_X5_trim _ (p := 18) hOk wset_s hdh (Nat.le_refl _) hq01) (ci := 7) rfl hOk rfl ml_RX5_30 im_yX5_trim se_RX5_yX5_trim in_RX5 co_yX5_trim hd_X5_trim rfl ⟨by omega, by omega⟩ rfl (Nat.le_of_ble_eq_true rfl) ⟨by omega, by omega⟩ dX5_setNumber_76 (fun v76 w76 hp76 => ?_)
        obtain ⟨rfl, hw9, fr9⟩ := hp76
        exact g_return C hQ dX5_setNumber_79 (Nat.le_refl _) (Nat.le_refl _) ⟨rfl, hw9, ⟨fr9.1.trans fr2.1, fun y h3 h4 => by rw [fr9.2 y h3, wset_n h4]; exact fr2.2 y h3 h4⟩⟩
      suffices hh : G E X 6 36 [some (.ref a), some (jJ x), none, some (jJ y), none, some (iI ((0 : Nat) : Int))] [] (wset w2 r (true, eI 18 g1)) 0 0 by rw [wset_id hR2] at hh; exact hh
      refine g_loop (σ := Nat × Int × (Nat → Int)) (fun t => t.1 ≤ 18 ∧ (-9223372036854775808 ≤ t.2.1 ∧ t.2.1 < 9223372036854775808) ∧ DC t.2.2) (fun t => G E X 6 36 [some (.ref a), some (jJ x), none, some (jJ t.2.1), none, some (iI (t.1 : Int))] [] (wset w2 r (true, eI 18 t.2.2)) 0 0) (fun t => 18 - t.1) ?_ (0, y, g1) ⟨by dsimp only; omega, hy, fun i hi => by dsimp only; rw [hg1 i hi]; decide⟩
      rintro ⟨j, lf, h⟩ hq9 ih
      obtain ⟨hj, hl0, hdh⟩ := hq9
      dsimp only at hj hl0 hdh ⊢
      have hOk : (wset w2 r (true, eI 18 h)).2 a = some (true, eO 7 [.ref r, iI 0, iI q]) := by rw [wset_n hne]; exact hO2
      have hm28 := mod28 lf
      obtain ⟨z65, hz65, hz65a, hz65b⟩ := ushr28 lf
      refine g_iload C dX5_setNumber_36 rfl ?_
      refine g_bipush C dX5_setNumber_38 (by decide) ?_
      refine g_icmp_ge (tgt := 73) C dX5_setNumber_40 (by decide) (by omega) (by omega) (fun h40 => ?_) (fun h40 => ?_)
      · exact J73 j lf h hdh
      · refine g_lload_n C dX5_setNumber_43 rfl ?_
        refine g_lconst (z := 0) C dX5_setNumber_44 (by decide) ?_
        refine g_lcmp C dX5_setNumber_45 (by omega) (by omega) (fun c45 hc45 => ?_)
        refine g_if_eq (tgt := 73) C dX5_setNumber_46 (by decide) (by omega) (fun h46 => ?_) (fun h46 => ?_)
        · exact J73 j lf h hdh
        · refine g_aload_n C dX5_setNumber_49 rfl ?_
          refine g_get (ci := 7) C rfl inTX5 0 (by decide) fl_RX5_9 rfl hOk rfl dX5_setNumber_50 ?_
          refine g_iload C dX5_setNumber_53 rfl ?_
          refine g_lload_n C dX5_setNumber_55 rfl ?_
          refine g_ldc2 (z := 268435455) C kj_RX5_28 (by decide) dX5_setNumber_56 ?_
          refine g_land (z := lf % B28) C dX5_setNumber_59 (j_mask 28 (by omega) mask28) ?_
          refine g_l2i C dX5_setNumber_60 ?_
          refine g_iastoreN (j) C wset_s (by omega) (by omega) dX5_setNumber_61 ?_
          rw [wset_set]
          refine g_lload_n C dX5_setNumber_62 rfl ?_
          refine g_bipush C dX5_setNumber_63 (by decide) ?_
          refine g_lushr (z := z65) C dX5_setNumber_65 hz65 ?_
          refine g_lstore_n C dX5_setNumber_66 (by decide) rfl ?_
          refine g_iinc C dX5_setNumber_67 rfl (by decide) rfl ?_
          refine g_goto (tgt := 36) C dX5_setNumber_70 (by decide) ?_
          exact ih (j + 1, z65, iup h j (lf % B28)) ⟨by dsimp only; omega, by dsimp only; omega, hdh.up _ hm28⟩ (by dsimp only; omega)
    refine g_aload_n C dX5_setNumber_19 rfl ?_
    refine g_get (ci := 7) C rfl inTX5 2 (by decide) fl_RX5_13 rfl hO2 rfl dX5_setNumber_20 ?_
    refine g_if_eq (tgt := 31) C dX5_setNumber_23 (by decide) (by omega) (fun h23 => ?_) (fun h23 => ?_)
    · refine g_lload_n C dX5_setNumber_31 rfl ?_
      first
      | (obtain ⟨z9, hz9, hz9a⟩ := gen64 (Int64.ofInt (-x))
         exact g_eq rfl (by unfold jJ; rw [hz9]) (J32 z9 hz9a))
      | exact J32 x hx
    · refine g_lload_n C dX5_setNumber_26 rfl ?_
      refine g_lneg C dX5_setNumber_27 ?_
      refine g_goto (tgt := 32) C dX5_setNumber_28 (by decide) ?_
      first
      | (obtain ⟨z9, hz9, hz9a⟩ := gen64 (Int64.ofInt (-x))
         exact g_eq rfl (by unfold jJ; rw [hz9]) (J32 z9 hz9a))
      | exact J32 x hx
  refine g_aload_n C dX5_setNumber_4 rfl ?_
  refine g_lload_n C dX5_setNumber_5 rfl ?_
  refine g_lconst (z := 0) C dX5_setNumber_6 (by decide) ?_
  refine g_lcmp C dX5_setNumber_7 (by omega) (by omega) (fun c7 hc7 => ?_)
  refine g_if_ge (tgt := 15) C dX5_setNumber_8 (by decide) (by omega) (fun h8 => ?_) (fun h8 => ?_)
  · refine g_iconst C dX5_setNumber_15 ?_
    exact J16 _ (by omega)
  · refine g_iconst C dX5_setNumber_11 ?_
    refine g_goto (tgt := 16) C dX5_setNumber_12 (by decide) ?_
    exact J16 _ (by omega)
