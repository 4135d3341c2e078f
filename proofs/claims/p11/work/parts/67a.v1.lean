/-! the class's numbers with values: more of them -/
theorem mulS_step {B : Int} (hB : 0 < B) {h f : Nat → Int} {j : Nat} {c y m s : Int} (e : nv B h j + c * B ^ j = nv B f j * y + m) (hs : s = c + f j * y) : nv B (iup h j (s % B)) (j + 1) + s / B * B ^ (j + 1) = nv B f (j + 1) * y + m := by
  rw [nv_up_succ, nv_succ, Int.pow_succ]
  have e2 : s = B * (s / B) + s % B := (Int.mul_ediv_add_emod s B).symm
  generalize s / B = q at e2 ⊢
  generalize s % B = r at e2 ⊢
  grind
set_option maxHeartbeats 4000000 in
set_option maxRecDepth 100000 in
theorem v_X5_multiplySmall (l : Launch) {E : GE} {w : Wd} {a r : Nat} {f : Nat → Int} {u : Nat} {bl : Int} (h1 : RA w a r f u bl) {by_ mo : Int} (hby : 0 ≤ by_ ∧ by_ ≤ 1000) (hmo : 0 ≤ mo ∧ mo ≤ 1000) (hbd : V18 f * by_ + mo < B28 ^ 18) : Sp E l yX5_multiplySmall cX5_multiplySmall 7 none 1 (0) (0) [.ref a, iI by_, iI mo] w (fun r' w' => r' = none ∧ ∃ f' u', RA w' a r f' u' (if 0 < u' then bl else 0) ∧ V18 f' = V18 f * by_ + mo ∧ FrW w w' a r) := by
  refine sp_intro [some (.ref a), some (iI by_), some (iI mo), none, none, none, none] rfl (Nat.le_of_ble_eq_true rfl) pn_X5 ?_
  intro X C hRm hl hnm hQ
  obtain ⟨hRf, hRl, hRc, hRs⟩ := hRm
  refine g_wf (fun hwf => ?_)
  have hB28 : B28 = 268435456 := rfl
  have hne := h1.ne
  obtain ⟨hO, hR, hf, hbl⟩ := id h1
  have hu18 := hf.2.1
  obtain ⟨e, he1, he2, he3⟩ := mn18 (u + 1)
  refine g_bipush C dX5_multiplySmall_0 (by decide) ?_
  refine g_aload_n C dX5_multiplySmall_2 rfl ?_
  refine g_get (ci := 7) C rfl inTX5 1 (by decide) fl_RX5_17 rfl hO rfl dX5_multiplySmall_3 ?_
  refine g_iconst C dX5_multiplySmall_6 ?_
  refine g_iadd C dX5_multiplySmall_7 ?_
  rw [show (u : Int) + 1 = ((u + 1 : Nat) : Int) by omega]
  refine g_min C ml_RX5_66 (by omega) (by omega) (by omega) (by omega) (Nat.le_of_ble_eq_true rfl) (by omega) dX5_multiplySmall_8 ?_
  rw [he3]
  refine g_istore_n C dX5_multiplySmall_11 (by decide) rfl ?_
  refine g_iload_n C dX5_multiplySmall_12 rfl ?_
  refine g_i2l C dX5_multiplySmall_13 (by omega) ?_
  refine g_lstore C dX5_multiplySmall_14 (by decide) rfl ?_
  refine g_iconst C dX5_multiplySmall_16 ?_
  refine g_istore C dX5_multiplySmall_17 (by decide) rfl ?_
  suffices hh : G E X 7 19 [some (.ref a), some (iI by_), some (iI mo), some (iI (e : Int)), some (jJ mo), none, some (iI ((0 : Nat) : Int))] [] (wset w r (true, eI 18 f)) 0 0 by rw [wset_id hR] at hh; exact hh
  refine g_loop (σ := Nat × Int × (Nat → Int)) (fun t => t.1 ≤ e ∧ (0 ≤ t.2.1 ∧ t.2.1 ≤ 1000) ∧ (u < t.1 → t.2.1 = 0) ∧ DC t.2.2 ∧ (∀ i, t.1 ≤ i → t.2.2 i = f i) ∧ nv B28 t.2.2 t.1 + t.2.1 * B28 ^ t.1 = nv B28 f t.1 * by_ + mo) (fun t => G E X 7 19 [some (.ref a), some (iI by_), some (iI mo), some (iI (e : Int)), some (jJ t.2.1), none, some (iI (t.1 : Int))] [] (wset w r (true, eI 18 t.2.2)) 0 0) (fun t => e - t.1) ?_ (0, mo, f) ⟨Nat.zero_le _, hmo, fun h => absurd h (Nat.not_lt_zero _), hf.1, fun i _ => rfl, by show (0 : Int) + mo * B28 ^ 0 = 0 * by_ + mo; rw [Int.pow_zero, Int.mul_one, Int.zero_mul]⟩
  rintro ⟨j, c, h⟩ hq ih
  obtain ⟨hj, hc, hcu, hdh, hhi, hv⟩ := hq
  dsimp only at hj hc hcu hdh hhi hv ⊢
  have hOk : (wset w r (true, eI 18 h)).2 a = some (true, oW r u bl) := by rw [wset_n hne]; exact hO
  refine g_iload C dX5_multiplySmall_19 rfl ?_
  refine g_iload_n C dX5_multiplySmall_21 rfl ?_
  refine g_icmp_ge (tgt := 68) C dX5_multiplySmall_22 (by decide) (by omega) (by omega) (fun h22 => ?_) (fun h22 => ?_)
  · have ej : j = e := by omega
    subst ej
    have hc0 : c = 0 := by
      rcases he2 with ⟨k1, k2⟩ | ⟨k1, k2⟩
      · exact hcu (by omega)
      · rcases Nat.lt_or_ge u 18 with k3 | k3
        · exact hcu (by omega)
        · have hn0 := nv_nonneg (B := B28) (by decide) (hdh.dg he1)
          subst k1
          unfold V18 at hbd
          rcases Int.lt_or_le 0 c with k4 | k4
          · have k5 : 1 * B28 ^ 18 ≤ c * B28 ^ 18 := Int.mul_le_mul_of_nonneg_right k4 (by decide)
            omega
          · omega
    rw [hc0, Int.zero_mul, Int.add_zero] at hv
    have hz : ∀ i, j ≤ i → i < 18 → h i = 0 := fun i h3 h4 => by
      rw [hhi i h3]
      exact hf.2.2.1 i (by omega) h4
    have hV : V18 h = V18 f * by_ + mo := by
      rw [show V18 h = nv B28 h j from nv_zeros he1 hz, hv, show V18 f = nv B28 f j from nv_zeros he1 (fun i h3 h4 => hf.2.2.1 i (by omega) h4)]
    refine g_aload_n C dX5_multiplySmall_68 rfl ?_
    refine g_iload_n C dX5_multiplySmall_69 rfl ?_
    refine g_callV C (c_X5_trim _ (p := j) hOk wset_s hdh he1 hz hbl) (ci := 7) rfl hOk rfl ml_RX5_30 im_yX5_trim se_RX5_yX5_trim in_RX5 co_yX5_trim hd_X5_trim rfl ⟨by omega, by omega⟩ rfl (Nat.le_of_ble_eq_true rfl) ⟨by omega, by omega⟩ dX5_multiplySmall_70 (fun v70 w70 hp70 => ?_)
    obtain ⟨rfl, u', hw9, hO9, fr9⟩ := hp70
    exact g_return C hQ dX5_multiplySmall_73 (Nat.le_refl _) (Nat.le_refl _) ⟨rfl, h, u', ⟨hO9, by rw [fr9.2 r (Ne.symm hne)]; exact wset_s, hw9, by split <;> omega⟩, hV, ⟨fr9.1, fun x h3 h4 => by rw [fr9.2 x h3, wset_n h4]⟩⟩
  · have hfk := hf.1 j (by omega)
    have hmb : 0 ≤ f j * by_ ∧ f j * by_ ≤ 268435455 * 1000 := ⟨Int.mul_nonneg hfk.1 hby.1, Int.mul_le_mul (by omega) hby.2 hby.1 (by decide)⟩
    have hm28 := mod28 (c + f j * by_)
    have hd28e : (c + f j * by_) / B28 = (c + f j * by_) / 268435456 := rfl
    have hu0 : u ≤ j → f j = 0 := fun q => hf.2.2.1 j q (by omega)
    refine g_lload C dX5_multiplySmall_25 rfl ?_
    refine g_aload_n C dX5_multiplySmall_27 rfl ?_
    refine g_get (ci := 7) C rfl inTX5 0 (by decide) fl_RX5_9 rfl hOk rfl dX5_multiplySmall_28 ?_
    refine g_iload C dX5_multiplySmall_31 rfl ?_
    refine g_ialoadN (j) C wset_s (by omega) (by omega) dX5_multiplySmall_33 ?_
    rw [hhi j (Nat.le_refl _)]
    refine g_i2l C dX5_multiplySmall_34 (by omega) ?_
    refine g_iload_n C dX5_multiplySmall_35 rfl ?_
    refine g_i2l C dX5_multiplySmall_36 (by omega) ?_
    refine g_lmul C dX5_multiplySmall_37 ?_
    refine g_ladd C dX5_multiplySmall_38 ?_
    refine g_lstore C dX5_multiplySmall_39 (by decide) rfl ?_
    refine g_aload_n C dX5_multiplySmall_41 rfl ?_
    refine g_get (ci := 7) C rfl inTX5 0 (by decide) fl_RX5_9 rfl hOk rfl dX5_multiplySmall_42 ?_
    refine g_iload C dX5_multiplySmall_45 rfl ?_
    refine g_lload C dX5_multiplySmall_47 rfl ?_
    refine g_ldc2 (z := 268435455) C kj_RX5_28 (by decide) dX5_multiplySmall_49 ?_
    refine g_land (z := (c + f j * by_) % B28) C dX5_multiplySmall_52 (j_mask 28 (by omega) mask28) ?_
    refine g_l2i C dX5_multiplySmall_53 ?_
    refine g_iastoreN (j) C wset_s (by omega) (by omega) dX5_multiplySmall_54 ?_
    rw [wset_set]
    refine g_lload C dX5_multiplySmall_55 rfl ?_
    refine g_bipush C dX5_multiplySmall_57 (by decide) ?_
    refine g_lushr (z := (c + f j * by_) / B28) C dX5_multiplySmall_59 (j_ushr 28 (by omega) (by omega) (by decide)) ?_
    refine g_lstore C dX5_multiplySmall_60 (by decide) rfl ?_
    refine g_iinc C dX5_multiplySmall_62 rfl (by decide) rfl ?_
    refine g_goto (tgt := 19) C dX5_multiplySmall_65 (by decide) ?_
    exact ih (j + 1, (c + f j * by_) / B28, iup h j ((c + f j * by_) % B28)) ⟨by dsimp only; omega, by dsimp only; omega, fun q => by
      dsimp only at q ⊢
      by_cases q2 : u = j
      · rw [hu0 (by omega), Int.zero_mul, Int.add_zero, hB28]; omega
      · rw [hcu (by omega), hu0 (by omega), Int.zero_mul]; rfl, hdh.up _ hm28, fun i h3 => by dsimp only at h3 ⊢; rw [iup_n (by omega)]; exact hhi i (by omega), mulS_step (by decide) hv rfl⟩ (by dsimp only; omega)
set_option maxHeartbeats 4000000 in
set_option maxRecDepth 100000 in
theorem v_X5_divideSmall (l : Launch) {E : GE} {w : Wd} {a r : Nat} {f : Nat → Int} {u : Nat} {bl : Int} (h1 : RA w a r f u bl) {y : Int} (hy : 1 ≤ y ∧ y ≤ 1000) : Sp E l yX5_divideSmall cX5_divideSmall 7 (some .int) 1 (0) (0) [.ref a, iI y] w (fun r' w' => ∃ d : Int, r' = some (iI d) ∧ 0 ≤ d ∧ d < y ∧ ∃ f' u', RA w' a r f' u' (if 0 < u' then bl else 0) ∧ V18 f' * y + d = V18 f ∧ FrW w w' a r) := by
  refine sp_intro [some (.ref a), some (iI y), none, none, none, none, none] rfl (Nat.le_of_ble_eq_true rfl) pn_X5 ?_
  intro X C hRm hl hnm hQ
  obtain ⟨hRf, hRl, hRc, hRs⟩ := hRm
  refine g_wf (fun hwf => ?_)
  have hB28 : B28 = 268435456 := rfl
  have hne := h1.ne
  obtain ⟨hO, hR, hf, hbl⟩ := id h1
  have hu18 := hf.2.1
  obtain ⟨e, he1, he2, he3⟩ := mn18 u
  have heu : e = u := by omega
  subst heu
  refine g_iload_n C dX5_divideSmall_0 rfl ?_
  refine g_iconst C dX5_divideSmall_1 ?_
  refine g_icmp_ge (tgt := 7) C dX5_divideSmall_2 (by decide) (by omega) (by omega) (fun h2 => ?_) (fun h2 => ?_)
  · refine g_lconst (z := 0) C dX5_divideSmall_7 (by decide) ?_
    refine g_lstore_n C dX5_divideSmall_8 (by decide) rfl ?_
    refine g_bipush C dX5_divideSmall_9 (by decide) ?_
    refine g_aload_n C dX5_divideSmall_11 rfl ?_
    refine g_get (ci := 7) C rfl inTX5 1 (by decide) fl_RX5_17 rfl hO rfl dX5_divideSmall_12 ?_
    refine g_min C ml_RX5_66 (by omega) (by omega) (by omega) (by omega) (Nat.le_of_ble_eq_true rfl) (by omega) dX5_divideSmall_15 ?_
    rw [he3]
    refine g_iconst C dX5_divideSmall_18 ?_
    refine g_isub C dX5_divideSmall_19 ?_
    refine g_istore C dX5_divideSmall_20 (by decide) rfl ?_
    rw [show (e : Int) - 1 = (e : Int) - 1 - ((0 : Nat) : Int) by omega]
    suffices hh : G E X 7 22 [some (.ref a), some (iI y), some (jJ 0), none, some (iI ((e : Int) - 1 - ((0 : Nat) : Int))), none, none] [] (wset w r (true, eI 18 f)) 0 0 by rw [wset_id hR] at hh; exact hh
    refine g_loop (σ := Nat × Int × (Nat → Int)) (fun t => t.1 ≤ e ∧ (0 ≤ t.2.1 ∧ t.2.1 < y) ∧ DC t.2.2 ∧ (∀ i, i + t.1 < e → t.2.2 i = f i) ∧ (∀ i, e ≤ i → i < 18 → t.2.2 i = 0) ∧ hv B28 t.2.2 e t.1 * y + t.2.1 = hv B28 f e t.1) (fun t => G E X 7 22 [some (.ref a), some (iI y), some (jJ t.2.1), none, some (iI ((e : Int) - 1 - (t.1 : Int))), none, none] [] (wset w r (true, eI 18 t.2.2)) 0 0) (fun t => e - t.1) ?_ (0, 0, f) ⟨Nat.zero_le _, by dsimp only; omega, hf.1, fun i _ => rfl, hf.2.2.1, by show (0 : Int) * y + 0 = 0; omega⟩
    rintro ⟨j, x, h⟩ hq ih
    obtain ⟨hj, hx, hdh, hhi, hz, hvv⟩ := hq
    dsimp only at hj hx hdh hhi hz hvv ⊢
    have hOk : (wset w r (true, eI 18 h)).2 a = some (true, oW r e bl) := by rw [wset_n hne]; exact hO
    refine g_iload C dX5_divideSmall_22 rfl ?_
    refine g_if_lt (tgt := 67) C dX5_divideSmall_24 (by decide) (by omega) (fun h24 => ?_) (fun h24 => ?_)
    · have ej : j = e := by omega
      subst ej
      rw [hv_all, hv_all] at hvv
      have hV : V18 h * y + x = V18 f := by
        rw [show V18 h = nv B28 h j from nv_zeros hu18 hz, show V18 f = nv B28 f j from nv_zeros hu18 hf.2.2.1]
        exact hvv
      refine g_aload_n C dX5_divideSmall_67 rfl ?_
      refine g_aload_n C dX5_divideSmall_68 rfl ?_
      refine g_get (ci := 7) C rfl inTX5 1 (by decide) fl_RX5_17 rfl hOk rfl dX5_divideSmall_69 ?_
      refine g_callV C (c_X5_trim _ (p := j) hOk wset_s hdh hu18 hz hbl) (ci := 7) rfl hOk rfl ml_RX5_30 im_yX5_trim se_RX5_yX5_trim in_RX5 co_yX5_trim hd_X5_trim rfl ⟨by omega, by omega⟩ rfl (Nat.le_of_ble_eq_true rfl) ⟨by omega, by omega⟩ dX5_divideSmall_72 (fun v72 w72 hp72 => ?_)
      obtain ⟨rfl, u', hw9, hO9, fr9⟩ := hp72
      refine g_lload_n C dX5_divideSmall_75 rfl ?_
      refine g_l2i C dX5_divideSmall_76 ?_
      exact g_ireturn C hQ dX5_divideSmall_77 (Nat.le_refl _) (Nat.le_refl _) ⟨x, rfl, hx.1, hx.2, h, u', ⟨hO9, by rw [fr9.2 r (Ne.symm hne)]; exact wset_s, hw9, by split <;> omega⟩, hV, ⟨fr9.1, fun z h3 h4 => by rw [fr9.2 z h3, wset_n h4]⟩⟩
    · have hfk := hf.1 (e - 1 - j) (by omega)
      have hdv := div28 hx hfk
      refine g_lload_n C dX5_divideSmall_27 rfl ?_
      refine g_bipush C dX5_divideSmall_28 (by decide) ?_
      refine g_lshl (z := x * 268435456) C dX5_divideSmall_30 (j_shl28 x) ?_
      refine g_aload_n C dX5_divideSmall_31 rfl ?_
      refine g_get (ci := 7) C rfl inTX5 0 (by decide) fl_RX5_9 rfl hOk rfl dX5_divideSmall_32 ?_
      refine g_iload C dX5_divideSmall_35 rfl ?_
      refine g_ialoadN (e - 1 - j) C wset_s (by omega) (by omega) dX5_divideSmall_37 ?_
      rw [hhi (e - 1 - j) (by omega)]
      refine g_i2l C dX5_divideSmall_38 (by omega) ?_
      refine g_ladd C dX5_divideSmall_39 ?_
      refine g_lstore C dX5_divideSmall_40 (by decide) rfl ?_
      refine g_aload_n C dX5_divideSmall_42 rfl ?_
      refine g_get (ci := 7) C rfl inTX5 0 (by decide) fl_RX5_9 rfl hOk rfl dX5_divideSmall_43 ?_
      refine g_iload C dX5_divideSmall_46 rfl ?_
      refine g_lload C dX5_divideSmall_48 rfl ?_
      refine g_iload_n C dX5_divideSmall_50 rfl ?_
      refine g_i2l C dX5_divideSmall_51 (by omega) ?_
      refine g_ldivN C dX5_divideSmall_52 (by omega) (by omega) ?_
      refine g_l2i C dX5_divideSmall_53 ?_
      refine g_iastoreN (e - 1 - j) C wset_s (by omega) (by omega) dX5_divideSmall_54 ?_
      rw [wset_set]
      refine g_lload C dX5_divideSmall_55 rfl ?_
      refine g_iload_n C dX5_divideSmall_57 rfl ?_
      refine g_i2l C dX5_divideSmall_58 (by omega) ?_
      refine g_lremN C dX5_divideSmall_59 (by omega) (by omega) ?_
      refine g_lstore_n C dX5_divideSmall_60 (by decide) rfl ?_
      refine g_iinc C dX5_divideSmall_61 rfl (by decide) rfl ?_
      refine g_goto (tgt := 22) C dX5_divideSmall_64 (by decide) ?_
      refine g_drop 5 ?_
      rw [show (e : Int) - 1 - (j : Int) + -1 = (e : Int) - 1 - ((j + 1 : Nat) : Int) by omega]
      exact ih (j + 1, (x * 268435456 + f (e - 1 - j)) % y, iup h (e - 1 - j) ((x * 268435456 + f (e - 1 - j)) / y)) ⟨by dsimp only; omega, ⟨hdv.2.2.1, hdv.2.2.2⟩, hdh.up _ ⟨hdv.1, hdv.2.1⟩, fun i h3 => by dsimp only at h3 ⊢; rw [iup_n (by omega)]; exact hhi i (by omega), fun i h3 h4 => by dsimp only; rw [iup_n (by omega)]; exact hz i h3 h4, div_step (by omega) hvv (by
        have e9 := Int.mul_ediv_add_emod (x * 268435456 + f (e - 1 - j)) y
        rw [Int.mul_comm y] at e9
        exact e9.symm)⟩ (by dsimp only; omega)
  · omega
