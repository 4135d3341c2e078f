set_option maxHeartbeats 4000000 in
set_option maxRecDepth 100000 in
theorem c_J5_append_c97b9 (l : Launch) {K : KC} {E : GE} {w : Wd} {a v n m : Nat} (hS : SBw w a v n m) {x : Int} (hx : -2147483648 < x ∧ x < 2147483648) (hn : n ≤ 100000) (hm : m ≤ 100000) : St K E l yJ5_append_c97b9 cJ5_append_c97b9 4 (some (.object "java/lang/AbstractStringBuilder")) 4 (1) (2 * m + 11) [.ref a, iI x] w (fun r w' => r = some (.ref a) ∧ ∃ v' k : Nat, 1 ≤ k ∧ k ≤ 11 ∧ SBw w' a v' (n + k) (capG (n + k) m) ∧ (v' = v ∨ w.1 ≤ v') ∧ FrY w w' a v) := by
  refine st_intro [some (.ref a), some (iI x), none, none] rfl (Nat.le_of_ble_eq_true rfl) pn_J5 ?_
  intro X C hT hRm hl hnm hQ
  obtain ⟨hRf, hRl, hRc, hRs⟩ := hRm
  refine g_wf (fun hwf => ?_)
  have hS0 := hS
  obtain ⟨mb, f, hO, hV, hF, hav, hnm'⟩ := hS
  refine g_aload_n C dJ5_append_c97b9_0 rfl ?_
  refine g_get (ci := 1) C rfl inTJ4 3 (by decide) fl_RJ5_79 rfl hO rfl dJ5_append_c97b9_1 ?_
  refine g_istore_n C dJ5_append_c97b9_4 (by decide) rfl ?_
  refine g_iload_n C dJ5_append_c97b9_5 rfl ?_
  refine g_iload_n C dJ5_append_c97b9_6 rfl ?_
  refine t_callS C hT (c_J6_stringSize_0f7a4 _ hx) ml_RJ5_245 sm_yJ6_stringSize_0f7a4 in_RJ6 co_yJ6_stringSize_0f7a4 hd_J6_stringSize_0f7a4 rfl ⟨by omega, by omega⟩ rfl (Nat.le_of_ble_eq_true rfl) ⟨by omega, by omega⟩ dJ5_append_c97b9_7 (fun v7 w7 hp7 => ?_)
  obtain ⟨⟨k, rfl, hk1, hk2, hk3⟩, hw7⟩ := hp7
  subst w7
  have hge := capG_ge (n + k) m
  have hcg : capG (n + k) m ≤ 2 * m + 11 := by unfold capG; split <;> (try split) <;> omega
  have hgc : gC (n + k) m ≤ 1 ∧ gS (n + k) m ≤ 2 * m + 11 := by unfold gC gS; split <;> omega
  refine g_iadd C dJ5_append_c97b9_10 ?_
  rw [show (n : Int) + (k : Int) = ((n + k : Nat) : Int) by omega]
  refine g_istore_n C dJ5_append_c97b9_11 (by decide) rfl ?_
  refine g_aload_n C dJ5_append_c97b9_12 rfl ?_
  refine g_iload_n C dJ5_append_c97b9_13 rfl ?_
  refine t_callU (owner := RJ5) C hT (c_J5_ensureCapacityInternal_d00df _ hS0 (q := n + k) (by omega) hm) (RcV.ob (ci := 1) C rfl hO) rfl ml_RJ5_100 gw_sameMethod_java_lang_AbstractStringBuilder_java_lang_AbstractStringBui_1916 se_RJ4__yJ5_ensureCapacityInternal_d00df im_yJ5_ensureCapacityInternal_d00df in_RJ5 co_yJ5_ensureCapacityInternal_d00df hd_J5_ensureCapacityInternal_d00df rfl ⟨by omega, by omega⟩ rfl (Nat.le_of_ble_eq_true rfl) ⟨by omega, by omega⟩ dJ5_append_c97b9_14 (fun v14 w14 hp14 => ?_)
  obtain ⟨rfl, v1, hS1, hv1, fr1⟩ := hp14
  obtain ⟨mb1, f1, hO1, hV1, hF1, hav1, hnm1⟩ := id hS1
  refine g_aload_n C dJ5_append_c97b9_17 rfl ?_
  refine t_callU (owner := RJ5) C hT (c_J5_isLatin1_aae02 _ hS1) (RcV.ob (ci := 1) C rfl hO1) rfl ml_RJ5_83 gw_sameMethod_java_lang_AbstractStringBuilder_java_lang_AbstractStringBui_424 se_RJ4__yJ5_isLatin1_aae02 im_yJ5_isLatin1_aae02 in_RJ5 co_yJ5_isLatin1_aae02 hd_J5_isLatin1_aae02 rfl ⟨by omega, by omega⟩ rfl (Nat.le_of_ble_eq_true rfl) ⟨by omega, by omega⟩ dJ5_append_c97b9_18 (fun v18 w18 hp18 => ?_)
  obtain ⟨rfl, hw18⟩ := hp18
  subst w18
  have hpw : aB x < 10 ^ (n + k - sgb x) := by
    have e : (10 : Int) ^ (n + k - sgb x) = 10 ^ (k - sgb x) * 10 ^ n := by rw [← Int.pow_add]; congr 1; omega
    have h1 : (0 : Int) < 10 ^ (k - sgb x) := Int.pow_pos (by decide)
    have h2 : (0 : Int) < 10 ^ n := Int.pow_pos (by decide)
    have := Int.mul_le_mul_of_nonneg_left (show (1 : Int) ≤ 10 ^ n by omega) (Int.le_of_lt h1)
    rw [e]
    omega
  refine g_if_eq (tgt := 37) C dJ5_append_c97b9_21 (by decide) (by omega) (fun h21 => ?_) (fun h21 => ?_)
  · omega
  · refine g_iload_n C dJ5_append_c97b9_24 rfl ?_
    refine g_iload_n C dJ5_append_c97b9_25 rfl ?_
    refine g_aload_n C dJ5_append_c97b9_26 rfl ?_
    refine g_get (ci := 1) C rfl inTJ4 0 (by decide) fl_RJ5_15 rfl hO1 rfl dJ5_append_c97b9_27 ?_
    refine t_callS C hT (c_J6_getChars_ba4f3 _ (p := n + k) hx hV1 hF1 (by omega) hpw) ml_RJ5_248 sm_yJ6_getChars_ba4f3 in_RJ6 co_yJ6_getChars_ba4f3 hd_J6_getChars_ba4f3 rfl ⟨by omega, by omega⟩ rfl (Nat.le_of_ble_eq_true rfl) ⟨by omega, by omega⟩ dJ5_append_c97b9_30 (fun v30 w30 hp30 => ?_)
    obtain ⟨⟨z30, rfl⟩, g30, rfl, hg30⟩ := hp30
    have hO2 : (wset w14 v1 (true, eB (capG (n + k) m) g30)).2 a = some (true, eO 1 [.ref v1, iI 0, iI mb1, iI (n : Int)]) := by rw [wset_n hav1]; exact hO1
    refine g_pop C dJ5_append_c97b9_33 rfl ?_
    refine g_goto (tgt := 48) C dJ5_append_c97b9_34 (by decide) ?_
    refine g_aload_n C dJ5_append_c97b9_48 rfl ?_
    refine g_iload_n C dJ5_append_c97b9_49 rfl ?_
    refine g_put (ci := 1) C rfl inTJ4 tyJ4 tyJ4_ok nmJ4 3 (by decide) fl_RJ5_79 rfl rfl hO2 (Nat.le_of_ble_eq_true rfl) rfl rfl dJ5_append_c97b9_50 ?_
    refine g_aload_n C dJ5_append_c97b9_53 rfl ?_
    exact g_areturn C (Or.inl ⟨_, rfl⟩) hQ (Or.inr ⟨_, rfl⟩) dJ5_append_c97b9_54 (by omega) (by omega) ⟨rfl, v1, k, by omega, hk2, ⟨mb1, g30, wset_s, by rw [wset_n (Ne.symm hav1)]; exact wset_s, hg30, hav1, hge.1⟩, hv1, (fr1.set (by omega) _).set (Or.inl rfl) _⟩
set_option maxHeartbeats 4000000 in
set_option maxRecDepth 100000 in
theorem c_J4_append_bf812 (l : Launch) {K : KC} {E : GE} {w : Wd} {a v n m : Nat} (hS : SBw w a v n m) {x : Int} (hx : -2147483648 < x ∧ x < 2147483648) (hn : n ≤ 100000) (hm : m ≤ 100000) : St K E l yJ4_append_bf812 cJ4_append_bf812 2 (some (.object "java/lang/StringBuilder")) 5 (1) (2 * m + 11) [.ref a, iI x] w (fun r w' => r = some (.ref a) ∧ ∃ v' k : Nat, 1 ≤ k ∧ k ≤ 11 ∧ SBw w' a v' (n + k) (capG (n + k) m) ∧ (v' = v ∨ w.1 ≤ v') ∧ FrY w w' a v) := by
  refine st_intro [some (.ref a), some (iI x)] rfl (Nat.le_of_ble_eq_true rfl) pn_J4 ?_
  intro X C hT hRm hl hnm hQ
  obtain ⟨hRf, hRl, hRc, hRs⟩ := hRm
  refine g_wf (fun hwf => ?_)
  have hS0 := hS
  obtain ⟨mb, f, hO, hV, hF, hav, hnm'⟩ := hS
  refine g_aload_n C dJ4_append_bf812_0 rfl ?_
  refine g_iload_n C dJ4_append_bf812_1 rfl ?_
  refine t_callP C hT (c_J5_append_c97b9 _ hS0 hx hn hm) (ci := 1) rfl hO ml_RJ4_53 gw_sameMethod_java_lang_AbstractStringBuilder_java_lang_AbstractStringBui_1921 gw_superclass_RJ4_RJ5 im_yJ5_append_c97b9 in_RJ5 co_yJ5_append_c97b9 ⟨by decide, hd_J5_append_c97b9.2.2⟩ rfl ⟨by omega, by omega⟩ rfl (Nat.le_of_ble_eq_true rfl) ⟨by omega, by omega⟩ dJ4_append_bf812_2 (fun v2 w2 hp2 => ?_)
  obtain ⟨rfl, hp2⟩ := hp2
  refine g_pop C dJ4_append_bf812_5 rfl ?_
  refine g_aload_n C dJ4_append_bf812_6 rfl ?_
  exact g_areturn C (Or.inl ⟨_, rfl⟩) hQ (Or.inr ⟨_, rfl⟩) dJ4_append_bf812_7 (by omega) (by omega) ⟨rfl, hp2⟩
set_option maxHeartbeats 4000000 in
set_option maxRecDepth 100000 in
theorem c_J0_coder_7d493 (l : Launch) {K : KC} {E : GE} {w : Wd} {i : Nat} (hi : i < 4) : St K E l yJ0_coder_7d493 cJ0_coder_7d493 1 (some .byte) 0 (0) (0) [.ref (K.1 i)] w (fun r w' => r = some (iI 0) ∧ w' = w) := by
  refine st_intro [some (.ref (K.1 i))] rfl (Nat.le_of_ble_eq_true rfl) pn_J0 ?_
  intro X C hT hRm hl hnm hQ
  obtain ⟨hRf, hRl, hRc, hRs⟩ := hRm
  refine g_wf (fun hwf => ?_)
  refine g_getc C hT fl_RJ0_38 dJ0_coder_7d493_0 ?_
  refine g_if_eq (tgt := 13) C dJ0_coder_7d493_3 (by decide) (by omega) (fun h3 => ?_) (fun h3 => ?_)
  · omega
  · refine g_aload_n C dJ0_coder_7d493_6 rfl ?_
    refine g_kcod C hT hi fl_RJ0_15 dJ0_coder_7d493_7 ?_
    refine g_goto (tgt := 14) C dJ0_coder_7d493_10 (by decide) ?_
    exact g_zreturn C hQ dJ0_coder_7d493_14 rfl (Nat.le_refl _) (Nat.le_refl _) ⟨rfl, rfl⟩
set_option maxHeartbeats 4000000 in
set_option maxRecDepth 100000 in
theorem c_J0_isLatin1_aae02 (l : Launch) {K : KC} {E : GE} {w : Wd} {i : Nat} (hi : i < 4) : St K E l yJ0_isLatin1_aae02 cJ0_isLatin1_aae02 1 (some .boolean) 0 (0) (0) [.ref (K.1 i)] w (fun r w' => r = some (iI 1) ∧ w' = w) := by
  refine st_intro [some (.ref (K.1 i))] rfl (Nat.le_of_ble_eq_true rfl) pn_J0 ?_
  intro X C hT hRm hl hnm hQ
  obtain ⟨hRf, hRl, hRc, hRs⟩ := hRm
  refine g_wf (fun hwf => ?_)
  refine g_getc C hT fl_RJ0_38 dJ0_isLatin1_aae02_0 ?_
  refine g_if_eq (tgt := 17) C dJ0_isLatin1_aae02_3 (by decide) (by omega) (fun h3 => ?_) (fun h3 => ?_)
  · omega
  · refine g_aload_n C dJ0_isLatin1_aae02_6 rfl ?_
    refine g_kcod C hT hi fl_RJ0_15 dJ0_isLatin1_aae02_7 ?_
    refine g_if_ne (tgt := 17) C dJ0_isLatin1_aae02_10 (by decide) (by omega) (fun h10 => ?_) (fun h10 => ?_)
    · omega
    · refine g_iconst C dJ0_isLatin1_aae02_13 ?_
      refine g_goto (tgt := 18) C dJ0_isLatin1_aae02_14 (by decide) ?_
      exact g_zreturn C hQ dJ0_isLatin1_aae02_18 rfl (Nat.le_refl _) (Nat.le_refl _) ⟨rfl, rfl⟩
theorem kBy_r (i : Nat) : (kBy i).length ≤ 16 := by
  match i with
  | 0 => decide
  | 1 => decide
  | 2 => decide
  | _ + 3 => exact Nat.le_refl 16
theorem kBy_b : ∀ i j : Nat, -128 ≤ ((kBy i).getD j 0).toInt ∧ ((kBy i).getD j 0).toInt ≤ 127 := by
  have h : ∀ i : Nat, i < 4 → ∀ j : Nat, j < 17 → -128 ≤ ((kBy i).getD j 0).toInt ∧ ((kBy i).getD j 0).toInt ≤ 127 := by decide +kernel
  intro i j
  have e : kBy i = kBy (if i < 4 then i else 3) := by
    split
    · rfl
    · rename_i q
      match i, q with
      | 0, q => omega
      | 1, q => omega
      | 2, q => omega
      | i + 3, q => rfl
  rw [e]
  rcases Nat.lt_or_ge j 17 with q | q
  · exact h _ (by split <;> omega) j q
  · have hl := kBy_r (if i < 4 then i else 3)
    rw [List.getD_eq_getElem?_getD, List.getElem?_eq_none (by omega)]
    decide
set_option maxHeartbeats 4000000 in
set_option maxRecDepth 100000 in
theorem c_J0_length_8abf5 (l : Launch) {K : KC} {E : GE} {w : Wd} {i : Nat} (hi : i < 4) : St K E l yJ0_length_8abf5 cJ0_length_8abf5 1 (some .int) 1 (0) (0) [.ref (K.1 i)] w (fun r w' => r = some (iI ((kBy i).length : Nat)) ∧ w' = w) := by
  refine st_intro [some (.ref (K.1 i))] rfl (Nat.le_of_ble_eq_true rfl) pn_J0 ?_
  intro X C hT hRm hl hnm hQ
  obtain ⟨hRf, hRl, hRc, hRs⟩ := hRm
  refine g_wf (fun hwf => ?_)
  have hKT := ((hT.2.1 i hi).1 0 (by decide)).2.2.2
  have hlr := kBy_r i
  refine g_aload_n C dJ0_length_8abf5_0 rfl ?_
  refine g_kval C hT hi fl_RJ0_9 dJ0_length_8abf5_1 ?_
  refine g_tlen C hKT dJ0_length_8abf5_4 ?_
  refine g_aload_n C dJ0_length_8abf5_5 rfl ?_
  refine t_callV C hT (c_J0_coder_7d493 _ hi) (RcV.k hT hi) rfl ml_RJ0_335 im_yJ0_coder_7d493 se_RJ0_yJ0_coder_7d493 in_RJ0 co_yJ0_coder_7d493 hd_J0_coder_7d493 rfl ⟨by omega, by omega⟩ rfl (Nat.le_of_ble_eq_true rfl) ⟨by omega, by omega⟩ dJ0_length_8abf5_6 (fun v6 w6 hp6 => ?_)
  obtain ⟨rfl, hw6⟩ := hp6
  subst w6
  refine g_ishr (z := ((kBy i).length : Nat)) C dJ0_length_8abf5_9 (i_shr0 (by show -2147483648 ≤ (((kBy i).length : Nat) : Int) ∧ (((kBy i).length : Nat) : Int) < 2147483648; omega)) ?_
  exact g_ireturn C hQ dJ0_length_8abf5_10 (Nat.le_refl _) (Nat.le_refl _) ⟨rfl, rfl⟩
set_option maxHeartbeats 4000000 in
set_option maxRecDepth 100000 in
theorem c_J0_getBytes_840e7 (l : Launch) {K : KC} {E : GE} {w : Wd} {i : Nat} (hi : i < 4) {b n m : Nat} {f : Nat → Int} (hb : w.2 b = some (true, eB m f)) (hF : bF f) (hm : n + (kBy i).length ≤ m ∧ m ≤ 1000000) : St K E l yJ0_getBytes_840e7 cJ0_getBytes_840e7 4 none 1 (0) (0) [.ref (K.1 i), .ref b, iI (n : Int), iI 0] w (fun r w' => r = none ∧ ∃ g, w' = wset w b (true, eB m g) ∧ bF g) := by
  refine st_intro [some (.ref (K.1 i)), some (.ref b), some (iI (n : Int)), some (iI 0)] rfl (Nat.le_of_ble_eq_true rfl) pn_J0 ?_
  intro X C hT hRm hl hnm hQ
  obtain ⟨hRf, hRl, hRc, hRs⟩ := hRm
  refine g_wf (fun hwf => ?_)
  have hKT := ((hT.2.1 i hi).1 0 (by decide)).2.2.2
  have hlr := kBy_r i
  refine g_aload_n C dJ0_getBytes_840e7_0 rfl ?_
  refine t_callV C hT (c_J0_coder_7d493 _ hi) (RcV.k hT hi) rfl ml_RJ0_335 im_yJ0_coder_7d493 se_RJ0_yJ0_coder_7d493 in_RJ0 co_yJ0_coder_7d493 hd_J0_coder_7d493 rfl ⟨by omega, by omega⟩ rfl (Nat.le_of_ble_eq_true rfl) ⟨by omega, by omega⟩ dJ0_getBytes_840e7_1 (fun v1 w1 hp1 => ?_)
  obtain ⟨rfl, hw1⟩ := hp1
  subst w1
  refine g_iload_n C dJ0_getBytes_840e7_4 rfl ?_
  refine g_icmp_ne (tgt := 28) C dJ0_getBytes_840e7_5 (by decide) (by omega) (by omega) (fun h5 => ?_) (fun h5 => ?_)
  · omega
  · refine g_aload_n C dJ0_getBytes_840e7_8 rfl ?_
    refine g_kval C hT hi fl_RJ0_9 dJ0_getBytes_840e7_9 ?_
    refine g_iconst C dJ0_getBytes_840e7_12 ?_
    refine g_aload_n C dJ0_getBytes_840e7_13 rfl ?_
    refine g_iload_n C dJ0_getBytes_840e7_14 rfl ?_
    refine g_iload_n C dJ0_getBytes_840e7_15 rfl ?_
    refine g_ishl (z := (n : Int)) C dJ0_getBytes_840e7_16 (i_shl0 _) ?_
    refine g_aload_n C dJ0_getBytes_840e7_17 rfl ?_
    refine g_kval C hT hi fl_RJ0_9 dJ0_getBytes_840e7_18 ?_
    refine g_tlen C hKT dJ0_getBytes_840e7_21 ?_
    refine g_acopyT C (f := fun j => (kBy i).getD j 0) ⟨hKT, hb, ⟨by omega, by omega, by omega, by show (0 : Int) + (((kBy i).length : Nat) : Int) ≤ (((kBy i).length : Nat) : Int); omega, by show (n : Int) + (((kBy i).length : Nat) : Int) ≤ (m : Int); omega, by show (kBy i).length < 2147483648; omega, by omega⟩, fun j => kBy_b i j⟩ ml_RJ0_212 (by omega) (by omega) (Nat.le_of_ble_eq_true rfl) dJ0_getBytes_840e7_22 ?_
    refine g_goto (tgt := 43) C dJ0_getBytes_840e7_25 (by decide) ?_
    exact g_return C hQ dJ0_getBytes_840e7_43 (Nat.le_refl _) (Nat.le_refl _) ⟨rfl, _, rfl, bF.cpy (fun j => kBy_b i j) hF _ _ _⟩
set_option maxHeartbeats 4000000 in
set_option maxRecDepth 100000 in
theorem c_J5_inflateIfNeededFor_a7421 (l : Launch) {K : KC} {E : GE} {w : Wd} {a v n m : Nat} (hS : SBw w a v n m) {i : Nat} (hi : i < 4) : St K E l yJ5_inflateIfNeededFor_a7421 cJ5_inflateIfNeededFor_a7421 2 none 1 (0) (0) [.ref a, .ref (K.1 i)] w (fun r w' => r = none ∧ w' = w) := by
  refine st_intro [some (.ref a), some (.ref (K.1 i))] rfl (Nat.le_of_ble_eq_true rfl) pn_J5 ?_
  intro X C hT hRm hl hnm hQ
  obtain ⟨hRf, hRl, hRc, hRs⟩ := hRm
  refine g_wf (fun hwf => ?_)
  obtain ⟨mb, f, hO, hV, hF, hav, hnm'⟩ := hS
  refine g_getc C hT fl_RJ5_18 dJ5_inflateIfNeededFor_a7421_0 ?_
  refine g_if_eq (tgt := 21) C dJ5_inflateIfNeededFor_a7421_3 (by decide) (by omega) (fun h3 => ?_) (fun h3 => ?_)
  · omega
  · refine g_aload_n C dJ5_inflateIfNeededFor_a7421_6 rfl ?_
    refine g_get (ci := 1) C rfl inTJ4 1 (by decide) fl_RJ5_22 rfl hO rfl dJ5_inflateIfNeededFor_a7421_7 ?_
    refine g_aload_n C dJ5_inflateIfNeededFor_a7421_10 rfl ?_
    refine t_callV C hT (c_J0_coder_7d493 _ hi) (RcV.k hT hi) rfl ml_RJ5_40 im_yJ0_coder_7d493 se_RJ0_yJ0_coder_7d493 in_RJ0 co_yJ0_coder_7d493 hd_J0_coder_7d493 rfl ⟨by omega, by omega⟩ rfl (Nat.le_of_ble_eq_true rfl) ⟨by omega, by omega⟩ dJ5_inflateIfNeededFor_a7421_11 (fun v11 w11 hp11 => ?_)
    obtain ⟨rfl, hw11⟩ := hp11
    subst w11
    refine g_icmp_eq (tgt := 21) C dJ5_inflateIfNeededFor_a7421_14 (by decide) (by omega) (by omega) (fun h14 => ?_) (fun h14 => ?_)
    · exact g_return C hQ dJ5_inflateIfNeededFor_a7421_21 (Nat.le_refl _) (Nat.le_refl _) ⟨rfl, rfl⟩
    · omega
set_option maxHeartbeats 4000000 in
set_option maxRecDepth 100000 in
theorem c_J5_putStringAt_47b60 (l : Launch) {K : KC} {E : GE} {w : Wd} {a v n m : Nat} (hS : SBw w a v n m) {i : Nat} (hi : i < 4) {p : Nat} (hp : p + (kBy i).length ≤ m ∧ m ≤ 1000000) : St K E l yJ5_putStringAt_47b60 cJ5_putStringAt_47b60 3 none 2 (0) (0) [.ref a, iI (p : Int), .ref (K.1 i)] w (fun r w' => r = none ∧ SBw w' a v n m ∧ FrY w w' a v) := by
  refine st_intro [some (.ref a), some (iI (p : Int)), some (.ref (K.1 i))] rfl (Nat.le_of_ble_eq_true rfl) pn_J5 ?_
  intro X C hT hRm hl hnm hQ
  obtain ⟨hRf, hRl, hRc, hRs⟩ := hRm
  refine g_wf (fun hwf => ?_)
  have hS0 := hS
  obtain ⟨mb, f, hO, hV, hF, hav, hnm'⟩ := hS
  refine g_aload_n C dJ5_putStringAt_47b60_0 rfl ?_
  refine g_aload_n C dJ5_putStringAt_47b60_1 rfl ?_
  refine t_callU (owner := RJ5) C hT (c_J5_inflateIfNeededFor_a7421 _ hS0 hi) (RcV.ob (ci := 1) C rfl hO) rfl ml_RJ5_397 gw_sameMethod_java_lang_AbstractStringBuilder_java_lang_AbstractStringBui_1919 se_RJ4__yJ5_inflateIfNeededFor_a7421 im_yJ5_inflateIfNeededFor_a7421 in_RJ5 co_yJ5_inflateIfNeededFor_a7421 hd_J5_inflateIfNeededFor_a7421 rfl ⟨by omega, by omega⟩ rfl (Nat.le_of_ble_eq_true rfl) ⟨by omega, by omega⟩ dJ5_putStringAt_47b60_2 (fun v2 w2 hp2 => ?_)
  obtain ⟨rfl, hw2⟩ := hp2
  subst w2
  refine g_aload_n C dJ5_putStringAt_47b60_5 rfl ?_
  refine g_aload_n C dJ5_putStringAt_47b60_6 rfl ?_
  refine g_get (ci := 1) C rfl inTJ4 0 (by decide) fl_RJ5_15 rfl hO rfl dJ5_putStringAt_47b60_7 ?_
  refine g_iload_n C dJ5_putStringAt_47b60_10 rfl ?_
  refine g_aload_n C dJ5_putStringAt_47b60_11 rfl ?_
  refine g_get (ci := 1) C rfl inTJ4 1 (by decide) fl_RJ5_22 rfl hO rfl dJ5_putStringAt_47b60_12 ?_
  refine t_callV C hT (c_J0_getBytes_840e7 _ hi hV hF hp) (RcV.k hT hi) rfl ml_RJ5_399 im_yJ0_getBytes_840e7 se_RJ0_yJ0_getBytes_840e7 in_RJ0 co_yJ0_getBytes_840e7 hd_J0_getBytes_840e7 rfl ⟨by omega, by omega⟩ rfl (Nat.le_of_ble_eq_true rfl) ⟨by omega, by omega⟩ dJ5_putStringAt_47b60_15 (fun v15 w15 hp15 => ?_)
  obtain ⟨rfl, g15, rfl, hg15⟩ := hp15
  exact g_return C hQ dJ5_putStringAt_47b60_18 (Nat.le_refl _) (Nat.le_refl _) ⟨rfl, ⟨mb, g15, by rw [wset_n hav]; exact hO, wset_s, hg15, hav, hnm'⟩, (FrY.rf _ _ _).set (by omega) _⟩
set_option maxHeartbeats 4000000 in
set_option maxRecDepth 100000 in
theorem c_J5_append_cf1ce (l : Launch) {K : KC} {E : GE} {w : Wd} {a v n m : Nat} (hS : SBw w a v n m) {i : Nat} (hi : i < 4) (hn : n ≤ 100000) (hm : m ≤ 100000) : St K E l yJ5_append_cf1ce cJ5_append_cf1ce 3 (some (.object "java/lang/AbstractStringBuilder")) 4 (gC (n + (kBy i).length) m) (gS (n + (kBy i).length) m) [.ref a, .ref (K.1 i)] w (fun r w' => r = some (.ref a) ∧ ∃ (v' : Nat), SBw w' a v' (n + (kBy i).length) (capG (n + (kBy i).length) m) ∧ (v' = v ∨ w.1 ≤ v') ∧ FrY w w' a v) := by
  refine st_intro [some (.ref a), some (.ref (K.1 i)), none] rfl (Nat.le_of_ble_eq_true rfl) pn_J5 ?_
  intro X C hT hRm hl hnm hQ
  obtain ⟨hRf, hRl, hRc, hRs⟩ := hRm
  refine g_wf (fun hwf => ?_)
  have hS0 := hS
  obtain ⟨mb, f, hO, hV, hF, hav, hnm'⟩ := hS
  have hlr := kBy_r i
  refine g_aload_n C dJ5_append_cf1ce_0 rfl ?_
  refine g_ifnonnull (tgt := 9) C dJ5_append_cf1ce_1 (by decide) ?_
  refine g_aload_n C dJ5_append_cf1ce_9 rfl ?_
  refine t_callV C hT (c_J0_length_8abf5 _ hi) (RcV.k hT hi) rfl ml_RJ5_32 im_yJ0_length_8abf5 se_RJ0_yJ0_length_8abf5 in_RJ0 co_yJ0_length_8abf5 hd_J0_length_8abf5 rfl ⟨by omega, by omega⟩ rfl (Nat.le_of_ble_eq_true rfl) ⟨by omega, by omega⟩ dJ5_append_cf1ce_10 (fun v10 w10 hp10 => ?_)
  obtain ⟨rfl, hw10⟩ := hp10
  subst w10
  refine g_istore_n C dJ5_append_cf1ce_13 (by decide) rfl ?_
  refine g_aload_n C dJ5_append_cf1ce_14 rfl ?_
  refine g_aload_n C dJ5_append_cf1ce_15 rfl ?_
  refine g_get (ci := 1) C rfl inTJ4 3 (by decide) fl_RJ5_79 rfl hO rfl dJ5_append_cf1ce_16 ?_
  refine g_iload_n C dJ5_append_cf1ce_19 rfl ?_
  refine g_iadd C dJ5_append_cf1ce_20 ?_
  rw [show (n : Int) + (((kBy i).length : Nat) : Int) = ((n + (kBy i).length : Nat) : Int) by omega]
  refine t_callU (owner := RJ5) C hT (c_J5_ensureCapacityInternal_d00df _ hS0 (q := n + (kBy i).length) (by omega) hm) (RcV.ob (ci := 1) C rfl hO) rfl ml_RJ5_100 gw_sameMethod_java_lang_AbstractStringBuilder_java_lang_AbstractStringBui_1916 se_RJ4__yJ5_ensureCapacityInternal_d00df im_yJ5_ensureCapacityInternal_d00df in_RJ5 co_yJ5_ensureCapacityInternal_d00df hd_J5_ensureCapacityInternal_d00df rfl ⟨by omega, by omega⟩ rfl (Nat.le_of_ble_eq_true rfl) ⟨by omega, by omega⟩ dJ5_append_cf1ce_21 (fun v21 w21 hp21 => ?_)
  obtain ⟨rfl, v1, hS1, hv1, fr1⟩ := hp21
  obtain ⟨mb1, f1, hO1, hV1, hF1, hav1, hnm1⟩ := id hS1
  have hge := capG_ge (n + (kBy i).length) m
  have hcg : capG (n + (kBy i).length) m ≤ 300000 := by unfold capG; split <;> (try split) <;> omega
  refine g_aload_n C dJ5_append_cf1ce_24 rfl ?_
  refine g_aload_n C dJ5_append_cf1ce_25 rfl ?_
  refine g_get (ci := 1) C rfl inTJ4 3 (by decide) fl_RJ5_79 rfl hO1 rfl dJ5_append_cf1ce_26 ?_
  refine g_aload_n C dJ5_append_cf1ce_29 rfl ?_
  refine t_callU (owner := RJ5) C hT (c_J5_putStringAt_47b60 _ hS1 hi (p := n) (by omega)) (RcV.ob (ci := 1) C rfl hO1) rfl ml_RJ5_208 gw_sameMethod_java_lang_AbstractStringBuilder_java_lang_AbstractStringBui_1918 se_RJ4__yJ5_putStringAt_47b60 im_yJ5_putStringAt_47b60 in_RJ5 co_yJ5_putStringAt_47b60 hd_J5_putStringAt_47b60 rfl ⟨by omega, by omega⟩ rfl (Nat.le_of_ble_eq_true rfl) ⟨by omega, by omega⟩ dJ5_append_cf1ce_30 (fun v30 w30 hp30 => ?_)
  obtain ⟨rfl, hS2, fr2⟩ := hp30
  obtain ⟨mb2, f2, hO2, hV2, hF2, hav2, hnm2⟩ := id hS2
  refine g_aload_n C dJ5_append_cf1ce_33 rfl ?_
  refine g_dup C dJ5_append_cf1ce_34 rfl ?_
  refine g_get (ci := 1) C rfl inTJ4 3 (by decide) fl_RJ5_79 rfl hO2 rfl dJ5_append_cf1ce_35 ?_
  refine g_iload_n C dJ5_append_cf1ce_38 rfl ?_
  refine g_iadd C dJ5_append_cf1ce_39 ?_
  rw [show (n : Int) + (((kBy i).length : Nat) : Int) = ((n + (kBy i).length : Nat) : Int) by omega]
  refine g_put (ci := 1) C rfl inTJ4 tyJ4 tyJ4_ok nmJ4 3 (by decide) fl_RJ5_79 rfl rfl hO2 (Nat.le_of_ble_eq_true rfl) rfl rfl dJ5_append_cf1ce_40 ?_
  refine g_aload_n C dJ5_append_cf1ce_43 rfl ?_
  exact g_areturn C (Or.inl ⟨_, rfl⟩) hQ (Or.inr ⟨_, rfl⟩) dJ5_append_cf1ce_44 (by omega) (by omega) ⟨rfl, v1, ⟨mb2, f2, wset_s, by rw [wset_n (Ne.symm hav2)]; exact hV2, hF2, hav2, by omega⟩, hv1, (fr1.tr fr2 hv1).set (Or.inl rfl) _⟩
set_option maxHeartbeats 4000000 in
set_option maxRecDepth 100000 in
theorem c_J4_append_15ec4 (l : Launch) {K : KC} {E : GE} {w : Wd} {a v n m : Nat} (hS : SBw w a v n m) {i : Nat} (hi : i < 4) (hn : n ≤ 100000) (hm : m ≤ 100000) : St K E l yJ4_append_15ec4 cJ4_append_15ec4 2 (some (.object "java/lang/StringBuilder")) 5 (gC (n + (kBy i).length) m) (gS (n + (kBy i).length) m) [.ref a, .ref (K.1 i)] w (fun r w' => r = some (.ref a) ∧ ∃ (v' : Nat), SBw w' a v' (n + (kBy i).length) (capG (n + (kBy i).length) m) ∧ (v' = v ∨ w.1 ≤ v') ∧ FrY w w' a v) := by
  refine st_intro [some (.ref a), some (.ref (K.1 i))] rfl (Nat.le_of_ble_eq_true rfl) pn_J4 ?_
  intro X C hT hRm hl hnm hQ
  obtain ⟨hRf, hRl, hRc, hRs⟩ := hRm
  refine g_wf (fun hwf => ?_)
  have hS0 := hS
  obtain ⟨mb, f, hO, hV, hF, hav, hnm'⟩ := hS
  refine g_aload_n C dJ4_append_15ec4_0 rfl ?_
  refine g_aload_n C dJ4_append_15ec4_1 rfl ?_
  refine t_callP C hT (c_J5_append_cf1ce _ hS0 hi hn hm) (ci := 1) rfl hO ml_RJ4_29 gw_sameMethod_java_lang_AbstractStringBuilder_java_lang_AbstractStringBui_1914 gw_superclass_RJ4_RJ5 im_yJ5_append_cf1ce in_RJ5 co_yJ5_append_cf1ce ⟨by decide, hd_J5_append_cf1ce.2.2⟩ rfl ⟨by omega, by omega⟩ rfl (Nat.le_of_ble_eq_true rfl) ⟨by omega, by omega⟩ dJ4_append_15ec4_2 (fun v2 w2 hp2 => ?_)
  obtain ⟨rfl, hp2⟩ := hp2
  refine g_pop C dJ4_append_15ec4_5 rfl ?_
  refine g_aload_n C dJ4_append_15ec4_6 rfl ?_
  exact g_areturn C (Or.inl ⟨_, rfl⟩) hQ (Or.inr ⟨_, rfl⟩) dJ4_append_15ec4_7 (by omega) (by omega) ⟨rfl, hp2⟩
set_option maxHeartbeats 4000000 in
set_option maxRecDepth 100000 in
theorem c_J3_checkIndexN (l : Launch) {K : KC} {E : GE} {w : Wd} {i n : Int} (hi : 0 ≤ i ∧ i < n ∧ n < 2147483648) : St K E l yJ3_checkIndex_8e157 cJ3_checkIndex_8e157 3 (some .int) 0 (0) (0) [iI i, iI n, .null] w (fun r w' => r = some (iI i) ∧ w' = w) := by
  refine st_intro [some (iI i), some (iI n), some (.null)] rfl (Nat.le_of_ble_eq_true rfl) pn_J3 ?_
  intro X C hT hRm hl hnm hQ
  obtain ⟨hRf, hRl, hRc, hRs⟩ := hRm
  refine g_wf (fun hwf => ?_)
  refine g_iload_n C dJ3_checkIndex_8e157_0 rfl ?_
  refine g_if_lt (tgt := 9) C dJ3_checkIndex_8e157_1 (by decide) (by omega) (fun h1 => ?_) (fun h1 => ?_)
  · omega
  · refine g_iload_n C dJ3_checkIndex_8e157_4 rfl ?_
    refine g_iload_n C dJ3_checkIndex_8e157_5 rfl ?_
    refine g_icmp_lt (tgt := 16) C dJ3_checkIndex_8e157_6 (by decide) (by omega) (by omega) (fun h6 => ?_) (fun h6 => ?_)
    · refine g_iload_n C dJ3_checkIndex_8e157_16 rfl ?_
      exact g_ireturn C hQ dJ3_checkIndex_8e157_17 (Nat.le_refl _) (Nat.le_refl _) ⟨rfl, rfl⟩
    · omega
set_option maxHeartbeats 4000000 in
set_option maxRecDepth 100000 in
theorem c_J3_checkIndexR (l : Launch) {K : KC} {E : GE} {w : Wd} {t : Nat} {i n : Int} (hi : 0 ≤ i ∧ i < n ∧ n < 2147483648) : St K E l yJ3_checkIndex_8e157 cJ3_checkIndex_8e157 3 (some .int) 0 (0) (0) [iI i, iI n, .ref t] w (fun r w' => r = some (iI i) ∧ w' = w) := by
  refine st_intro [some (iI i), some (iI n), some (.ref t)] rfl (Nat.le_of_ble_eq_true rfl) pn_J3 ?_
  intro X C hT hRm hl hnm hQ
  obtain ⟨hRf, hRl, hRc, hRs⟩ := hRm
  refine g_wf (fun hwf => ?_)
  refine g_iload_n C dJ3_checkIndex_8e157_0 rfl ?_
  refine g_if_lt (tgt := 9) C dJ3_checkIndex_8e157_1 (by decide) (by omega) (fun h1 => ?_) (fun h1 => ?_)
  · omega
  · refine g_iload_n C dJ3_checkIndex_8e157_4 rfl ?_
    refine g_iload_n C dJ3_checkIndex_8e157_5 rfl ?_
    refine g_icmp_lt (tgt := 16) C dJ3_checkIndex_8e157_6 (by decide) (by omega) (by omega) (fun h6 => ?_) (fun h6 => ?_)
    · refine g_iload_n C dJ3_checkIndex_8e157_16 rfl ?_
      exact g_ireturn C hQ dJ3_checkIndex_8e157_17 (Nat.le_refl _) (Nat.le_refl _) ⟨rfl, rfl⟩
    · omega
set_option maxHeartbeats 4000000 in
set_option maxRecDepth 100000 in
theorem c_J0_checkIndex_df160 (l : Launch) {K : KC} {E : GE} {w : Wd} {i n : Int} (hi : 0 ≤ i ∧ i < n ∧ n < 2147483648) : St K E l yJ0_checkIndex_df160 cJ0_checkIndex_df160 2 none 1 (0) (0) [iI i, iI n] w (fun r w' => r = none ∧ w' = w) := by
  refine st_intro [some (iI i), some (iI n)] rfl (Nat.le_of_ble_eq_true rfl) pn_J0 ?_
  intro X C hT hRm hl hnm hQ
  obtain ⟨hRf, hRl, hRc, hRs⟩ := hRm
  refine g_wf (fun hwf => ?_)
  refine g_iload_n C dJ0_checkIndex_df160_0 rfl ?_
  refine g_iload_n C dJ0_checkIndex_df160_1 rfl ?_
  rcases hT.2.2.2.1 with hZ | ⟨t, hZ⟩
  · refine g_gets C hZ fl_RJ0_1053 dJ0_checkIndex_df160_2 ?_
    refine t_callS C hT (c_J3_checkIndexN _ hi) ml_RJ0_1059 sm_yJ3_checkIndex_8e157 in_RJ3 co_yJ3_checkIndex_8e157 hd_J3_checkIndex_8e157 rfl ⟨by omega, by omega⟩ rfl (Nat.le_of_ble_eq_true rfl) ⟨by omega, by omega⟩ dJ0_checkIndex_df160_5 (fun v5 w5 hp5 => ?_)
    obtain ⟨rfl, hw5⟩ := hp5
    subst w5
    refine g_pop C dJ0_checkIndex_df160_8 rfl ?_
    exact g_return C hQ dJ0_checkIndex_df160_9 (Nat.le_refl _) (Nat.le_refl _) ⟨rfl, rfl⟩
  refine g_gets C hZ fl_RJ0_1053 dJ0_checkIndex_df160_2 ?_
  refine t_callS C hT (c_J3_checkIndexR _ hi) ml_RJ0_1059 sm_yJ3_checkIndex_8e157 in_RJ3 co_yJ3_checkIndex_8e157 hd_J3_checkIndex_8e157 rfl ⟨by omega, by omega⟩ rfl (Nat.le_of_ble_eq_true rfl) ⟨by omega, by omega⟩ dJ0_checkIndex_df160_5 (fun v5 w5 hp5 => ?_)
  obtain ⟨rfl, hw5⟩ := hp5
  subst w5
  refine g_pop C dJ0_checkIndex_df160_8 rfl ?_
  exact g_return C hQ dJ0_checkIndex_df160_9 (Nat.le_refl _) (Nat.le_refl _) ⟨rfl, rfl⟩
theorem nar_ch {y : Int} (h0 : 0 ≤ y) (h1 : y ≤ 65535) : narrow .char (iI y) = iI y := congrArg Value.int (i2c_n h0 h1)
set_option maxHeartbeats 4000000 in
set_option maxRecDepth 100000 in
theorem c_J1_charAt_3b067 (l : Launch) {K : KC} {E : GE} {w : Wd} {i : Nat} (hi : i < 4) {p : Nat} (hp : p < (kBy i).length) : St K E l yJ1_charAt_3b067 cJ1_charAt_3b067 2 (some .char) 2 (0) (0) [.ref (K.2.1 i), iI (p : Int)] w (fun r w' => (∃ y : Int, r = some (iI y) ∧ 0 ≤ y ∧ y ≤ 255) ∧ w' = w) := by
  refine st_intro [some (.ref (K.2.1 i)), some (iI (p : Int))] rfl (Nat.le_of_ble_eq_true rfl) pn_J1 ?_
  intro X C hT hRm hl hnm hQ
  obtain ⟨hRf, hRl, hRc, hRs⟩ := hRm
  refine g_wf (fun hwf => ?_)
  have hKT := ((hT.2.1 i hi).1 0 (by decide)).2.2.2
  have hlr := kBy_r i
  refine g_iload_n C dJ1_charAt_3b067_0 rfl ?_
  refine g_aload_n C dJ1_charAt_3b067_1 rfl ?_
  refine g_tlen C hKT dJ1_charAt_3b067_2 ?_
  refine t_callS C hT (c_J0_checkIndex_df160 _ (i := (p : Int)) (n := (((kBy i).length : Nat) : Int)) (by omega)) ml_RJ1_9 sm_yJ0_checkIndex_df160 in_RJ0 co_yJ0_checkIndex_df160 hd_J0_checkIndex_df160 rfl ⟨by omega, by omega⟩ rfl (Nat.le_of_ble_eq_true rfl) ⟨by omega, by omega⟩ dJ1_charAt_3b067_3 (fun v3 w3 hp3 => ?_)
  obtain ⟨rfl, hw3⟩ := hp3
  subst w3
  refine g_aload_n C dJ1_charAt_3b067_6 rfl ?_
  refine g_iload_n C dJ1_charAt_3b067_7 rfl ?_
  refine g_tbal C (f := fun j => (kBy i).getD j 0) hKT (by show 0 ≤ (p : Int) ∧ (p : Int) < (((kBy i).length : Nat) : Int) ∧ (p : Int) < 2147483648; omega) dJ1_charAt_3b067_8 ?_
  refine g_sipush C dJ1_charAt_3b067_9 (by decide) ?_
  obtain ⟨y8, hy8, y80, y81⟩ := b255 (Int32.ofInt ((kBy i).getD ((p : Int)).toNat 0).toInt)
  refine g_iand (z := y8) C dJ1_charAt_3b067_12 hy8 ?_
  refine g_i2c (z := y8) C dJ1_charAt_3b067_13 (i2c_n y80 (by omega)) ?_
  exact g_zreturn C hQ dJ1_charAt_3b067_14 (nar_ch y80 (by omega)) (Nat.le_refl _) (Nat.le_refl _) ⟨⟨y8, rfl, y80, y81⟩, rfl⟩
set_option maxHeartbeats 4000000 in
set_option maxRecDepth 100000 in
theorem c_J0_charAt_5068e (l : Launch) {K : KC} {E : GE} {w : Wd} {i : Nat} (hi : i < 4) {p : Nat} (hp : p < (kBy i).length) : St K E l yJ0_charAt_5068e cJ0_charAt_5068e 2 (some .char) 3 (0) (0) [.ref (K.1 i), iI (p : Int)] w (fun r w' => (∃ y : Int, r = some (iI y) ∧ 0 ≤ y ∧ y ≤ 255) ∧ w' = w) := by
  refine st_intro [some (.ref (K.1 i)), some (iI (p : Int))] rfl (Nat.le_of_ble_eq_true rfl) pn_J0 ?_
  intro X C hT hRm hl hnm hQ
  obtain ⟨hRf, hRl, hRc, hRs⟩ := hRm
  refine g_wf (fun hwf => ?_)
  refine g_aload_n C dJ0_charAt_5068e_0 rfl ?_
  refine t_callV C hT (c_J0_isLatin1_aae02 _ hi) (RcV.k hT hi) rfl ml_RJ0_492 im_yJ0_isLatin1_aae02 se_RJ0_yJ0_isLatin1_aae02 in_RJ0 co_yJ0_isLatin1_aae02 hd_J0_isLatin1_aae02 rfl ⟨by omega, by omega⟩ rfl (Nat.le_of_ble_eq_true rfl) ⟨by omega, by omega⟩ dJ0_charAt_5068e_1 (fun v1 w1 hp1 => ?_)
  obtain ⟨rfl, hw1⟩ := hp1
  subst w1
  refine g_if_eq (tgt := 16) C dJ0_charAt_5068e_4 (by decide) (by omega) (fun h4 => ?_) (fun h4 => ?_)
  · omega
  · refine g_aload_n C dJ0_charAt_5068e_7 rfl ?_
    refine g_kval C hT hi fl_RJ0_9 dJ0_charAt_5068e_8 ?_
    refine g_iload_n C dJ0_charAt_5068e_11 rfl ?_
    refine t_callS C hT (c_J1_charAt_3b067 _ hi hp) ml_RJ0_495 sm_yJ1_charAt_3b067 in_RJ1 co_yJ1_charAt_3b067 hd_J1_charAt_3b067 rfl ⟨by omega, by omega⟩ rfl (Nat.le_of_ble_eq_true rfl) ⟨by omega, by omega⟩ dJ0_charAt_5068e_12 (fun v12 w12 hp12 => ?_)
    obtain ⟨⟨y, rfl, y0, y1⟩, hw12⟩ := hp12
    subst w12
    exact g_zreturn C hQ dJ0_charAt_5068e_15 (nar_ch y0 (by omega)) (Nat.le_refl _) (Nat.le_refl _) ⟨⟨y, rfl, y0, y1⟩, rfl⟩
