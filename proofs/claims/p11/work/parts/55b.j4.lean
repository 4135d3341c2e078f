/-! StringBuilder with its letters (all of one byte, below 128 where they are read) -/
def SBt (w : Wd) (a v n m : Nat) (f : Nat → Int) : Prop := ∃ mb : Int, w.2 a = some (true, eO 1 [.ref v, iI 0, iI mb, iI (n : Int)]) ∧ w.2 v = some (true, eB m f) ∧ bF f ∧ a ≠ v ∧ n ≤ m
theorem SBt.w {w : Wd} {a v n m : Nat} {f : Nat → Int} (h : SBt w a v n m f) : SBw w a v n m := by
  obtain ⟨mb, h1, h2, h3, h4, h5⟩ := h
  exact ⟨mb, f, h1, h2, h3, h4, h5⟩
theorem SBw.t {w : Wd} {a v n m : Nat} (h : SBw w a v n m) : ∃ f, SBt w a v n m f := by
  obtain ⟨mb, f, h1, h2, h3, h4, h5⟩ := h
  exact ⟨f, mb, h1, h2, h3, h4, h5⟩
theorem nar_b {x : Int} (h : -128 ≤ x ∧ x ≤ 127) : vp_nar .byte (Int32.ofInt x) = Int32.ofInt x := by
  show (Int32.ofInt x).toInt8.toInt32 = _
  rw [← Int32.toInt_inj, Int8.toInt_toInt32, Int32.toInt_toInt8, Int32.toInt_ofInt_of_le (by omega) (by omega)]
  rw [Int.bmod_eq_of_le (by omega) (by omega)]
theorem nar_w {d : Int} (h : 0 ≤ d ∧ d < 256) : ∃ y : Int, vp_nar .byte (Int32.ofInt d) = Int32.ofInt y ∧ -128 ≤ y ∧ y ≤ 127 ∧ y % 256 = d := by
  refine ⟨(Int32.ofInt d).toInt8.toInt, ?_, ?_, ?_, ?_⟩
  · show (Int32.ofInt d).toInt8.toInt32 = _
    rw [← Int32.toInt_inj, Int8.toInt_toInt32, Int32.toInt_ofInt_of_le (by have := Int8.le_toInt (Int32.ofInt d).toInt8; omega) (by have := Int8.toInt_lt (Int32.ofInt d).toInt8; omega)]
  · exact Int8.le_toInt (Int32.ofInt d).toInt8
  · have := Int8.toInt_lt (Int32.ofInt d).toInt8; omega
  · rw [Int32.toInt_toInt8, Int32.toInt_ofInt_of_le (by omega) (by omega)]
    have e := @Int.bmod_emod d 256
    have e2 : d % ((256 : Nat) : Int) = d := Int.emod_eq_of_lt h.1 (by omega)
    rw [e2] at e
    exact e
theorem cpy_at {f g : Nat → Int} {n j : Nat} (h : j < n) : cpyI f g 0 0 n j = f j := by
  unfold cpyI
  rw [if_pos ⟨Nat.zero_le _, by omega⟩, Nat.sub_zero, Nat.zero_add]
set_option maxHeartbeats 4000000 in
set_option maxRecDepth 100000 in
theorem t_J7_copyOf_9075b (l : Launch) {K : KC} {E : GE} {w : Wd} {a m q : Nat} {f : Nat → Int} (ha : w.2 a = some (true, eB m f)) (hF : bF f) (hq : m < q ∧ q ≤ 400000) : St K E l yJ7_copyOf_9075b cJ7_copyOf_9075b 3 (some (.array .byte)) 1 (1) (q) [.ref a, iI (q : Int)] w (fun r w' => r = some (.ref w.1) ∧ ∃ g, w' = wpush w (true, eB q g) ∧ bF g ∧ ∀ j, j < m → g j = f j) := by
  refine st_intro [some (.ref a), some (iI (q : Int)), none] rfl (Nat.le_of_ble_eq_true rfl) pn_J7 ?_
  intro X C hT hRm hl hnm hQ
  obtain ⟨hRf, hRl, hRc, hRs⟩ := hRm
  refine g_wf (fun hwf => ?_)
  refine g_iload_n C dJ7_copyOf_9075b_0 rfl ?_
  refine g_aload_n C dJ7_copyOf_9075b_1 rfl ?_
  refine g_alen C ha (Or.inr (Or.inl ⟨_, rfl⟩)) dJ7_copyOf_9075b_2 ?_
  refine g_icmp_ne (tgt := 14) C dJ7_copyOf_9075b_3 (by decide) (by omega) (by omega) (fun h3 => ?_) (fun h3 => ?_)
  · have hne : a ≠ w.1 := Nat.ne_of_lt (hwf a _ ha)
    refine g_iload_n C dJ7_copyOf_9075b_14 rfl ?_
    refine g_newB C gw_arrayClass_byte (N := q) rfl (by omega) (by omega) dJ7_copyOf_9075b_15 ?_
    refine g_astore_n C dJ7_copyOf_9075b_17 (by decide) rfl ?_
    refine g_aload_n C dJ7_copyOf_9075b_18 rfl ?_
    refine g_iconst C dJ7_copyOf_9075b_19 ?_
    refine g_aload_n C dJ7_copyOf_9075b_20 rfl ?_
    refine g_iconst C dJ7_copyOf_9075b_21 ?_
    refine g_aload_n C dJ7_copyOf_9075b_22 rfl ?_
    refine g_alen C (by rw [wpush_n hne]; exact ha) (Or.inr (Or.inl ⟨_, rfl⟩)) dJ7_copyOf_9075b_23 ?_
    refine g_iload_n C dJ7_copyOf_9075b_24 rfl ?_
    refine g_min C ml_RJ7_304 (by omega) (by omega) (by omega) (by omega) (Nat.le_of_ble_eq_true rfl) (by omega) dJ7_copyOf_9075b_25 ?_
    refine g_acopyB C (f := f) (g := fun _ => 0) ⟨by rw [wpush_n hne]; exact ha, wpush_s, ⟨by omega, by omega, by split <;> omega, by split <;> omega, by split <;> omega, by omega, by omega⟩, hF⟩ ml_RJ7_150 (by omega) (by omega) (Nat.le_of_ble_eq_true rfl) dJ7_copyOf_9075b_28 ?_
    rw [wset_push]
    refine g_aload_n C dJ7_copyOf_9075b_31 rfl ?_
    exact g_areturn C (Or.inr ⟨_, rfl⟩) hQ (Or.inr ⟨_, rfl⟩) dJ7_copyOf_9075b_32 (by omega) (by omega) ⟨rfl, _, rfl, hF.cpy bF.zero _ _ _, fun j hj => cpy_at (by split <;> omega)⟩
  · omega
set_option maxHeartbeats 4000000 in
set_option maxRecDepth 100000 in
theorem t_J5_ensureCapacityInternal_d00df (l : Launch) {K : KC} {E : GE} {w : Wd} {a v n m : Nat} {f : Nat → Int} (hS : SBt w a v n m f) {q : Nat} (hq : q ≤ 200000) (hm : m ≤ 100000) : St K E l yJ5_ensureCapacityInternal_d00df cJ5_ensureCapacityInternal_d00df 3 none 3 (gC q m) (gS q m) [.ref a, iI (q : Int)] w (fun r w' => r = none ∧ ∃ (v' : Nat) (f' : Nat → Int), SBt w' a v' n (capG q m) f' ∧ (∀ j, j < n → f' j = f j) ∧ (v' = v ∨ w.1 ≤ v') ∧ FrY w w' a v) := by
  refine st_intro [some (.ref a), some (iI (q : Int)), none] rfl (Nat.le_of_ble_eq_true rfl) pn_J5 ?_
  intro X C hT hRm hl hnm hQ
  obtain ⟨hRf, hRl, hRc, hRs⟩ := hRm
  refine g_wf (fun hwf => ?_)
  have hS0 := hS.w
  obtain ⟨mb, hO, hV, hF, hav, hnm'⟩ := hS
  refine g_aload_n C dJ5_ensureCapacityInternal_d00df_0 rfl ?_
  refine g_get (ci := 1) C rfl inTJ4 0 (by decide) fl_RJ5_15 rfl hO rfl dJ5_ensureCapacityInternal_d00df_1 ?_
  refine g_alen C hV (Or.inr (Or.inl ⟨_, rfl⟩)) dJ5_ensureCapacityInternal_d00df_4 ?_
  refine g_aload_n C dJ5_ensureCapacityInternal_d00df_5 rfl ?_
  refine g_get (ci := 1) C rfl inTJ4 1 (by decide) fl_RJ5_22 rfl hO rfl dJ5_ensureCapacityInternal_d00df_6 ?_
  refine g_ishr (z := (m : Int)) C dJ5_ensureCapacityInternal_d00df_9 (i_shr0 (by omega)) ?_
  refine g_istore_n C dJ5_ensureCapacityInternal_d00df_10 (by decide) rfl ?_
  refine g_iload_n C dJ5_ensureCapacityInternal_d00df_11 rfl ?_
  refine g_iload_n C dJ5_ensureCapacityInternal_d00df_12 rfl ?_
  refine g_isub C dJ5_ensureCapacityInternal_d00df_13 ?_
  refine g_if_le (tgt := 38) C dJ5_ensureCapacityInternal_d00df_14 (by decide) (by omega) (fun h14 => ?_) (fun h14 => ?_)
  · exact g_return C hQ dJ5_ensureCapacityInternal_d00df_38 (by omega) (by omega) ⟨rfl, (by
      first
      | exact ⟨v, f, by rw [show capG q m = m by unfold capG; rw [if_pos (by omega)]]; exact ⟨mb, hO, hV, hF, hav, hnm'⟩, fun _ _ => rfl, Or.inl rfl, FrY.rf _ _ _⟩
      | exact ⟨w.1, g9, ⟨mb, wset_s, by rw [wset_n (Nat.ne_of_gt (hwf a _ hO))]; exact wpush_s, hg9, Nat.ne_of_lt (hwf a _ hO), by omega⟩, fun j hj => he9 j (by omega), Or.inr (Nat.le_refl _), ((FrY.rf w a v).push _).set (Or.inl rfl) _⟩)⟩
  · have hqm : ¬ q ≤ m := by omega
    have egc : gC q m = 1 := if_neg hqm
    have egs : gS q m = capG q m := if_neg hqm
    have hcq : m < capG q m ∧ capG q m ≤ 400000 := by unfold capG; rw [if_neg hqm]; split <;> omega
    refine g_aload_n C dJ5_ensureCapacityInternal_d00df_17 rfl ?_
    refine g_aload_n C dJ5_ensureCapacityInternal_d00df_18 rfl ?_
    refine g_get (ci := 1) C rfl inTJ4 0 (by decide) fl_RJ5_15 rfl hO rfl dJ5_ensureCapacityInternal_d00df_19 ?_
    refine g_aload_n C dJ5_ensureCapacityInternal_d00df_22 rfl ?_
    refine g_iload_n C dJ5_ensureCapacityInternal_d00df_23 rfl ?_
    refine t_callU (owner := RJ5) C hT (c_J5_newCapacity_0f7a4 _ hS0 (q := q) (by omega) hm) (RcV.ob (ci := 1) C rfl hO) rfl ml_RJ5_104 gw_sameMethod_java_lang_AbstractStringBuilder_java_lang_AbstractStringBui_1917 se_RJ4__yJ5_newCapacity_0f7a4 im_yJ5_newCapacity_0f7a4 in_RJ5 co_yJ5_newCapacity_0f7a4 hd_J5_newCapacity_0f7a4 rfl ⟨by omega, by omega⟩ rfl (Nat.le_of_ble_eq_true rfl) ⟨by omega, by omega⟩ dJ5_ensureCapacityInternal_d00df_24 (fun v24 w24 hp24 => ?_)
    obtain ⟨rfl, hw24⟩ := hp24
    subst w24
    refine g_aload_n C dJ5_ensureCapacityInternal_d00df_27 rfl ?_
    refine g_get (ci := 1) C rfl inTJ4 1 (by decide) fl_RJ5_22 rfl hO rfl dJ5_ensureCapacityInternal_d00df_28 ?_
    refine g_ishl (z := ((capG q m : Nat) : Int)) C dJ5_ensureCapacityInternal_d00df_31 (i_shl0 _) ?_
    refine t_callS C hT (t_J7_copyOf_9075b _ hV hF (q := capG q m) hcq) ml_RJ5_108 sm_yJ7_copyOf_9075b in_RJ7 co_yJ7_copyOf_9075b hd_J7_copyOf_9075b rfl ⟨by omega, by omega⟩ rfl (Nat.le_of_ble_eq_true rfl) ⟨by omega, by omega⟩ dJ5_ensureCapacityInternal_d00df_32 (fun v32 w32 hp32 => ?_)
    obtain ⟨rfl, g9, rfl, hg9, he9⟩ := hp32
    have hO9 : (wpush w (true, eB (capG q m) g9)).2 a = some (true, eO 1 [.ref v, iI 0, iI mb, iI (n : Int)]) := by rw [wpush_n (Nat.ne_of_lt (hwf a _ hO))]; exact hO
    refine g_put (ci := 1) C rfl inTJ4 tyJ4 tyJ4_ok nmJ4 0 (by decide) fl_RJ5_15 rfl rfl hO9 (Nat.le_of_ble_eq_true rfl) rfl rfl dJ5_ensureCapacityInternal_d00df_35 ?_
    exact g_return C hQ dJ5_ensureCapacityInternal_d00df_38 (by omega) (by omega) ⟨rfl, (by
      first
      | exact ⟨v, f, by rw [show capG q m = m by unfold capG; rw [if_pos (by omega)]]; exact ⟨mb, hO, hV, hF, hav, hnm'⟩, fun _ _ => rfl, Or.inl rfl, FrY.rf _ _ _⟩
      | exact ⟨w.1, g9, ⟨mb, wset_s, by rw [wset_n (Nat.ne_of_gt (hwf a _ hO))]; exact wpush_s, hg9, Nat.ne_of_lt (hwf a _ hO), by omega⟩, fun j hj => he9 j (by omega), Or.inr (Nat.le_refl _), ((FrY.rf w a v).push _).set (Or.inl rfl) _⟩)⟩
set_option maxHeartbeats 4000000 in
set_option maxRecDepth 100000 in
theorem t_J5_append_3fe6f (l : Launch) {K : KC} {E : GE} {w : Wd} {a v n m : Nat} {f : Nat → Int} (hS : SBt w a v n m f) {x : Int} (hx : 0 ≤ x ∧ x ≤ 127) (hn : n ≤ 100000) (hm : m ≤ 100000) : St K E l yJ5_append_3fe6f cJ5_append_3fe6f 2 (some (.object "java/lang/AbstractStringBuilder")) 4 (gC (n + 1) m) (gS (n + 1) m) [.ref a, iI x] w (fun r w' => r = some (.ref a) ∧ ∃ (v' : Nat) (f' : Nat → Int), SBt w' a v' (n + 1) (capG (n + 1) m) f' ∧ (∀ j, j < n → f' j = f j) ∧ f' n = x ∧ (v' = v ∨ w.1 ≤ v') ∧ FrY w w' a v) := by
  refine st_intro [some (.ref a), some (iI x)] rfl (Nat.le_of_ble_eq_true rfl) pn_J5 ?_
  intro X C hT hRm hl hnm hQ
  obtain ⟨hRf, hRl, hRc, hRs⟩ := hRm
  refine g_wf (fun hwf => ?_)
  have hS0 := hS
  obtain ⟨mb, hO, hV, hF, hav, hnm'⟩ := hS
  refine g_aload_n C dJ5_append_3fe6f_0 rfl ?_
  refine g_aload_n C dJ5_append_3fe6f_1 rfl ?_
  refine g_get (ci := 1) C rfl inTJ4 3 (by decide) fl_RJ5_79 rfl hO rfl dJ5_append_3fe6f_2 ?_
  refine g_iconst C dJ5_append_3fe6f_5 ?_
  refine g_iadd C dJ5_append_3fe6f_6 ?_
  rw [show (n : Int) + 1 = ((n + 1 : Nat) : Int) by omega]
  refine t_callU (owner := RJ5) C hT (t_J5_ensureCapacityInternal_d00df _ hS0 (q := n + 1) (by omega) hm) (RcV.ob (ci := 1) C rfl hO) rfl ml_RJ5_100 gw_sameMethod_java_lang_AbstractStringBuilder_java_lang_AbstractStringBui_1916 se_RJ4__yJ5_ensureCapacityInternal_d00df im_yJ5_ensureCapacityInternal_d00df in_RJ5 co_yJ5_ensureCapacityInternal_d00df hd_J5_ensureCapacityInternal_d00df rfl ⟨by omega, by omega⟩ rfl (Nat.le_of_ble_eq_true rfl) ⟨by omega, by omega⟩ dJ5_append_3fe6f_7 (fun v7 w7 hp7 => ?_)
  obtain ⟨rfl, v1, f1, hS1, he1, hv1, fr1⟩ := hp7
  obtain ⟨mb1, hO1, hV1, hF1, hav1, hnm1⟩ := id hS1
  have hge := capG_ge (n + 1) m
  refine g_aload_n C dJ5_append_3fe6f_10 rfl ?_
  refine t_callU (owner := RJ5) C hT (c_J5_isLatin1_aae02 _ hS1.w) (RcV.ob (ci := 1) C rfl hO1) rfl ml_RJ5_83 gw_sameMethod_java_lang_AbstractStringBuilder_java_lang_AbstractStringBui_424 se_RJ4__yJ5_isLatin1_aae02 im_yJ5_isLatin1_aae02 in_RJ5 co_yJ5_isLatin1_aae02 hd_J5_isLatin1_aae02 rfl ⟨by omega, by omega⟩ rfl (Nat.le_of_ble_eq_true rfl) ⟨by omega, by omega⟩ dJ5_append_3fe6f_11 (fun v11 w11 hp11 => ?_)
  obtain ⟨rfl, hw11⟩ := hp11
  subst w11
  refine g_if_eq (tgt := 45) C dJ5_append_3fe6f_14 (by decide) (by omega) (fun h14 => ?_) (fun h14 => ?_)
  · omega
  · refine g_iload_n C dJ5_append_3fe6f_17 rfl ?_
    refine t_callS C hT (c_J1_canEncode_fc78d _ (show 0 ≤ x ∧ x ≤ 255 by omega)) ml_RJ5_191 sm_yJ1_canEncode_fc78d in_RJ1 co_yJ1_canEncode_fc78d hd_J1_canEncode_fc78d rfl ⟨by omega, by omega⟩ rfl (Nat.le_of_ble_eq_true rfl) ⟨by omega, by omega⟩ dJ5_append_3fe6f_18 (fun v18 w18 hp18 => ?_)
    obtain ⟨rfl, hw18⟩ := hp18
    subst w18
    refine g_if_eq (tgt := 45) C dJ5_append_3fe6f_21 (by decide) (by omega) (fun h21 => ?_) (fun h21 => ?_)
    · omega
    · refine g_aload_n C dJ5_append_3fe6f_24 rfl ?_
      refine g_get (ci := 1) C rfl inTJ4 0 (by decide) fl_RJ5_15 rfl hO1 rfl dJ5_append_3fe6f_25 ?_
      refine g_aload_n C dJ5_append_3fe6f_28 rfl ?_
      refine g_dup C dJ5_append_3fe6f_29 rfl ?_
      refine g_get (ci := 1) C rfl inTJ4 3 (by decide) fl_RJ5_79 rfl hO1 rfl dJ5_append_3fe6f_30 ?_
      refine g_dup_x1 C dJ5_append_3fe6f_33 rfl rfl ?_
      refine g_iconst C dJ5_append_3fe6f_34 ?_
      refine g_iadd C dJ5_append_3fe6f_35 ?_
      rw [show (n : Int) + 1 = ((n + 1 : Nat) : Int) by omega]
      refine g_put (ci := 1) C rfl inTJ4 tyJ4 tyJ4_ok nmJ4 3 (by decide) fl_RJ5_79 rfl rfl hO1 (Nat.le_of_ble_eq_true rfl) rfl rfl dJ5_append_3fe6f_36 ?_
      have hV2 : (wset w7 a (true, eO 1 [.ref v1, iI 0, iI mb1, iI ((n + 1 : Nat) : Int)])).2 v1 = some (true, eB (capG (n + 1) m) f1) := by rw [wset_n (Ne.symm hav1)]; exact hV1
      refine g_iload_n C dJ5_append_3fe6f_39 rfl ?_
      refine g_i2b (z := x) C dJ5_append_3fe6f_40 (nar_b (by omega)) ?_
      refine g_bastore C hV2 (by omega) (nar_b (by omega)) dJ5_append_3fe6f_41 ?_
      refine g_goto (tgt := 75) C dJ5_append_3fe6f_42 (by decide) ?_
      refine g_aload_n C dJ5_append_3fe6f_75 rfl ?_
      exact g_areturn C (Or.inl ⟨_, rfl⟩) hQ (Or.inr ⟨_, rfl⟩) dJ5_append_3fe6f_76 (by omega) (by omega) ⟨rfl, v1, _, ⟨mb1, by rw [wset_n hav1]; exact wset_s, wset_s, hF1.iup _ ⟨by omega, by omega⟩, hav1, by have := capG_ge (n + 1) m; omega⟩, fun j hj => by rw [iup_n (show j ≠ ((n : Nat) : Int).toNat by omega)]; exact he1 j hj, by unfold iup; rw [if_pos (by omega)], hv1, (fr1.set (Or.inl rfl) _).set (by omega) _⟩
set_option maxHeartbeats 4000000 in
set_option maxRecDepth 100000 in
theorem t_J4_append_cf468 (l : Launch) {K : KC} {E : GE} {w : Wd} {a v n m : Nat} {f : Nat → Int} (hS : SBt w a v n m f) {x : Int} (hx : 0 ≤ x ∧ x ≤ 127) (hn : n ≤ 100000) (hm : m ≤ 100000) : St K E l yJ4_append_cf468 cJ4_append_cf468 2 (some (.object "java/lang/StringBuilder")) 5 (gC (n + 1) m) (gS (n + 1) m) [.ref a, iI x] w (fun r w' => r = some (.ref a) ∧ ∃ (v' : Nat) (f' : Nat → Int), SBt w' a v' (n + 1) (capG (n + 1) m) f' ∧ (∀ j, j < n → f' j = f j) ∧ f' n = x ∧ (v' = v ∨ w.1 ≤ v') ∧ FrY w w' a v) := by
  refine st_intro [some (.ref a), some (iI x)] rfl (Nat.le_of_ble_eq_true rfl) pn_J4 ?_
  intro X C hT hRm hl hnm hQ
  obtain ⟨hRf, hRl, hRc, hRs⟩ := hRm
  refine g_wf (fun hwf => ?_)
  have hS0 := hS
  obtain ⟨mb, hO, hV, hF, hav, hnm'⟩ := hS
  refine g_aload_n C dJ4_append_cf468_0 rfl ?_
  refine g_iload_n C dJ4_append_cf468_1 rfl ?_
  refine t_callP C hT (t_J5_append_3fe6f _ hS0 hx hn hm) (ci := 1) rfl hO ml_RJ4_50 gw_sameMethod_java_lang_AbstractStringBuilder_java_lang_AbstractStringBui_1923 gw_superclass_RJ4_RJ5 im_yJ5_append_3fe6f in_RJ5 co_yJ5_append_3fe6f ⟨by decide, hd_J5_append_3fe6f.2.2⟩ rfl ⟨by omega, by omega⟩ rfl (Nat.le_of_ble_eq_true rfl) ⟨by omega, by omega⟩ dJ4_append_cf468_2 (fun v2 w2 hp2 => ?_)
  obtain ⟨rfl, hp2⟩ := hp2
  refine g_pop C dJ4_append_cf468_5 rfl ?_
  refine g_aload_n C dJ4_append_cf468_6 rfl ?_
  exact g_areturn C (Or.inl ⟨_, rfl⟩) hQ (Or.inr ⟨_, rfl⟩) dJ4_append_cf468_7 (by omega) (by omega) ⟨rfl, hp2⟩
set_option maxHeartbeats 4000000 in
set_option maxRecDepth 100000 in
theorem t_J5_reverse_278bc (l : Launch) {K : KC} {E : GE} {w : Wd} {a v n m : Nat} {f : Nat → Int} (hS : SBt w a v n m f) (hm : m ≤ 1000000) : St K E l yJ5_reverse_278bc cJ5_reverse_278bc 7 (some (.object "java/lang/AbstractStringBuilder")) 1 (0) (0) [.ref a] w (fun r w' => r = some (.ref a) ∧ ∃ (v' : Nat) (f' : Nat → Int), SBt w' a v' n m f' ∧ (∀ j, j < n → f' j = f (n - 1 - j)) ∧ (v' = v ∨ w.1 ≤ v') ∧ FrY w w' a v) := by
  refine st_intro [some (.ref a), none, none, none, none, none, none] rfl (Nat.le_of_ble_eq_true rfl) pn_J5 ?_
  intro X C hT hRm hl hnm hQ
  obtain ⟨hRf, hRl, hRc, hRs⟩ := hRm
  refine g_wf (fun hwf => ?_)
  have hS0 := hS.w
  obtain ⟨mb, hO, hV, hF, hav, hnm'⟩ := hS
  refine g_aload_n C dJ5_reverse_278bc_0 rfl ?_
  refine g_get (ci := 1) C rfl inTJ4 0 (by decide) fl_RJ5_15 rfl hO rfl dJ5_reverse_278bc_1 ?_
  refine g_astore_n C dJ5_reverse_278bc_4 (by decide) rfl ?_
  refine g_aload_n C dJ5_reverse_278bc_5 rfl ?_
  refine g_get (ci := 1) C rfl inTJ4 3 (by decide) fl_RJ5_79 rfl hO rfl dJ5_reverse_278bc_6 ?_
  refine g_istore_n C dJ5_reverse_278bc_9 (by decide) rfl ?_
  refine g_iload_n C dJ5_reverse_278bc_10 rfl ?_
  refine g_iconst C dJ5_reverse_278bc_11 ?_
  refine g_isub C dJ5_reverse_278bc_12 ?_
  refine g_istore_n C dJ5_reverse_278bc_13 (by decide) rfl ?_
  refine g_aload_n C dJ5_reverse_278bc_14 rfl ?_
  refine t_callU (owner := RJ5) C hT (c_J5_isLatin1_aae02 _ hS0) (RcV.ob (ci := 1) C rfl hO) rfl ml_RJ5_83 gw_sameMethod_java_lang_AbstractStringBuilder_java_lang_AbstractStringBui_424 se_RJ4__yJ5_isLatin1_aae02 im_yJ5_isLatin1_aae02 in_RJ5 co_yJ5_isLatin1_aae02 hd_J5_isLatin1_aae02 rfl ⟨by omega, by omega⟩ rfl (Nat.le_of_ble_eq_true rfl) ⟨by omega, by omega⟩ dJ5_reverse_278bc_15 (fun v15 w15 hp15 => ?_)
  obtain ⟨rfl, hw15⟩ := hp15
  subst w15
  refine g_if_eq (tgt := 68) C dJ5_reverse_278bc_18 (by decide) (by omega) (fun h18 => ?_) (fun h18 => ?_)
  · omega
  · refine g_iload_n C dJ5_reverse_278bc_21 rfl ?_
    refine g_iconst C dJ5_reverse_278bc_22 ?_
    refine g_isub C dJ5_reverse_278bc_23 ?_
    refine g_iconst C dJ5_reverse_278bc_24 ?_
    refine g_ishr (z := ((n : Int) - 1 - 1) / 2 ^ (1 : Int).toNat) C dJ5_reverse_278bc_25 (i_shr (by omega) (by omega)) ?_
    refine g_istore C dJ5_reverse_278bc_26 (by decide) rfl ?_
    suffices hh : G E X 7 28 [some (.ref a), some (.ref v), some (iI (n : Int)), some (iI ((n : Int) - 1)), some (iI (((n : Int) - 1 - 1) / 2 ^ (1 : Int).toNat)), none, none] [] (wset w v (true, eB m f)) 0 0 by rw [wset_id hV] at hh; exact hh
    refine g_loop (σ := Int × (Nat → Int)) (fun s => -1 ≤ s.1 ∧ s.1 + s.1 + 2 ≤ n ∧ bF s.2 ∧ ∀ i : Nat, i < n → s.2 i = if s.1 < (i : Int) ∧ (i : Int) < (n : Int) - 1 - s.1 then f (n - 1 - i) else f i) (fun s => G E X 7 28 [some (.ref a), some (.ref v), some (iI (n : Int)), some (iI ((n : Int) - 1)), some (iI s.1), none, none] [] (wset w v (true, eB m s.2)) 0 0) (fun s => (s.1 + 1).toNat) ?_ (((n : Int) - 1 - 1) / 2 ^ (1 : Int).toNat, f) ⟨by show -1 ≤ ((n : Int) - 1 - 1) / 2; omega, by show ((n : Int) - 1 - 1) / 2 + ((n : Int) - 1 - 1) / 2 + 2 ≤ n; omega, hF, fun i hi => by
      show f i = if ((n : Int) - 1 - 1) / 2 < (i : Int) ∧ (i : Int) < (n : Int) - 1 - ((n : Int) - 1 - 1) / 2 then f (n - 1 - i) else f i
      split
      · exact congrArg f (by omega)
      · rfl⟩
    rintro ⟨j, h⟩ hq ih
    obtain ⟨hj0, hj1, hh, hx⟩ := hq
    dsimp only at hj0 hj1 hh hx ⊢
    refine g_iload C dJ5_reverse_278bc_28 rfl ?_
    refine g_if_lt (tgt := 65) C dJ5_reverse_278bc_30 (by decide) (by omega) (fun h30 => ?_) (fun h30 => ?_)
    · refine g_goto (tgt := 73) C dJ5_reverse_278bc_65 (by decide) ?_
      refine g_aload_n C dJ5_reverse_278bc_73 rfl ?_
      exact g_areturn C (Or.inl ⟨_, rfl⟩) hQ (Or.inr ⟨_, rfl⟩) dJ5_reverse_278bc_74 (by omega) (by omega) ⟨rfl, v, h, ⟨mb, by rw [wset_n hav]; exact hO, wset_s, hh, hav, hnm'⟩, fun i hi => by rw [hx i hi, if_pos (by omega)], Or.inl rfl, (FrY.rf _ _ _).set (by omega) _⟩
    · refine g_iload_n C dJ5_reverse_278bc_33 rfl ?_
      refine g_iload C dJ5_reverse_278bc_34 rfl ?_
      refine g_isub C dJ5_reverse_278bc_36 ?_
      refine g_istore C dJ5_reverse_278bc_37 (by decide) rfl ?_
      refine g_aload_n C dJ5_reverse_278bc_39 rfl ?_
      refine g_iload C dJ5_reverse_278bc_40 rfl ?_
      refine g_baload C wset_s (by omega) dJ5_reverse_278bc_42 ?_
      refine g_istore C dJ5_reverse_278bc_43 (by decide) rfl ?_
      refine g_aload_n C dJ5_reverse_278bc_45 rfl ?_
      refine g_iload C dJ5_reverse_278bc_46 rfl ?_
      refine g_aload_n C dJ5_reverse_278bc_48 rfl ?_
      refine g_iload C dJ5_reverse_278bc_49 rfl ?_
      refine g_baload C wset_s (by omega) dJ5_reverse_278bc_51 ?_
      refine g_bastore C wset_s (by omega) (nar_b (hh _)) dJ5_reverse_278bc_52 ?_
      rw [wset_set]
      refine g_aload_n C dJ5_reverse_278bc_53 rfl ?_
      refine g_iload C dJ5_reverse_278bc_54 rfl ?_
      refine g_iload C dJ5_reverse_278bc_56 rfl ?_
      refine g_bastore C wset_s (by omega) (nar_b (hh _)) dJ5_reverse_278bc_58 ?_
      rw [wset_set]
      refine g_iinc C dJ5_reverse_278bc_59 rfl (by decide) rfl ?_
      refine g_goto (tgt := 28) C dJ5_reverse_278bc_62 (by decide) ?_
      refine g_drop 5 (g_drop 6 ?_)
      have hj' := hx j.toNat (by omega)
      have hk' := hx ((n : Int) - 1 - j).toNat (by omega)
      rw [if_neg (by omega)] at hj' hk'
      exact ih (j + -1, _) ⟨by dsimp only; omega, by dsimp only; omega, (hh.iup _ (hh _)).iup _ (hh _), fun i hi => by
        show iup (iup h j.toNat (h ((n : Int) - 1 - j).toNat)) ((n : Int) - 1 - j).toNat (h j.toNat) i = if j + -1 < (i : Int) ∧ (i : Int) < (n : Int) - 1 - (j + -1) then f (n - 1 - i) else f i
        have h1 := hx i hi
        by_cases c1 : i = ((n : Int) - 1 - j).toNat
        · rw [if_pos (show j + -1 < (i : Int) ∧ (i : Int) < (n : Int) - 1 - (j + -1) by omega), ← c1, iup_s, hj']
          exact congrArg f (by omega)
        · rw [iup_n c1]
          by_cases c2 : i = j.toNat
          · rw [if_pos (show j + -1 < (i : Int) ∧ (i : Int) < (n : Int) - 1 - (j + -1) by omega), ← c2, iup_s, hk']
            exact congrArg f (by omega)
          · rw [iup_n c2, h1]
            by_cases c3 : j < (i : Int) ∧ (i : Int) < (n : Int) - 1 - j
            · rw [if_pos c3, if_pos (by omega)]
            · rw [if_neg c3, if_neg (by omega)]⟩ (by dsimp only; omega)
set_option maxHeartbeats 4000000 in
set_option maxRecDepth 100000 in
theorem t_J4_reverse_43fcb (l : Launch) {K : KC} {E : GE} {w : Wd} {a v n m : Nat} {f : Nat → Int} (hS : SBt w a v n m f) (hm : m ≤ 1000000) : St K E l yJ4_reverse_43fcb cJ4_reverse_43fcb 1 (some (.object "java/lang/StringBuilder")) 2 (0) (0) [.ref a] w (fun r w' => r = some (.ref a) ∧ ∃ (v' : Nat) (f' : Nat → Int), SBt w' a v' n m f' ∧ (∀ j, j < n → f' j = f (n - 1 - j)) ∧ (v' = v ∨ w.1 ≤ v') ∧ FrY w w' a v) := by
  refine st_intro [some (.ref a)] rfl (Nat.le_of_ble_eq_true rfl) pn_J4 ?_
  intro X C hT hRm hl hnm hQ
  obtain ⟨hRf, hRl, hRc, hRs⟩ := hRm
  refine g_wf (fun hwf => ?_)
  have hS0 := hS
  obtain ⟨mb, hO, hV, hF, hav, hnm'⟩ := hS
  refine g_aload_n C dJ4_reverse_43fcb_0 rfl ?_
  refine t_callP C hT (t_J5_reverse_278bc _ hS0 hm) (ci := 1) rfl hO ml_RJ4_127 gw_sameMethod_java_lang_AbstractStringBuilder_java_lang_AbstractStringBui_1924 gw_superclass_RJ4_RJ5 im_yJ5_reverse_278bc in_RJ5 co_yJ5_reverse_278bc ⟨by decide, hd_J5_reverse_278bc.2.2⟩ rfl ⟨by omega, by omega⟩ rfl (Nat.le_of_ble_eq_true rfl) ⟨by omega, by omega⟩ dJ4_reverse_43fcb_1 (fun v1 w1 hp1 => ?_)
  obtain ⟨rfl, hp1⟩ := hp1
  refine g_pop C dJ4_reverse_43fcb_4 rfl ?_
  refine g_aload_n C dJ4_reverse_43fcb_5 rfl ?_
  exact g_areturn C (Or.inl ⟨_, rfl⟩) hQ (Or.inr ⟨_, rfl⟩) dJ4_reverse_43fcb_6 (by omega) (by omega) ⟨rfl, hp1⟩
set_option maxHeartbeats 4000000 in
set_option maxRecDepth 100000 in
theorem t_J5_charAt_5068e (l : Launch) {K : KC} {E : GE} {w : Wd} {a v n m : Nat} {f : Nat → Int} (hS : SBt w a v n m f) {p : Nat} (hp : p < n) (hm : m ≤ 1000000) (hfp : 0 ≤ f p ∧ f p ≤ 127) : St K E l yJ5_charAt_5068e cJ5_charAt_5068e 5 (some .char) 2 (0) (0) [.ref a, iI (p : Int)] w (fun r w' => r = some (iI (f p)) ∧ w' = w) := by
  refine st_intro [some (.ref a), some (iI (p : Int)), none, none, none] rfl (Nat.le_of_ble_eq_true rfl) pn_J5 ?_
  intro X C hT hRm hl hnm hQ
  obtain ⟨hRf, hRl, hRc, hRs⟩ := hRm
  refine g_wf (fun hwf => ?_)
  have hS0 := hS.w
  obtain ⟨mb, hO, hV, hF, hav, hnm'⟩ := hS
  refine g_aload_n C dJ5_charAt_5068e_0 rfl ?_
  refine g_get (ci := 1) C rfl inTJ4 1 (by decide) fl_RJ5_22 rfl hO rfl dJ5_charAt_5068e_1 ?_
  refine g_istore_n C dJ5_charAt_5068e_4 (by decide) rfl ?_
  refine g_aload_n C dJ5_charAt_5068e_5 rfl ?_
  refine g_get (ci := 1) C rfl inTJ4 0 (by decide) fl_RJ5_15 rfl hO rfl dJ5_charAt_5068e_6 ?_
  refine g_astore_n C dJ5_charAt_5068e_9 (by decide) rfl ?_
  refine g_aload_n C dJ5_charAt_5068e_10 rfl ?_
  refine g_get (ci := 1) C rfl inTJ4 3 (by decide) fl_RJ5_79 rfl hO rfl dJ5_charAt_5068e_11 ?_
  refine g_aload_n C dJ5_charAt_5068e_14 rfl ?_
  refine g_alen C hV (Or.inr (Or.inl ⟨_, rfl⟩)) dJ5_charAt_5068e_15 ?_
  refine g_iload_n C dJ5_charAt_5068e_16 rfl ?_
  refine g_ishr (z := (m : Int)) C dJ5_charAt_5068e_17 (i_shr0 (by omega)) ?_
  refine g_min C ml_RJ5_138 (by omega) (by omega) (by omega) (by omega) (Nat.le_of_ble_eq_true rfl) (by omega) dJ5_charAt_5068e_18 ?_
  rw [if_neg (by omega)]
  refine g_istore C dJ5_charAt_5068e_21 (by decide) rfl ?_
  refine g_iload_n C dJ5_charAt_5068e_23 rfl ?_
  refine g_iload C dJ5_charAt_5068e_24 rfl ?_
  refine t_callS C hT (c_J0_checkIndex_df160 _ (i := (p : Int)) (n := (n : Int)) (by omega)) ml_RJ5_144 sm_yJ0_checkIndex_df160 in_RJ0 co_yJ0_checkIndex_df160 hd_J0_checkIndex_df160 rfl ⟨by omega, by omega⟩ rfl (Nat.le_of_ble_eq_true rfl) ⟨by omega, by omega⟩ dJ5_charAt_5068e_26 (fun v26 w26 hp26 => ?_)
  obtain ⟨rfl, hw26⟩ := hp26
  subst w26
  refine g_iload_n C dJ5_charAt_5068e_29 rfl ?_
  refine g_if_ne (tgt := 42) C dJ5_charAt_5068e_30 (by decide) (by omega) (fun h30 => ?_) (fun h30 => ?_)
  · omega
  · refine g_aload_n C dJ5_charAt_5068e_33 rfl ?_
    refine g_iload_n C dJ5_charAt_5068e_34 rfl ?_
    refine g_baload C hV (by omega) dJ5_charAt_5068e_35 ?_
    refine g_sipush C dJ5_charAt_5068e_36 (by decide) ?_
    rw [show ((p : Nat) : Int).toNat = p from Int.toNat_natCast p]
    have hi39 : Int32.ofInt (f p) &&& Int32.ofInt 255 = Int32.ofInt (f p) := by
      have q := i_mask (x := f p) (m := 255) 8 (by omega) (by decide)
      rw [show f p % 2 ^ 8 = f p from Int.emod_eq_of_lt hfp.1 (by omega)] at q
      exact q
    refine g_iand (z := f p) C dJ5_charAt_5068e_39 hi39 ?_
    refine g_i2c (z := f p) C dJ5_charAt_5068e_40 (i2c_n hfp.1 (by omega)) ?_
    exact g_zreturn C hQ dJ5_charAt_5068e_41 (nar_ch hfp.1 (by omega)) (Nat.le_refl _) (Nat.le_refl _) ⟨rfl, rfl⟩
set_option maxHeartbeats 4000000 in
set_option maxRecDepth 100000 in
theorem t_J4_charAt_5068e (l : Launch) {K : KC} {E : GE} {w : Wd} {a v n m : Nat} {f : Nat → Int} (hS : SBt w a v n m f) {p : Nat} (hp : p < n) (hm : m ≤ 1000000) (hfp : 0 ≤ f p ∧ f p ≤ 127) : St K E l yJ4_charAt_5068e cJ4_charAt_5068e 2 (some .char) 3 (0) (0) [.ref a, iI (p : Int)] w (fun r w' => r = some (iI (f p)) ∧ w' = w) := by
  refine st_intro [some (.ref a), some (iI (p : Int))] rfl (Nat.le_of_ble_eq_true rfl) pn_J4 ?_
  intro X C hT hRm hl hnm hQ
  obtain ⟨hRf, hRl, hRc, hRs⟩ := hRm
  refine g_wf (fun hwf => ?_)
  have hS0 := hS
  obtain ⟨mb, hO, hV, hF, hav, hnm'⟩ := hS
  refine g_aload_n C dJ4_charAt_5068e_0 rfl ?_
  refine g_iload_n C dJ4_charAt_5068e_1 rfl ?_
  refine t_callP C hT (t_J5_charAt_5068e _ hS0 hp hm hfp) (ci := 1) rfl hO ml_RJ4_329 gw_sameMethod_java_lang_AbstractStringBuilder_java_lang_AbstractStringBui_1926 gw_superclass_RJ4_RJ5 im_yJ5_charAt_5068e in_RJ5 co_yJ5_charAt_5068e ⟨by decide, hd_J5_charAt_5068e.2.2⟩ rfl ⟨by omega, by omega⟩ rfl (Nat.le_of_ble_eq_true rfl) ⟨by omega, by omega⟩ dJ4_charAt_5068e_2 (fun v2 w2 hp2 => ?_)
  obtain ⟨rfl, hw2⟩ := hp2
  subst w2
  exact g_zreturn C hQ dJ4_charAt_5068e_5 (nar_ch hfp.1 (by omega)) (Nat.le_refl _) (Nat.le_refl _) ⟨rfl, rfl⟩
