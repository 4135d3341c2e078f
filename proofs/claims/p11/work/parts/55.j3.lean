set_option maxHeartbeats 4000000 in
set_option maxRecDepth 100000 in
theorem c_J5_init_d00df (l : Launch) {K : KC} {E : GE} {w : Wd} {a : Nat} (ha : w.2 a = some (true, eO 1 [.null, iI 0, iI 0, iI 0])) : St K E l yJ5_init_d00df cJ5_init_d00df 2 none 1 (1) (16) [.ref a, iI 16] w (fun r w' => r = none ∧ ∃ v, SBw w' a v 0 16 ∧ w.1 ≤ v ∧ FrY w w' a a) := by
  refine st_intro [some (.ref a), some (iI 16)] rfl (Nat.le_of_ble_eq_true rfl) pn_J5 ?_
  intro X C hT hRm hl hnm hQ
  obtain ⟨hRf, hRl, hRc, hRs⟩ := hRm
  refine g_wf (fun hwf => ?_)
  refine g_aload_n C dJ5_init_d00df_0 rfl ?_
  refine g_objInit C ml_RJ5_3 (by omega) (by omega) (Nat.le_of_ble_eq_true rfl) dJ5_init_d00df_1 ?_
  refine g_getc C hT fl_RJ5_18 dJ5_init_d00df_4 ?_
  refine g_if_eq (tgt := 25) C dJ5_init_d00df_7 (by decide) (by omega) (fun h7 => ?_) (fun h7 => ?_)
  · omega
  · refine g_aload_n C dJ5_init_d00df_10 rfl ?_
    refine g_iload_n C dJ5_init_d00df_11 rfl ?_
    refine g_newB C gw_arrayClass_byte (N := 16) rfl (by omega) (by omega) dJ5_init_d00df_12 ?_
    refine g_put (ci := 1) C rfl inTJ4 tyJ4 tyJ4_ok nmJ4 0 (by decide) fl_RJ5_15 rfl rfl (by rw [wpush_n (Nat.ne_of_lt (hwf a _ ha))]; exact ha) (Nat.le_of_ble_eq_true rfl) rfl rfl dJ5_init_d00df_14 ?_
    refine g_aload_n C dJ5_init_d00df_17 rfl ?_
    refine g_iconst C dJ5_init_d00df_18 ?_
    refine g_put (ci := 1) C rfl inTJ4 tyJ4 tyJ4_ok nmJ4 1 (by decide) fl_RJ5_22 rfl rfl wset_s (Nat.le_of_ble_eq_true rfl) rfl rfl dJ5_init_d00df_19 ?_
    refine g_goto (tgt := 38) C dJ5_init_d00df_22 (by decide) ?_
    exact g_return C hQ dJ5_init_d00df_38 (by omega) (by omega) ⟨rfl, w.1, ⟨0, _, wset_s, by rw [wset_n (Nat.ne_of_gt (hwf a _ ha)), wset_n (Nat.ne_of_gt (hwf a _ ha))]; exact wpush_s, bF.zero, Nat.ne_of_lt (hwf a _ ha), by omega⟩, Nat.le_refl _, (((FrY.rf w a a).push _).set (Or.inl rfl) _).set (Or.inl rfl) _⟩
set_option maxHeartbeats 4000000 in
set_option maxRecDepth 100000 in
theorem c_J4_init_da8c8 (l : Launch) {K : KC} {E : GE} {w : Wd} {a : Nat} (ha : w.2 a = some (true, eO 1 [.null, iI 0, iI 0, iI 0])) : St K E l yJ4_init_da8c8 cJ4_init_da8c8 1 none 2 (1) (16) [.ref a] w (fun r w' => r = none ∧ ∃ v, SBw w' a v 0 16 ∧ w.1 ≤ v ∧ FrY w w' a a) := by
  refine st_intro [some (.ref a)] rfl (Nat.le_of_ble_eq_true rfl) pn_J4 ?_
  intro X C hT hRm hl hnm hQ
  obtain ⟨hRf, hRl, hRc, hRs⟩ := hRm
  refine g_wf (fun hwf => ?_)
  refine g_aload_n C dJ4_init_da8c8_0 rfl ?_
  refine g_bipush C dJ4_init_da8c8_1 (by decide) ?_
  refine t_callI C hT (c_J5_init_d00df _ ha) ml_RJ4_1 im_yJ5_init_d00df in_RJ5 co_yJ5_init_d00df rfl hd_J5_init_d00df rfl ⟨by omega, by omega⟩ rfl (Nat.le_of_ble_eq_true rfl) ⟨by omega, by omega⟩ dJ4_init_da8c8_3 (fun v3 w3 hp3 => ?_)
  obtain ⟨rfl, hp3⟩ := id hp3
  exact g_return C hQ dJ4_init_da8c8_6 (by omega) (by omega) hp3
set_option maxHeartbeats 4000000 in
set_option maxRecDepth 100000 in
theorem c_J5_getValue_6d5f1 (l : Launch) {K : KC} {E : GE} {w : Wd} {a v n m : Nat} (hS : SBw w a v n m) : St K E l yJ5_getValue_6d5f1 cJ5_getValue_6d5f1 1 (some (.array .byte)) 0 (0) (0) [.ref a] w (fun r w' => r = some (.ref v) ∧ w' = w) := by
  refine st_intro [some (.ref a)] rfl (Nat.le_of_ble_eq_true rfl) pn_J5 ?_
  intro X C hT hRm hl hnm hQ
  obtain ⟨hRf, hRl, hRc, hRs⟩ := hRm
  refine g_wf (fun hwf => ?_)
  obtain ⟨mb, f, hO, hV, hF, hav, hnm'⟩ := hS
  refine g_aload_n C dJ5_getValue_6d5f1_0 rfl ?_
  refine g_get (ci := 1) C rfl inTJ4 0 (by decide) fl_RJ5_15 rfl hO rfl dJ5_getValue_6d5f1_1 ?_
  exact g_areturn C (Or.inr ⟨_, rfl⟩) hQ (Or.inr ⟨_, rfl⟩) dJ5_getValue_6d5f1_4 (by omega) (by omega) ⟨rfl, rfl⟩
set_option maxHeartbeats 4000000 in
set_option maxRecDepth 100000 in
theorem c_J5_length_8abf5 (l : Launch) {K : KC} {E : GE} {w : Wd} {a v n m : Nat} (hS : SBw w a v n m) : St K E l yJ5_length_8abf5 cJ5_length_8abf5 1 (some .int) 0 (0) (0) [.ref a] w (fun r w' => r = some (iI (n : Int)) ∧ w' = w) := by
  refine st_intro [some (.ref a)] rfl (Nat.le_of_ble_eq_true rfl) pn_J5 ?_
  intro X C hT hRm hl hnm hQ
  obtain ⟨hRf, hRl, hRc, hRs⟩ := hRm
  refine g_wf (fun hwf => ?_)
  obtain ⟨mb, f, hO, hV, hF, hav, hnm'⟩ := hS
  refine g_aload_n C dJ5_length_8abf5_0 rfl ?_
  refine g_get (ci := 1) C rfl inTJ4 3 (by decide) fl_RJ5_79 rfl hO rfl dJ5_length_8abf5_1 ?_
  exact g_ireturn C hQ dJ5_length_8abf5_4 (Nat.le_refl _) (Nat.le_refl _) ⟨rfl, rfl⟩
set_option maxHeartbeats 4000000 in
set_option maxRecDepth 100000 in
theorem c_J4_length_8abf5 (l : Launch) {K : KC} {E : GE} {w : Wd} {a v n m : Nat} (hS : SBw w a v n m) : St K E l yJ4_length_8abf5 cJ4_length_8abf5 1 (some .int) 1 (0) (0) [.ref a] w (fun r w' => r = some (iI (n : Int)) ∧ w' = w) := by
  refine st_intro [some (.ref a)] rfl (Nat.le_of_ble_eq_true rfl) pn_J4 ?_
  intro X C hT hRm hl hnm hQ
  obtain ⟨hRf, hRl, hRc, hRs⟩ := hRm
  refine g_wf (fun hwf => ?_)
  have hS0 := hS
  obtain ⟨mb, f, hO, hV, hF, hav, hnm'⟩ := hS
  refine g_aload_n C dJ4_length_8abf5_0 rfl ?_
  refine t_callP C hT (c_J5_length_8abf5 _ hS0) (ci := 1) rfl hO ml_RJ4_343 gw_sameMethod_java_lang_AbstractStringBuilder_java_lang_AbstractStringBui_541 gw_superclass_RJ4_RJ5 im_yJ5_length_8abf5 in_RJ5 co_yJ5_length_8abf5 ⟨by decide, hd_J5_length_8abf5.2.2⟩ rfl ⟨by omega, by omega⟩ rfl (Nat.le_of_ble_eq_true rfl) ⟨by omega, by omega⟩ dJ4_length_8abf5_1 (fun v1 w1 hp1 => ?_)
  obtain ⟨rfl, hw1⟩ := hp1
  subst w1
  exact g_ireturn C hQ dJ4_length_8abf5_4 (Nat.le_refl _) (Nat.le_refl _) ⟨rfl, rfl⟩
set_option maxHeartbeats 4000000 in
set_option maxRecDepth 100000 in
theorem c_J7_checkLength_df160 (l : Launch) {K : KC} {E : GE} {w : Wd} {x y : Int} (h : x ≤ y) (hx : -2147483648 ≤ x ∧ x < 2147483648) (hy : -2147483648 ≤ y ∧ y < 2147483648) : St K E l yJ7_checkLength_df160 cJ7_checkLength_df160 2 none 0 (0) (0) [iI x, iI y] w (fun r w' => r = none ∧ w' = w) := by
  refine st_intro [some (iI x), some (iI y)] rfl (Nat.le_of_ble_eq_true rfl) pn_J7 ?_
  intro X C hT hRm hl hnm hQ
  obtain ⟨hRf, hRl, hRc, hRs⟩ := hRm
  refine g_wf (fun hwf => ?_)
  refine g_iload_n C dJ7_checkLength_df160_0 rfl ?_
  refine g_iload_n C dJ7_checkLength_df160_1 rfl ?_
  refine g_icmp_ge (tgt := 37) C dJ7_checkLength_df160_2 (by decide) (by omega) (by omega) (fun h2 => ?_) (fun h2 => ?_)
  · exact g_return C hQ dJ7_checkLength_df160_37 (Nat.le_refl _) (Nat.le_refl _) ⟨rfl, rfl⟩
  · omega
set_option maxHeartbeats 4000000 in
set_option maxRecDepth 100000 in
theorem c_J7_copyOfRangeByte_39247 (l : Launch) {K : KC} {E : GE} {w : Wd} {b m n : Nat} {f : Nat → Int} (hb : w.2 b = some (true, eB m f)) (hF : bF f) (hn : n ≤ m ∧ m ≤ 1000000) : St K E l yJ7_copyOfRangeByte_39247 cJ7_copyOfRangeByte_39247 5 (some (.array .byte)) 1 (1) (n) [.ref b, iI 0, iI (n : Int)] w (fun r w' => r = some (.ref w.1) ∧ ∃ g, w' = wpush w (true, eB n g) ∧ bF g) := by
  refine st_intro [some (.ref b), some (iI 0), some (iI (n : Int)), none, none] rfl (Nat.le_of_ble_eq_true rfl) pn_J7 ?_
  intro X C hT hRm hl hnm hQ
  obtain ⟨hRf, hRl, hRc, hRs⟩ := hRm
  refine g_wf (fun hwf => ?_)
  have hne : b ≠ w.1 := Nat.ne_of_lt (hwf b _ hb)
  refine g_iload_n C dJ7_copyOfRangeByte_39247_0 rfl ?_
  refine g_iload_n C dJ7_copyOfRangeByte_39247_1 rfl ?_
  refine t_callS C hT (c_J7_checkLength_df160 _ (x := 0) (y := (n : Int)) (by omega) (by omega) (by omega)) ml_RJ7_343 sm_yJ7_checkLength_df160 in_RJ7 co_yJ7_checkLength_df160 hd_J7_checkLength_df160 rfl ⟨by omega, by omega⟩ rfl (Nat.le_of_ble_eq_true rfl) ⟨by omega, by omega⟩ dJ7_copyOfRangeByte_39247_2 (fun v2 w2 hp2 => ?_)
  obtain ⟨rfl, hw2⟩ := hp2
  subst w2
  refine g_iload_n C dJ7_copyOfRangeByte_39247_5 rfl ?_
  refine g_iload_n C dJ7_copyOfRangeByte_39247_6 rfl ?_
  refine g_isub C dJ7_copyOfRangeByte_39247_7 ?_
  refine g_istore_n C dJ7_copyOfRangeByte_39247_8 (by decide) rfl ?_
  refine g_iload_n C dJ7_copyOfRangeByte_39247_9 rfl ?_
  refine g_newB C gw_arrayClass_byte (N := n) (by omega) (by omega) (by omega) dJ7_copyOfRangeByte_39247_10 ?_
  refine g_astore C dJ7_copyOfRangeByte_39247_12 (by decide) rfl ?_
  refine g_aload_n C dJ7_copyOfRangeByte_39247_14 rfl ?_
  refine g_iload_n C dJ7_copyOfRangeByte_39247_15 rfl ?_
  refine g_aload C dJ7_copyOfRangeByte_39247_16 rfl ?_
  refine g_iconst C dJ7_copyOfRangeByte_39247_18 ?_
  refine g_aload_n C dJ7_copyOfRangeByte_39247_19 rfl ?_
  refine g_alen C (by rw [wpush_n hne]; exact hb) (Or.inr (Or.inl ⟨_, rfl⟩)) dJ7_copyOfRangeByte_39247_20 ?_
  refine g_iload_n C dJ7_copyOfRangeByte_39247_21 rfl ?_
  refine g_isub C dJ7_copyOfRangeByte_39247_22 ?_
  refine g_iload_n C dJ7_copyOfRangeByte_39247_23 rfl ?_
  refine g_min C ml_RJ7_304 (by omega) (by omega) (by omega) (by omega) (Nat.le_of_ble_eq_true rfl) (by omega) dJ7_copyOfRangeByte_39247_24 ?_
  refine g_acopyB C (f := f) (g := fun _ => 0) ⟨by rw [wpush_n hne]; exact hb, wpush_s, ⟨by omega, by omega, by split <;> omega, by split <;> omega, by split <;> omega, by omega, by omega⟩, hF⟩ ml_RJ7_150 (by omega) (by omega) (Nat.le_of_ble_eq_true rfl) dJ7_copyOfRangeByte_39247_27 ?_
  rw [wset_push]
  refine g_aload C dJ7_copyOfRangeByte_39247_30 rfl ?_
  exact g_areturn C (Or.inr ⟨_, rfl⟩) hQ (Or.inr ⟨_, rfl⟩) dJ7_copyOfRangeByte_39247_32 (by omega) (by omega) ⟨rfl, _, rfl, hF.cpy bF.zero _ _ _⟩
set_option maxHeartbeats 4000000 in
set_option maxRecDepth 100000 in
theorem c_J7_copyOfRange_39247 (l : Launch) {K : KC} {E : GE} {w : Wd} {b m n : Nat} {f : Nat → Int} (hb : w.2 b = some (true, eB m f)) (hF : bF f) (hn : n ≤ m ∧ m ≤ 1000000) : St K E l yJ7_copyOfRange_39247 cJ7_copyOfRange_39247 3 (some (.array .byte)) 2 (1) (n) [.ref b, iI 0, iI (n : Int)] w (fun r w' => r = some (.ref w.1) ∧ ∃ g, w' = wpush w (true, eB n g) ∧ bF g) := by
  refine st_intro [some (.ref b), some (iI 0), some (iI (n : Int))] rfl (Nat.le_of_ble_eq_true rfl) pn_J7 ?_
  intro X C hT hRm hl hnm hQ
  obtain ⟨hRf, hRl, hRc, hRs⟩ := hRm
  refine g_wf (fun hwf => ?_)
  refine g_iload_n C dJ7_copyOfRange_39247_0 rfl ?_
  refine g_if_ne (tgt := 10) C dJ7_copyOfRange_39247_1 (by decide) (by omega) (fun h1 => ?_) (fun h1 => ?_)
  · omega
  · refine g_iload_n C dJ7_copyOfRange_39247_4 rfl ?_
    refine g_aload_n C dJ7_copyOfRange_39247_5 rfl ?_
    refine g_alen C hb (Or.inr (Or.inl ⟨_, rfl⟩)) dJ7_copyOfRange_39247_6 ?_
    refine g_icmp_eq (tgt := 17) C dJ7_copyOfRange_39247_7 (by decide) (by omega) (by omega) (fun h7 => ?_) (fun h7 => ?_)
    · refine g_aload_n C dJ7_copyOfRange_39247_17 rfl ?_
      refine g_cloneB C hb hF ml_RJ7_310 (by omega) (by omega) (Nat.le_of_ble_eq_true rfl) (by omega) dJ7_copyOfRange_39247_18 ?_
      refine g_castB C wpush_s kl_RJ7_311 dJ7_copyOfRange_39247_21 ?_
      exact g_areturn C (Or.inr ⟨_, rfl⟩) hQ (Or.inr ⟨_, rfl⟩) dJ7_copyOfRange_39247_24 (by omega) (by omega) ⟨rfl, f, by rw [show m = n by omega], hF⟩
    · refine g_aload_n C dJ7_copyOfRange_39247_10 rfl ?_
      refine g_iload_n C dJ7_copyOfRange_39247_11 rfl ?_
      refine g_iload_n C dJ7_copyOfRange_39247_12 rfl ?_
      refine t_callS C hT (c_J7_copyOfRangeByte_39247 _ hb hF hn) ml_RJ7_339 sm_yJ7_copyOfRangeByte_39247 in_RJ7 co_yJ7_copyOfRangeByte_39247 hd_J7_copyOfRangeByte_39247 rfl ⟨by omega, by omega⟩ rfl (Nat.le_of_ble_eq_true rfl) ⟨by omega, by omega⟩ dJ7_copyOfRange_39247_13 (fun v13 w13 hp13 => ?_)
      obtain ⟨rfl, hp13⟩ := hp13
      exact g_areturn C (Or.inr ⟨_, rfl⟩) hQ (Or.inr ⟨_, rfl⟩) dJ7_copyOfRange_39247_16 (by omega) (by omega) ⟨rfl, hp13⟩
set_option maxHeartbeats 4000000 in
set_option maxRecDepth 100000 in
theorem c_J0_init_db425 (l : Launch) {K : KC} {E : GE} {w : Wd} {s : Nat} (hs : w.2 s = some (true, eO 0 [.null, iI 0, iI 0, iI 0])) {a v n m : Nat} (hS : SBw w a v n m) (hm : m ≤ 1000000) : St K E l yJ0_init_db425 cJ0_init_db425 5 none 3 (1) (n) [.ref s, .ref a, .null] w (fun r w' => r = none ∧ FrY w w' s s) := by
  refine st_intro [some (.ref s), some (.ref a), some .null, none, none] rfl (Nat.le_of_ble_eq_true rfl) pn_J0 ?_
  intro X C hT hRm hl hnm hQ
  obtain ⟨hRf, hRl, hRc, hRs⟩ := hRm
  refine g_wf (fun hwf => ?_)
  have hS0 := hS
  obtain ⟨mb, f, hO, hV, hF, hav, hnm'⟩ := hS
  have hsa : s ≠ a := fun e => by rw [e, hO] at hs; simp at hs
  refine g_aload_n C dJ0_init_db425_0 rfl ?_
  refine g_objInit C ml_RJ0_1 (by omega) (by omega) (Nat.le_of_ble_eq_true rfl) dJ0_init_db425_1 ?_
  refine g_aload_n C dJ0_init_db425_4 rfl ?_
  refine t_callU (owner := RJ5) C hT (c_J5_getValue_6d5f1 _ hS0) (RcV.ob (ci := 1) C rfl hO) rfl ml_RJ0_552 gw_sameMethod_java_lang_AbstractStringBuilder_java_lang_AbstractStringBui_536 se_RJ4__yJ5_getValue_6d5f1 im_yJ5_getValue_6d5f1 in_RJ5 co_yJ5_getValue_6d5f1 hd_J5_getValue_6d5f1 rfl ⟨by omega, by omega⟩ rfl (Nat.le_of_ble_eq_true rfl) ⟨by omega, by omega⟩ dJ0_init_db425_5 (fun v5 w5 hp5 => ?_)
  obtain ⟨rfl, hw5⟩ := hp5
  subst w5
  refine g_astore_n C dJ0_init_db425_8 (by decide) rfl ?_
  refine g_aload_n C dJ0_init_db425_9 rfl ?_
  refine t_callO (owner := RJ5) C hT (c_J4_length_8abf5 _ hS0) (RcV.ob (ci := 1) C rfl hO) ml_RJ0_549 gw_sameMethod_java_lang_AbstractStringBuilder_java_lang_AbstractStringBui_541 im_yJ5_length_8abf5 se_RJ4__yJ4_length_8abf5 im_yJ4_length_8abf5 in_RJ4 co_yJ4_length_8abf5 co_yJ5_length_8abf5 hd_J5_length_8abf5 rfl ⟨by omega, by omega⟩ rfl (Nat.le_of_ble_eq_true rfl) ⟨by omega, by omega⟩ dJ0_init_db425_10 (fun v10 w10 hp10 => ?_)
  obtain ⟨rfl, hw10⟩ := hp10
  subst w10
  refine g_istore C dJ0_init_db425_13 (by decide) rfl ?_
  refine g_aload_n C dJ0_init_db425_15 rfl ?_
  refine t_callU (owner := RJ5) C hT (c_J5_isLatin1_aae02 _ hS0) (RcV.ob (ci := 1) C rfl hO) rfl ml_RJ0_1047 gw_sameMethod_java_lang_AbstractStringBuilder_java_lang_AbstractStringBui_424 se_RJ4__yJ5_isLatin1_aae02 im_yJ5_isLatin1_aae02 in_RJ5 co_yJ5_isLatin1_aae02 hd_J5_isLatin1_aae02 rfl ⟨by omega, by omega⟩ rfl (Nat.le_of_ble_eq_true rfl) ⟨by omega, by omega⟩ dJ0_init_db425_16 (fun v16 w16 hp16 => ?_)
  obtain ⟨rfl, hw16⟩ := hp16
  subst w16
  refine g_if_eq (tgt := 41) C dJ0_init_db425_19 (by decide) (by omega) (fun h19 => ?_) (fun h19 => ?_)
  · omega
  · refine g_aload_n C dJ0_init_db425_22 rfl ?_
    refine g_iconst C dJ0_init_db425_23 ?_
    refine g_putF (ci := 0) C rfl inTJ0 tyJ0 tyJ0_ok nmJ0 1 (by decide) fl_RJ0_15 rfl rfl hnm rfl hs (Nat.le_of_ble_eq_true rfl) rfl rfl dJ0_init_db425_24 ?_
    refine g_aload_n C dJ0_init_db425_27 rfl ?_
    refine g_aload_n C dJ0_init_db425_28 rfl ?_
    refine g_iconst C dJ0_init_db425_29 ?_
    refine g_iload C dJ0_init_db425_30 rfl ?_
    refine t_callS C hT (c_J7_copyOfRange_39247 _ (by rw [wset_n (fun e => by rw [e, hs] at hV; simp at hV)]; exact hV) hF ⟨hnm', hm⟩) ml_RJ0_54 sm_yJ7_copyOfRange_39247 in_RJ7 co_yJ7_copyOfRange_39247 hd_J7_copyOfRange_39247 rfl ⟨by omega, by omega⟩ rfl (Nat.le_of_ble_eq_true rfl) ⟨by omega, by omega⟩ dJ0_init_db425_32 (fun v32 w32 hp32 => ?_)
    obtain ⟨rfl, g32, rfl, hg32⟩ := hp32
    refine g_putF (ci := 0) C rfl inTJ0 tyJ0 tyJ0_ok nmJ0 0 (by decide) fl_RJ0_9 rfl rfl hnm rfl (by rw [wpush_n (show s ≠ (wset w s _).1 from Nat.ne_of_lt (hwf s _ hs))]; exact wset_s) (Nat.le_of_ble_eq_true rfl) rfl rfl dJ0_init_db425_35 ?_
    refine g_goto (tgt := 97) C dJ0_init_db425_38 (by decide) ?_
    exact g_return C hQ dJ0_init_db425_97 (by omega) (by omega) ⟨rfl, (((FrY.rf w s s).set (Or.inl rfl) _).push _).set (Or.inl rfl) _⟩
set_option maxHeartbeats 4000000 in
set_option maxRecDepth 100000 in
theorem c_J0_init_81219 (l : Launch) {K : KC} {E : GE} {w : Wd} {s : Nat} (hs : w.2 s = some (true, eO 0 [.null, iI 0, iI 0, iI 0])) {a v n m : Nat} (hS : SBw w a v n m) (hm : m ≤ 1000000) : St K E l yJ0_init_81219 cJ0_init_81219 2 none 4 (1) (n) [.ref s, .ref a] w (fun r w' => r = none ∧ FrY w w' s s) := by
  refine st_intro [some (.ref s), some (.ref a)] rfl (Nat.le_of_ble_eq_true rfl) pn_J0 ?_
  intro X C hT hRm hl hnm hQ
  obtain ⟨hRf, hRl, hRc, hRs⟩ := hRm
  refine g_wf (fun hwf => ?_)
  refine g_aload_n C dJ0_init_81219_0 rfl ?_
  refine g_aload_n C dJ0_init_81219_1 rfl ?_
  refine g_null C dJ0_init_81219_2 ?_
  refine t_callI C hT (c_J0_init_db425 _ hs hS hm) ml_RJ0_489 im_yJ0_init_db425 in_RJ0 co_yJ0_init_db425 rfl hd_J0_init_db425 rfl ⟨by omega, by omega⟩ rfl (Nat.le_of_ble_eq_true rfl) ⟨by omega, by omega⟩ dJ0_init_81219_3 (fun v3 w3 hp3 => ?_)
  obtain ⟨rfl, hp3⟩ := hp3
  exact g_return C hQ dJ0_init_81219_6 (by omega) (by omega) ⟨rfl, hp3⟩
set_option maxHeartbeats 4000000 in
set_option maxRecDepth 100000 in
theorem c_J4_toString_0e30d (l : Launch) {K : KC} {E : GE} {w : Wd} {a v n m : Nat} (hS : SBw w a v n m) (hm : m ≤ 1000000) : St K E l yJ4_toString_0e30d cJ4_toString_0e30d 1 (some (.object "java/lang/String")) 5 (2) (4 + n) [.ref a] w (fun r w' => r = some (.ref w.1) ∧ Fr w w') := by
  refine st_intro [some (.ref a)] rfl (Nat.le_of_ble_eq_true rfl) pn_J4 ?_
  intro X C hT hRm hl hnm hQ
  obtain ⟨hRf, hRl, hRc, hRs⟩ := hRm
  refine g_wf (fun hwf => ?_)
  refine g_new (ci := 0) C rfl inTJ0 tyJ0 tyJ0_ok kl_RJ4_18 ib_RJ0 in_RJ0 (fs := [.null, iI 0, iI 0, iI 0]) (by intro j hj; repeat (first | rfl | (cases j; rfl) | (rename_i j; cases j; rfl) | omega)) (by omega) dJ4_toString_0e30d_0 ?_
  refine g_dup C dJ4_toString_0e30d_3 rfl ?_
  refine g_aload_n C dJ4_toString_0e30d_4 rfl ?_
  obtain ⟨mb, f, hO, hV, hF, hav, hnm'⟩ := hS
  have hS1 : SBw (wpush w (true, eO 0 [.null, iI 0, iI 0, iI 0])) a v n m := ⟨mb, f, by rw [wpush_n (Nat.ne_of_lt (hwf a _ hO))]; exact hO, by rw [wpush_n (Nat.ne_of_lt (hwf v _ hV))]; exact hV, hF, hav, hnm'⟩
  refine t_callI C hT (c_J0_init_81219 _ wpush_s hS1 hm) ml_RJ4_137 im_yJ0_init_81219 in_RJ0 co_yJ0_init_81219 rfl hd_J0_init_81219 rfl ⟨by omega, by omega⟩ rfl (Nat.le_of_ble_eq_true rfl) ⟨by omega, by omega⟩ dJ4_toString_0e30d_5 (fun v5 w5 hp5 => ?_)
  obtain ⟨rfl, hp5⟩ := hp5
  exact g_areturn C (Or.inl ⟨_, rfl⟩) hQ (Or.inr ⟨_, rfl⟩) dJ4_toString_0e30d_8 (by omega) (by omega) ⟨rfl, FrY.fr ((Fr.rf w).push _) hp5 (Nat.le_refl _) (Nat.le_refl _)⟩
set_option maxHeartbeats 4000000 in
set_option maxRecDepth 100000 in
theorem c_J5_reverse_278bc (l : Launch) {K : KC} {E : GE} {w : Wd} {a v n m : Nat} (hS : SBw w a v n m) (hm : m ≤ 1000000) : St K E l yJ5_reverse_278bc cJ5_reverse_278bc 7 (some (.object "java/lang/AbstractStringBuilder")) 1 (0) (0) [.ref a] w (fun r w' => r = some (.ref a) ∧ ∃ (v' : Nat), SBw w' a v' (n) (m) ∧ (v' = v ∨ w.1 ≤ v') ∧ FrY w w' a v) := by
  refine st_intro [some (.ref a), none, none, none, none, none, none] rfl (Nat.le_of_ble_eq_true rfl) pn_J5 ?_
  intro X C hT hRm hl hnm hQ
  obtain ⟨hRf, hRl, hRc, hRs⟩ := hRm
  refine g_wf (fun hwf => ?_)
  have hS0 := hS
  obtain ⟨mb, f, hO, hV, hF, hav, hnm'⟩ := hS
  refine g_aload_n C dJ5_reverse_278bc_0 rfl ?_
  refine g_get (ci := 1) C rfl inTJ4 0 (by decide) fl_RJ5_15 rfl hO rfl dJ5_reverse_278bc_1 ?_
  refine g_astore_n C dJ5_reverse_278bc_4 (by decide) rfl ?_
  refine g_aload_n C dJ5_reverse_278bc_5 rfl ?_
  refine g_get (ci := 1) C rfl inTJ4 3 (by decide) fl_RJ5_79 rfl hO rfl dJ5_reverse_278bc_6 ?_
  refine g_istore_n C dJ5_reverse_278bc_9 (by decide) rfl ?_
  refine g_iload_n C dJ5_reverse_278bc_10 rfl ?_
  refine g_iconst C dJ5_reverse_278bc_11 ?_
  refine g_isub C dJ5_reverse_278bc_12 ?_
  refine g_istore_n C dJ5_reverse_278bc_13 (by decide) rfl ?_
  refine g_aload_n C dJ5_reverse_278bc_14 rfl ?_
  refine t_callU (owner := RJ5) C hT (c_J5_isLatin1_aae02 _ hS0) (RcV.ob (ci := 1) C rfl hO) rfl ml_RJ5_83 gw_sameMethod_java_lang_AbstractStringBuilder_java_lang_AbstractStringBui_424 se_RJ4__yJ5_isLatin1_aae02 im_yJ5_isLatin1_aae02 in_RJ5 co_yJ5_isLatin1_aae02 hd_J5_isLatin1_aae02 rfl ⟨by omega, by omega⟩ rfl (Nat.le_of_ble_eq_true rfl) ⟨by omega, by omega⟩ dJ5_reverse_278bc_15 (fun v15 w15 hp15 => ?_)
  obtain ⟨rfl, hw15⟩ := hp15
  subst w15
  refine g_if_eq (tgt := 68) C dJ5_reverse_278bc_18 (by decide) (by omega) (fun h18 => ?_) (fun h18 => ?_)
  · omega
  · refine g_iload_n C dJ5_reverse_278bc_21 rfl ?_
    refine g_iconst C dJ5_reverse_278bc_22 ?_
    refine g_isub C dJ5_reverse_278bc_23 ?_
    refine g_iconst C dJ5_reverse_278bc_24 ?_
    refine g_ishr (z := ((n : Int) - 1 - 1) / 2 ^ (1 : Int).toNat) C dJ5_reverse_278bc_25 (i_shr (by omega) (by omega)) ?_
    refine g_istore C dJ5_reverse_278bc_26 (by decide) rfl ?_
    suffices hh : G E X 7 28 [some (.ref a), some (.ref v), some (iI (n : Int)), some (iI ((n : Int) - 1)), some (iI (((n : Int) - 1 - 1) / 2 ^ (1 : Int).toNat)), none, none] [] (wset w v (true, eB m f)) 0 0 by rw [wset_id hV] at hh; exact hh
    refine g_loop (σ := Int × (Nat → Int)) (fun s => -1 ≤ s.1 ∧ s.1 + s.1 + 2 ≤ n ∧ bF s.2) (fun s => G E X 7 28 [some (.ref a), some (.ref v), some (iI (n : Int)), some (iI ((n : Int) - 1)), some (iI s.1), none, none] [] (wset w v (true, eB m s.2)) 0 0) (fun s => (s.1 + 1).toNat) ?_ (((n : Int) - 1 - 1) / 2 ^ (1 : Int).toNat, f) ⟨by show -1 ≤ ((n : Int) - 1 - 1) / 2; omega, by show ((n : Int) - 1 - 1) / 2 + ((n : Int) - 1 - 1) / 2 + 2 ≤ n; omega, hF⟩
    rintro ⟨j, h⟩ hq ih
    obtain ⟨hj0, hj1, hh⟩ := hq
    dsimp only at hj0 hj1 hh ⊢
    refine g_iload C dJ5_reverse_278bc_28 rfl ?_
    refine g_if_lt (tgt := 65) C dJ5_reverse_278bc_30 (by decide) (by omega) (fun h30 => ?_) (fun h30 => ?_)
    · refine g_goto (tgt := 73) C dJ5_reverse_278bc_65 (by decide) ?_
      refine g_aload_n C dJ5_reverse_278bc_73 rfl ?_
      exact g_areturn C (Or.inl ⟨_, rfl⟩) hQ (Or.inr ⟨_, rfl⟩) dJ5_reverse_278bc_74 (by omega) (by omega) ⟨rfl, v, ⟨mb, h, by rw [wset_n hav]; exact hO, wset_s, hh, hav, hnm'⟩, Or.inl rfl, (FrY.rf _ _ _).set (by omega) _⟩
    · refine g_iload_n C dJ5_reverse_278bc_33 rfl ?_
      refine g_iload C dJ5_reverse_278bc_34 rfl ?_
      refine g_isub C dJ5_reverse_278bc_36 ?_
      refine g_istore C dJ5_reverse_278bc_37 (by decide) rfl ?_
      refine g_aload_n C dJ5_reverse_278bc_39 rfl ?_
      refine g_iload C dJ5_reverse_278bc_40 rfl ?_
      refine g_baload C wset_s (by omega) dJ5_reverse_278bc_42 ?_
      refine g_istore C dJ5_reverse_278bc_43 (by decide) rfl ?_
      refine g_aload_n C dJ5_reverse_278bc_45 rfl ?_
      refine g_iload C dJ5_reverse_278bc_46 rfl ?_
      refine g_aload_n C dJ5_reverse_278bc_48 rfl ?_
      refine g_iload C dJ5_reverse_278bc_49 rfl ?_
      refine g_baload C wset_s (by omega) dJ5_reverse_278bc_51 ?_
      refine g_bastore C wset_s (by omega) (Classical.choose_spec (b_nar _)).1 dJ5_reverse_278bc_52 ?_
      rw [wset_set]
      refine g_aload_n C dJ5_reverse_278bc_53 rfl ?_
      refine g_iload C dJ5_reverse_278bc_54 rfl ?_
      refine g_iload C dJ5_reverse_278bc_56 rfl ?_
      refine g_bastore C wset_s (by omega) (Classical.choose_spec (b_nar _)).1 dJ5_reverse_278bc_58 ?_
      rw [wset_set]
      refine g_iinc C dJ5_reverse_278bc_59 rfl (by decide) rfl ?_
      refine g_goto (tgt := 28) C dJ5_reverse_278bc_62 (by decide) ?_
      refine g_drop 5 (g_drop 6 ?_)
      exact ih (j + -1, _) ⟨by dsimp only; omega, by dsimp only; omega, (hh.iup _ (Classical.choose_spec (b_nar _)).2).iup _ (Classical.choose_spec (b_nar _)).2⟩ (by dsimp only; omega)
set_option maxHeartbeats 4000000 in
set_option maxRecDepth 100000 in
theorem c_J4_reverse_43fcb (l : Launch) {K : KC} {E : GE} {w : Wd} {a v n m : Nat} (hS : SBw w a v n m) (hm : m ≤ 1000000) : St K E l yJ4_reverse_43fcb cJ4_reverse_43fcb 1 (some (.object "java/lang/StringBuilder")) 2 (0) (0) [.ref a] w (fun r w' => r = some (.ref a) ∧ ∃ (v' : Nat), SBw w' a v' (n) (m) ∧ (v' = v ∨ w.1 ≤ v') ∧ FrY w w' a v) := by
  refine st_intro [some (.ref a)] rfl (Nat.le_of_ble_eq_true rfl) pn_J4 ?_
  intro X C hT hRm hl hnm hQ
  obtain ⟨hRf, hRl, hRc, hRs⟩ := hRm
  refine g_wf (fun hwf => ?_)
  have hS0 := hS
  obtain ⟨mb, f, hO, hV, hF, hav, hnm'⟩ := hS
  refine g_aload_n C dJ4_reverse_43fcb_0 rfl ?_
  refine t_callP C hT (c_J5_reverse_278bc _ hS0 hm) (ci := 1) rfl hO ml_RJ4_127 gw_sameMethod_java_lang_AbstractStringBuilder_java_lang_AbstractStringBui_1924 gw_superclass_RJ4_RJ5 im_yJ5_reverse_278bc in_RJ5 co_yJ5_reverse_278bc ⟨by decide, hd_J5_reverse_278bc.2.2⟩ rfl ⟨by omega, by omega⟩ rfl (Nat.le_of_ble_eq_true rfl) ⟨by omega, by omega⟩ dJ4_reverse_43fcb_1 (fun v1 w1 hp1 => ?_)
  obtain ⟨rfl, hp1⟩ := hp1
  refine g_pop C dJ4_reverse_43fcb_4 rfl ?_
  refine g_aload_n C dJ4_reverse_43fcb_5 rfl ?_
  exact g_areturn C (Or.inl ⟨_, rfl⟩) hQ (Or.inr ⟨_, rfl⟩) dJ4_reverse_43fcb_6 (by omega) (by omega) ⟨rfl, hp1⟩
set_option maxHeartbeats 4000000 in
set_option maxRecDepth 100000 in
theorem c_J5_setLength_d00df (l : Launch) {K : KC} {E : GE} {w : Wd} {a v n m : Nat} (hS : SBw w a v n m) (hm : m ≤ 100000) : St K E l yJ5_setLength_d00df cJ5_setLength_d00df 2 none 4 (0) (0) [.ref a, iI 0] w (fun r w' => r = none ∧ ∃ (v' : Nat), SBw w' a v' (0) (m) ∧ (v' = v ∨ w.1 ≤ v') ∧ FrY w w' a v) := by
  refine st_intro [some (.ref a), some (iI 0)] rfl (Nat.le_of_ble_eq_true rfl) pn_J5 ?_
  intro X C hT hRm hl hnm hQ
  obtain ⟨hRf, hRl, hRc, hRs⟩ := hRm
  refine g_wf (fun hwf => ?_)
  have hS0 := hS
  obtain ⟨mb, f, hO, hV, hF, hav, hnm'⟩ := hS
  refine g_iload_n C dJ5_setLength_d00df_0 rfl ?_
  refine g_if_ge (tgt := 13) C dJ5_setLength_d00df_1 (by decide) (by omega) (fun h1 => ?_) (fun h1 => ?_)
  · have e0 : gC 0 m = 0 ∧ gS 0 m = 0 ∧ capG 0 m = m := ⟨if_pos (Nat.zero_le _), if_pos (Nat.zero_le _), if_pos (Nat.zero_le _)⟩
    refine g_aload_n C dJ5_setLength_d00df_13 rfl ?_
    refine g_iload_n C dJ5_setLength_d00df_14 rfl ?_
    refine t_callU (owner := RJ5) C hT (c_J5_ensureCapacityInternal_d00df _ hS0 (q := 0) (by omega) hm) (RcV.ob (ci := 1) C rfl hO) rfl ml_RJ5_100 gw_sameMethod_java_lang_AbstractStringBuilder_java_lang_AbstractStringBui_1916 se_RJ4__yJ5_ensureCapacityInternal_d00df im_yJ5_ensureCapacityInternal_d00df in_RJ5 co_yJ5_ensureCapacityInternal_d00df hd_J5_ensureCapacityInternal_d00df rfl ⟨by omega, by omega⟩ rfl (Nat.le_of_ble_eq_true rfl) ⟨by omega, by omega⟩ dJ5_setLength_d00df_15 (fun v15 w15 hp15 => ?_)
    obtain ⟨rfl, v1, hS1, hv1, fr1⟩ := hp15
    rw [e0.2.2] at hS1
    obtain ⟨mb1, f1, hO1, hV1, hF1, hav1, hnm1⟩ := id hS1
    refine g_aload_n C dJ5_setLength_d00df_18 rfl ?_
    refine g_get (ci := 1) C rfl inTJ4 3 (by decide) fl_RJ5_79 rfl hO1 rfl dJ5_setLength_d00df_19 ?_
    refine g_iload_n C dJ5_setLength_d00df_22 rfl ?_
    refine g_icmp_ge (tgt := 63) C dJ5_setLength_d00df_23 (by decide) (by omega) (by omega) (fun h23 => ?_) (fun h23 => ?_)
    · refine g_aload_n C dJ5_setLength_d00df_63 rfl ?_
      refine g_get (ci := 1) C rfl inTJ4 3 (by decide) fl_RJ5_79 rfl hO1 rfl dJ5_setLength_d00df_64 ?_
      refine g_iload_n C dJ5_setLength_d00df_67 rfl ?_
      refine g_icmp_le (tgt := 76) C dJ5_setLength_d00df_68 (by decide) (by omega) (by omega) (fun h68 => ?_) (fun h68 => ?_)
      · refine g_aload_n C dJ5_setLength_d00df_76 rfl ?_
        refine g_iload_n C dJ5_setLength_d00df_77 rfl ?_
        refine g_put (ci := 1) C rfl inTJ4 tyJ4 tyJ4_ok nmJ4 3 (by decide) fl_RJ5_79 rfl rfl (by first | exact wset_s | exact hO1) (Nat.le_of_ble_eq_true rfl) rfl rfl dJ5_setLength_d00df_78 ?_
        exact g_return C hQ dJ5_setLength_d00df_81 (by omega) (by omega) (by
          first
          | exact ⟨rfl, v1, ⟨1, f1, by rw [wset_set]; exact wset_s, by rw [wset_n (Ne.symm hav1), wset_n (Ne.symm hav1)]; exact hV1, hF1, hav1, by omega⟩, hv1, (fr1.set (Or.inl rfl) _).set (Or.inl rfl) _⟩
          | exact ⟨rfl, v1, ⟨mb1, f1, wset_s, by rw [wset_n (Ne.symm hav1)]; exact hV1, hF1, hav1, by omega⟩, hv1, fr1.set (Or.inl rfl) _⟩)
      · refine g_aload_n C dJ5_setLength_d00df_71 rfl ?_
        refine g_iconst C dJ5_setLength_d00df_72 ?_
        refine g_put (ci := 1) C rfl inTJ4 tyJ4 tyJ4_ok nmJ4 2 (by decide) fl_RJ5_73 rfl rfl hO1 (Nat.le_of_ble_eq_true rfl) rfl rfl dJ5_setLength_d00df_73 ?_
        refine g_aload_n C dJ5_setLength_d00df_76 rfl ?_
        refine g_iload_n C dJ5_setLength_d00df_77 rfl ?_
        refine g_put (ci := 1) C rfl inTJ4 tyJ4 tyJ4_ok nmJ4 3 (by decide) fl_RJ5_79 rfl rfl (by first | exact wset_s | exact hO1) (Nat.le_of_ble_eq_true rfl) rfl rfl dJ5_setLength_d00df_78 ?_
        exact g_return C hQ dJ5_setLength_d00df_81 (by omega) (by omega) (by
          first
          | exact ⟨rfl, v1, ⟨1, f1, by rw [wset_set]; exact wset_s, by rw [wset_n (Ne.symm hav1), wset_n (Ne.symm hav1)]; exact hV1, hF1, hav1, by omega⟩, hv1, (fr1.set (Or.inl rfl) _).set (Or.inl rfl) _⟩
          | exact ⟨rfl, v1, ⟨mb1, f1, wset_s, by rw [wset_n (Ne.symm hav1)]; exact hV1, hF1, hav1, by omega⟩, hv1, fr1.set (Or.inl rfl) _⟩)
    · omega
  · omega
set_option maxHeartbeats 4000000 in
set_option maxRecDepth 100000 in
theorem c_J4_setLength_d00df (l : Launch) {K : KC} {E : GE} {w : Wd} {a v n m : Nat} (hS : SBw w a v n m) (hm : m ≤ 100000) : St K E l yJ4_setLength_d00df cJ4_setLength_d00df 2 none 5 (0) (0) [.ref a, iI 0] w (fun r w' => r = none ∧ ∃ (v' : Nat), SBw w' a v' (0) (m) ∧ (v' = v ∨ w.1 ≤ v') ∧ FrY w w' a v) := by
  refine st_intro [some (.ref a), some (iI 0)] rfl (Nat.le_of_ble_eq_true rfl) pn_J4 ?_
  intro X C hT hRm hl hnm hQ
  obtain ⟨hRf, hRl, hRc, hRs⟩ := hRm
  refine g_wf (fun hwf => ?_)
  have hS0 := hS
  obtain ⟨mb, f, hO, hV, hF, hav, hnm'⟩ := hS
  refine g_aload_n C dJ4_setLength_d00df_0 rfl ?_
  refine g_iload_n C dJ4_setLength_d00df_1 rfl ?_
  refine t_callP C hT (c_J5_setLength_d00df _ hS0 hm) (ci := 1) rfl hO ml_RJ4_333 gw_sameMethod_java_lang_AbstractStringBuilder_java_lang_AbstractStringBui gw_superclass_RJ4_RJ5 im_yJ5_setLength_d00df in_RJ5 co_yJ5_setLength_d00df ⟨by decide, hd_J5_setLength_d00df.2.2⟩ rfl ⟨by omega, by omega⟩ rfl (Nat.le_of_ble_eq_true rfl) ⟨by omega, by omega⟩ dJ4_setLength_d00df_2 (fun v2 w2 hp2 => ?_)
  obtain ⟨rfl, hp2⟩ := hp2
  exact g_return C hQ dJ4_setLength_d00df_5 (Nat.le_refl _) (Nat.le_refl _) ⟨rfl, hp2⟩
set_option maxHeartbeats 4000000 in
set_option maxRecDepth 100000 in
theorem c_J5_charAt_5068e (l : Launch) {K : KC} {E : GE} {w : Wd} {a v n m : Nat} (hS : SBw w a v n m) {p : Nat} (hp : p < n) (hm : m ≤ 1000000) : St K E l yJ5_charAt_5068e cJ5_charAt_5068e 5 (some .char) 2 (0) (0) [.ref a, iI (p : Int)] w (fun r w' => (∃ y : Int, r = some (iI y) ∧ 0 ≤ y ∧ y ≤ 255) ∧ w' = w) := by
  refine st_intro [some (.ref a), some (iI (p : Int)), none, none, none] rfl (Nat.le_of_ble_eq_true rfl) pn_J5 ?_
  intro X C hT hRm hl hnm hQ
  obtain ⟨hRf, hRl, hRc, hRs⟩ := hRm
  refine g_wf (fun hwf => ?_)
  have hS0 := hS
  obtain ⟨mb, f, hO, hV, hF, hav, hnm'⟩ := hS
  refine g_aload_n C dJ5_charAt_5068e_0 rfl ?_
  refine g_get (ci := 1) C rfl inTJ4 1 (by decide) fl_RJ5_22 rfl hO rfl dJ5_charAt_5068e_1 ?_
  refine g_istore_n C dJ5_charAt_5068e_4 (by decide) rfl ?_
  refine g_aload_n C dJ5_charAt_5068e_5 rfl ?_
  refine g_get (ci := 1) C rfl inTJ4 0 (by decide) fl_RJ5_15 rfl hO rfl dJ5_charAt_5068e_6 ?_
  refine g_astore_n C dJ5_charAt_5068e_9 (by decide) rfl ?_
  refine g_aload_n C dJ5_charAt_5068e_10 rfl ?_
  refine g_get (ci := 1) C rfl inTJ4 3 (by decide) fl_RJ5_79 rfl hO rfl dJ5_charAt_5068e_11 ?_
  refine g_aload_n C dJ5_charAt_5068e_14 rfl ?_
  refine g_alen C hV (Or.inr (Or.inl ⟨_, rfl⟩)) dJ5_charAt_5068e_15 ?_
  refine g_iload_n C dJ5_charAt_5068e_16 rfl ?_
  refine g_ishr (z := (m : Int)) C dJ5_charAt_5068e_17 (i_shr0 (by omega)) ?_
  refine g_min C ml_RJ5_138 (by omega) (by omega) (by omega) (by omega) (Nat.le_of_ble_eq_true rfl) (by omega) dJ5_charAt_5068e_18 ?_
  rw [if_neg (by omega)]
  refine g_istore C dJ5_charAt_5068e_21 (by decide) rfl ?_
  refine g_iload_n C dJ5_charAt_5068e_23 rfl ?_
  refine g_iload C dJ5_charAt_5068e_24 rfl ?_
  refine t_callS C hT (c_J0_checkIndex_df160 _ (i := (p : Int)) (n := (n : Int)) (by omega)) ml_RJ5_144 sm_yJ0_checkIndex_df160 in_RJ0 co_yJ0_checkIndex_df160 hd_J0_checkIndex_df160 rfl ⟨by omega, by omega⟩ rfl (Nat.le_of_ble_eq_true rfl) ⟨by omega, by omega⟩ dJ5_charAt_5068e_26 (fun v26 w26 hp26 => ?_)
  obtain ⟨rfl, hw26⟩ := hp26
  subst w26
  refine g_iload_n C dJ5_charAt_5068e_29 rfl ?_
  refine g_if_ne (tgt := 42) C dJ5_charAt_5068e_30 (by decide) (by omega) (fun h30 => ?_) (fun h30 => ?_)
  · omega
  · refine g_aload_n C dJ5_charAt_5068e_33 rfl ?_
    refine g_iload_n C dJ5_charAt_5068e_34 rfl ?_
    refine g_baload C hV (by omega) dJ5_charAt_5068e_35 ?_
    refine g_sipush C dJ5_charAt_5068e_36 (by decide) ?_
    obtain ⟨y8, hy8, y80, y81⟩ := b255 (Int32.ofInt (f (p : Int).toNat))
    refine g_iand (z := y8) C dJ5_charAt_5068e_39 hy8 ?_
    refine g_i2c (z := y8) C dJ5_charAt_5068e_40 (i2c_n y80 (by omega)) ?_
    exact g_zreturn C hQ dJ5_charAt_5068e_41 (nar_ch y80 (by omega)) (Nat.le_refl _) (Nat.le_refl _) ⟨⟨y8, rfl, y80, y81⟩, rfl⟩
set_option maxHeartbeats 4000000 in
set_option maxRecDepth 100000 in
theorem c_J4_charAt_5068e (l : Launch) {K : KC} {E : GE} {w : Wd} {a v n m : Nat} (hS : SBw w a v n m) {p : Nat} (hp : p < n) (hm : m ≤ 1000000) : St K E l yJ4_charAt_5068e cJ4_charAt_5068e 2 (some .char) 3 (0) (0) [.ref a, iI (p : Int)] w (fun r w' => (∃ y : Int, r = some (iI y) ∧ 0 ≤ y ∧ y ≤ 255) ∧ w' = w) := by
  refine st_intro [some (.ref a), some (iI (p : Int))] rfl (Nat.le_of_ble_eq_true rfl) pn_J4 ?_
  intro X C hT hRm hl hnm hQ
  obtain ⟨hRf, hRl, hRc, hRs⟩ := hRm
  refine g_wf (fun hwf => ?_)
  have hS0 := hS
  obtain ⟨mb, f, hO, hV, hF, hav, hnm'⟩ := hS
  refine g_aload_n C dJ4_charAt_5068e_0 rfl ?_
  refine g_iload_n C dJ4_charAt_5068e_1 rfl ?_
  refine t_callP C hT (c_J5_charAt_5068e _ hS0 hp hm) (ci := 1) rfl hO ml_RJ4_329 gw_sameMethod_java_lang_AbstractStringBuilder_java_lang_AbstractStringBui_1926 gw_superclass_RJ4_RJ5 im_yJ5_charAt_5068e in_RJ5 co_yJ5_charAt_5068e ⟨by decide, hd_J5_charAt_5068e.2.2⟩ rfl ⟨by omega, by omega⟩ rfl (Nat.le_of_ble_eq_true rfl) ⟨by omega, by omega⟩ dJ4_charAt_5068e_2 (fun v2 w2 hp2 => ?_)
  obtain ⟨⟨y, rfl, y0, y1⟩, hw2⟩ := hp2
  subst w2
  exact g_zreturn C hQ dJ4_charAt_5068e_5 (nar_ch y0 (by omega)) (Nat.le_refl _) (Nat.le_refl _) ⟨⟨y, rfl, y0, y1⟩, rfl⟩
