theorem pn_J0 : plainName RJ0 = true := by decide +kernel
theorem pn_J1 : plainName RJ1 = true := by decide +kernel
theorem pn_J2 : plainName RJ2 = true := by decide +kernel
theorem pn_J3 : plainName RJ3 = true := by decide +kernel
theorem pn_J4 : plainName RJ4 = true := by decide +kernel
theorem pn_J5 : plainName RJ5 = true := by decide +kernel
theorem pn_J6 : plainName RJ6 = true := by decide +kernel
theorem pn_J7 : plainName RJ7 = true := by decide +kernel
theorem pn_J8 : plainName RJ8 = true := by decide +kernel
theorem pn_J11 : plainName RJ11 = true := by decide +kernel
theorem g_getc {K : KC} {E X own cc nL ret pc L st w k n} (C : CX E X own cc nL ret) (hT : HT K E (xs X) (xs X).heap) {index : Nat} (fl : Cond.fieldLink own index "java/lang/String" "COMPACT_STRINGS" "Z" ∈ GT) (d : decode cc pc = .ok (.getstatic index, 3)) (kk : G E X nL (pc + 3) L (iI 1 :: st) w k n) : G E X nL pc L st w k n :=
  g_gets C (v := iI 1) ((show Value.int 1 = iI 1 from congrArg Value.int (by decide)) ▸ hT.2.2.1) fl d kk
/-! StringBuilder by its shape: where its bytes lie, how many letters, how many places -/
def SBw (w : Wd) (a v n m : Nat) : Prop := ∃ (mb : Int) (f : Nat → Int), w.2 a = some (true, eO 1 [.ref v, iI 0, iI mb, iI (n : Int)]) ∧ w.2 v = some (true, eB m f) ∧ bF f ∧ a ≠ v ∧ n ≤ m
def FrY (w u : Wd) (a v : Nat) : Prop := w.1 ≤ u.1 ∧ ∀ b, b < w.1 → b ≠ a → b ≠ v → u.2 b = w.2 b
theorem FrY.rf (w : Wd) (a v : Nat) : FrY w w a v := ⟨Nat.le_refl _, fun _ _ _ _ => rfl⟩
theorem FrY.tr {w u x : Wd} {a v v' : Nat} (h : FrY w u a v) (g : FrY u x a v') (hv : v' = v ∨ w.1 ≤ v') : FrY w x a v := ⟨Nat.le_trans h.1 g.1, fun b h1 h2 h3 => by rw [g.2 b (by have := h.1; omega) h2 (by omega), h.2 b h1 h2 h3]⟩
theorem FrY.set {w u : Wd} {a v b : Nat} (h : FrY w u a v) (hb : b = a ∨ b = v ∨ w.1 ≤ b) (e : WdE) : FrY w (wset u b e) a v := ⟨h.1, fun c h1 h2 h3 => by rw [wset_n (by omega)]; exact h.2 c h1 h2 h3⟩
theorem FrY.push {w u : Wd} {a v : Nat} (h : FrY w u a v) (e : WdE) : FrY w (wpush u e) a v := ⟨Nat.le_succ_of_le h.1, fun c h1 h2 h3 => by rw [wpush_n (by have := h.1; omega)]; exact h.2 c h1 h2 h3⟩
theorem FrY.fr {w0 w u : Wd} {a v : Nat} (h0 : Fr w0 w) (h : FrY w u a v) (ha : w0.1 ≤ a) (hv : w0.1 ≤ v) : Fr w0 u := ⟨Nat.le_trans h0.1 h.1, fun b hb => by rw [h.2 b (by have := h0.1; omega) (by omega) (by omega)]; exact h0.2 b hb⟩
def capG (q m : Nat) : Nat := if q ≤ m then m else if m + 2 ≤ q - m then q else 2 * m + 2
def gC (q m : Nat) : Nat := if q ≤ m then 0 else 1
def gS (q m : Nat) : Nat := if q ≤ m then 0 else capG q m
theorem capG_ge (q m : Nat) : q ≤ capG q m ∧ m ≤ capG q m := by unfold capG; split <;> (try split) <;> omega
theorem b255 (x : Int32) : ∃ y : Int, x &&& Int32.ofInt 255 = Int32.ofInt y ∧ 0 ≤ y ∧ y ≤ 255 := by
  refine ⟨x.toInt % (2 : Int) ^ 8, ?_, ?_, ?_⟩
  · have e := i_mask (x := x.toInt) (m := 255) 8 (by omega) (by decide)
    rw [← i_of x] at e
    exact e
  · exact Int.emod_nonneg _ (by decide)
  · have := Int.emod_lt_of_pos x.toInt (b := (2 : Int) ^ 8) (by decide)
    have e : (2 : Int) ^ 8 = 256 := by decide
    omega
theorem i2c_n {y : Int} (h0 : 0 ≤ y) (h1 : y ≤ 65535) : ((Int32.ofInt y).toUInt32 % 65536).toInt32 = Int32.ofInt y := by
  obtain ⟨k, rfl⟩ := Int.eq_ofNat_of_zero_le h0
  have e1 : (Int32.ofInt (k : Int)).toUInt32 = UInt32.ofNat k := by
    apply UInt32.toBitVec_inj.mp
    show (Int32.ofInt (k : Int)).toBitVec = _
    show BitVec.ofInt 32 (k : Int) = _
    rw [BitVec.ofInt_natCast]
    rfl
  have e2 : UInt32.ofNat k % 65536 = UInt32.ofNat k := by
    apply UInt32.toNat_inj.mp
    rw [UInt32.toNat_mod, UInt32.toNat_ofNat_of_lt' (by show k < 4294967296; omega)]
    exact Nat.mod_eq_of_lt (by show k < 65536; omega)
  rw [e1, e2]
  apply Int32.toBitVec_inj.mp
  show (UInt32.ofNat k).toBitVec = BitVec.ofInt 32 (k : Int)
  rw [BitVec.ofInt_natCast]
  rfl
theorem i_shr0 {x : Int} (hx : -2147483648 ≤ x ∧ x < 2147483648) : Int32.ofInt x >>> (Int32.ofInt 0 &&& 31) = Int32.ofInt x := by
  rw [i_shr hx (by omega)]; simp
theorem i_shl0 (x : Int) : Int32.ofInt x <<< (Int32.ofInt 0 &&& 31) = Int32.ofInt x := by
  apply Int32.toBitVec_inj.mp
  rw [Int32.toBitVec_shiftLeft]
  show (Int32.ofInt x).toBitVec <<< ((Int32.ofInt 0 &&& 31).toBitVec.smod 32) = _
  rw [show ((Int32.ofInt 0 &&& 31).toBitVec.smod 32) = 0#32 by decide]
  exact BitVec.shiftLeft_zero _
set_option maxHeartbeats 4000000 in
set_option maxRecDepth 100000 in
theorem c_J5_isLatin1_aae02 (l : Launch) {K : KC} {E : GE} {w : Wd} {a v n m : Nat} (hS : SBw w a v n m) : St K E l yJ5_isLatin1_aae02 cJ5_isLatin1_aae02 1 (some .boolean) 0 (0) (0) [.ref a] w (fun r w' => r = some (iI 1) ∧ w' = w) := by
  refine st_intro [some (.ref a)] rfl (Nat.le_of_ble_eq_true rfl) pn_J5 ?_
  intro X C hT hRm hl hnm hQ
  obtain ⟨hRf, hRl, hRc, hRs⟩ := hRm
  refine g_wf (fun hwf => ?_)
  obtain ⟨mb, f, hO, hV, hF, hav, hnm'⟩ := hS
  refine g_getc C hT fl_RJ5_18 dJ5_isLatin1_aae02_0 ?_
  refine g_if_eq (tgt := 17) C dJ5_isLatin1_aae02_3 (by decide) (by omega) (fun h3 => ?_) (fun h3 => ?_)
  · omega
  · refine g_aload_n C dJ5_isLatin1_aae02_6 rfl ?_
    refine g_get (ci := 1) C rfl inTJ4 1 (by decide) fl_RJ5_22 rfl hO rfl dJ5_isLatin1_aae02_7 ?_
    refine g_if_ne (tgt := 17) C dJ5_isLatin1_aae02_10 (by decide) (by omega) (fun h10 => ?_) (fun h10 => ?_)
    · omega
    · refine g_iconst C dJ5_isLatin1_aae02_13 ?_
      refine g_goto (tgt := 18) C dJ5_isLatin1_aae02_14 (by decide) ?_
      exact g_zreturn C hQ dJ5_isLatin1_aae02_18 rfl (Nat.le_refl _) (Nat.le_refl _) ⟨rfl, rfl⟩
set_option maxHeartbeats 4000000 in
set_option maxRecDepth 100000 in
theorem c_J1_canEncode_fc78d (l : Launch) {K : KC} {E : GE} {w : Wd} {x : Int} (hx : 0 ≤ x ∧ x ≤ 255) : St K E l yJ1_canEncode_fc78d cJ1_canEncode_fc78d 1 (some .boolean) 0 (0) (0) [iI x] w (fun r w' => r = some (iI 1) ∧ w' = w) := by
  refine st_intro [some (iI x)] rfl (Nat.le_of_ble_eq_true rfl) pn_J1 ?_
  intro X C hT hRm hl hnm hQ
  obtain ⟨hRf, hRl, hRc, hRs⟩ := hRm
  refine g_wf (fun hwf => ?_)
  refine g_iload_n C dJ1_canEncode_fc78d_0 rfl ?_
  refine g_sipush C dJ1_canEncode_fc78d_1 (by decide) ?_
  refine g_icmp_gt (tgt := 11) C dJ1_canEncode_fc78d_4 (by decide) (by omega) (by omega) (fun h4 => ?_) (fun h4 => ?_)
  · omega
  · refine g_iconst C dJ1_canEncode_fc78d_7 ?_
    refine g_goto (tgt := 12) C dJ1_canEncode_fc78d_8 (by decide) ?_
    exact g_zreturn C hQ dJ1_canEncode_fc78d_12 rfl (Nat.le_refl _) (Nat.le_refl _) ⟨rfl, rfl⟩
set_option maxHeartbeats 4000000 in
set_option maxRecDepth 100000 in
theorem c_J8_newLength_cabcc (l : Launch) {K : KC} {E : GE} {w : Wd} {x y z : Int} (hx : 0 ≤ x ∧ x ≤ 100000) (hy : 1 ≤ y ∧ y ≤ 300000) (hz : 1 ≤ z ∧ z ≤ 300000) : St K E l yJ8_newLength_cabcc cJ8_newLength_cabcc 4 (some .int) 1 (0) (0) [iI x, iI y, iI z] w (fun r w' => r = some (iI ((if y < z then z else y) + x)) ∧ w' = w) := by
  refine st_intro [some (iI x), some (iI y), some (iI z), none] rfl (Nat.le_of_ble_eq_true rfl) pn_J8 ?_
  intro X C hT hRm hl hnm hQ
  obtain ⟨hRf, hRl, hRc, hRs⟩ := hRm
  refine g_wf (fun hwf => ?_)
  refine g_iload_n C dJ8_newLength_cabcc_0 rfl ?_
  refine g_iload_n C dJ8_newLength_cabcc_1 rfl ?_
  refine g_iload_n C dJ8_newLength_cabcc_2 rfl ?_
  refine g_max C ml_RJ8_194 (by omega) (by omega) (by omega) (by omega) (Nat.le_of_ble_eq_true rfl) (by omega) dJ8_newLength_cabcc_3 ?_
  have hmx : 1 ≤ (if y < z then z else y) ∧ (if y < z then z else y) ≤ 300000 := by split <;> omega
  generalize (if y < z then z else y) = q at *
  refine g_iadd C dJ8_newLength_cabcc_6 ?_
  rw [Int.add_comm x q]
  refine g_istore_n C dJ8_newLength_cabcc_7 (by decide) rfl ?_
  refine g_iconst C dJ8_newLength_cabcc_8 ?_
  refine g_iload_n C dJ8_newLength_cabcc_9 rfl ?_
  refine g_icmp_ge (tgt := 21) C dJ8_newLength_cabcc_10 (by decide) (by omega) (by omega) (fun h10 => ?_) (fun h10 => ?_)
  · omega
  · refine g_iload_n C dJ8_newLength_cabcc_13 rfl ?_
    refine g_ldc (z := 2147483639) C ko_RJ8_200 (by decide) dJ8_newLength_cabcc_14 ?_
    refine g_icmp_gt (tgt := 21) C dJ8_newLength_cabcc_16 (by decide) (by omega) (by omega) (fun h16 => ?_) (fun h16 => ?_)
    · omega
    · refine g_iload_n C dJ8_newLength_cabcc_19 rfl ?_
      exact g_ireturn C hQ dJ8_newLength_cabcc_20 (Nat.le_refl _) (Nat.le_refl _) ⟨rfl, rfl⟩
set_option maxHeartbeats 4000000 in
set_option maxRecDepth 100000 in
theorem c_J5_newCapacity_0f7a4 (l : Launch) {K : KC} {E : GE} {w : Wd} {a v n m : Nat} (hS : SBw w a v n m) {q : Nat} (hq : m < q ∧ q ≤ 200000) (hm : m ≤ 100000) : St K E l yJ5_newCapacity_0f7a4 cJ5_newCapacity_0f7a4 6 (some .int) 2 (0) (0) [.ref a, iI (q : Int)] w (fun r w' => r = some (iI (capG q m : Nat)) ∧ w' = w) := by
  refine st_intro [some (.ref a), some (iI (q : Int)), none, none, none, none] rfl (Nat.le_of_ble_eq_true rfl) pn_J5 ?_
  intro X C hT hRm hl hnm hQ
  obtain ⟨hRf, hRl, hRc, hRs⟩ := hRm
  refine g_wf (fun hwf => ?_)
  obtain ⟨mb, f, hO, hV, hF, hav, hnm'⟩ := hS
  refine g_aload_n C dJ5_newCapacity_0f7a4_0 rfl ?_
  refine g_get (ci := 1) C rfl inTJ4 0 (by decide) fl_RJ5_15 rfl hO rfl dJ5_newCapacity_0f7a4_1 ?_
  refine g_alen C hV (Or.inr (Or.inl ⟨_, rfl⟩)) dJ5_newCapacity_0f7a4_4 ?_
  refine g_istore_n C dJ5_newCapacity_0f7a4_5 (by decide) rfl ?_
  refine g_iload_n C dJ5_newCapacity_0f7a4_6 rfl ?_
  refine g_aload_n C dJ5_newCapacity_0f7a4_7 rfl ?_
  refine g_get (ci := 1) C rfl inTJ4 1 (by decide) fl_RJ5_22 rfl hO rfl dJ5_newCapacity_0f7a4_8 ?_
  refine g_ishl (z := (q : Int)) C dJ5_newCapacity_0f7a4_11 (i_shl0 _) ?_
  refine g_istore_n C dJ5_newCapacity_0f7a4_12 (by decide) rfl ?_
  refine g_iload_n C dJ5_newCapacity_0f7a4_13 rfl ?_
  refine g_iload_n C dJ5_newCapacity_0f7a4_14 rfl ?_
  refine g_isub C dJ5_newCapacity_0f7a4_15 ?_
  refine g_istore C dJ5_newCapacity_0f7a4_16 (by decide) rfl ?_
  refine g_iload_n C dJ5_newCapacity_0f7a4_18 rfl ?_
  refine g_iload C dJ5_newCapacity_0f7a4_19 rfl ?_
  refine g_iload_n C dJ5_newCapacity_0f7a4_21 rfl ?_
  refine g_iconst C dJ5_newCapacity_0f7a4_22 ?_
  refine g_aload_n C dJ5_newCapacity_0f7a4_23 rfl ?_
  refine g_get (ci := 1) C rfl inTJ4 1 (by decide) fl_RJ5_22 rfl hO rfl dJ5_newCapacity_0f7a4_24 ?_
  refine g_ishl (z := 2) C dJ5_newCapacity_0f7a4_27 (i_shl0 _) ?_
  refine g_iadd C dJ5_newCapacity_0f7a4_28 ?_
  refine t_callS C hT (c_J8_newLength_cabcc _ (x := (m : Int)) (y := (q : Int) - m) (z := (m : Int) + 2) (by omega) (by omega) (by omega)) ml_RJ5_114 sm_yJ8_newLength_cabcc in_RJ8 co_yJ8_newLength_cabcc hd_J8_newLength_cabcc rfl ⟨by omega, by omega⟩ rfl (Nat.le_of_ble_eq_true rfl) ⟨by omega, by omega⟩ dJ5_newCapacity_0f7a4_29 (fun v29 w29 hp29 => ?_)
  obtain ⟨rfl, hw29⟩ := hp29
  subst w29
  have hcap : (if (q : Int) - m < (m : Int) + 2 then (m : Int) + 2 else (q : Int) - m) + m = ((capG q m : Nat) : Int) := by
    rw [show capG q m = (if m + 2 ≤ q - m then q else 2 * m + 2) from if_neg (by omega)]
    by_cases c : m + 2 ≤ q - m
    · rw [if_pos c, if_neg (by omega)]; omega
    · rw [if_neg c, if_pos (by omega)]; omega
  rw [hcap]
  have hcq : capG q m ≤ 200002 + m := by unfold capG; split <;> (try split) <;> omega
  refine g_istore C dJ5_newCapacity_0f7a4_32 (by decide) rfl ?_
  refine g_iload C dJ5_newCapacity_0f7a4_34 rfl ?_
  refine g_ldc (z := 2147483647) C ko_RJ5_39 (by decide) dJ5_newCapacity_0f7a4_36 ?_
  refine g_icmp_ne (tgt := 51) C dJ5_newCapacity_0f7a4_38 (by decide) (by omega) (by omega) (fun h38 => ?_) (fun h38 => ?_)
  · refine g_iload C dJ5_newCapacity_0f7a4_51 rfl ?_
    refine g_aload_n C dJ5_newCapacity_0f7a4_53 rfl ?_
    refine g_get (ci := 1) C rfl inTJ4 1 (by decide) fl_RJ5_22 rfl hO rfl dJ5_newCapacity_0f7a4_54 ?_
    refine g_ishr (z := (capG q m : Nat)) C dJ5_newCapacity_0f7a4_57 (i_shr0 (by omega)) ?_
    exact g_ireturn C hQ dJ5_newCapacity_0f7a4_58 (Nat.le_refl _) (Nat.le_refl _) ⟨rfl, rfl⟩
  · omega
set_option maxHeartbeats 4000000 in
set_option maxRecDepth 100000 in
theorem c_J7_copyOf_9075b (l : Launch) {K : KC} {E : GE} {w : Wd} {a m q : Nat} {f : Nat → Int} (ha : w.2 a = some (true, eB m f)) (hF : bF f) (hq : m < q ∧ q ≤ 400000) : St K E l yJ7_copyOf_9075b cJ7_copyOf_9075b 3 (some (.array .byte)) 1 (1) (q) [.ref a, iI (q : Int)] w (fun r w' => r = some (.ref w.1) ∧ ∃ g, w' = wpush w (true, eB q g) ∧ bF g) := by
  refine st_intro [some (.ref a), some (iI (q : Int)), none] rfl (Nat.le_of_ble_eq_true rfl) pn_J7 ?_
  intro X C hT hRm hl hnm hQ
  obtain ⟨hRf, hRl, hRc, hRs⟩ := hRm
  refine g_wf (fun hwf => ?_)
  refine g_iload_n C dJ7_copyOf_9075b_0 rfl ?_
  refine g_aload_n C dJ7_copyOf_9075b_1 rfl ?_
  refine g_alen C ha (Or.inr (Or.inl ⟨_, rfl⟩)) dJ7_copyOf_9075b_2 ?_
  refine g_icmp_ne (tgt := 14) C dJ7_copyOf_9075b_3 (by decide) (by omega) (by omega) (fun h3 => ?_) (fun h3 => ?_)
  · have hne : a ≠ w.1 := Nat.ne_of_lt (hwf a _ ha)
    refine g_iload_n C dJ7_copyOf_9075b_14 rfl ?_
    refine g_newB C gw_arrayClass_byte (N := q) rfl (by omega) (by omega) dJ7_copyOf_9075b_15 ?_
    refine g_astore_n C dJ7_copyOf_9075b_17 (by decide) rfl ?_
    refine g_aload_n C dJ7_copyOf_9075b_18 rfl ?_
    refine g_iconst C dJ7_copyOf_9075b_19 ?_
    refine g_aload_n C dJ7_copyOf_9075b_20 rfl ?_
    refine g_iconst C dJ7_copyOf_9075b_21 ?_
    refine g_aload_n C dJ7_copyOf_9075b_22 rfl ?_
    refine g_alen C (by rw [wpush_n hne]; exact ha) (Or.inr (Or.inl ⟨_, rfl⟩)) dJ7_copyOf_9075b_23 ?_
    refine g_iload_n C dJ7_copyOf_9075b_24 rfl ?_
    refine g_min C ml_RJ7_304 (by omega) (by omega) (by omega) (by omega) (Nat.le_of_ble_eq_true rfl) (by omega) dJ7_copyOf_9075b_25 ?_
    refine g_acopyB C (f := f) (g := fun _ => 0) ⟨by rw [wpush_n hne]; exact ha, wpush_s, ⟨by omega, by omega, by split <;> omega, by split <;> omega, by split <;> omega, by omega, by omega⟩, hF⟩ ml_RJ7_150 (by omega) (by omega) (Nat.le_of_ble_eq_true rfl) dJ7_copyOf_9075b_28 ?_
    rw [wset_push]
    refine g_aload_n C dJ7_copyOf_9075b_31 rfl ?_
    exact g_areturn C (Or.inr ⟨_, rfl⟩) hQ (Or.inr ⟨_, rfl⟩) dJ7_copyOf_9075b_32 (by omega) (by omega) ⟨rfl, _, rfl, hF.cpy bF.zero _ _ _⟩
  · omega
set_option maxHeartbeats 4000000 in
set_option maxRecDepth 100000 in
theorem c_J5_ensureCapacityInternal_d00df (l : Launch) {K : KC} {E : GE} {w : Wd} {a v n m : Nat} (hS : SBw w a v n m) {q : Nat} (hq : q ≤ 200000) (hm : m ≤ 100000) : St K E l yJ5_ensureCapacityInternal_d00df cJ5_ensureCapacityInternal_d00df 3 none 3 (gC q m) (gS q m) [.ref a, iI (q : Int)] w (fun r w' => r = none ∧ ∃ v', SBw w' a v' n (capG q m) ∧ (v' = v ∨ w.1 ≤ v') ∧ FrY w w' a v) := by
  refine st_intro [some (.ref a), some (iI (q : Int)), none] rfl (Nat.le_of_ble_eq_true rfl) pn_J5 ?_
  intro X C hT hRm hl hnm hQ
  obtain ⟨hRf, hRl, hRc, hRs⟩ := hRm
  refine g_wf (fun hwf => ?_)
  have hS0 := hS
  obtain ⟨mb, f, hO, hV, hF, hav, hnm'⟩ := hS
  refine g_aload_n C dJ5_ensureCapacityInternal_d00df_0 rfl ?_
  refine g_get (ci := 1) C rfl inTJ4 0 (by decide) fl_RJ5_15 rfl hO rfl dJ5_ensureCapacityInternal_d00df_1 ?_
  refine g_alen C hV (Or.inr (Or.inl ⟨_, rfl⟩)) dJ5_ensureCapacityInternal_d00df_4 ?_
  refine g_aload_n C dJ5_ensureCapacityInternal_d00df_5 rfl ?_
  refine g_get (ci := 1) C rfl inTJ4 1 (by decide) fl_RJ5_22 rfl hO rfl dJ5_ensureCapacityInternal_d00df_6 ?_
  refine g_ishr (z := (m : Int)) C dJ5_ensureCapacityInternal_d00df_9 (i_shr0 (by omega)) ?_
  refine g_istore_n C dJ5_ensureCapacityInternal_d00df_10 (by decide) rfl ?_
  refine g_iload_n C dJ5_ensureCapacityInternal_d00df_11 rfl ?_
  refine g_iload_n C dJ5_ensureCapacityInternal_d00df_12 rfl ?_
  refine g_isub C dJ5_ensureCapacityInternal_d00df_13 ?_
  refine g_if_le (tgt := 38) C dJ5_ensureCapacityInternal_d00df_14 (by decide) (by omega) (fun h14 => ?_) (fun h14 => ?_)
  · exact g_return C hQ dJ5_ensureCapacityInternal_d00df_38 (by omega) (by omega) ⟨rfl, (by
      first
      | exact ⟨v, by rw [show capG q m = m by unfold capG; rw [if_pos (by omega)]]; exact ⟨mb, f, hO, hV, hF, hav, hnm'⟩, Or.inl rfl, FrY.rf _ _ _⟩
      | exact ⟨w.1, ⟨mb, g9, wset_s, by rw [wset_n (Nat.ne_of_gt (hwf a _ hO))]; exact wpush_s, hg9, Nat.ne_of_lt (hwf a _ hO), by omega⟩, Or.inr (Nat.le_refl _), ((FrY.rf w a v).push _).set (Or.inl rfl) _⟩)⟩
  · have hqm : ¬ q ≤ m := by omega
    have egc : gC q m = 1 := if_neg hqm
    have egs : gS q m = capG q m := if_neg hqm
    have hcq : m < capG q m ∧ capG q m ≤ 400000 := by unfold capG; rw [if_neg hqm]; split <;> omega
    refine g_aload_n C dJ5_ensureCapacityInternal_d00df_17 rfl ?_
    refine g_aload_n C dJ5_ensureCapacityInternal_d00df_18 rfl ?_
    refine g_get (ci := 1) C rfl inTJ4 0 (by decide) fl_RJ5_15 rfl hO rfl dJ5_ensureCapacityInternal_d00df_19 ?_
    refine g_aload_n C dJ5_ensureCapacityInternal_d00df_22 rfl ?_
    refine g_iload_n C dJ5_ensureCapacityInternal_d00df_23 rfl ?_
    refine t_callU (owner := RJ5) C hT (c_J5_newCapacity_0f7a4 _ hS0 (q := q) (by omega) hm) (RcV.ob (ci := 1) C rfl hO) rfl ml_RJ5_104 gw_sameMethod_java_lang_AbstractStringBuilder_java_lang_AbstractStringBui_1917 se_RJ4__yJ5_newCapacity_0f7a4 im_yJ5_newCapacity_0f7a4 in_RJ5 co_yJ5_newCapacity_0f7a4 hd_J5_newCapacity_0f7a4 rfl ⟨by omega, by omega⟩ rfl (Nat.le_of_ble_eq_true rfl) ⟨by omega, by omega⟩ dJ5_ensureCapacityInternal_d00df_24 (fun v24 w24 hp24 => ?_)
    obtain ⟨rfl, hw24⟩ := hp24
    subst w24
    refine g_aload_n C dJ5_ensureCapacityInternal_d00df_27 rfl ?_
    refine g_get (ci := 1) C rfl inTJ4 1 (by decide) fl_RJ5_22 rfl hO rfl dJ5_ensureCapacityInternal_d00df_28 ?_
    refine g_ishl (z := ((capG q m : Nat) : Int)) C dJ5_ensureCapacityInternal_d00df_31 (i_shl0 _) ?_
    refine t_callS C hT (c_J7_copyOf_9075b _ hV hF (q := capG q m) hcq) ml_RJ5_108 sm_yJ7_copyOf_9075b in_RJ7 co_yJ7_copyOf_9075b hd_J7_copyOf_9075b rfl ⟨by omega, by omega⟩ rfl (Nat.le_of_ble_eq_true rfl) ⟨by omega, by omega⟩ dJ5_ensureCapacityInternal_d00df_32 (fun v32 w32 hp32 => ?_)
    obtain ⟨rfl, g9, rfl, hg9⟩ := hp32
    have hO9 : (wpush w (true, eB (capG q m) g9)).2 a = some (true, eO 1 [.ref v, iI 0, iI mb, iI (n : Int)]) := by rw [wpush_n (Nat.ne_of_lt (hwf a _ hO))]; exact hO
    refine g_put (ci := 1) C rfl inTJ4 tyJ4 tyJ4_ok nmJ4 0 (by decide) fl_RJ5_15 rfl rfl hO9 (Nat.le_of_ble_eq_true rfl) rfl rfl dJ5_ensureCapacityInternal_d00df_35 ?_
    exact g_return C hQ dJ5_ensureCapacityInternal_d00df_38 (by omega) (by omega) ⟨rfl, (by
      first
      | exact ⟨v, by rw [show capG q m = m by unfold capG; rw [if_pos (by omega)]]; exact ⟨mb, f, hO, hV, hF, hav, hnm'⟩, Or.inl rfl, FrY.rf _ _ _⟩
      | exact ⟨w.1, ⟨mb, g9, wset_s, by rw [wset_n (Nat.ne_of_gt (hwf a _ hO))]; exact wpush_s, hg9, Nat.ne_of_lt (hwf a _ hO), by omega⟩, Or.inr (Nat.le_refl _), ((FrY.rf w a v).push _).set (Or.inl rfl) _⟩)⟩
set_option maxHeartbeats 4000000 in
set_option maxRecDepth 100000 in
theorem c_J5_append_3fe6f (l : Launch) {K : KC} {E : GE} {w : Wd} {a v n m : Nat} (hS : SBw w a v n m) {x : Int} (hx : 0 ≤ x ∧ x ≤ 255) (hn : n ≤ 100000) (hm : m ≤ 100000) : St K E l yJ5_append_3fe6f cJ5_append_3fe6f 2 (some (.object "java/lang/AbstractStringBuilder")) 4 (gC (n + 1) m) (gS (n + 1) m) [.ref a, iI x] w (fun r w' => r = some (.ref a) ∧ ∃ (v' : Nat), SBw w' a v' (n + 1) (capG (n + 1) m) ∧ (v' = v ∨ w.1 ≤ v') ∧ FrY w w' a v) := by
  refine st_intro [some (.ref a), some (iI x)] rfl (Nat.le_of_ble_eq_true rfl) pn_J5 ?_
  intro X C hT hRm hl hnm hQ
  obtain ⟨hRf, hRl, hRc, hRs⟩ := hRm
  refine g_wf (fun hwf => ?_)
  have hS0 := hS
  obtain ⟨mb, f, hO, hV, hF, hav, hnm'⟩ := hS
  refine g_aload_n C dJ5_append_3fe6f_0 rfl ?_
  refine g_aload_n C dJ5_append_3fe6f_1 rfl ?_
  refine g_get (ci := 1) C rfl inTJ4 3 (by decide) fl_RJ5_79 rfl hO rfl dJ5_append_3fe6f_2 ?_
  refine g_iconst C dJ5_append_3fe6f_5 ?_
  refine g_iadd C dJ5_append_3fe6f_6 ?_
  rw [show (n : Int) + 1 = ((n + 1 : Nat) : Int) by omega]
  refine t_callU (owner := RJ5) C hT (c_J5_ensureCapacityInternal_d00df _ hS0 (q := n + 1) (by omega) hm) (RcV.ob (ci := 1) C rfl hO) rfl ml_RJ5_100 gw_sameMethod_java_lang_AbstractStringBuilder_java_lang_AbstractStringBui_1916 se_RJ4__yJ5_ensureCapacityInternal_d00df im_yJ5_ensureCapacityInternal_d00df in_RJ5 co_yJ5_ensureCapacityInternal_d00df hd_J5_ensureCapacityInternal_d00df rfl ⟨by omega, by omega⟩ rfl (Nat.le_of_ble_eq_true rfl) ⟨by omega, by omega⟩ dJ5_append_3fe6f_7 (fun v7 w7 hp7 => ?_)
  obtain ⟨rfl, v1, hS1, hv1, fr1⟩ := hp7
  obtain ⟨mb1, f1, hO1, hV1, hF1, hav1, hnm1⟩ := id hS1
  have hge := capG_ge (n + 1) m
  refine g_aload_n C dJ5_append_3fe6f_10 rfl ?_
  refine t_callU (owner := RJ5) C hT (c_J5_isLatin1_aae02 _ hS1) (RcV.ob (ci := 1) C rfl hO1) rfl ml_RJ5_83 gw_sameMethod_java_lang_AbstractStringBuilder_java_lang_AbstractStringBui_424 se_RJ4__yJ5_isLatin1_aae02 im_yJ5_isLatin1_aae02 in_RJ5 co_yJ5_isLatin1_aae02 hd_J5_isLatin1_aae02 rfl ⟨by omega, by omega⟩ rfl (Nat.le_of_ble_eq_true rfl) ⟨by omega, by omega⟩ dJ5_append_3fe6f_11 (fun v11 w11 hp11 => ?_)
  obtain ⟨rfl, hw11⟩ := hp11
  subst w11
  refine g_if_eq (tgt := 45) C dJ5_append_3fe6f_14 (by decide) (by omega) (fun h14 => ?_) (fun h14 => ?_)
  · omega
  · refine g_iload_n C dJ5_append_3fe6f_17 rfl ?_
    refine t_callS C hT (c_J1_canEncode_fc78d _ hx) ml_RJ5_191 sm_yJ1_canEncode_fc78d in_RJ1 co_yJ1_canEncode_fc78d hd_J1_canEncode_fc78d rfl ⟨by omega, by omega⟩ rfl (Nat.le_of_ble_eq_true rfl) ⟨by omega, by omega⟩ dJ5_append_3fe6f_18 (fun v18 w18 hp18 => ?_)
    obtain ⟨rfl, hw18⟩ := hp18
    subst w18
    refine g_if_eq (tgt := 45) C dJ5_append_3fe6f_21 (by decide) (by omega) (fun h21 => ?_) (fun h21 => ?_)
    · omega
    · refine g_aload_n C dJ5_append_3fe6f_24 rfl ?_
      refine g_get (ci := 1) C rfl inTJ4 0 (by decide) fl_RJ5_15 rfl hO1 rfl dJ5_append_3fe6f_25 ?_
      refine g_aload_n C dJ5_append_3fe6f_28 rfl ?_
      refine g_dup C dJ5_append_3fe6f_29 rfl ?_
      refine g_get (ci := 1) C rfl inTJ4 3 (by decide) fl_RJ5_79 rfl hO1 rfl dJ5_append_3fe6f_30 ?_
      refine g_dup_x1 C dJ5_append_3fe6f_33 rfl rfl ?_
      refine g_iconst C dJ5_append_3fe6f_34 ?_
      refine g_iadd C dJ5_append_3fe6f_35 ?_
      rw [show (n : Int) + 1 = ((n + 1 : Nat) : Int) by omega]
      refine g_put (ci := 1) C rfl inTJ4 tyJ4 tyJ4_ok nmJ4 3 (by decide) fl_RJ5_79 rfl rfl hO1 (Nat.le_of_ble_eq_true rfl) rfl rfl dJ5_append_3fe6f_36 ?_
      have hV2 : (wset w7 a (true, eO 1 [.ref v1, iI 0, iI mb1, iI ((n + 1 : Nat) : Int)])).2 v1 = some (true, eB (capG (n + 1) m) f1) := by rw [wset_n (Ne.symm hav1)]; exact hV1
      refine g_iload_n C dJ5_append_3fe6f_39 rfl ?_
      obtain ⟨z8, hz8, -⟩ := b_nar (Int32.ofInt x)
      obtain ⟨y8, hy8, y81, y82⟩ := b_nar (Int32.ofInt z8)
      refine g_i2b (z := z8) C dJ5_append_3fe6f_40 hz8 ?_
      refine g_bastore C hV2 (by omega) hy8 dJ5_append_3fe6f_41 ?_
      refine g_goto (tgt := 75) C dJ5_append_3fe6f_42 (by decide) ?_
      refine g_aload_n C dJ5_append_3fe6f_75 rfl ?_
      exact g_areturn C (Or.inl ⟨_, rfl⟩) hQ (Or.inr ⟨_, rfl⟩) dJ5_append_3fe6f_76 (by omega) (by omega) ⟨rfl, v1, ⟨mb1, _, by rw [wset_n hav1]; exact wset_s, wset_s, hF1.iup _ ⟨y81, y82⟩, hav1, by have := capG_ge (n + 1) m; omega⟩, hv1, (fr1.set (Or.inl rfl) _).set (by omega) _⟩
set_option maxHeartbeats 4000000 in
set_option maxRecDepth 100000 in
theorem c_J4_append_cf468 (l : Launch) {K : KC} {E : GE} {w : Wd} {a v n m : Nat} (hS : SBw w a v n m) {x : Int} (hx : 0 ≤ x ∧ x ≤ 255) (hn : n ≤ 100000) (hm : m ≤ 100000) : St K E l yJ4_append_cf468 cJ4_append_cf468 2 (some (.object "java/lang/StringBuilder")) 5 (gC (n + 1) m) (gS (n + 1) m) [.ref a, iI x] w (fun r w' => r = some (.ref a) ∧ ∃ (v' : Nat), SBw w' a v' (n + 1) (capG (n + 1) m) ∧ (v' = v ∨ w.1 ≤ v') ∧ FrY w w' a v) := by
  refine st_intro [some (.ref a), some (iI x)] rfl (Nat.le_of_ble_eq_true rfl) pn_J4 ?_
  intro X C hT hRm hl hnm hQ
  obtain ⟨hRf, hRl, hRc, hRs⟩ := hRm
  refine g_wf (fun hwf => ?_)
  have hS0 := hS
  obtain ⟨mb, f, hO, hV, hF, hav, hnm'⟩ := hS
  refine g_aload_n C dJ4_append_cf468_0 rfl ?_
  refine g_iload_n C dJ4_append_cf468_1 rfl ?_
  refine t_callP C hT (c_J5_append_3fe6f _ hS0 hx hn hm) (ci := 1) rfl hO ml_RJ4_50 gw_sameMethod_java_lang_AbstractStringBuilder_java_lang_AbstractStringBui_1923 gw_superclass_RJ4_RJ5 im_yJ5_append_3fe6f in_RJ5 co_yJ5_append_3fe6f ⟨by decide, hd_J5_append_3fe6f.2.2⟩ rfl ⟨by omega, by omega⟩ rfl (Nat.le_of_ble_eq_true rfl) ⟨by omega, by omega⟩ dJ4_append_cf468_2 (fun v2 w2 hp2 => ?_)
  obtain ⟨rfl, hp2⟩ := hp2
  refine g_pop C dJ4_append_cf468_5 rfl ?_
  refine g_aload_n C dJ4_append_cf468_6 rfl ?_
  exact g_areturn C (Or.inl ⟨_, rfl⟩) hQ (Or.inr ⟨_, rfl⟩) dJ4_append_cf468_7 (by omega) (by omega) ⟨rfl, hp2⟩
theorem p10 : ∀ j : Nat, j < 11 → (1 : Int) ≤ 10 ^ j ∧ (10 : Int) ^ j ≤ 10000000000 := by decide
theorem p10b : ∀ j : Nat, j < 10 → (10 : Int) ^ j ≤ 1000000000 := by decide
def sgb (x : Int) : Nat := if x < 0 then 1 else 0
set_option maxHeartbeats 4000000 in
set_option maxRecDepth 100000 in
theorem c_J6_stringSize_0f7a4 (l : Launch) {K : KC} {E : GE} {w : Wd} {x : Int} (hx : -2147483648 < x ∧ x < 2147483648) : St K E l yJ6_stringSize_0f7a4 cJ6_stringSize_0f7a4 4 (some .int) 0 (0) (0) [iI x] w (fun r w' => (∃ k : Nat, r = some (iI (k : Int)) ∧ sgb x + 1 ≤ k ∧ k ≤ 11 ∧ aB x < 10 ^ (k - sgb x)) ∧ w' = w) := by
  refine st_intro [some (iI x), none, none, none] rfl (Nat.le_of_ble_eq_true rfl) pn_J6 ?_
  intro X C hT hRm hl hnm hQ
  obtain ⟨hRf, hRl, hRc, hRs⟩ := hRm
  refine g_wf (fun hwf => ?_)
  have J11 : ∀ d y : Int, (x < 0 ∧ d = 1 ∧ y = x ∨ 0 ≤ x ∧ d = 0 ∧ y = -x) → G E X 4 11 [some (iI y), some (iI d), none, none] [] w 0 0 := by
    intro d y hd
    have hda : d = (sgb x : Nat) ∧ y = - aB x ∧ 0 ≤ aB x ∧ aB x < 2147483648 := by
      unfold sgb aB
      rcases hd with ⟨c1, c2, c3⟩ | ⟨c1, c2, c3⟩
      · rw [if_pos c1, if_pos c1]; omega
      · rw [if_neg (by omega), if_neg (by omega)]; omega
    obtain ⟨hd1, hd2, hd3, hd4⟩ := hda
    have hsg : sgb x ≤ 1 := by unfold sgb; split <;> omega
    refine g_bipush C dJ6_stringSize_0f7a4_11 (by decide) ?_
    refine g_istore_n C dJ6_stringSize_0f7a4_13 (by decide) rfl ?_
    refine g_iconst C dJ6_stringSize_0f7a4_14 ?_
    refine g_istore_n C dJ6_stringSize_0f7a4_15 (by decide) rfl ?_
    refine g_loop (σ := Nat) (fun j => 1 ≤ j ∧ j ≤ 10) (fun j => G E X 4 16 [some (iI y), some (iI d), some (iI (-(10 : Int) ^ j)), some (iI (j : Int))] [] w 0 0) (fun j => 10 - j) ?_ 1 ⟨by omega, by omega⟩
    rintro j ⟨hj1, hj2⟩ ih
    have hp1 := p10 j (by omega)
    refine g_iload_n C dJ6_stringSize_0f7a4_16 rfl ?_
    refine g_bipush C dJ6_stringSize_0f7a4_17 (by decide) ?_
    refine g_icmp_ge (tgt := 42) C dJ6_stringSize_0f7a4_19 (by decide) (by omega) (by omega) (fun h19 => ?_) (fun h19 => ?_)
    · refine g_bipush C dJ6_stringSize_0f7a4_42 (by decide) ?_
      refine g_iload_n C dJ6_stringSize_0f7a4_44 rfl ?_
      refine g_iadd C dJ6_stringSize_0f7a4_45 ?_
      exact g_ireturn C hQ dJ6_stringSize_0f7a4_46 (Nat.le_refl _) (Nat.le_refl _) ⟨⟨10 + sgb x, by rw [hd1]; rfl, by omega, by omega, by rw [Nat.add_sub_cancel, show (10 : Int) ^ 10 = 10000000000 by decide]; omega⟩, rfl⟩
    · have hp2 := p10b j (by omega)
      refine g_iload_n C dJ6_stringSize_0f7a4_22 rfl ?_
      refine g_iload_n C dJ6_stringSize_0f7a4_23 rfl ?_
      refine g_icmp_le (tgt := 31) C dJ6_stringSize_0f7a4_24 (by decide) (by omega) (by omega) (fun h24 => ?_) (fun h24 => ?_)
      · refine g_bipush C dJ6_stringSize_0f7a4_31 (by decide) ?_
        refine g_iload_n C dJ6_stringSize_0f7a4_33 rfl ?_
        refine g_imul C dJ6_stringSize_0f7a4_34 ?_
        refine g_istore_n C dJ6_stringSize_0f7a4_35 (by decide) rfl ?_
        refine g_iinc C dJ6_stringSize_0f7a4_36 rfl (by decide) rfl ?_
        refine g_goto (tgt := 16) C dJ6_stringSize_0f7a4_39 (by decide) ?_
        rw [show (10 : Int) * -(10 : Int) ^ j = -(10 : Int) ^ (j + 1) by rw [Int.pow_succ]; omega]
        exact ih (j + 1) ⟨by omega, by omega⟩ (by omega)
      · refine g_iload_n C dJ6_stringSize_0f7a4_27 rfl ?_
        refine g_iload_n C dJ6_stringSize_0f7a4_28 rfl ?_
        refine g_iadd C dJ6_stringSize_0f7a4_29 ?_
        exact g_ireturn C hQ dJ6_stringSize_0f7a4_30 (Nat.le_refl _) (Nat.le_refl _) ⟨⟨j + sgb x, by rw [hd1]; rfl, by omega, by omega, by rw [Nat.add_sub_cancel]; omega⟩, rfl⟩
  refine g_iconst C dJ6_stringSize_0f7a4_0 ?_
  refine g_istore_n C dJ6_stringSize_0f7a4_1 (by decide) rfl ?_
  refine g_iload_n C dJ6_stringSize_0f7a4_2 rfl ?_
  refine g_if_lt (tgt := 11) C dJ6_stringSize_0f7a4_3 (by decide) (by omega) (fun h3 => ?_) (fun h3 => ?_)
  · exact J11 _ _ (by omega)
  · refine g_iconst C dJ6_stringSize_0f7a4_6 ?_
    refine g_istore_n C dJ6_stringSize_0f7a4_7 (by decide) rfl ?_
    refine g_iload_n C dJ6_stringSize_0f7a4_8 rfl ?_
    refine g_ineg C dJ6_stringSize_0f7a4_9 ?_
    refine g_istore_n C dJ6_stringSize_0f7a4_10 (by decide) rfl ?_
    exact J11 _ _ (by omega)
set_option maxHeartbeats 4000000 in
set_option maxRecDepth 100000 in
theorem c_J6_getChars_ba4f3 (l : Launch) {K : KC} {E : GE} {w : Wd} {x : Int} {b m p : Nat} {f : Nat → Int} (hx : -2147483648 < x ∧ x < 2147483648) (hb : w.2 b = some (true, eB m f)) (hF : bF f) (hp : sgb x + 1 ≤ p ∧ p ≤ m ∧ m ≤ 1000000) (hxp : aB x < 10 ^ (p - sgb x)) : St K E l yJ6_getChars_ba4f3 cJ6_getChars_ba4f3 7 (some .int) 0 (0) (0) [iI x, iI (p : Int), .ref b] w (fun r w' => (∃ z, r = some (iI z)) ∧ ∃ g, w' = wset w b (true, eB m g) ∧ bF g) := by
  refine st_intro [some (iI x), some (iI (p : Int)), some (.ref b), none, none, none, none] rfl (Nat.le_of_ble_eq_true rfl) pn_J6 ?_
  intro X C hT hRm hl hnm hQ
  obtain ⟨hRf, hRl, hRc, hRs⟩ := hRm
  refine g_wf (fun hwf => ?_)
  obtain ⟨hZ1, d1, hT1⟩ := hT.2.2.2.2.1
  obtain ⟨hZ2, d2, hT2⟩ := hT.2.2.2.2.2.1
  have hsg : sgb x ≤ 1 := by unfold sgb; split <;> omega
  have hax : 0 ≤ aB x ∧ aB x < 2147483648 := by unfold aB; split <;> omega
  obtain ⟨t0, rfl⟩ : ∃ t0, p = t0 + sgb x := ⟨p - sgb x, by omega⟩
  rw [Nat.add_sub_cancel] at hxp
  have J22 : G E X 7 22 [some (iI (-aB x)), some (iI ((t0 + sgb x : Nat) : Int)), some (.ref b), none, none, some (iI (((t0 + sgb x : Nat) : Int))), some (iI (sgb x : Nat))] [] (wset w b (true, eB m f)) 0 0 := by
    refine g_loop (σ := Int × Nat × (Nat → Int)) (fun s => 0 ≤ s.1 ∧ s.1 < 2147483648 ∧ 1 ≤ s.2.1 ∧ s.2.1 + sgb x ≤ m ∧ s.1 < 10 ^ s.2.1 ∧ bF s.2.2) (fun s => G E X 7 22 [some (iI (-s.1)), some (iI ((t0 + sgb x : Nat) : Int)), some (.ref b), none, none, some (iI (((s.2.1 + sgb x : Nat) : Int))), some (iI (sgb x : Nat))] [] (wset w b (true, eB m s.2.2)) 0 0) (fun s => s.1.toNat) ?_ (aB x, t0, f) ⟨hax.1, hax.2, by dsimp only; omega, by dsimp only; omega, hxp, hF⟩
    rintro ⟨k, t, h⟩ hq ih
    obtain ⟨hk0, hk1, ht, htm, hkt, hh⟩ := hq
    dsimp only at hk0 hk1 ht htm hkt hh ⊢
    refine g_iload_n C dJ6_getChars_ba4f3_22 rfl ?_
    refine g_bipush C dJ6_getChars_ba4f3_23 (by decide) ?_
    refine g_icmp_gt (tgt := 72) C dJ6_getChars_ba4f3_25 (by decide) (by omega) (by omega) (fun h25 => ?_) (fun h25 => ?_)
    · refine g_aload_n C dJ6_getChars_ba4f3_72 rfl ?_
      refine g_iinc C dJ6_getChars_ba4f3_73 rfl (by decide) rfl ?_
      refine g_iload C dJ6_getChars_ba4f3_76 rfl ?_
      refine g_gets C hZ1 fl_RJ6_83 dJ6_getChars_ba4f3_78 ?_
      refine g_iload_n C dJ6_getChars_ba4f3_81 rfl ?_
      refine g_ineg C dJ6_getChars_ba4f3_82 ?_
      refine g_tbal C hT1 (by omega) dJ6_getChars_ba4f3_83 ?_
      refine g_bastore C wset_s (by omega) (Classical.choose_spec (b_nar _)).1 dJ6_getChars_ba4f3_84 ?_
      rw [wset_set]
      refine g_iload_n C dJ6_getChars_ba4f3_85 rfl ?_
      refine g_bipush C dJ6_getChars_ba4f3_86 (by decide) ?_
      refine g_icmp_ge (tgt := 104) C dJ6_getChars_ba4f3_88 (by decide) (by omega) (by omega) (fun h88 => ?_) (fun h88 => ?_)
      · refine g_iload C dJ6_getChars_ba4f3_104 rfl ?_
        refine g_if_eq (tgt := 118) C dJ6_getChars_ba4f3_106 (by decide) (by omega) (fun h106 => ?_) (fun h106 => ?_)
        · refine g_iload C dJ6_getChars_ba4f3_118 rfl ?_
          exact g_ireturn C hQ dJ6_getChars_ba4f3_120 (Nat.le_refl _) (Nat.le_refl _) ⟨⟨_, rfl⟩, _, rfl, by first | exact hh.iup _ (Classical.choose_spec (b_nar _)).2 | exact (hh.iup _ (Classical.choose_spec (b_nar _)).2).iup _ (Classical.choose_spec (b_nar _)).2 | exact ((hh.iup _ (Classical.choose_spec (b_nar _)).2).iup _ (Classical.choose_spec (b_nar _)).2).iup _ (Classical.choose_spec (b_nar _)).2⟩
        · refine g_aload_n C dJ6_getChars_ba4f3_109 rfl ?_
          refine g_iinc C dJ6_getChars_ba4f3_110 rfl (by decide) rfl ?_
          refine g_iload C dJ6_getChars_ba4f3_113 rfl ?_
          refine g_bipush C dJ6_getChars_ba4f3_115 (by decide) ?_
          refine g_bastore C wset_s (by omega) (Classical.choose_spec (b_nar _)).1 dJ6_getChars_ba4f3_117 ?_
          rw [wset_set]
          refine g_iload C dJ6_getChars_ba4f3_118 rfl ?_
          exact g_ireturn C hQ dJ6_getChars_ba4f3_120 (Nat.le_refl _) (Nat.le_refl _) ⟨⟨_, rfl⟩, _, rfl, by first | exact hh.iup _ (Classical.choose_spec (b_nar _)).2 | exact (hh.iup _ (Classical.choose_spec (b_nar _)).2).iup _ (Classical.choose_spec (b_nar _)).2 | exact ((hh.iup _ (Classical.choose_spec (b_nar _)).2).iup _ (Classical.choose_spec (b_nar _)).2).iup _ (Classical.choose_spec (b_nar _)).2⟩
      · have ht2 : 2 ≤ t := by
          rcases Nat.lt_or_ge t 2 with q | q
          · have : t = 1 := by omega
            subst this
            rw [show (10 : Int) ^ 1 = 10 by decide] at hkt
            omega
          · exact q
        refine g_aload_n C dJ6_getChars_ba4f3_91 rfl ?_
        refine g_iinc C dJ6_getChars_ba4f3_92 rfl (by decide) rfl ?_
        refine g_iload C dJ6_getChars_ba4f3_95 rfl ?_
        refine g_gets C hZ2 fl_RJ6_87 dJ6_getChars_ba4f3_97 ?_
        refine g_iload_n C dJ6_getChars_ba4f3_100 rfl ?_
        refine g_ineg C dJ6_getChars_ba4f3_101 ?_
        refine g_tbal C hT2 (by omega) dJ6_getChars_ba4f3_102 ?_
        refine g_bastore C wset_s (by omega) (Classical.choose_spec (b_nar _)).1 dJ6_getChars_ba4f3_103 ?_
        rw [wset_set]
        refine g_iload C dJ6_getChars_ba4f3_104 rfl ?_
        refine g_if_eq (tgt := 118) C dJ6_getChars_ba4f3_106 (by decide) (by omega) (fun h106 => ?_) (fun h106 => ?_)
        · refine g_iload C dJ6_getChars_ba4f3_118 rfl ?_
          exact g_ireturn C hQ dJ6_getChars_ba4f3_120 (Nat.le_refl _) (Nat.le_refl _) ⟨⟨_, rfl⟩, _, rfl, by first | exact hh.iup _ (Classical.choose_spec (b_nar _)).2 | exact (hh.iup _ (Classical.choose_spec (b_nar _)).2).iup _ (Classical.choose_spec (b_nar _)).2 | exact ((hh.iup _ (Classical.choose_spec (b_nar _)).2).iup _ (Classical.choose_spec (b_nar _)).2).iup _ (Classical.choose_spec (b_nar _)).2⟩
        · refine g_aload_n C dJ6_getChars_ba4f3_109 rfl ?_
          refine g_iinc C dJ6_getChars_ba4f3_110 rfl (by decide) rfl ?_
          refine g_iload C dJ6_getChars_ba4f3_113 rfl ?_
          refine g_bipush C dJ6_getChars_ba4f3_115 (by decide) ?_
          refine g_bastore C wset_s (by omega) (Classical.choose_spec (b_nar _)).1 dJ6_getChars_ba4f3_117 ?_
          rw [wset_set]
          refine g_iload C dJ6_getChars_ba4f3_118 rfl ?_
          exact g_ireturn C hQ dJ6_getChars_ba4f3_120 (Nat.le_refl _) (Nat.le_refl _) ⟨⟨_, rfl⟩, _, rfl, by first | exact hh.iup _ (Classical.choose_spec (b_nar _)).2 | exact (hh.iup _ (Classical.choose_spec (b_nar _)).2).iup _ (Classical.choose_spec (b_nar _)).2 | exact ((hh.iup _ (Classical.choose_spec (b_nar _)).2).iup _ (Classical.choose_spec (b_nar _)).2).iup _ (Classical.choose_spec (b_nar _)).2⟩
    · have ht3 : 3 ≤ t := by
        rcases Nat.lt_or_ge t 3 with q | q
        · have : t = 1 ∨ t = 2 := by omega
          rcases this with rfl | rfl
          · rw [show (10 : Int) ^ 1 = 10 by decide] at hkt; omega
          · rw [show (10 : Int) ^ 2 = 100 by decide] at hkt; omega
        · exact q
      refine g_iload_n C dJ6_getChars_ba4f3_28 rfl ?_
      refine g_bipush C dJ6_getChars_ba4f3_29 (by decide) ?_
      refine g_idiv C dJ6_getChars_ba4f3_31 (by omega) (by omega) (by omega) ?_
      rw [Int.neg_tdiv, Int.tdiv_eq_ediv_of_nonneg hk0]
      refine g_istore_n C dJ6_getChars_ba4f3_32 (by decide) rfl ?_
      refine g_iload_n C dJ6_getChars_ba4f3_33 rfl ?_
      refine g_bipush C dJ6_getChars_ba4f3_34 (by decide) ?_
      refine g_imul C dJ6_getChars_ba4f3_36 ?_
      refine g_iload_n C dJ6_getChars_ba4f3_37 rfl ?_
      refine g_isub C dJ6_getChars_ba4f3_38 ?_
      rw [show -(k / 100) * 100 - -k = k % 100 by omega]
      have hr100 : 0 ≤ k % 100 ∧ k % 100 < 100 := by omega
      refine g_istore C dJ6_getChars_ba4f3_39 (by decide) rfl ?_
      refine g_iload_n C dJ6_getChars_ba4f3_41 rfl ?_
      refine g_istore_n C dJ6_getChars_ba4f3_42 (by decide) rfl ?_
      refine g_aload_n C dJ6_getChars_ba4f3_43 rfl ?_
      refine g_iinc C dJ6_getChars_ba4f3_44 rfl (by decide) rfl ?_
      refine g_iload C dJ6_getChars_ba4f3_47 rfl ?_
      refine g_gets C hZ1 fl_RJ6_83 dJ6_getChars_ba4f3_49 ?_
      refine g_iload C dJ6_getChars_ba4f3_52 rfl ?_
      refine g_tbal C hT1 (by omega) dJ6_getChars_ba4f3_54 ?_
      refine g_bastore C wset_s (by omega) (Classical.choose_spec (b_nar _)).1 dJ6_getChars_ba4f3_55 ?_
      rw [wset_set]
      refine g_aload_n C dJ6_getChars_ba4f3_56 rfl ?_
      refine g_iinc C dJ6_getChars_ba4f3_57 rfl (by decide) rfl ?_
      refine g_iload C dJ6_getChars_ba4f3_60 rfl ?_
      refine g_gets C hZ2 fl_RJ6_87 dJ6_getChars_ba4f3_62 ?_
      refine g_iload C dJ6_getChars_ba4f3_65 rfl ?_
      refine g_tbal C hT2 (by omega) dJ6_getChars_ba4f3_67 ?_
      refine g_bastore C wset_s (by omega) (Classical.choose_spec (b_nar _)).1 dJ6_getChars_ba4f3_68 ?_
      rw [wset_set]
      refine g_goto (tgt := 22) C dJ6_getChars_ba4f3_69 (by decide) ?_
      first
      | (refine g_eq (by rw [show aB x = - x by unfold aB; rw [if_pos (by omega)], Int.neg_neg, hds]; rfl) rfl J22)
      | (refine g_eq (by rw [show aB x = x by unfold aB; rw [if_neg (by omega)], hds]; rfl) rfl J22)
      | (refine g_drop 3 (g_drop 4 ?_)
         have e3 : ((t + sgb x : Nat) : Int) + -1 + -1 = ((t - 2 + sgb x : Nat) : Int) := by omega
         rw [e3]
         refine ih (k / 100, t - 2, _) ⟨by dsimp only; omega, by dsimp only; omega, by dsimp only; omega, by dsimp only; omega, ?_, (hh.iup _ (Classical.choose_spec (b_nar _)).2).iup _ (Classical.choose_spec (b_nar _)).2⟩ (by dsimp only; omega)
         obtain ⟨u, rfl⟩ : ∃ u, t = u + 2 := ⟨t - 2, by omega⟩
         rw [show (10 : Int) ^ (u + 2) = 10 ^ u * 100 by rw [Int.pow_add]; rfl] at hkt
         show k / 100 < 10 ^ (u + 2 - 2)
         rw [Nat.add_sub_cancel]
         omega)
  rw [wset_id hb] at J22
  have J12 : ∀ d : Int, (x < 0 ∧ d = 1 ∨ 0 ≤ x ∧ d = 0) → G E X 7 12 [some (iI x), some (iI ((t0 + sgb x : Nat) : Int)), some (.ref b), none, none, some (iI ((t0 + sgb x : Nat) : Int)), none] [iI d] w 0 0 := by
    intro d hd
    have hds : d = (sgb x : Nat) := by unfold sgb; rcases hd with ⟨c, c2⟩ | ⟨c, c2⟩; rw [if_pos c]; omega; rw [if_neg (by omega)]; omega
    refine g_istore C dJ6_getChars_ba4f3_12 (by decide) rfl ?_
    refine g_iload C dJ6_getChars_ba4f3_14 rfl ?_
    skip
    refine g_if_ne (tgt := 22) C dJ6_getChars_ba4f3_16 (by decide) (by omega) (fun h16 => ?_) (fun h16 => ?_)
    · first
      | (refine g_eq (by rw [show aB x = - x by unfold aB; rw [if_pos (by omega)], Int.neg_neg, hds]; rfl) rfl J22)
      | (refine g_eq (by rw [show aB x = x by unfold aB; rw [if_neg (by omega)], hds]; rfl) rfl J22)
      | (refine g_drop 3 (g_drop 4 ?_)
         have e3 : ((t + sgb x : Nat) : Int) + -1 + -1 = ((t - 2 + sgb x : Nat) : Int) := by omega
         rw [e3]
         refine ih (k / 100, t - 2, _) ⟨by dsimp only; omega, by dsimp only; omega, by dsimp only; omega, by dsimp only; omega, ?_, (hh.iup _ (Classical.choose_spec (b_nar _)).2).iup _ (Classical.choose_spec (b_nar _)).2⟩ (by dsimp only; omega)
         obtain ⟨u, rfl⟩ : ∃ u, t = u + 2 := ⟨t - 2, by omega⟩
         rw [show (10 : Int) ^ (u + 2) = 10 ^ u * 100 by rw [Int.pow_add]; rfl] at hkt
         show k / 100 < 10 ^ (u + 2 - 2)
         rw [Nat.add_sub_cancel]
         omega)
    · refine g_iload_n C dJ6_getChars_ba4f3_19 rfl ?_
      refine g_ineg C dJ6_getChars_ba4f3_20 ?_
      refine g_istore_n C dJ6_getChars_ba4f3_21 (by decide) rfl ?_
      first
      | (refine g_eq (by rw [show aB x = - x by unfold aB; rw [if_pos (by omega)], Int.neg_neg, hds]; rfl) rfl J22)
      | (refine g_eq (by rw [show aB x = x by unfold aB; rw [if_neg (by omega)], hds]; rfl) rfl J22)
      | (refine g_drop 3 (g_drop 4 ?_)
         have e3 : ((t + sgb x : Nat) : Int) + -1 + -1 = ((t - 2 + sgb x : Nat) : Int) := by omega
         rw [e3]
         refine ih (k / 100, t - 2, _) ⟨by dsimp only; omega, by dsimp only; omega, by dsimp only; omega, by dsimp only; omega, ?_, (hh.iup _ (Classical.choose_spec (b_nar _)).2).iup _ (Classical.choose_spec (b_nar _)).2⟩ (by dsimp only; omega)
         obtain ⟨u, rfl⟩ : ∃ u, t = u + 2 := ⟨t - 2, by omega⟩
         rw [show (10 : Int) ^ (u + 2) = 10 ^ u * 100 by rw [Int.pow_add]; rfl] at hkt
         show k / 100 < 10 ^ (u + 2 - 2)
         rw [Nat.add_sub_cancel]
         omega)
  refine g_iload_n C dJ6_getChars_ba4f3_0 rfl ?_
  refine g_istore C dJ6_getChars_ba4f3_1 (by decide) rfl ?_
  refine g_iload_n C dJ6_getChars_ba4f3_3 rfl ?_
  refine g_if_ge (tgt := 11) C dJ6_getChars_ba4f3_4 (by decide) (by omega) (fun h4 => ?_) (fun h4 => ?_)
  · refine g_iconst C dJ6_getChars_ba4f3_11 ?_
    exact J12 _ (by omega)
  · refine g_iconst C dJ6_getChars_ba4f3_7 ?_
    refine g_goto (tgt := 12) C dJ6_getChars_ba4f3_8 (by decide) ?_
    exact J12 _ (by omega)
