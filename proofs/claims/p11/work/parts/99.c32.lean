theorem nup_id {f : Nat → Nat} {i : Nat} : nup f i (f i) = f := by
  funext j
  unfold nup
  split
  · rename_i h; rw [h]
  · rfl
def spF (p k : Nat) : Nat → Int := fun j => if j = 0 then p else if j = 1 then (spS p k).1 else if j = 2 then (spS p k).2.1 else if j = 3 then (spS p k).2.2.1 else if j = 4 then (spS p k).2.2.2 else k
theorem spF_R {p k : Nat} (h : SV p k) : SpR (spF p k) p k := ⟨h, rfl, rfl, rfl, rfl, rfl, rfl⟩
theorem szV_b {p k : Nat} (h : SV p k) {z : Int} (hz : 0 ≤ z ∧ z ≤ 7) : -2147483648 ≤ szV (spF p k) z ∧ szV (spF p k) z < 2147483648 := by
  obtain ⟨v1, v2, v3, v4, v5, v6, v7, v8, v9⟩ := h.good
  have hp := h.p
  obtain ⟨u1, u2, u3⟩ := h.wit
  have hi : ima p < p := pmN_lt (by omega) _
  have aU := aB_le v4
  have aV := aB_le v5
  rcases (show z = 0 ∨ z = 1 ∨ z = 2 ∨ z = 3 ∨ z = 4 ∨ z = 5 ∨ z = 6 ∨ z = 7 by omega) with q | q | q | q | q | q | q | q <;> subst q <;> simp [szV, spF] <;> omega
set_option maxHeartbeats 4000000 in
set_option maxRecDepth 100000 in
theorem s_X6_split (l : Launch) {K : KC} {E : GE} {w : Wd} {τ ad : Nat → Nat} {bs ss : Nat → Int} {pb : Nat → PT} {P Q : Nat → Nat} {ct : Nat → Int} (hC0 : CS τ ad w bs ss pb P Q ct) {i : Nat} (hi : i < 3) {n : Nat} (hn : 5 ≤ n ∧ n ≤ 997) : St K E l yX6_split cX6_split 3 (some .int) 6 (0) (0) [.ref (ad 100), iI (i : Int), iI (n : Int)] w (fun r' w' => ((¬ SPb n = true ∧ r' = some (iI (-9)) ∧ CS τ ad w' (bs) (ss) (pb) (P) (Q) (iup ct 3 (ct 3 + 1))) ∨ (SPb n = true ∧ r' = some (iI ((wit n : Nat) : Int)) ∧ CS τ ad w' (bs) (ss) (pb) (nup P i n) (nup Q i 0) (iup ct 2 (ct 2 + 1)))) ∧ KO τ w w') := by
  refine st_intro [some (.ref (ad 100)), some (iI (i : Int)), some (iI (n : Int))] rfl (Nat.le_of_ble_eq_true rfl) pn_X6 ?_
  intro X C hT hRm hl hnm hQ
  obtain ⟨hRf, hRl, hRc, hRs⟩ := hRm
  refine g_wf (fun hwf => ?_)
  have hC := hC0
  have hK : KO τ w w := KO.rf _ _
  refine g_iload_n C dX6_split_0 rfl ?_
  refine g_callS C (s_X6_checkThing _ (v := (i : Int)) (by omega)) ml_RX6_61 sm_yX6_checkThing in_RX6 co_yX6_checkThing hd_X6_checkThing rfl ⟨by omega, by omega⟩ rfl (Nat.le_of_ble_eq_true rfl) ⟨by omega, by omega⟩ dX6_split_1 (fun v1 w1 hp1 => ?_)
  obtain ⟨rfl, hw1⟩ := hp1
  subst w1
  refine g_iload_n C dX6_split_4 rfl ?_
  refine g_iconst C dX6_split_5 ?_
  refine g_sipush C dX6_split_6 (by decide) ?_
  refine g_callS C (s_X6_checkRange _ (v := (n : Int)) (lo := 5) (hi := 997) (by omega) (by omega) (by omega)) ml_RX6_82 sm_yX6_checkRange in_RX6 co_yX6_checkRange hd_X6_checkRange rfl ⟨by omega, by omega⟩ rfl (Nat.le_of_ble_eq_true rfl) ⟨by omega, by omega⟩ dX6_split_9 (fun v9 w9 hp9 => ?_)
  obtain ⟨rfl, hw9⟩ := hp9
  subst w9
  refine g_iload_n C dX6_split_12 rfl ?_
  refine g_callS C (s_X6_isSplittable _ (n := n) (by omega)) ml_RX6_252 sm_yX6_isSplittable in_RX6 co_yX6_isSplittable hd_X6_isSplittable rfl ⟨by omega, by omega⟩ rfl (Nat.le_of_ble_eq_true rfl) ⟨by omega, by omega⟩ dX6_split_13 (fun v13 w13 hp13 => ?_)
  obtain ⟨rfl, hw13⟩ := hp13
  subst w13
  refine g_if_ne (tgt := 24) C dX6_split_16 (by decide) (bI_r _) (fun h16 => ?_) (fun h16 => ?_)
  · have hS : SPb n = true := by
      rcases bI_01 (SPb n = true) with q | q
      · omega
      · exact bI_1 (by omega)
    refine g_aload_n C dX6_split_24 rfl ?_
    refine g_get (ci := 8) C rfl inTX6 2 (by decide) fl_RX6_23 rfl hC.o rfl dX6_split_25 ?_
    refine g_iload_n C dX6_split_28 rfl ?_
    refine g_aaloadN (i) C rfl rfl hC.A.2.2.choose_spec.1 (by omega) (by omega) (hC.A.2.2.choose_spec.2 _ (by omega)) dX6_split_29 ?_
    refine g_iload_n C dX6_split_30 rfl ?_
    refine t_callV C hT (s_X3_begin _ hS (hC.S i (by omega)).1) (RcV.ob (ci := 5) C rfl (hC.S i (by omega)).1) rfl ml_RX6_255 im_yX3_begin se_RX3_yX3_begin in_RX3 co_yX3_begin hd_X3_begin rfl ⟨by omega, by omega⟩ rfl (Nat.le_of_ble_eq_true rfl) ⟨by omega, by omega⟩ dX6_split_31 (fun v31 w31 hp31 => ?_)
    obtain ⟨rfl, hw31⟩ := hp31
    subst w31
    refine g_gen (fun v31 hv31 => ?_)
    have hq31 := hC.sp (i := i) (p := n) (k := 0) (by omega) (SPb_v hS)
    rw [← hv31] at hq31
    replace hC := hq31.1
    replace hK := hK.tr hq31.2
    refine g_aload_n C dX6_split_34 rfl ?_
    refine g_dup C dX6_split_35 rfl ?_
    refine g_get (ci := 8) C rfl inTX6 12 (by decide) fl_RX6_258 rfl hC.o rfl dX6_split_36 ?_
    refine g_iconst C dX6_split_39 ?_
    refine g_iadd C dX6_split_40 ?_
    refine g_put (ci := 8) C rfl inTX6 tyX6 tyX6_ok nmX6 12 (by decide) fl_RX6_258 rfl rfl hC.o (Nat.le_of_ble_eq_true rfl) rfl rfl dX6_split_41 ?_
    refine g_gen (fun v41 hv41 => ?_)
    replace hv41 : v41 = wset _ (ad 100) (true, oX ad (iup ct 2 (ct 2 + 1))) := hv41
    have hq41 := hC.so (iup ct 2 (ct 2 + 1))
    rw [← hv41] at hq41
    replace hC := hq41.1
    replace hK := hK.tr hq41.2
    refine g_aload_n C dX6_split_44 rfl ?_
    refine g_get (ci := 8) C rfl inTX6 2 (by decide) fl_RX6_23 rfl hC.o rfl dX6_split_45 ?_
    refine g_iload_n C dX6_split_48 rfl ?_
    refine g_aaloadN (i) C rfl rfl hC.A.2.2.choose_spec.1 (by omega) (by omega) (hC.A.2.2.choose_spec.2 _ (by omega)) dX6_split_49 ?_
    refine g_get (ci := 5) C rfl inTX3 1 (by decide) fl_RX6_261 rfl (hC.S i (by omega)).1 rfl dX6_split_50 ?_
    rw [nup_s]
    exact g_ireturn C hQ dX6_split_53 (by omega) (by omega) ⟨Or.inr ⟨hS, rfl, hC⟩, hK⟩
  · refine g_aload_n C dX6_split_19 rfl ?_
    refine g_callV C (s_X6_refuse _ hC) (ci := 8) rfl hC.o rfl ml_RX6_86 im_yX6_refuse se_RX6_yX6_refuse in_RX6 co_yX6_refuse hd_X6_refuse rfl ⟨by omega, by omega⟩ rfl (Nat.le_of_ble_eq_true rfl) ⟨by omega, by omega⟩ dX6_split_20 (fun v20 w20 hp20 => ?_)
    obtain ⟨rfl, hc20, hk20⟩ := hp20
    replace hC := hc20
    replace hK := hK.tr hk20
    exact g_ireturn C hQ dX6_split_23 (Nat.le_refl _) (Nat.le_refl _) ⟨Or.inl ⟨fun q => by rw [bI_t q] at h16; omega, rfl, hC⟩, hK⟩
set_option maxHeartbeats 4000000 in
set_option maxRecDepth 100000 in
theorem s_X6_euclid (l : Launch) {K : KC} {E : GE} {w : Wd} {τ ad : Nat → Nat} {bs ss : Nat → Int} {pb : Nat → PT} {P Q : Nat → Nat} {ct : Nat → Int} (hC0 : CS τ ad w bs ss pb P Q ct) {i : Nat} (hi : i < 3) : St K E l yX6_euclid cX6_euclid 2 (some .int) 6 (0) (0) [.ref (ad 100), iI (i : Int)] w (fun r' w' => (((spS (P i) (Q i)).2.1 = 0 ∧ r' = some (iI (-9)) ∧ CS τ ad w' (bs) (ss) (pb) (P) (Q) (iup ct 3 (ct 3 + 1))) ∨ ((spS (P i) (Q i)).2.1 ≠ 0 ∧ r' = some (iI (spS (P i) (Q i + 1)).2.1) ∧ CS τ ad w' (bs) (ss) (pb) (P) (nup Q i (Q i + 1)) (iup ct 2 (ct 2 + 1)))) ∧ KO τ w w') := by
  refine st_intro [some (.ref (ad 100)), some (iI (i : Int))] rfl (Nat.le_of_ble_eq_true rfl) pn_X6 ?_
  intro X C hT hRm hl hnm hQ
  obtain ⟨hRf, hRl, hRc, hRs⟩ := hRm
  refine g_wf (fun hwf => ?_)
  have hC := hC0
  have hK : KO τ w w := KO.rf _ _
  obtain ⟨v1, v2, v3, v4, v5, v6, v7, v8, v9⟩ := (hC.S i (by omega)).2.good
  have hpp := (hC.S i (by omega)).2.p
  refine g_iload_n C dX6_euclid_0 rfl ?_
  refine g_callS C (s_X6_checkThing _ (v := (i : Int)) (by omega)) ml_RX6_61 sm_yX6_checkThing in_RX6 co_yX6_checkThing hd_X6_checkThing rfl ⟨by omega, by omega⟩ rfl (Nat.le_of_ble_eq_true rfl) ⟨by omega, by omega⟩ dX6_euclid_1 (fun v1 w1 hp1 => ?_)
  obtain ⟨rfl, hw1⟩ := hp1
  subst w1
  refine g_aload_n C dX6_euclid_4 rfl ?_
  refine g_get (ci := 8) C rfl inTX6 2 (by decide) fl_RX6_23 rfl hC.o rfl dX6_euclid_5 ?_
  refine g_iload_n C dX6_euclid_8 rfl ?_
  refine g_aaloadN (i) C rfl rfl hC.A.2.2.choose_spec.1 (by omega) (by omega) (hC.A.2.2.choose_spec.2 _ (by omega)) dX6_euclid_9 ?_
  refine g_get (ci := 5) C rfl inTX3 4 (by decide) fl_RX6_264 rfl (hC.S i (by omega)).1 rfl dX6_euclid_10 ?_
  refine g_if_ne (tgt := 21) C dX6_euclid_13 (by decide) (by omega) (fun h13 => ?_) (fun h13 => ?_)
  · refine g_aload_n C dX6_euclid_21 rfl ?_
    refine g_get (ci := 8) C rfl inTX6 2 (by decide) fl_RX6_23 rfl hC.o rfl dX6_euclid_22 ?_
    refine g_iload_n C dX6_euclid_25 rfl ?_
    refine g_aaloadN (i) C rfl rfl hC.A.2.2.choose_spec.1 (by omega) (by omega) (hC.A.2.2.choose_spec.2 _ (by omega)) dX6_euclid_26 ?_
    refine g_callV C (s_X3_goOn _ (hC.S i (by omega)).2 (by omega) (hC.S i (by omega)).1) (ci := 5) rfl (hC.S i (by omega)).1 rfl ml_RX6_267 im_yX3_goOn se_RX3_yX3_goOn in_RX3 co_yX3_goOn hd_X3_goOn rfl ⟨by omega, by omega⟩ rfl (Nat.le_of_ble_eq_true rfl) ⟨by omega, by omega⟩ dX6_euclid_27 (fun v27 w27 hp27 => ?_)
    obtain ⟨rfl, hw27⟩ := hp27
    subst w27
    refine g_gen (fun v27 hv27 => ?_)
    have hq27 := hC.sp (i := i) (p := P i) (k := Q i + 1) (by omega) ((hC.S i (by omega)).2.next (by omega))
    rw [← hv27] at hq27
    replace hC := hq27.1
    replace hK := hK.tr hq27.2
    rw [nup_id] at hC
    refine g_aload_n C dX6_euclid_30 rfl ?_
    refine g_dup C dX6_euclid_31 rfl ?_
    refine g_get (ci := 8) C rfl inTX6 12 (by decide) fl_RX6_258 rfl hC.o rfl dX6_euclid_32 ?_
    refine g_iconst C dX6_euclid_35 ?_
    refine g_iadd C dX6_euclid_36 ?_
    refine g_put (ci := 8) C rfl inTX6 tyX6 tyX6_ok nmX6 12 (by decide) fl_RX6_258 rfl rfl hC.o (Nat.le_of_ble_eq_true rfl) rfl rfl dX6_euclid_37 ?_
    refine g_gen (fun v37 hv37 => ?_)
    replace hv37 : v37 = wset _ (ad 100) (true, oX ad (iup ct 2 (ct 2 + 1))) := hv37
    have hq37 := hC.so (iup ct 2 (ct 2 + 1))
    rw [← hv37] at hq37
    replace hC := hq37.1
    replace hK := hK.tr hq37.2
    refine g_aload_n C dX6_euclid_40 rfl ?_
    refine g_get (ci := 8) C rfl inTX6 2 (by decide) fl_RX6_23 rfl hC.o rfl dX6_euclid_41 ?_
    refine g_iload_n C dX6_euclid_44 rfl ?_
    refine g_aaloadN (i) C rfl rfl hC.A.2.2.choose_spec.1 (by omega) (by omega) (hC.A.2.2.choose_spec.2 _ (by omega)) dX6_euclid_45 ?_
    refine g_get (ci := 5) C rfl inTX3 4 (by decide) fl_RX6_264 rfl (hC.S i (by omega)).1 rfl dX6_euclid_46 ?_
    rw [nup_s]
    exact g_ireturn C hQ dX6_euclid_49 (Nat.le_refl _) (Nat.le_refl _) ⟨Or.inr ⟨by omega, rfl, hC⟩, hK⟩
  · refine g_aload_n C dX6_euclid_16 rfl ?_
    refine g_callV C (s_X6_refuse _ hC) (ci := 8) rfl hC.o rfl ml_RX6_86 im_yX6_refuse se_RX6_yX6_refuse in_RX6 co_yX6_refuse hd_X6_refuse rfl ⟨by omega, by omega⟩ rfl (Nat.le_of_ble_eq_true rfl) ⟨by omega, by omega⟩ dX6_euclid_17 (fun v17 w17 hp17 => ?_)
    obtain ⟨rfl, hc17, hk17⟩ := hp17
    replace hC := hc17
    replace hK := hK.tr hk17
    exact g_ireturn C hQ dX6_euclid_20 (Nat.le_refl _) (Nat.le_refl _) ⟨Or.inl ⟨by omega, rfl, hC⟩, hK⟩
set_option maxHeartbeats 4000000 in
set_option maxRecDepth 100000 in
theorem s_X6_settle (l : Launch) {K : KC} {E : GE} {w : Wd} {τ ad : Nat → Nat} {bs ss : Nat → Int} {pb : Nat → PT} {P Q : Nat → Nat} {ct : Nat → Int} (hC0 : CS τ ad w bs ss pb P Q ct) {i : Nat} (hi : i < 3) : St K E l yX6_settle cX6_settle 2 (some .int) 6 (0) (0) [.ref (ad 100), iI (i : Int)] w (fun r' w' => ∃ t, Q i ≤ t ∧ SV (P i) t ∧ (∀ j, Q i ≤ j → j < t → (spS (P i) j).2.1 ≠ 0 ∧ ((P i : Nat) : Int) ≤ (spS (P i) j).1 * (spS (P i) j).1) ∧ ((spS (P i) t).2.1 = 0 ∨ (spS (P i) t).1 * (spS (P i) t).1 < ((P i : Nat) : Int)) ∧ r' = some (iI ((t - Q i : Nat) : Int)) ∧ CS τ ad w' (bs) (ss) (pb) (P) (nup Q i t) (iup ct 2 (ct 2 + 1)) ∧ KO τ w w') := by
  refine st_intro [some (.ref (ad 100)), some (iI (i : Int))] rfl (Nat.le_of_ble_eq_true rfl) pn_X6 ?_
  intro X C hT hRm hl hnm hQ
  obtain ⟨hRf, hRl, hRc, hRs⟩ := hRm
  refine g_wf (fun hwf => ?_)
  have hC := hC0
  have hK : KO τ w w := KO.rf _ _
  refine g_iload_n C dX6_settle_0 rfl ?_
  refine g_callS C (s_X6_checkThing _ (v := (i : Int)) (by omega)) ml_RX6_61 sm_yX6_checkThing in_RX6 co_yX6_checkThing hd_X6_checkThing rfl ⟨by omega, by omega⟩ rfl (Nat.le_of_ble_eq_true rfl) ⟨by omega, by omega⟩ dX6_settle_1 (fun v1 w1 hp1 => ?_)
  obtain ⟨rfl, hw1⟩ := hp1
  subst w1
  refine g_aload_n C dX6_settle_4 rfl ?_
  refine g_dup C dX6_settle_5 rfl ?_
  refine g_get (ci := 8) C rfl inTX6 12 (by decide) fl_RX6_258 rfl hC.o rfl dX6_settle_6 ?_
  refine g_iconst C dX6_settle_9 ?_
  refine g_iadd C dX6_settle_10 ?_
  refine g_put (ci := 8) C rfl inTX6 tyX6 tyX6_ok nmX6 12 (by decide) fl_RX6_258 rfl rfl hC.o (Nat.le_of_ble_eq_true rfl) rfl rfl dX6_settle_11 ?_
  refine g_gen (fun v11 hv11 => ?_)
  replace hv11 : v11 = wset _ (ad 100) (true, oX ad (iup ct 2 (ct 2 + 1))) := hv11
  have hq11 := hC.so (iup ct 2 (ct 2 + 1))
  rw [← hv11] at hq11
  replace hC := hq11.1
  replace hK := hK.tr hq11.2
  refine g_aload_n C dX6_settle_14 rfl ?_
  refine g_get (ci := 8) C rfl inTX6 2 (by decide) fl_RX6_23 rfl hC.o rfl dX6_settle_15 ?_
  refine g_iload_n C dX6_settle_18 rfl ?_
  refine g_aaloadN (i) C rfl rfl hC.A.2.2.choose_spec.1 (by omega) (by omega) (hC.A.2.2.choose_spec.2 _ (by omega)) dX6_settle_19 ?_
  refine g_callV C (s_X3_goOnToSettled _ (hC.S i (by omega)).2 (hC.S i (by omega)).1) (ci := 5) rfl (hC.S i (by omega)).1 rfl ml_RX6_270 im_yX3_goOnToSettled se_RX3_yX3_goOnToSettled in_RX3 co_yX3_goOnToSettled hd_X3_goOnToSettled rfl ⟨by omega, by omega⟩ rfl (Nat.le_of_ble_eq_true rfl) ⟨by omega, by omega⟩ dX6_settle_20 (fun v20 w20 hp20 => ?_)
  obtain ⟨t, ht1, ht2, ht3, ht4, rfl, hw20⟩ := hp20
  subst w20
  refine g_gen (fun v20 hv20 => ?_)
  have hq20 := hC.sp (i := i) (p := P i) (k := t) (by omega) ht2
  rw [← hv20] at hq20
  replace hC := hq20.1
  replace hK := hK.tr hq20.2
  rw [nup_id] at hC
  exact g_ireturn C hQ dX6_settle_23 (Nat.le_refl _) (Nat.le_refl _) ⟨t, ht1, ht2, ht3, ht4, rfl, hC, hK⟩
set_option maxHeartbeats 4000000 in
set_option maxRecDepth 100000 in
theorem s_X6_splitNumber (l : Launch) {K : KC} {E : GE} {w : Wd} {τ ad : Nat → Nat} {bs ss : Nat → Int} {pb : Nat → PT} {P Q : Nat → Nat} {ct : Nat → Int} (hC0 : CS τ ad w bs ss pb P Q ct) {i : Nat} (hi : i < 3) {z : Int} (hz : 0 ≤ z ∧ z ≤ 7) : St K E l yX6_splitNumber cX6_splitNumber 3 (some .int) 6 (0) (0) [.ref (ad 100), iI (i : Int), iI z] w (fun r' w' => r' = some (iI (szV (spF (P i) (Q i)) z)) ∧ CS τ ad w' (bs) (ss) (pb) (P) (Q) (ct) ∧ KO τ w w') := by
  refine st_intro [some (.ref (ad 100)), some (iI (i : Int)), some (iI z)] rfl (Nat.le_of_ble_eq_true rfl) pn_X6 ?_
  intro X C hT hRm hl hnm hQ
  obtain ⟨hRf, hRl, hRc, hRs⟩ := hRm
  refine g_wf (fun hwf => ?_)
  have hC := hC0
  have hK : KO τ w w := KO.rf _ _
  refine g_iload_n C dX6_splitNumber_0 rfl ?_
  refine g_callS C (s_X6_checkThing _ (v := (i : Int)) (by omega)) ml_RX6_61 sm_yX6_checkThing in_RX6 co_yX6_checkThing hd_X6_checkThing rfl ⟨by omega, by omega⟩ rfl (Nat.le_of_ble_eq_true rfl) ⟨by omega, by omega⟩ dX6_splitNumber_1 (fun v1 w1 hp1 => ?_)
  obtain ⟨rfl, hw1⟩ := hp1
  subst w1
  refine g_iload_n C dX6_splitNumber_4 rfl ?_
  refine g_iconst C dX6_splitNumber_5 ?_
  refine g_bipush C dX6_splitNumber_6 (by decide) ?_
  refine g_callS C (s_X6_checkRange _ (v := z) (lo := 0) (hi := 7) (by omega) (by omega) (by omega)) ml_RX6_82 sm_yX6_checkRange in_RX6 co_yX6_checkRange hd_X6_checkRange rfl ⟨by omega, by omega⟩ rfl (Nat.le_of_ble_eq_true rfl) ⟨by omega, by omega⟩ dX6_splitNumber_8 (fun v8 w8 hp8 => ?_)
  obtain ⟨rfl, hw8⟩ := hp8
  subst w8
  refine g_aload_n C dX6_splitNumber_11 rfl ?_
  refine g_get (ci := 8) C rfl inTX6 2 (by decide) fl_RX6_23 rfl hC.o rfl dX6_splitNumber_12 ?_
  refine g_iload_n C dX6_splitNumber_15 rfl ?_
  refine g_aaloadN (i) C rfl rfl hC.A.2.2.choose_spec.1 (by omega) (by omega) (hC.A.2.2.choose_spec.2 _ (by omega)) dX6_splitNumber_16 ?_
  refine g_iload_n C dX6_splitNumber_17 rfl ?_
  refine g_callV C (s_X3_number _ (spF_R (hC.S i (by omega)).2) (hC.S i (by omega)).1 (z := z) hz) (ci := 5) rfl (hC.S i (by omega)).1 rfl ml_RX6_273 im_yX3_number se_RX3_yX3_number in_RX3 co_yX3_number hd_X3_number rfl ⟨by omega, by omega⟩ rfl (Nat.le_of_ble_eq_true rfl) ⟨by omega, by omega⟩ dX6_splitNumber_18 (fun v18 w18 hp18 => ?_)
  obtain ⟨rfl, hw18⟩ := hp18
  subst w18
  exact g_ireturn C hQ dX6_splitNumber_21 (Nat.le_refl _) (Nat.le_refl _) ⟨rfl, hC, hK⟩
set_option maxHeartbeats 4000000 in
set_option maxRecDepth 100000 in
theorem s_X6_way (l : Launch) {K : KC} {E : GE} {w : Wd} {τ ad : Nat → Nat} {bs ss : Nat → Int} {pb : Nat → PT} {P Q : Nat → Nat} {ct : Nat → Int} (hC0 : CS τ ad w bs ss pb P Q ct) {i : Nat} (hi : i < 3) : St K E l yX6_way cX6_way 3 (some (.object "java/lang/String")) 7 (20) (1000) [.ref (ad 100), iI (i : Int)] w (fun r' w' => (∃ s : Nat, r' = some (.ref s)) ∧ (∃ P' Q' : Nat → Nat, (∀ j, j < 3 → P' j = P j ∧ Q' j = Q j) ∧ CS τ ad w' (bs) (ss) (pb) (P') (Q') (ct)) ∧ KO τ w w') := by
  refine st_intro [some (.ref (ad 100)), some (iI (i : Int)), none] rfl (Nat.le_of_ble_eq_true rfl) pn_X6 ?_
  intro X C hT hRm hl hnm hQ
  obtain ⟨hRf, hRl, hRc, hRs⟩ := hRm
  refine g_wf (fun hwf => ?_)
  have hC := hC0
  have hK : KO τ w w := KO.rf _ _
  refine g_iload_n C dX6_way_0 rfl ?_
  refine g_callS C (s_X6_checkThing _ (v := (i : Int)) (by omega)) ml_RX6_61 sm_yX6_checkThing in_RX6 co_yX6_checkThing hd_X6_checkThing rfl ⟨by omega, by omega⟩ rfl (Nat.le_of_ble_eq_true rfl) ⟨by omega, by omega⟩ dX6_way_1 (fun v1 w1 hp1 => ?_)
  obtain ⟨rfl, hw1⟩ := hp1
  subst w1
  refine g_aload_n C dX6_way_4 rfl ?_
  refine g_get (ci := 8) C rfl inTX6 8 (by decide) fl_RX6_53 rfl hC.o rfl dX6_way_5 ?_
  refine g_aload_n C dX6_way_8 rfl ?_
  refine g_get (ci := 8) C rfl inTX6 2 (by decide) fl_RX6_23 rfl hC.o rfl dX6_way_9 ?_
  refine g_iload_n C dX6_way_12 rfl ?_
  refine g_aaloadN (i) C rfl rfl hC.A.2.2.choose_spec.1 (by omega) (by omega) (hC.A.2.2.choose_spec.2 _ (by omega)) dX6_way_13 ?_
  refine t_callS C hT (s_X6_runWay _ (hC.S 3 (by omega)).1 (hC.S i (by omega)).2 (hC.S i (by omega)).1) ml_RX6_276 sm_yX6_runWay in_RX6 co_yX6_runWay hd_X6_runWay rfl ⟨by omega, by omega⟩ rfl (Nat.le_of_ble_eq_true rfl) ⟨by omega, by omega⟩ dX6_way_14 (fun v14 w14 hp14 => ?_)
  obtain ⟨rfl, ta, hta, hw14⟩ := hp14
  subst w14
  refine g_gen (fun v14 hv14 => ?_)
  have hq14 := hC.sp (i := 3) (p := _) (k := ta) (by omega) hta
  rw [← hv14] at hq14
  replace hC := hq14.1
  replace hK := hK.tr hq14.2
  have hX := hC.S 3 (by omega)
  rw [nup_s, nup_s] at hX
  obtain ⟨v1, v2, v3, -⟩ := hX.2.good
  have hpp := hX.2.p
  refine g_wf (fun hwq => ?_)
  refine g_new (ci := 1) C rfl inTJ4 tyJ4 tyJ4_ok kl_RX6_158 ib_RJ4 in_RJ4 (fs := [.null, iI 0, iI 0, iI 0]) (by intro j hj; repeat (first | rfl | (cases j; rfl) | (rename_i j; cases j; rfl) | omega)) (by omega) dX6_way_17 ?_
  refine g_dup C dX6_way_20 rfl ?_
  refine t_callI C hT (c_J4_init_da8c8 _ wpush_s) ml_RX6_160 im_yJ4_init_da8c8 in_RJ4 co_yJ4_init_da8c8 rfl hd_J4_init_da8c8 rfl ⟨by omega, by omega⟩ rfl (Nat.le_of_ble_eq_true rfl) ⟨by omega, by omega⟩ dX6_way_21 (fun v21 w21 hp21 => ?_)
  obtain ⟨rfl, hq0⟩ := hp21
  have hq := SBq.new hwq hq0
  have hqb := hwq
  have gC := fun (N : Nat) (z : Wd) (hz : SBq v14 z v14.1 N) => hC.fr hz.f hqb
  refine g_astore_n C dX6_way_24 (by decide) rfl ?_
  refine g_aload_n C dX6_way_25 rfl ?_
  refine g_aload_n C dX6_way_26 rfl ?_
  refine g_get (ci := 8) C rfl inTX6 8 (by decide) fl_RX6_53 rfl (gC _ _ hq).o rfl dX6_way_27 ?_
  refine g_get (ci := 5) C rfl inTX3 3 (by decide) fl_RX6_280 rfl ((gC _ _ hq).S 3 (by omega)).1 rfl dX6_way_30 ?_
  rw [nup_s, nup_s]
  obtain ⟨v33, n33, m33, hS33, hn33, hm33, hv33, ha33, hf33⟩ := hq
  refine t_callV C hT (c_J4_append_bf812 _ hS33 (by omega) (by omega) (by omega)) (RcV.sb C hS33) rfl ml_RX6_164 im_yJ4_append_bf812 se_RJ4_yJ4_append_bf812 in_RJ4 co_yJ4_append_bf812 hd_J4_append_bf812 rfl ⟨by omega, by omega⟩ rfl (Nat.le_of_ble_eq_true rfl) ⟨by omega, by omega⟩ dX6_way_33 (fun v33 w33 hp33 => ?_)
  obtain ⟨rfl, x33⟩ := hp33
  replace hq := SBq.int hn33 hm33 hv33 ha33 hf33 x33
  refine g_bipush C dX6_way_36 (by decide) ?_
  obtain ⟨v38, n38, m38, hS38, hn38, hm38, hv38, ha38, hf38⟩ := hq
  have hg38 := grow1c hm38
  refine t_callV C hT (c_J4_append_cf468 _ hS38 (x := 32) (by omega) (by omega) (by omega)) (RcV.sb C hS38) rfl ml_RX6_168 im_yJ4_append_cf468 se_RJ4_yJ4_append_cf468 in_RJ4 co_yJ4_append_cf468 hd_J4_append_cf468 rfl ⟨by omega, by omega⟩ rfl (Nat.le_of_ble_eq_true rfl) ⟨by omega, by omega⟩ dX6_way_38 (fun v38 w38 hp38 => ?_)
  obtain ⟨rfl, x38⟩ := hp38
  replace hq := SBq.chr hn38 hm38 hv38 ha38 hf38 x38
  refine g_aload_n C dX6_way_41 rfl ?_
  refine g_get (ci := 8) C rfl inTX6 8 (by decide) fl_RX6_53 rfl (gC _ _ hq).o rfl dX6_way_42 ?_
  refine g_get (ci := 5) C rfl inTX3 4 (by decide) fl_RX6_264 rfl ((gC _ _ hq).S 3 (by omega)).1 rfl dX6_way_45 ?_
  rw [nup_s, nup_s]
  obtain ⟨v48, n48, m48, hS48, hn48, hm48, hv48, ha48, hf48⟩ := hq
  refine t_callV C hT (c_J4_append_bf812 _ hS48 (by omega) (by omega) (by omega)) (RcV.sb C hS48) rfl ml_RX6_164 im_yJ4_append_bf812 se_RJ4_yJ4_append_bf812 in_RJ4 co_yJ4_append_bf812 hd_J4_append_bf812 rfl ⟨by omega, by omega⟩ rfl (Nat.le_of_ble_eq_true rfl) ⟨by omega, by omega⟩ dX6_way_48 (fun v48 w48 hp48 => ?_)
  obtain ⟨rfl, x48⟩ := hp48
  replace hq := SBq.int hn48 hm48 hv48 ha48 hf48 x48
  refine g_pop C dX6_way_51 rfl ?_
  refine g_aload_n C dX6_way_52 rfl ?_
  obtain ⟨v53, n53, m53, hS53, hn53, hm53, hv53, ha53, hf53⟩ := hq
  refine t_callV C hT (c_J4_toString_0e30d _ hS53 (by omega)) (RcV.sb C hS53) rfl ml_RX6_171 im_yJ4_toString_0e30d se_RJ4_yJ4_toString_0e30d in_RJ4 co_yJ4_toString_0e30d hd_J4_toString_0e30d rfl ⟨by omega, by omega⟩ rfl (Nat.le_of_ble_eq_true rfl) ⟨by omega, by omega⟩ dX6_way_53 (fun v53 w53 hp53 => ?_)
  obtain ⟨rfl, hfr53⟩ := hp53
  have hfx := hf53.tr hfr53
  exact g_areturn C (Or.inl ⟨_, rfl⟩) hQ (Or.inr ⟨_, rfl⟩) dX6_way_56 (by omega) (by omega) ⟨⟨_, rfl⟩, ⟨_, _, fun j hj => ⟨nup_n (by omega), nup_n (by omega)⟩, hC.fr hfx hqb⟩, hK.tr (KO.fr hfx hqb)⟩
set_option maxHeartbeats 4000000 in
set_option maxRecDepth 100000 in
theorem s_X6_product (l : Launch) {K : KC} {E : GE} {w : Wd} {τ ad : Nat → Nat} {bs ss : Nat → Int} {pb : Nat → PT} {P Q : Nat → Nat} {ct : Nat → Int} (hC0 : CS τ ad w bs ss pb P Q ct) {i : Nat} (hi : i < 3) {k : Nat} (hk : k < 3) : St K E l yX6_product cX6_product 8 (some (.object "java/lang/String")) 7 (20) (2000) [.ref (ad 100), iI (i : Int), iI (k : Int)] w (fun r' w' => (∃ s : Nat, r' = some (.ref s)) ∧ (∃ P' Q' : Nat → Nat, (∀ j, j < 3 → P' j = P j ∧ Q' j = Q j) ∧ CS τ ad w' (bs) (ss) (pb) (P') (Q') (ct)) ∧ KO τ w w') := by
  refine st_intro [some (.ref (ad 100)), some (iI (i : Int)), some (iI (k : Int)), none, none, none, none, none] rfl (Nat.le_of_ble_eq_true rfl) pn_X6 ?_
  intro X C hT hRm hl hnm hQ
  obtain ⟨hRf, hRl, hRc, hRs⟩ := hRm
  refine g_wf (fun hwf => ?_)
  have hC := hC0
  have hK : KO τ w w := KO.rf _ _
  refine g_iload_n C dX6_product_0 rfl ?_
  refine g_callS C (s_X6_checkThing _ (v := (i : Int)) (by omega)) ml_RX6_61 sm_yX6_checkThing in_RX6 co_yX6_checkThing hd_X6_checkThing rfl ⟨by omega, by omega⟩ rfl (Nat.le_of_ble_eq_true rfl) ⟨by omega, by omega⟩ dX6_product_1 (fun v1 w1 hp1 => ?_)
  obtain ⟨rfl, hw1⟩ := hp1
  subst w1
  refine g_iload_n C dX6_product_4 rfl ?_
  refine g_callS C (s_X6_checkThing _ (v := (k : Int)) (by omega)) ml_RX6_61 sm_yX6_checkThing in_RX6 co_yX6_checkThing hd_X6_checkThing rfl ⟨by omega, by omega⟩ rfl (Nat.le_of_ble_eq_true rfl) ⟨by omega, by omega⟩ dX6_product_5 (fun v5 w5 hp5 => ?_)
  obtain ⟨rfl, hw5⟩ := hp5
  subst w5
  refine g_aload_n C dX6_product_8 rfl ?_
  refine g_get (ci := 8) C rfl inTX6 8 (by decide) fl_RX6_53 rfl hC.o rfl dX6_product_9 ?_
  refine g_aload_n C dX6_product_12 rfl ?_
  refine g_get (ci := 8) C rfl inTX6 2 (by decide) fl_RX6_23 rfl hC.o rfl dX6_product_13 ?_
  refine g_iload_n C dX6_product_16 rfl ?_
  refine g_aaloadN (i) C rfl rfl hC.A.2.2.choose_spec.1 (by omega) (by omega) (hC.A.2.2.choose_spec.2 _ (by omega)) dX6_product_17 ?_
  refine t_callS C hT (s_X6_runWay _ (hC.S 3 (by omega)).1 (hC.S i (by omega)).2 (hC.S i (by omega)).1) ml_RX6_276 sm_yX6_runWay in_RX6 co_yX6_runWay hd_X6_runWay rfl ⟨by omega, by omega⟩ rfl (Nat.le_of_ble_eq_true rfl) ⟨by omega, by omega⟩ dX6_product_18 (fun v18 w18 hp18 => ?_)
  obtain ⟨rfl, ta, hta, hw18⟩ := hp18
  subst w18
  refine g_gen (fun v18 hv18 => ?_)
  have hq18 := hC.sp (i := 3) (p := _) (k := ta) (by omega) hta
  rw [← hv18] at hq18
  replace hC := hq18.1
  replace hK := hK.tr hq18.2
  refine g_aload_n C dX6_product_21 rfl ?_
  refine g_get (ci := 8) C rfl inTX6 9 (by decide) fl_RX6_57 rfl hC.o rfl dX6_product_22 ?_
  refine g_aload_n C dX6_product_25 rfl ?_
  refine g_get (ci := 8) C rfl inTX6 2 (by decide) fl_RX6_23 rfl hC.o rfl dX6_product_26 ?_
  refine g_iload_n C dX6_product_29 rfl ?_
  refine g_aaloadN (k) C rfl rfl hC.A.2.2.choose_spec.1 (by omega) (by omega) (hC.A.2.2.choose_spec.2 _ (by omega)) dX6_product_30 ?_
  refine t_callS C hT (s_X6_runWay _ (hC.S 4 (by omega)).1 (hC.S k (by omega)).2 (hC.S k (by omega)).1) ml_RX6_276 sm_yX6_runWay in_RX6 co_yX6_runWay hd_X6_runWay rfl ⟨by omega, by omega⟩ rfl (Nat.le_of_ble_eq_true rfl) ⟨by omega, by omega⟩ dX6_product_31 (fun v31 w31 hp31 => ?_)
  obtain ⟨rfl, tb, htb, hw31⟩ := hp31
  subst w31
  refine g_gen (fun v31 hv31 => ?_)
  have hq31 := hC.sp (i := 4) (p := _) (k := tb) (by omega) htb
  rw [← hv31] at hq31
  replace hC := hq31.1
  replace hK := hK.tr hq31.2
  have hX := hC.S 3 (by omega)
  have hY := hC.S 4 (by omega)
  obtain ⟨v1, v2, v3, -⟩ := hX.2.good
  have hpp := hX.2.p
  obtain ⟨y1, y2, y3, -⟩ := hY.2.good
  have hqq := hY.2.p
  refine g_aload_n C dX6_product_34 rfl ?_
  refine g_get (ci := 8) C rfl inTX6 8 (by decide) fl_RX6_53 rfl hC.o rfl dX6_product_35 ?_
  refine g_get (ci := 5) C rfl inTX3 3 (by decide) fl_RX6_280 rfl (hC.S 3 (by omega)).1 rfl dX6_product_38 ?_
  refine g_istore_n C dX6_product_41 (by decide) rfl ?_
  refine g_aload_n C dX6_product_42 rfl ?_
  refine g_get (ci := 8) C rfl inTX6 8 (by decide) fl_RX6_53 rfl hC.o rfl dX6_product_43 ?_
  refine g_get (ci := 5) C rfl inTX3 4 (by decide) fl_RX6_264 rfl (hC.S 3 (by omega)).1 rfl dX6_product_46 ?_
  refine g_istore C dX6_product_49 (by decide) rfl ?_
  refine g_aload_n C dX6_product_51 rfl ?_
  refine g_get (ci := 8) C rfl inTX6 9 (by decide) fl_RX6_57 rfl hC.o rfl dX6_product_52 ?_
  refine g_get (ci := 5) C rfl inTX3 3 (by decide) fl_RX6_280 rfl (hC.S 4 (by omega)).1 rfl dX6_product_55 ?_
  refine g_istore C dX6_product_58 (by decide) rfl ?_
  refine g_aload_n C dX6_product_60 rfl ?_
  refine g_get (ci := 8) C rfl inTX6 9 (by decide) fl_RX6_57 rfl hC.o rfl dX6_product_61 ?_
  refine g_get (ci := 5) C rfl inTX3 4 (by decide) fl_RX6_264 rfl (hC.S 4 (by omega)).1 rfl dX6_product_64 ?_
  refine g_istore C dX6_product_67 (by decide) rfl ?_
  have hv : ∃ a b c d : Int, (spS (nup (nup P 3 (P i)) 4 (nup P 3 (P i) k) 3) (nup (nup Q 3 ta) 4 tb 3)).1 = a ∧ (spS (nup (nup P 3 (P i)) 4 (nup P 3 (P i) k) 3) (nup (nup Q 3 ta) 4 tb 3)).2.1 = b ∧ (spS (nup (nup P 3 (P i)) 4 (nup P 3 (P i) k) 4) (nup (nup Q 3 ta) 4 tb 4)).1 = c ∧ (spS (nup (nup P 3 (P i)) 4 (nup P 3 (P i) k) 4) (nup (nup Q 3 ta) 4 tb 4)).2.1 = d ∧ (0 ≤ a ∧ a ≤ 997) ∧ (0 ≤ b ∧ b ≤ 997) ∧ (0 ≤ c ∧ c ≤ 997) ∧ (0 ≤ d ∧ d ≤ 997) := ⟨_, _, _, _, rfl, rfl, rfl, rfl, by omega, by omega, by omega, by omega⟩
  obtain ⟨a, b, c, d, ea, eb, ec, ed, ha, hb, hc, hd⟩ := hv
  rw [ea, eb, ec, ed]
  clear ea eb ec ed v1 v2 v3 y1 y2 y3
  have m1 := mulb ha hc
  have m2 := mulb hb hd
  have m3 := mulb ha hd
  have m4 := mulb hb hc
  refine g_wf (fun hwq => ?_)
  refine g_new (ci := 1) C rfl inTJ4 tyJ4 tyJ4_ok kl_RX6_158 ib_RJ4 in_RJ4 (fs := [.null, iI 0, iI 0, iI 0]) (by intro j hj; repeat (first | rfl | (cases j; rfl) | (rename_i j; cases j; rfl) | omega)) (by omega) dX6_product_69 ?_
  refine g_dup C dX6_product_72 rfl ?_
  refine t_callI C hT (c_J4_init_da8c8 _ wpush_s) ml_RX6_160 im_yJ4_init_da8c8 in_RJ4 co_yJ4_init_da8c8 rfl hd_J4_init_da8c8 rfl ⟨by omega, by omega⟩ rfl (Nat.le_of_ble_eq_true rfl) ⟨by omega, by omega⟩ dX6_product_73 (fun v73 w73 hp73 => ?_)
  obtain ⟨rfl, hq0⟩ := hp73
  have hq := SBq.new hwq hq0
  have hqb := hwq
  refine g_astore C dX6_product_76 (by decide) rfl ?_
  refine g_aload C dX6_product_78 rfl ?_
  refine g_iload_n C dX6_product_80 rfl ?_
  refine g_iload C dX6_product_81 rfl ?_
  refine g_imul C dX6_product_83 ?_
  refine g_iload C dX6_product_84 rfl ?_
  refine g_iload C dX6_product_86 rfl ?_
  refine g_imul C dX6_product_88 ?_
  refine g_iadd C dX6_product_89 ?_
  obtain ⟨v90, n90, m90, hS90, hn90, hm90, hv90, ha90, hf90⟩ := hq
  refine t_callV C hT (c_J4_append_bf812 _ hS90 (by omega) (by omega) (by omega)) (RcV.sb C hS90) rfl ml_RX6_164 im_yJ4_append_bf812 se_RJ4_yJ4_append_bf812 in_RJ4 co_yJ4_append_bf812 hd_J4_append_bf812 rfl ⟨by omega, by omega⟩ rfl (Nat.le_of_ble_eq_true rfl) ⟨by omega, by omega⟩ dX6_product_90 (fun v90 w90 hp90 => ?_)
  obtain ⟨rfl, x90⟩ := hp90
  replace hq := SBq.int hn90 hm90 hv90 ha90 hf90 x90
  refine g_bipush C dX6_product_93 (by decide) ?_
  obtain ⟨v95, n95, m95, hS95, hn95, hm95, hv95, ha95, hf95⟩ := hq
  have hg95 := grow1c hm95
  refine t_callV C hT (c_J4_append_cf468 _ hS95 (x := 32) (by omega) (by omega) (by omega)) (RcV.sb C hS95) rfl ml_RX6_168 im_yJ4_append_cf468 se_RJ4_yJ4_append_cf468 in_RJ4 co_yJ4_append_cf468 hd_J4_append_cf468 rfl ⟨by omega, by omega⟩ rfl (Nat.le_of_ble_eq_true rfl) ⟨by omega, by omega⟩ dX6_product_95 (fun v95 w95 hp95 => ?_)
  obtain ⟨rfl, x95⟩ := hp95
  replace hq := SBq.chr hn95 hm95 hv95 ha95 hf95 x95
  refine g_iload_n C dX6_product_98 rfl ?_
  refine g_iload C dX6_product_99 rfl ?_
  refine g_imul C dX6_product_101 ?_
  refine g_iload C dX6_product_102 rfl ?_
  refine g_iload C dX6_product_104 rfl ?_
  refine g_imul C dX6_product_106 ?_
  refine g_isub C dX6_product_107 ?_
  refine g_abs C ml_RX6_283 (by omega) (by omega) (by omega) (Nat.le_of_ble_eq_true rfl) (by omega) dX6_product_108 ?_
  obtain ⟨v111, n111, m111, hS111, hn111, hm111, hv111, ha111, hf111⟩ := hq
  refine t_callV C hT (c_J4_append_bf812 _ hS111 (by split <;> omega) (by omega) (by omega)) (RcV.sb C hS111) rfl ml_RX6_164 im_yJ4_append_bf812 se_RJ4_yJ4_append_bf812 in_RJ4 co_yJ4_append_bf812 hd_J4_append_bf812 rfl ⟨by omega, by omega⟩ rfl (Nat.le_of_ble_eq_true rfl) ⟨by omega, by omega⟩ dX6_product_111 (fun v111 w111 hp111 => ?_)
  obtain ⟨rfl, x111⟩ := hp111
  replace hq := SBq.int hn111 hm111 hv111 ha111 hf111 x111
  refine g_pop C dX6_product_114 rfl ?_
  refine g_aload C dX6_product_115 rfl ?_
  refine g_bipush C dX6_product_117 (by decide) ?_
  obtain ⟨v119, n119, m119, hS119, hn119, hm119, hv119, ha119, hf119⟩ := hq
  have hg119 := grow1c hm119
  refine t_callV C hT (c_J4_append_cf468 _ hS119 (x := 32) (by omega) (by omega) (by omega)) (RcV.sb C hS119) rfl ml_RX6_168 im_yJ4_append_cf468 se_RJ4_yJ4_append_cf468 in_RJ4 co_yJ4_append_cf468 hd_J4_append_cf468 rfl ⟨by omega, by omega⟩ rfl (Nat.le_of_ble_eq_true rfl) ⟨by omega, by omega⟩ dX6_product_119 (fun v119 w119 hp119 => ?_)
  obtain ⟨rfl, x119⟩ := hp119
  replace hq := SBq.chr hn119 hm119 hv119 ha119 hf119 x119
  refine g_iload_n C dX6_product_122 rfl ?_
  refine g_iload C dX6_product_123 rfl ?_
  refine g_imul C dX6_product_125 ?_
  refine g_iload C dX6_product_126 rfl ?_
  refine g_iload C dX6_product_128 rfl ?_
  refine g_imul C dX6_product_130 ?_
  refine g_isub C dX6_product_131 ?_
  refine g_abs C ml_RX6_283 (by omega) (by omega) (by omega) (Nat.le_of_ble_eq_true rfl) (by omega) dX6_product_132 ?_
  obtain ⟨v135, n135, m135, hS135, hn135, hm135, hv135, ha135, hf135⟩ := hq
  refine t_callV C hT (c_J4_append_bf812 _ hS135 (by split <;> omega) (by omega) (by omega)) (RcV.sb C hS135) rfl ml_RX6_164 im_yJ4_append_bf812 se_RJ4_yJ4_append_bf812 in_RJ4 co_yJ4_append_bf812 hd_J4_append_bf812 rfl ⟨by omega, by omega⟩ rfl (Nat.le_of_ble_eq_true rfl) ⟨by omega, by omega⟩ dX6_product_135 (fun v135 w135 hp135 => ?_)
  obtain ⟨rfl, x135⟩ := hp135
  replace hq := SBq.int hn135 hm135 hv135 ha135 hf135 x135
  refine g_bipush C dX6_product_138 (by decide) ?_
  obtain ⟨v140, n140, m140, hS140, hn140, hm140, hv140, ha140, hf140⟩ := hq
  have hg140 := grow1c hm140
  refine t_callV C hT (c_J4_append_cf468 _ hS140 (x := 32) (by omega) (by omega) (by omega)) (RcV.sb C hS140) rfl ml_RX6_168 im_yJ4_append_cf468 se_RJ4_yJ4_append_cf468 in_RJ4 co_yJ4_append_cf468 hd_J4_append_cf468 rfl ⟨by omega, by omega⟩ rfl (Nat.le_of_ble_eq_true rfl) ⟨by omega, by omega⟩ dX6_product_140 (fun v140 w140 hp140 => ?_)
  obtain ⟨rfl, x140⟩ := hp140
  replace hq := SBq.chr hn140 hm140 hv140 ha140 hf140 x140
  refine g_iload_n C dX6_product_143 rfl ?_
  refine g_iload C dX6_product_144 rfl ?_
  refine g_imul C dX6_product_146 ?_
  refine g_iload C dX6_product_147 rfl ?_
  refine g_iload C dX6_product_149 rfl ?_
  refine g_imul C dX6_product_151 ?_
  refine g_iadd C dX6_product_152 ?_
  obtain ⟨v153, n153, m153, hS153, hn153, hm153, hv153, ha153, hf153⟩ := hq
  refine t_callV C hT (c_J4_append_bf812 _ hS153 (by omega) (by omega) (by omega)) (RcV.sb C hS153) rfl ml_RX6_164 im_yJ4_append_bf812 se_RJ4_yJ4_append_bf812 in_RJ4 co_yJ4_append_bf812 hd_J4_append_bf812 rfl ⟨by omega, by omega⟩ rfl (Nat.le_of_ble_eq_true rfl) ⟨by omega, by omega⟩ dX6_product_153 (fun v153 w153 hp153 => ?_)
  obtain ⟨rfl, x153⟩ := hp153
  replace hq := SBq.int hn153 hm153 hv153 ha153 hf153 x153
  refine g_pop C dX6_product_156 rfl ?_
  refine g_aload C dX6_product_157 rfl ?_
  obtain ⟨v159, n159, m159, hS159, hn159, hm159, hv159, ha159, hf159⟩ := hq
  refine t_callV C hT (c_J4_toString_0e30d _ hS159 (by omega)) (RcV.sb C hS159) rfl ml_RX6_171 im_yJ4_toString_0e30d se_RJ4_yJ4_toString_0e30d in_RJ4 co_yJ4_toString_0e30d hd_J4_toString_0e30d rfl ⟨by omega, by omega⟩ rfl (Nat.le_of_ble_eq_true rfl) ⟨by omega, by omega⟩ dX6_product_159 (fun v159 w159 hp159 => ?_)
  obtain ⟨rfl, hfr159⟩ := hp159
  have hfx := hf159.tr hfr159
  exact g_areturn C (Or.inl ⟨_, rfl⟩) hQ (Or.inr ⟨_, rfl⟩) dX6_product_162 (by omega) (by omega) ⟨⟨_, rfl⟩, ⟨_, _, fun j hj => ⟨by rw [nup_n (by omega), nup_n (by omega)], by rw [nup_n (by omega), nup_n (by omega)]⟩, hC.fr hfx hqb⟩, hK.tr (KO.fr hfx hqb)⟩
set_option maxHeartbeats 4000000 in
set_option maxRecDepth 100000 in
theorem s_X6_symbol (l : Launch) {K : KC} {E : GE} {w : Wd} {τ ad : Nat → Nat} {bs ss : Nat → Int} {pb : Nat → PT} {P Q : Nat → Nat} {ct : Nat → Int} (hC0 : CS τ ad w bs ss pb P Q ct) {i : Nat} (hi : i < 3) {x : Int} (hx : -999 ≤ x ∧ x ≤ 999) : St K E l yX6_symbol cX6_symbol 4 (some .int) 6 (0) (0) [.ref (ad 100), iI (i : Int), iI x] w (fun r' w' => r' = some (iI (if x % ((P i : Nat) : Int) = 0 then 0 else if pmN (x % ((P i : Nat) : Int)).toNat (P i) ((P i - 1) / 2) = 1 then 1 else -1)) ∧ CS τ ad w' (bs) (ss) (pb) (P) (Q) (ct) ∧ KO τ w w') := by
  refine st_intro [some (.ref (ad 100)), some (iI (i : Int)), some (iI x), none] rfl (Nat.le_of_ble_eq_true rfl) pn_X6 ?_
  intro X C hT hRm hl hnm hQ
  obtain ⟨hRf, hRl, hRc, hRs⟩ := hRm
  refine g_wf (fun hwf => ?_)
  have hC := hC0
  have hK : KO τ w w := KO.rf _ _
  have hpp := (hC.S i (by omega)).2.p
  refine g_iload_n C dX6_symbol_0 rfl ?_
  refine g_callS C (s_X6_checkThing _ (v := (i : Int)) (by omega)) ml_RX6_61 sm_yX6_checkThing in_RX6 co_yX6_checkThing hd_X6_checkThing rfl ⟨by omega, by omega⟩ rfl (Nat.le_of_ble_eq_true rfl) ⟨by omega, by omega⟩ dX6_symbol_1 (fun v1 w1 hp1 => ?_)
  obtain ⟨rfl, hw1⟩ := hp1
  subst w1
  refine g_iload_n C dX6_symbol_4 rfl ?_
  refine g_sipush C dX6_symbol_5 (by decide) ?_
  refine g_sipush C dX6_symbol_8 (by decide) ?_
  refine g_callS C (s_X6_checkRange _ (v := x) (lo := (-999)) (hi := 999) (by omega) (by omega) (by omega)) ml_RX6_82 sm_yX6_checkRange in_RX6 co_yX6_checkRange hd_X6_checkRange rfl ⟨by omega, by omega⟩ rfl (Nat.le_of_ble_eq_true rfl) ⟨by omega, by omega⟩ dX6_symbol_11 (fun v11 w11 hp11 => ?_)
  obtain ⟨rfl, hw11⟩ := hp11
  subst w11
  refine g_aload_n C dX6_symbol_14 rfl ?_
  refine g_get (ci := 8) C rfl inTX6 2 (by decide) fl_RX6_23 rfl hC.o rfl dX6_symbol_15 ?_
  refine g_iload_n C dX6_symbol_18 rfl ?_
  refine g_aaloadN (i) C rfl rfl hC.A.2.2.choose_spec.1 (by omega) (by omega) (hC.A.2.2.choose_spec.2 _ (by omega)) dX6_symbol_19 ?_
  refine g_get (ci := 5) C rfl inTX3 0 (by decide) fl_RX6_288 rfl (hC.S i (by omega)).1 rfl dX6_symbol_20 ?_
  refine g_istore_n C dX6_symbol_23 (by decide) rfl ?_
  refine g_iload_n C dX6_symbol_24 rfl ?_
  refine g_i2l C dX6_symbol_25 (by omega) ?_
  refine g_iload_n C dX6_symbol_26 rfl ?_
  refine g_callS C (s_X6_rest _ (x := x) (y := ((P i : Nat) : Int)) (by omega) (by omega)) ml_RX6_291 sm_yX6_rest in_RX6 co_yX6_rest hd_X6_rest rfl ⟨by omega, by omega⟩ rfl (Nat.le_of_ble_eq_true rfl) ⟨by omega, by omega⟩ dX6_symbol_27 (fun v27 w27 hp27 => ?_)
  obtain ⟨rfl, hw27⟩ := hp27
  subst w27
  have he0 := Int.emod_nonneg x (show ((P i : Nat) : Int) ≠ 0 by omega)
  have he1 := Int.emod_lt_of_pos x (show (0 : Int) < ((P i : Nat) : Int) by omega)
  refine g_if_ne (tgt := 35) C dX6_symbol_30 (by decide) (by omega) (fun h30 => ?_) (fun h30 => ?_)
  · refine g_iload_n C dX6_symbol_35 rfl ?_
    refine g_iload_n C dX6_symbol_36 rfl ?_
    refine g_iconst C dX6_symbol_37 ?_
    refine g_isub C dX6_symbol_38 ?_
    refine g_iconst C dX6_symbol_39 ?_
    refine g_idivN C dX6_symbol_40 (by omega) (by omega) ?_
    rw [show (((P i : Nat) : Int) - 1) / 2 = (((P i - 1) / 2 : Nat) : Int) by omega]
    refine g_iload_n C dX6_symbol_41 rfl ?_
    refine g_callS C ((s_X6_restOfPower _ (x := x) (a := (x % ((P i : Nat) : Int)).toNat) (p := P i) (K := (P i - 1) / 2) (by omega) (by omega) (by rw [Nat.mod_eq_of_lt (by omega)]; omega) (by omega))) ml_RX6_295 sm_yX6_restOfPower in_RX6 co_yX6_restOfPower hd_X6_restOfPower rfl ⟨by omega, by omega⟩ rfl (Nat.le_of_ble_eq_true rfl) ⟨by omega, by omega⟩ dX6_symbol_42 (fun v42 w42 hp42 => ?_)
    obtain ⟨rfl, hw42⟩ := hp42
    subst w42
    have hpm := pmN_lt (a := (x % ((P i : Nat) : Int)).toNat) (p := P i) (by omega) ((P i - 1) / 2)
    refine g_iconst C dX6_symbol_45 ?_
    refine g_icmp_ne (tgt := 53) C dX6_symbol_46 (by decide) (by omega) (by omega) (fun h46 => ?_) (fun h46 => ?_)
    · refine g_iconst C dX6_symbol_53 ?_
      exact g_ireturn C hQ dX6_symbol_54 (Nat.le_refl _) (Nat.le_refl _) ⟨by rw [if_neg (by omega)]; first | rw [if_pos (by omega)] | rw [if_neg (by omega)], hC, hK⟩
    · refine g_iconst C dX6_symbol_49 ?_
      refine g_goto (tgt := 54) C dX6_symbol_50 (by decide) ?_
      exact g_ireturn C hQ dX6_symbol_54 (Nat.le_refl _) (Nat.le_refl _) ⟨by rw [if_neg (by omega)]; first | rw [if_pos (by omega)] | rw [if_neg (by omega)], hC, hK⟩
  · refine g_iconst C dX6_symbol_33 ?_
    exact g_ireturn C hQ dX6_symbol_34 (Nat.le_refl _) (Nat.le_refl _) ⟨by rw [if_pos (by omega)], hC, hK⟩
set_option maxHeartbeats 4000000 in
set_option maxRecDepth 100000 in
theorem s_X6_inverse (l : Launch) {K : KC} {E : GE} {w : Wd} {τ ad : Nat → Nat} {bs ss : Nat → Int} {pb : Nat → PT} {P Q : Nat → Nat} {ct : Nat → Int} (hC0 : CS τ ad w bs ss pb P Q ct) {i : Nat} (hi : i < 3) {x : Int} (hx : -999 ≤ x ∧ x ≤ 999) : St K E l yX6_inverse cX6_inverse 4 (some .int) 6 (0) (0) [.ref (ad 100), iI (i : Int), iI x] w (fun r' w' => r' = some (iI ((pmN (x % ((P i : Nat) : Int)).toNat (P i) (P i - 2) : Nat) : Int)) ∧ CS τ ad w' (bs) (ss) (pb) (P) (Q) (ct) ∧ KO τ w w') := by
  refine st_intro [some (.ref (ad 100)), some (iI (i : Int)), some (iI x), none] rfl (Nat.le_of_ble_eq_true rfl) pn_X6 ?_
  intro X C hT hRm hl hnm hQ
  obtain ⟨hRf, hRl, hRc, hRs⟩ := hRm
  refine g_wf (fun hwf => ?_)
  have hC := hC0
  have hK : KO τ w w := KO.rf _ _
  have hpp := (hC.S i (by omega)).2.p
  have he0 := Int.emod_nonneg x (show ((P i : Nat) : Int) ≠ 0 by omega)
  have he1 := Int.emod_lt_of_pos x (show (0 : Int) < ((P i : Nat) : Int) by omega)
  refine g_iload_n C dX6_inverse_0 rfl ?_
  refine g_callS C (s_X6_checkThing _ (v := (i : Int)) (by omega)) ml_RX6_61 sm_yX6_checkThing in_RX6 co_yX6_checkThing hd_X6_checkThing rfl ⟨by omega, by omega⟩ rfl (Nat.le_of_ble_eq_true rfl) ⟨by omega, by omega⟩ dX6_inverse_1 (fun v1 w1 hp1 => ?_)
  obtain ⟨rfl, hw1⟩ := hp1
  subst w1
  refine g_iload_n C dX6_inverse_4 rfl ?_
  refine g_sipush C dX6_inverse_5 (by decide) ?_
  refine g_sipush C dX6_inverse_8 (by decide) ?_
  refine g_callS C (s_X6_checkRange _ (v := x) (lo := (-999)) (hi := 999) (by omega) (by omega) (by omega)) ml_RX6_82 sm_yX6_checkRange in_RX6 co_yX6_checkRange hd_X6_checkRange rfl ⟨by omega, by omega⟩ rfl (Nat.le_of_ble_eq_true rfl) ⟨by omega, by omega⟩ dX6_inverse_11 (fun v11 w11 hp11 => ?_)
  obtain ⟨rfl, hw11⟩ := hp11
  subst w11
  refine g_aload_n C dX6_inverse_14 rfl ?_
  refine g_get (ci := 8) C rfl inTX6 2 (by decide) fl_RX6_23 rfl hC.o rfl dX6_inverse_15 ?_
  refine g_iload_n C dX6_inverse_18 rfl ?_
  refine g_aaloadN (i) C rfl rfl hC.A.2.2.choose_spec.1 (by omega) (by omega) (hC.A.2.2.choose_spec.2 _ (by omega)) dX6_inverse_19 ?_
  refine g_get (ci := 5) C rfl inTX3 0 (by decide) fl_RX6_288 rfl (hC.S i (by omega)).1 rfl dX6_inverse_20 ?_
  refine g_istore_n C dX6_inverse_23 (by decide) rfl ?_
  refine g_iload_n C dX6_inverse_24 rfl ?_
  refine g_iload_n C dX6_inverse_25 rfl ?_
  refine g_iconst C dX6_inverse_26 ?_
  refine g_isub C dX6_inverse_27 ?_
  rw [show ((P i : Nat) : Int) - 2 = ((P i - 2 : Nat) : Int) by omega]
  refine g_iload_n C dX6_inverse_28 rfl ?_
  refine g_callS C ((s_X6_restOfPower _ (x := x) (a := (x % ((P i : Nat) : Int)).toNat) (p := P i) (K := P i - 2) (by omega) (by omega) (by rw [Nat.mod_eq_of_lt (by omega)]; omega) (by omega))) ml_RX6_295 sm_yX6_restOfPower in_RX6 co_yX6_restOfPower hd_X6_restOfPower rfl ⟨by omega, by omega⟩ rfl (Nat.le_of_ble_eq_true rfl) ⟨by omega, by omega⟩ dX6_inverse_29 (fun v29 w29 hp29 => ?_)
  obtain ⟨rfl, hw29⟩ := hp29
  subst w29
  exact g_ireturn C hQ dX6_inverse_32 (Nat.le_refl _) (Nat.le_refl _) ⟨rfl, hC, hK⟩
set_option maxHeartbeats 4000000 in
set_option maxRecDepth 100000 in
theorem s_X6_isPrime (l : Launch) {K : KC} {E : GE} {w : Wd} {τ ad : Nat → Nat} {bs ss : Nat → Int} {pb : Nat → PT} {P Q : Nat → Nat} {ct : Nat → Int} (hC0 : CS τ ad w bs ss pb P Q ct) {n : Nat} (hn : n ≤ 999) : St K E l yX6_isPrime cX6_isPrime 2 (some .boolean) 6 (0) (0) [.ref (ad 100), iI (n : Int)] w (fun r' w' => r' = some (iI (bI (2 ≤ n ∧ prB n = true))) ∧ CS τ ad w' (bs) (ss) (pb) (P) (Q) (ct) ∧ KO τ w w') := by
  refine st_intro [some (.ref (ad 100)), some (iI (n : Int))] rfl (Nat.le_of_ble_eq_true rfl) pn_X6 ?_
  intro X C hT hRm hl hnm hQ
  obtain ⟨hRf, hRl, hRc, hRs⟩ := hRm
  refine g_wf (fun hwf => ?_)
  have hC := hC0
  have hK : KO τ w w := KO.rf _ _
  refine g_iload_n C dX6_isPrime_0 rfl ?_
  refine g_iconst C dX6_isPrime_1 ?_
  refine g_sipush C dX6_isPrime_2 (by decide) ?_
  refine g_callS C (s_X6_checkRange _ (v := (n : Int)) (lo := 0) (hi := 999) (by omega) (by omega) (by omega)) ml_RX6_82 sm_yX6_checkRange in_RX6 co_yX6_checkRange hd_X6_checkRange rfl ⟨by omega, by omega⟩ rfl (Nat.le_of_ble_eq_true rfl) ⟨by omega, by omega⟩ dX6_isPrime_5 (fun v5 w5 hp5 => ?_)
  obtain ⟨rfl, hw5⟩ := hp5
  subst w5
  refine g_iload_n C dX6_isPrime_8 rfl ?_
  refine g_callS C (s_X6_hasTwoDivisors _ (n := n) (by omega)) ml_RX6_299 sm_yX6_hasTwoDivisors in_RX6 co_yX6_hasTwoDivisors hd_X6_hasTwoDivisors rfl ⟨by omega, by omega⟩ rfl (Nat.le_of_ble_eq_true rfl) ⟨by omega, by omega⟩ dX6_isPrime_9 (fun v9 w9 hp9 => ?_)
  obtain ⟨rfl, hw9⟩ := hp9
  subst w9
  exact g_zreturn C hQ dX6_isPrime_12 (nar01 (bI_01 _)) (Nat.le_refl _) (Nat.le_refl _) ⟨rfl, hC, hK⟩
set_option maxHeartbeats 4000000 in
set_option maxRecDepth 100000 in
theorem s_X6_house (l : Launch) {K : KC} {E : GE} {w : Wd} {τ ad : Nat → Nat} {bs ss : Nat → Int} {pb : Nat → PT} {P Q : Nat → Nat} {ct : Nat → Int} (hC0 : CS τ ad w bs ss pb P Q ct) {z : Int} (hz : 0 ≤ z ∧ z ≤ 4) : St K E l yX6_house cX6_house 2 (some .int) 6 (0) (0) [.ref (ad 100), iI z] w (fun r' w' => r' = some (iI (ct z.toNat)) ∧ CS τ ad w' (bs) (ss) (pb) (P) (Q) (ct) ∧ KO τ w w') := by
  refine st_intro [some (.ref (ad 100)), some (iI z)] rfl (Nat.le_of_ble_eq_true rfl) pn_X6 ?_
  intro X C hT hRm hl hnm hQ
  obtain ⟨hRf, hRl, hRc, hRs⟩ := hRm
  refine g_wf (fun hwf => ?_)
  have hC := hC0
  have hK : KO τ w w := KO.rf _ _
  refine g_iload_n C dX6_house_0 rfl ?_
  refine g_iconst C dX6_house_1 ?_
  refine g_iconst C dX6_house_2 ?_
  refine g_callS C (s_X6_checkRange _ (v := z) (lo := 0) (hi := 4) (by omega) (by omega) (by omega)) ml_RX6_82 sm_yX6_checkRange in_RX6 co_yX6_checkRange hd_X6_checkRange rfl ⟨by omega, by omega⟩ rfl (Nat.le_of_ble_eq_true rfl) ⟨by omega, by omega⟩ dX6_house_3 (fun v3 w3 hp3 => ?_)
  obtain ⟨rfl, hw3⟩ := hp3
  subst w3
  refine g_iload_n C dX6_house_6 rfl ?_
  rcases (show z = 0 ∨ z = 1 ∨ z = 2 ∨ z = 3 ∨ z = 4 by omega) with q | q | q | q | q <;> subst q
  · refine g_tin (tgt := 36) C dX6_house_7 (by omega) (by omega) rfl rfl ?_
    refine g_aload_n C dX6_house_36 rfl ?_
    refine g_get (ci := 8) C rfl inTX6 10 (by decide) fl_RX6_75 rfl hC.o rfl dX6_house_37 ?_
    exact g_ireturn C hQ dX6_house_40 (Nat.le_refl _) (Nat.le_refl _) ⟨rfl, hC, hK⟩
  · refine g_tin (tgt := 41) C dX6_house_7 (by omega) (by omega) rfl rfl ?_
    refine g_aload_n C dX6_house_41 rfl ?_
    refine g_get (ci := 8) C rfl inTX6 11 (by decide) fl_RX6_302 rfl hC.o rfl dX6_house_42 ?_
    exact g_ireturn C hQ dX6_house_45 (Nat.le_refl _) (Nat.le_refl _) ⟨rfl, hC, hK⟩
  · refine g_tin (tgt := 46) C dX6_house_7 (by omega) (by omega) rfl rfl ?_
    refine g_aload_n C dX6_house_46 rfl ?_
    refine g_get (ci := 8) C rfl inTX6 12 (by decide) fl_RX6_258 rfl hC.o rfl dX6_house_47 ?_
    exact g_ireturn C hQ dX6_house_50 (Nat.le_refl _) (Nat.le_refl _) ⟨rfl, hC, hK⟩
  · refine g_tin (tgt := 51) C dX6_house_7 (by omega) (by omega) rfl rfl ?_
    refine g_aload_n C dX6_house_51 rfl ?_
    refine g_get (ci := 8) C rfl inTX6 13 (by decide) fl_RX6_305 rfl hC.o rfl dX6_house_52 ?_
    exact g_ireturn C hQ dX6_house_55 (Nat.le_refl _) (Nat.le_refl _) ⟨rfl, hC, hK⟩
  · refine g_tout (tgt := 56) C dX6_house_7 (by omega) (by omega) rfl ?_
    refine g_aload_n C dX6_house_56 rfl ?_
    refine g_get (ci := 8) C rfl inTX6 14 (by decide) fl_RX6_308 rfl hC.o rfl dX6_house_57 ?_
    exact g_ireturn C hQ dX6_house_60 (Nat.le_refl _) (Nat.le_refl _) ⟨rfl, hC, hK⟩
set_option maxHeartbeats 4000000 in
set_option maxRecDepth 100000 in
theorem s_X6_knock (l : Launch) {K : KC} {E : GE} {w : Wd} {τ ad : Nat → Nat} {bs ss : Nat → Int} {pb : Nat → PT} {P Q : Nat → Nat} {ct : Nat → Int} (hC0 : CS τ ad w bs ss pb P Q ct) : St K E l yX6_knock cX6_knock 1 (some .int) 6 (0) (0) [.ref (ad 100)] w (fun r' w' => r' = some (iI (ct 4 + 1)) ∧ CS τ ad w' (bs) (ss) (pb) (P) (Q) (iup ct 4 (ct 4 + 1)) ∧ KO τ w w') := by
  refine st_intro [some (.ref (ad 100))] rfl (Nat.le_of_ble_eq_true rfl) pn_X6 ?_
  intro X C hT hRm hl hnm hQ
  obtain ⟨hRf, hRl, hRc, hRs⟩ := hRm
  refine g_wf (fun hwf => ?_)
  have hC := hC0
  have hK : KO τ w w := KO.rf _ _
  refine g_aload_n C dX6_knock_0 rfl ?_
  refine g_dup C dX6_knock_1 rfl ?_
  refine g_get (ci := 8) C rfl inTX6 14 (by decide) fl_RX6_308 rfl hC.o rfl dX6_knock_2 ?_
  refine g_iconst C dX6_knock_5 ?_
  refine g_iadd C dX6_knock_6 ?_
  refine g_put (ci := 8) C rfl inTX6 tyX6 tyX6_ok nmX6 14 (by decide) fl_RX6_308 rfl rfl hC.o (Nat.le_of_ble_eq_true rfl) rfl rfl dX6_knock_7 ?_
  refine g_gen (fun v7 hv7 => ?_)
  replace hv7 : v7 = wset _ (ad 100) (true, oX ad (iup ct 4 (ct 4 + 1))) := hv7
  have hq7 := hC.so (iup ct 4 (ct 4 + 1))
  rw [← hv7] at hq7
  replace hC := hq7.1
  replace hK := hK.tr hq7.2
  refine g_aload_n C dX6_knock_10 rfl ?_
  refine g_get (ci := 8) C rfl inTX6 14 (by decide) fl_RX6_308 rfl hC.o rfl dX6_knock_11 ?_
  rw [iup_s]
  exact g_ireturn C hQ dX6_knock_14 (Nat.le_refl _) (Nat.le_refl _) ⟨rfl, hC, hK⟩
set_option maxHeartbeats 4000000 in
set_option maxRecDepth 100000 in
theorem s_X6_isSound (l : Launch) {K : KC} {E : GE} {w : Wd} {τ ad : Nat → Nat} {bs ss : Nat → Int} {pb : Nat → PT} {P Q : Nat → Nat} {ct : Nat → Int} (hC0 : CS τ ad w bs ss pb P Q ct) : St K E l yX6_isSound cX6_isSound 2 (some .boolean) 6 (0) (0) [.ref (ad 100)] w (fun r' w' => r' = some (iI 1) ∧ CS τ ad w' (bs) (ss) (pb) (P) (Q) (ct) ∧ KO τ w w') := by
  refine st_intro [some (.ref (ad 100)), none] rfl (Nat.le_of_ble_eq_true rfl) pn_X6 ?_
  intro X C hT hRm hl hnm hQ
  obtain ⟨hRf, hRl, hRc, hRs⟩ := hRm
  refine g_wf (fun hwf => ?_)
  have hC := hC0
  have hK : KO τ w w := KO.rf _ _
  refine g_iconst C dX6_isSound_0 ?_
  refine g_istore_n C dX6_isSound_1 (by decide) rfl ?_
  refine g_loop (σ := Nat × Wd) (fun s => s.1 ≤ 3 ∧ CS τ ad s.2 bs ss pb P Q ct ∧ KO τ w s.2) (fun s => G E X 2 2 [some (.ref (ad 100)), some (iI (s.1 : Int))] [] s.2 0 0) (fun s => 3 - s.1) ?_ (0, w) ⟨by dsimp only; omega, hC, hK⟩
  clear hC hK
  rintro ⟨i, u⟩ hq ih
  obtain ⟨hi, hC, hK⟩ := hq
  dsimp only at hi hC hK ⊢
  refine g_iload_n C dX6_isSound_2 rfl ?_
  refine g_iconst C dX6_isSound_3 ?_
  refine g_icmp_ge (tgt := 52) C dX6_isSound_4 (by decide) (by omega) (by omega) (fun h4 => ?_) (fun h4 => ?_)
  · refine g_iconst C dX6_isSound_52 ?_
    exact g_zreturn C hQ dX6_isSound_53 rfl (by omega) (by omega) ⟨rfl, hC, hK⟩
  · refine g_aload_n C dX6_isSound_7 rfl ?_
    refine g_aload_n C dX6_isSound_8 rfl ?_
    refine g_iload_n C dX6_isSound_9 rfl ?_
    refine t_callV C hT (s_X6_unfold _ hC (i := i) (by omega)) (RcV.ob (ci := 8) C rfl hC.o) rfl ml_RX6_90 im_yX6_unfold se_RX6_yX6_unfold in_RX6 co_yX6_unfold hd_X6_unfold rfl ⟨by omega, by omega⟩ rfl (Nat.le_of_ble_eq_true rfl) ⟨by omega, by omega⟩ dX6_isSound_10 (fun v10 w10 hp10 => ?_)
    obtain ⟨rfl, ⟨r, m, d, a, hF, hV, hG⟩, hc10, hk10⟩ := hp10
    replace hC := hc10
    replace hK := hK.tr hk10
    have hs := (hC.W i (by omega)).2.2
    have hgb := hV.1
    have hbl := hgb.1
    have hbh := hgb.2.1
    have hr9 := RT_le hV.1 hV.2.1
    have hr0 := hV.2.1.1
    have hw := wk_f hV.1 hV.2.1 (k := (ss i).toNat) (by omega)
    refine g_callV C (s_X6_isWalkSound _ hC (i := i) (by omega) hF hV hG) (ci := 8) rfl hC.o rfl ml_RX6_311 im_yX6_isWalkSound se_RX6_yX6_isWalkSound in_RX6 co_yX6_isWalkSound hd_X6_isWalkSound rfl ⟨by omega, by omega⟩ rfl (Nat.le_of_ble_eq_true rfl) ⟨by omega, by omega⟩ dX6_isSound_13 (fun v13 w13 hp13 => ?_)
    obtain ⟨rfl, hc13, hk13⟩ := hp13
    replace hC := hc13
    replace hK := hK.tr hk13
    refine g_if_eq (tgt := 44) C dX6_isSound_16 (by decide) (by omega) (fun h16 => ?_) (fun h16 => ?_)
    · omega
    · refine g_aload_n C dX6_isSound_19 rfl ?_
      refine g_aload_n C dX6_isSound_20 rfl ?_
      refine g_get (ci := 8) C rfl inTX6 1 (by decide) fl_RX6_17 rfl hC.o rfl dX6_isSound_21 ?_
      refine g_iload_n C dX6_isSound_24 rfl ?_
      refine g_aaloadN (i) C rfl rfl hC.A.2.1.choose_spec.1 (by omega) (by omega) (hC.A.2.1.choose_spec.2 _ (by omega)) dX6_isSound_25 ?_
      refine g_callV C (s_X6_isPairSound _ hC (i := i) (by omega)) (ci := 8) rfl hC.o rfl ml_RX6_315 im_yX6_isPairSound se_RX6_yX6_isPairSound in_RX6 co_yX6_isPairSound hd_X6_isPairSound rfl ⟨by omega, by omega⟩ rfl (Nat.le_of_ble_eq_true rfl) ⟨by omega, by omega⟩ dX6_isSound_26 (fun v26 w26 hp26 => ?_)
      obtain ⟨rfl, hc26, hk26⟩ := hp26
      replace hC := hc26
      replace hK := hK.tr hk26
      refine g_if_eq (tgt := 44) C dX6_isSound_29 (by decide) (by omega) (fun h29 => ?_) (fun h29 => ?_)
      · omega
      · refine g_aload_n C dX6_isSound_32 rfl ?_
        refine g_get (ci := 8) C rfl inTX6 2 (by decide) fl_RX6_23 rfl hC.o rfl dX6_isSound_33 ?_
        refine g_iload_n C dX6_isSound_36 rfl ?_
        refine g_aaloadN (i) C rfl rfl hC.A.2.2.choose_spec.1 (by omega) (by omega) (hC.A.2.2.choose_spec.2 _ (by omega)) dX6_isSound_37 ?_
        refine t_callV C hT (s_X3_isSoundSplit _ (hC.S i (by omega)).2 (hC.S i (by omega)).1) (RcV.ob (ci := 5) C rfl (hC.S i (by omega)).1) rfl ml_RX6_318 im_yX3_isSoundSplit se_RX3_yX3_isSoundSplit in_RX3 co_yX3_isSoundSplit hd_X3_isSoundSplit rfl ⟨by omega, by omega⟩ rfl (Nat.le_of_ble_eq_true rfl) ⟨by omega, by omega⟩ dX6_isSound_38 (fun v38 w38 hp38 => ?_)
        obtain ⟨rfl, hw38⟩ := hp38
        subst w38
        refine g_if_ne (tgt := 46) C dX6_isSound_41 (by decide) (by omega) (fun h41 => ?_) (fun h41 => ?_)
        · refine g_iinc C dX6_isSound_46 rfl (by decide) rfl ?_
          refine g_goto (tgt := 2) C dX6_isSound_49 (by decide) ?_
          rw [show (i : Int) + 1 = ((i + 1 : Nat) : Int) by omega]
          exact ih (i + 1, _) ⟨by dsimp only; omega, hC, hK⟩ (by dsimp only; omega)
        · omega
theorem mx6_eq {b r s : Int} : ∀ (k : Nat) (x : Int), mx6 b r s k x = dm6 b r s x k
  | 0, _ => rfl
  | k + 1, x => by
    show mx6 b r s k x * 31 + prV b r s (k : Int) = dm6 b r s x k * 31 + prV b r s (k : Int)
    rw [mx6_eq k x]
theorem mx4_eq {b r s x : Int} : mx4 b r s 4 x = dm4 b r s x 4 := rfl
theorem mxW_eq {b r s x : Int} : mxW b r s x = dmW b r s x := by
  unfold mxW dmW
  rw [mx6_eq, mx4_eq]
theorem mxP_eq {x : Int} {p : PT} (h : sm p) : mxP x p = dmP x p.1 p.2.1 p.2.2 := by
  have e : ∀ z : Int, aB z < 2 ^ 120 → hiB (aB z) 504 + 1 = bitV z 0 := fun z hz => by
    unfold bitV
    rw [if_pos rfl, hiB_ext (aB_0 z) hz (show 120 ≤ 504 by omega)]
  unfold mxP dmP
  rw [e _ (lg_120 (fun q => h (Or.inl q))), e _ (lg_120 (fun q => h (Or.inr q)))]
set_option maxHeartbeats 4000000 in
set_option maxRecDepth 100000 in
theorem s_X6_digest (l : Launch) {K : KC} {E : GE} {w : Wd} {τ ad : Nat → Nat} {bs ss : Nat → Int} {pb : Nat → PT} {P Q : Nat → Nat} {ct : Nat → Int} (hC0 : CS τ ad w bs ss pb P Q ct) (hct : ∀ i, i < 5 → -2147483648 ≤ ct i ∧ ct i < 2147483648) : St K E l yX6_digest cX6_digest 5 (some .long) 7 (0) (0) [.ref (ad 100)] w (fun r' w' => (∃ rt : Nat → Int, (∀ i, i < 3 → RT (bs i) (rt i)) ∧ r' = some (jJ (dgV bs ss rt (fun j => (pb j).1) (fun j => (pb j).2.1) (fun j => (pb j).2.2) (fun j => spF (P j) (Q j)) ct))) ∧ CS τ ad w' (bs) (ss) (pb) (P) (Q) (ct) ∧ KO τ w w') := by
  refine st_intro [some (.ref (ad 100)), none, none, none, none] rfl (Nat.le_of_ble_eq_true rfl) pn_X6 ?_
  intro X C hT hRm hl hnm hQ
  obtain ⟨hRf, hRl, hRc, hRs⟩ := hRm
  refine g_wf (fun hwf => ?_)
  have hC := hC0
  have hK : KO τ w w := KO.rf _ _
  refine g_ldc2 (z := 7685) C kj_RX6_321 (by decide) dX6_digest_0 ?_
  refine g_lstore_n C dX6_digest_3 (by decide) rfl ?_
  refine g_iconst C dX6_digest_4 ?_
  refine g_istore_n C dX6_digest_5 (by decide) rfl ?_
  obtain ⟨rt, hrt⟩ := rt3 (fun i hi => (hC.W i hi).2.1)
  refine g_loop (σ := Nat × Int × Wd) (fun s => s.1 ≤ 3 ∧ s.2.1 = dm1 bs ss rt s.1 ∧ CS τ ad s.2.2 bs ss pb P Q ct ∧ KO τ w s.2.2) (fun s => G E X 5 6 [some (.ref (ad 100)), some (jJ s.2.1), none, some (iI (s.1 : Int)), none] [] s.2.2 0 0) (fun s => 3 - s.1) ?_ (0, 7685, w) ⟨by dsimp only; omega, rfl, hC, hK⟩
  clear hC hK
  rintro ⟨i, z, u⟩ hq ih
  obtain ⟨hi, hz, hC, hK⟩ := hq
  dsimp only at hi hz hC hK ⊢
  refine g_iload_n C dX6_digest_6 rfl ?_
  refine g_iconst C dX6_digest_7 ?_
  refine g_icmp_ge (tgt := 28) C dX6_digest_8 (by decide) (by omega) (by omega) (fun h8 => ?_) (fun h8 => ?_)
  · refine g_iconst C dX6_digest_28 ?_
    refine g_istore_n C dX6_digest_29 (by decide) rfl ?_
    refine g_loop (σ := Nat × Int × Wd) (fun s => s.1 ≤ 3 ∧ s.2.1 = dm2 (fun j => (pb j).1) (fun j => (pb j).2.1) (fun j => (pb j).2.2) (dm1 bs ss rt 3) s.1 ∧ CS τ ad s.2.2 bs ss pb P Q ct ∧ KO τ w s.2.2) (fun s => G E X 5 30 [some (.ref (ad 100)), some (jJ s.2.1), none, some (iI (s.1 : Int)), none] [] s.2.2 0 0) (fun s => 3 - s.1) ?_ (0, z, u) ⟨by dsimp only; omega, by show z = dm1 bs ss rt 3; rw [hz, show i = 3 by omega], hC, hK⟩
    clear hC hK ih hi h8 hz
    rintro ⟨i, z, u⟩ hq ih
    obtain ⟨hi, hz, hC, hK⟩ := hq
    dsimp only at hi hz hC hK ⊢
    refine g_iload_n C dX6_digest_30 rfl ?_
    refine g_iconst C dX6_digest_31 ?_
    refine g_icmp_ge (tgt := 52) C dX6_digest_32 (by decide) (by omega) (by omega) (fun h32 => ?_) (fun h32 => ?_)
    · refine g_iconst C dX6_digest_52 ?_
      refine g_istore_n C dX6_digest_53 (by decide) rfl ?_
      refine g_loop (σ := Nat × Int × Wd) (fun s => s.1 ≤ 3 ∧ s.2.1 = dm3 (fun j => spF (P j) (Q j)) (dm2 (fun j => (pb j).1) (fun j => (pb j).2.1) (fun j => (pb j).2.2) (dm1 bs ss rt 3) 3) s.1 ∧ CS τ ad s.2.2 bs ss pb P Q ct ∧ KO τ w s.2.2) (fun s => G E X 5 54 [some (.ref (ad 100)), some (jJ s.2.1), none, some (iI (s.1 : Int)), none] [] s.2.2 0 0) (fun s => 3 - s.1) ?_ (0, z, u) ⟨by dsimp only; omega, by show z = dm2 (fun j => (pb j).1) (fun j => (pb j).2.1) (fun j => (pb j).2.2) (dm1 bs ss rt 3) 3; rw [hz, show i = 3 by omega], hC, hK⟩
      clear hC hK ih hi h32 hz
      rintro ⟨i, z, u⟩ hq ih
      obtain ⟨hi, hz, hC, hK⟩ := hq
      dsimp only at hi hz hC hK ⊢
      refine g_iload_n C dX6_digest_54 rfl ?_
      refine g_iconst C dX6_digest_55 ?_
      refine g_icmp_ge (tgt := 98) C dX6_digest_56 (by decide) (by omega) (by omega) (fun h56 => ?_) (fun h56 => ?_)
      · refine g_iconst C dX6_digest_98 ?_
        refine g_istore_n C dX6_digest_99 (by decide) rfl ?_
        refine g_loop (σ := Nat × Int × Wd) (fun s => s.1 ≤ 5 ∧ s.2.1 = dm5 ct (dm3 (fun j => spF (P j) (Q j)) (dm2 (fun j => (pb j).1) (fun j => (pb j).2.1) (fun j => (pb j).2.2) (dm1 bs ss rt 3) 3) 3) s.1 ∧ CS τ ad s.2.2 bs ss pb P Q ct ∧ KO τ w s.2.2) (fun s => G E X 5 100 [some (.ref (ad 100)), some (jJ s.2.1), none, some (iI (s.1 : Int)), none] [] s.2.2 0 0) (fun s => 5 - s.1) ?_ (0, z, u) ⟨by dsimp only; omega, by show z = dm3 (fun j => spF (P j) (Q j)) (dm2 (fun j => (pb j).1) (fun j => (pb j).2.1) (fun j => (pb j).2.2) (dm1 bs ss rt 3) 3) 3; rw [hz, show i = 3 by omega], hC, hK⟩
        clear hC hK ih hi h56 hz
        rintro ⟨i, z, u⟩ hq ih
        obtain ⟨hi, hz, hC, hK⟩ := hq
        dsimp only at hi hz hC hK ⊢
        refine g_iload_n C dX6_digest_100 rfl ?_
        refine g_iconst C dX6_digest_101 ?_
        refine g_icmp_gt (tgt := 122) C dX6_digest_102 (by decide) (by omega) (by omega) (fun h102 => ?_) (fun h102 => ?_)
        · refine g_lload_n C dX6_digest_122 rfl ?_
          refine g_aload_n C dX6_digest_123 rfl ?_
          refine t_callV C hT (s_X6_isSound _ hC) (RcV.ob (ci := 8) C rfl hC.o) rfl ml_RX6_338 im_yX6_isSound se_RX6_yX6_isSound in_RX6 co_yX6_isSound hd_X6_isSound rfl ⟨by omega, by omega⟩ rfl (Nat.le_of_ble_eq_true rfl) ⟨by omega, by omega⟩ dX6_digest_124 (fun v124 w124 hp124 => ?_)
          obtain ⟨rfl, hc124, hk124⟩ := hp124
          replace hC := hc124
          replace hK := hK.tr hk124
          refine g_if_eq (tgt := 134) C dX6_digest_127 (by decide) (by omega) (fun h127 => ?_) (fun h127 => ?_)
          · omega
          · refine g_lconst (z := 1) C dX6_digest_130 (by decide) ?_
            refine g_goto (tgt := 135) C dX6_digest_131 (by decide) ?_
            refine g_callS C (s_X6_mix _) ml_RX6_331 sm_yX6_mix in_RX6 co_yX6_mix hd_X6_mix rfl ⟨by omega, by omega⟩ rfl (Nat.le_of_ble_eq_true rfl) ⟨by omega, by omega⟩ dX6_digest_135 (fun v135 w135 hp135 => ?_)
            obtain ⟨rfl, hw135⟩ := hp135
            subst w135
            exact g_lreturn C hQ dX6_digest_138 (by omega) (by omega) ⟨⟨rt, hrt, by rw [hz, show i = 5 by omega]; rfl⟩, hC, hK⟩
        · refine g_lload_n C dX6_digest_105 rfl ?_
          refine g_aload_n C dX6_digest_106 rfl ?_
          refine g_iload_n C dX6_digest_107 rfl ?_
          refine t_callV C hT (s_X6_house _ hC (z := (i : Int)) (by omega)) (RcV.ob (ci := 8) C rfl hC.o) rfl ml_RX6_335 im_yX6_house se_RX6_yX6_house in_RX6 co_yX6_house hd_X6_house rfl ⟨by omega, by omega⟩ rfl (Nat.le_of_ble_eq_true rfl) ⟨by omega, by omega⟩ dX6_digest_108 (fun v108 w108 hp108 => ?_)
          obtain ⟨rfl, hc108, hk108⟩ := hp108
          replace hC := hc108
          replace hK := hK.tr hk108
          rw [show ((i : Int)).toNat = i from Int.toNat_natCast i]
          have hc9 := hct i (by omega)
          refine g_i2l C dX6_digest_111 (by omega) ?_
          refine g_callS C (s_X6_mix _) ml_RX6_331 sm_yX6_mix in_RX6 co_yX6_mix hd_X6_mix rfl ⟨by omega, by omega⟩ rfl (Nat.le_of_ble_eq_true rfl) ⟨by omega, by omega⟩ dX6_digest_112 (fun v112 w112 hp112 => ?_)
          obtain ⟨rfl, hw112⟩ := hp112
          subst w112
          refine g_lstore_n C dX6_digest_115 (by decide) rfl ?_
          refine g_iinc C dX6_digest_116 rfl (by decide) rfl ?_
          refine g_goto (tgt := 100) C dX6_digest_119 (by decide) ?_
          rw [show (i : Int) + 1 = ((i + 1 : Nat) : Int) by omega]
          exact ih (i + 1, _, _) ⟨by dsimp only; omega, by dsimp only; rw [hz]; rfl, hC, hK⟩ (by dsimp only; omega)
      · refine g_iconst C dX6_digest_59 ?_
        refine g_istore C dX6_digest_60 (by decide) rfl ?_
        refine g_loop (σ := Nat × Int) (fun s => s.1 ≤ 8 ∧ s.2 = dmS (spF (P i) (Q i)) z s.1) (fun s => G E X 5 62 [some (.ref (ad 100)), some (jJ s.2), none, some (iI (i : Int)), some (iI (s.1 : Int))] [] u 0 0) (fun s => 8 - s.1) ?_ (0, z) ⟨by dsimp only; omega, rfl⟩
        skip
        rintro ⟨n, y⟩ ⟨hn, hy⟩ ih2
        dsimp only at hn hy ⊢
        refine g_iload C dX6_digest_62 rfl ?_
        refine g_bipush C dX6_digest_64 (by decide) ?_
        refine g_icmp_gt (tgt := 92) C dX6_digest_66 (by decide) (by omega) (by omega) (fun h66 => ?_) (fun h66 => ?_)
        · refine g_iinc C dX6_digest_92 rfl (by decide) rfl ?_
          refine g_goto (tgt := 54) C dX6_digest_95 (by decide) ?_
          refine g_drop 4 ?_
          rw [show (i : Int) + 1 = ((i + 1 : Nat) : Int) by omega]
          exact ih (i + 1, _, _) ⟨by dsimp only; omega, by dsimp only; rw [hy, show n = 8 by omega, hz]; rfl, hC, hK⟩ (by dsimp only; omega)
        · refine g_lload_n C dX6_digest_69 rfl ?_
          refine g_aload_n C dX6_digest_70 rfl ?_
          refine g_get (ci := 8) C rfl inTX6 2 (by decide) fl_RX6_23 rfl hC.o rfl dX6_digest_71 ?_
          refine g_iload_n C dX6_digest_74 rfl ?_
          refine g_aaloadN (i) C rfl rfl hC.A.2.2.choose_spec.1 (by omega) (by omega) (hC.A.2.2.choose_spec.2 _ (by omega)) dX6_digest_75 ?_
          refine g_iload C dX6_digest_76 rfl ?_
          refine g_callV C (s_X3_number _ (spF_R (hC.S i (by omega)).2) (hC.S i (by omega)).1 (z := (n : Int)) (by omega)) (ci := 5) rfl (hC.S i (by omega)).1 rfl ml_RX6_273 im_yX3_number se_RX3_yX3_number in_RX3 co_yX3_number hd_X3_number rfl ⟨by omega, by omega⟩ rfl (Nat.le_of_ble_eq_true rfl) ⟨by omega, by omega⟩ dX6_digest_78 (fun v78 w78 hp78 => ?_)
          obtain ⟨rfl, hw78⟩ := hp78
          subst w78
          have hsz := szV_b (hC.S i (by omega)).2 (z := (n : Int)) (by omega)
          refine g_i2l C dX6_digest_81 (by omega) ?_
          refine g_callS C (s_X6_mix _) ml_RX6_331 sm_yX6_mix in_RX6 co_yX6_mix hd_X6_mix rfl ⟨by omega, by omega⟩ rfl (Nat.le_of_ble_eq_true rfl) ⟨by omega, by omega⟩ dX6_digest_82 (fun v82 w82 hp82 => ?_)
          obtain ⟨rfl, hw82⟩ := hp82
          subst w82
          refine g_lstore_n C dX6_digest_85 (by decide) rfl ?_
          refine g_iinc C dX6_digest_86 rfl (by decide) rfl ?_
          refine g_goto (tgt := 62) C dX6_digest_89 (by decide) ?_
          rw [show (n : Int) + 1 = ((n + 1 : Nat) : Int) by omega]
          exact ih2 (n + 1, _) ⟨by dsimp only; omega, by dsimp only; rw [hy]; rfl⟩ (by dsimp only; omega)
    · refine g_lload_n C dX6_digest_35 rfl ?_
      refine g_aload_n C dX6_digest_36 rfl ?_
      refine g_get (ci := 8) C rfl inTX6 1 (by decide) fl_RX6_17 rfl hC.o rfl dX6_digest_37 ?_
      refine g_iload_n C dX6_digest_40 rfl ?_
      refine g_aaloadN (i) C rfl rfl hC.A.2.1.choose_spec.1 (by omega) (by omega) (hC.A.2.1.choose_spec.2 _ (by omega)) dX6_digest_41 ?_
      refine g_callS C (s_X6_mixPair _ hC (i := i) (by omega) (x := z)) ml_RX6_327 sm_yX6_mixPair in_RX6 co_yX6_mixPair hd_X6_mixPair rfl ⟨by omega, by omega⟩ rfl (Nat.le_of_ble_eq_true rfl) ⟨by omega, by omega⟩ dX6_digest_42 (fun v42 w42 hp42 => ?_)
      obtain ⟨rfl, hw42⟩ := hp42
      subst w42
      refine g_lstore_n C dX6_digest_45 (by decide) rfl ?_
      refine g_iinc C dX6_digest_46 rfl (by decide) rfl ?_
      refine g_goto (tgt := 30) C dX6_digest_49 (by decide) ?_
      rw [show (i : Int) + 1 = ((i + 1 : Nat) : Int) by omega]
      exact ih (i + 1, mxP z (pb i), _) ⟨by dsimp only; omega, by dsimp only; rw [mxP_eq ((hC.P i (by omega)).2.2 (by omega)), hz]; rfl, hC, hK⟩ (by dsimp only; omega)
  · refine g_aload_n C dX6_digest_11 rfl ?_
    refine g_lload_n C dX6_digest_12 rfl ?_
    refine g_aload_n C dX6_digest_13 rfl ?_
    refine g_iload_n C dX6_digest_14 rfl ?_
    refine t_callV C hT (s_X6_unfold _ hC (i := i) (by omega)) (RcV.ob (ci := 8) C rfl hC.o) rfl ml_RX6_90 im_yX6_unfold se_RX6_yX6_unfold in_RX6 co_yX6_unfold hd_X6_unfold rfl ⟨by omega, by omega⟩ rfl (Nat.le_of_ble_eq_true rfl) ⟨by omega, by omega⟩ dX6_digest_15 (fun v15 w15 hp15 => ?_)
    obtain ⟨rfl, ⟨r, m, d, a, hF, hV, hG⟩, hc15, hk15⟩ := hp15
    replace hC := hc15
    replace hK := hK.tr hk15
    have hs := (hC.W i (by omega)).2.2
    have hgb := hV.1
    have hbl := hgb.1
    have hbh := hgb.2.1
    have hr9 := RT_le hV.1 hV.2.1
    have hr0 := hV.2.1.1
    have hw := wk_f hV.1 hV.2.1 (k := (ss i).toNat) (by omega)
    refine g_callV C (s_X6_mixWalk _ hC (i := i) (by omega) hF hV hG (x := z)) (ci := 8) rfl hC.o rfl ml_RX6_323 im_yX6_mixWalk se_RX6_yX6_mixWalk in_RX6 co_yX6_mixWalk hd_X6_mixWalk rfl ⟨by omega, by omega⟩ rfl (Nat.le_of_ble_eq_true rfl) ⟨by omega, by omega⟩ dX6_digest_18 (fun v18 w18 hp18 => ?_)
    obtain ⟨rfl, hc18, hk18⟩ := hp18
    replace hC := hc18
    replace hK := hK.tr hk18
    refine g_lstore_n C dX6_digest_21 (by decide) rfl ?_
    refine g_iinc C dX6_digest_22 rfl (by decide) rfl ?_
    refine g_goto (tgt := 6) C dX6_digest_25 (by decide) ?_
    rw [show (i : Int) + 1 = ((i + 1 : Nat) : Int) by omega]
    exact ih (i + 1, mxW (bs i) r (ss i) z, _) ⟨by dsimp only; omega, by dsimp only; rw [mxW_eq, hz, RT_uniq hV.2.1 (hrt i (by omega))]; rfl, hC, hK⟩ (by dsimp only; omega)
