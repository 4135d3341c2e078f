theorem iup_ii {f : Nat → Int} {i : Nat} {x y : Int} : iup (iup f i x) i y = iup f i y := by
  funext j
  unfold iup
  split <;> rfl
theorem iup_id {f : Nat → Int} {i : Nat} : iup f i (f i) = f := by
  funext j
  unfold iup
  split
  · rename_i h; rw [h]
  · rfl
set_option maxHeartbeats 4000000 in
set_option maxRecDepth 100000 in
theorem s_X6_open (l : Launch) {K : KC} {E : GE} {w : Wd} {τ ad : Nat → Nat} {bs ss : Nat → Int} {pb : Nat → PT} {P Q : Nat → Nat} {ct : Nat → Int} (hC0 : CS τ ad w bs ss pb P Q ct) {i : Nat} (hi : i < 3) {b : Int} (hb : GB b) : St K E l yX6_open cX6_open 3 (some .int) 6 (0) (0) [.ref (ad 100), iI (i : Int), iI b] w (fun r' w' => ∃ r, r' = some (iI r) ∧ RT b r ∧ CS τ ad w' (iup bs i b) (iup ss i 0) (pb) (P) (Q) (iup ct 0 (ct 0 + 1)) ∧ KO τ w w') := by
  refine st_intro [some (.ref (ad 100)), some (iI (i : Int)), some (iI b)] rfl (Nat.le_of_ble_eq_true rfl) pn_X6 ?_
  intro X C hT hRm hl hnm hQ
  obtain ⟨hRf, hRl, hRc, hRs⟩ := hRm
  refine g_wf (fun hwf => ?_)
  have hC := hC0
  have hK : KO τ w w := KO.rf _ _
  have hb1 := hb.1
  have hb2 := hb.2.1
  refine g_iload_n C dX6_open_0 rfl ?_
  refine g_callS C (s_X6_checkThing _ (v := (i : Int)) (by omega)) ml_RX6_61 sm_yX6_checkThing in_RX6 co_yX6_checkThing hd_X6_checkThing rfl ⟨by omega, by omega⟩ rfl (Nat.le_of_ble_eq_true rfl) ⟨by omega, by omega⟩ dX6_open_1 (fun v1 w1 hp1 => ?_)
  obtain ⟨rfl, hw1⟩ := hp1
  subst w1
  refine g_iload_n C dX6_open_4 rfl ?_
  refine g_callS C (s_X6_checkBase _ (v := b) hb) ml_RX6_65 sm_yX6_checkBase in_RX6 co_yX6_checkBase hd_X6_checkBase rfl ⟨by omega, by omega⟩ rfl (Nat.le_of_ble_eq_true rfl) ⟨by omega, by omega⟩ dX6_open_5 (fun v5 w5 hp5 => ?_)
  obtain ⟨rfl, hw5⟩ := hp5
  subst w5
  refine g_aload_n C dX6_open_8 rfl ?_
  refine g_get (ci := 8) C rfl inTX6 0 (by decide) fl_RX6_11 rfl hC.o rfl dX6_open_9 ?_
  refine g_iload_n C dX6_open_12 rfl ?_
  refine g_aaloadN (i) C rfl rfl hC.A.1.choose_spec.1 (by omega) (by omega) (hC.A.1.choose_spec.2 _ (by omega)) dX6_open_13 ?_
  refine g_iload_n C dX6_open_14 rfl ?_
  refine g_put (ci := 6) C rfl inTX4 tyX4 tyX4_ok nmX4 0 (by decide) fl_RX6_68 rfl rfl (hC.W i (by omega)).1 (Nat.le_of_ble_eq_true rfl) rfl rfl dX6_open_15 ?_
  refine g_gen (fun v15 hv15 => ?_)
  replace hv15 : v15 = wset _ (ad (120 + i)) (true, eO 6 [iI (b), iI (ss i)]) := hv15
  have hq15 := hC.sw (i := i) (b := b) (s := ss i) (by omega) hb (hC.W i (by omega)).2.2
  rw [← hv15] at hq15
  replace hC := hq15.1
  replace hK := hK.tr hq15.2
  rw [iup_id] at hC
  refine g_aload_n C dX6_open_18 rfl ?_
  refine g_get (ci := 8) C rfl inTX6 0 (by decide) fl_RX6_11 rfl hC.o rfl dX6_open_19 ?_
  refine g_iload_n C dX6_open_22 rfl ?_
  refine g_aaloadN (i) C rfl rfl hC.A.1.choose_spec.1 (by omega) (by omega) (hC.A.1.choose_spec.2 _ (by omega)) dX6_open_23 ?_
  refine g_iconst C dX6_open_24 ?_
  refine g_put (ci := 6) C rfl inTX4 tyX4 tyX4_ok nmX4 1 (by decide) fl_RX6_72 rfl rfl (hC.W i (by omega)).1 (Nat.le_of_ble_eq_true rfl) rfl rfl dX6_open_25 ?_
  refine g_gen (fun v25 hv25 => ?_)
  replace hv25 : v25 = wset _ (ad (120 + i)) (true, eO 6 [iI (iup bs i b i), iI (0)]) := hv25
  have hq25 := hC.sw (i := i) (b := iup bs i b i) (s := 0) (by omega) (by rw [iup_s]; exact hb) (by omega)
  rw [← hv25] at hq25
  replace hC := hq25.1
  replace hK := hK.tr hq25.2
  rw [iup_s, iup_ii] at hC
  refine g_aload_n C dX6_open_28 rfl ?_
  refine g_dup C dX6_open_29 rfl ?_
  refine g_get (ci := 8) C rfl inTX6 10 (by decide) fl_RX6_75 rfl hC.o rfl dX6_open_30 ?_
  refine g_iconst C dX6_open_33 ?_
  refine g_iadd C dX6_open_34 ?_
  refine g_put (ci := 8) C rfl inTX6 tyX6 tyX6_ok nmX6 10 (by decide) fl_RX6_75 rfl rfl hC.o (Nat.le_of_ble_eq_true rfl) rfl rfl dX6_open_35 ?_
  refine g_gen (fun v35 hv35 => ?_)
  replace hv35 : v35 = wset _ (ad 100) (true, oX ad (iup ct 0 (ct 0 + 1))) := hv35
  have hq35 := hC.so (iup ct 0 (ct 0 + 1))
  rw [← hv35] at hq35
  replace hC := hq35.1
  replace hK := hK.tr hq35.2
  refine g_iload_n C dX6_open_38 rfl ?_
  refine g_callS C (s_X6_rootOf _ (b := b) (by omega)) ml_RX6_78 sm_yX6_rootOf in_RX6 co_yX6_rootOf hd_X6_rootOf rfl ⟨by omega, by omega⟩ rfl (Nat.le_of_ble_eq_true rfl) ⟨by omega, by omega⟩ dX6_open_39 (fun v39 w39 hp39 => ?_)
  obtain ⟨⟨r39, rfl, hr39⟩, hw39⟩ := hp39
  subst w39
  exact g_ireturn C hQ dX6_open_42 (by omega) (by omega) ⟨r39, rfl, hr39, hC, hK⟩
set_option maxHeartbeats 4000000 in
set_option maxRecDepth 100000 in
theorem s_X6_forth (l : Launch) {K : KC} {E : GE} {w : Wd} {τ ad : Nat → Nat} {bs ss : Nat → Int} {pb : Nat → PT} {P Q : Nat → Nat} {ct : Nat → Int} (hC0 : CS τ ad w bs ss pb P Q ct) {i : Nat} (hi : i < 3) {x : Int} (hx : 1 ≤ x ∧ x ≤ 6) : St K E l yX6_forth cX6_forth 4 (some .int) 6 (0) (0) [.ref (ad 100), iI (i : Int), iI x] w (fun r' w' => ((24 < ss i + x ∧ r' = some (iI (-9)) ∧ CS τ ad w' (bs) (ss) (pb) (P) (Q) (iup ct 3 (ct 3 + 1))) ∨ (ss i + x ≤ 24 ∧ r' = some (iI (ss i + x)) ∧ CS τ ad w' (bs) (iup ss i (ss i + x)) (pb) (P) (Q) (iup ct 0 (ct 0 + 1)))) ∧ KO τ w w') := by
  refine st_intro [some (.ref (ad 100)), some (iI (i : Int)), some (iI x), none] rfl (Nat.le_of_ble_eq_true rfl) pn_X6 ?_
  intro X C hT hRm hl hnm hQ
  obtain ⟨hRf, hRl, hRc, hRs⟩ := hRm
  refine g_wf (fun hwf => ?_)
  have hC := hC0
  have hK : KO τ w w := KO.rf _ _
  have hs := (hC.W i (by omega)).2.2
  refine g_iload_n C dX6_forth_0 rfl ?_
  refine g_callS C (s_X6_checkThing _ (v := (i : Int)) (by omega)) ml_RX6_61 sm_yX6_checkThing in_RX6 co_yX6_checkThing hd_X6_checkThing rfl ⟨by omega, by omega⟩ rfl (Nat.le_of_ble_eq_true rfl) ⟨by omega, by omega⟩ dX6_forth_1 (fun v1 w1 hp1 => ?_)
  obtain ⟨rfl, hw1⟩ := hp1
  subst w1
  refine g_iload_n C dX6_forth_4 rfl ?_
  refine g_iconst C dX6_forth_5 ?_
  refine g_bipush C dX6_forth_6 (by decide) ?_
  refine g_callS C (s_X6_checkRange _ (v := x) (lo := 1) (hi := 6) (by omega) (by omega) (by omega)) ml_RX6_82 sm_yX6_checkRange in_RX6 co_yX6_checkRange hd_X6_checkRange rfl ⟨by omega, by omega⟩ rfl (Nat.le_of_ble_eq_true rfl) ⟨by omega, by omega⟩ dX6_forth_8 (fun v8 w8 hp8 => ?_)
  obtain ⟨rfl, hw8⟩ := hp8
  subst w8
  refine g_aload_n C dX6_forth_11 rfl ?_
  refine g_get (ci := 8) C rfl inTX6 0 (by decide) fl_RX6_11 rfl hC.o rfl dX6_forth_12 ?_
  refine g_iload_n C dX6_forth_15 rfl ?_
  refine g_aaloadN (i) C rfl rfl hC.A.1.choose_spec.1 (by omega) (by omega) (hC.A.1.choose_spec.2 _ (by omega)) dX6_forth_16 ?_
  refine g_astore_n C dX6_forth_17 (by decide) rfl ?_
  refine g_aload_n C dX6_forth_18 rfl ?_
  refine g_get (ci := 6) C rfl inTX4 1 (by decide) fl_RX6_72 rfl (hC.W i (by omega)).1 rfl dX6_forth_19 ?_
  refine g_iload_n C dX6_forth_22 rfl ?_
  refine g_iadd C dX6_forth_23 ?_
  refine g_bipush C dX6_forth_24 (by decide) ?_
  refine g_icmp_le (tgt := 34) C dX6_forth_26 (by decide) (by omega) (by omega) (fun h26 => ?_) (fun h26 => ?_)
  · refine g_aload_n C dX6_forth_34 rfl ?_
    refine g_dup C dX6_forth_35 rfl ?_
    refine g_get (ci := 6) C rfl inTX4 1 (by decide) fl_RX6_72 rfl (hC.W i (by omega)).1 rfl dX6_forth_36 ?_
    refine g_iload_n C dX6_forth_39 rfl ?_
    refine g_iadd C dX6_forth_40 ?_
    refine g_put (ci := 6) C rfl inTX4 tyX4 tyX4_ok nmX4 1 (by decide) fl_RX6_72 rfl rfl (hC.W i (by omega)).1 (Nat.le_of_ble_eq_true rfl) rfl rfl dX6_forth_41 ?_
    refine g_gen (fun v41 hv41 => ?_)
    replace hv41 : v41 = wset _ (ad (120 + i)) (true, eO 6 [iI (bs i), iI (ss i + x)]) := hv41
    have hq41 := hC.sw (i := i) (b := bs i) (s := ss i + x) (by omega) (hC.W i (by omega)).2.1 (by omega)
    rw [← hv41] at hq41
    replace hC := hq41.1
    replace hK := hK.tr hq41.2
    rw [iup_id] at hC
    refine g_aload_n C dX6_forth_44 rfl ?_
    refine g_dup C dX6_forth_45 rfl ?_
    refine g_get (ci := 8) C rfl inTX6 10 (by decide) fl_RX6_75 rfl hC.o rfl dX6_forth_46 ?_
    refine g_iconst C dX6_forth_49 ?_
    refine g_iadd C dX6_forth_50 ?_
    refine g_put (ci := 8) C rfl inTX6 tyX6 tyX6_ok nmX6 10 (by decide) fl_RX6_75 rfl rfl hC.o (Nat.le_of_ble_eq_true rfl) rfl rfl dX6_forth_51 ?_
    refine g_gen (fun v51 hv51 => ?_)
    replace hv51 : v51 = wset _ (ad 100) (true, oX ad (iup ct 0 (ct 0 + 1))) := hv51
    have hq51 := hC.so (iup ct 0 (ct 0 + 1))
    rw [← hv51] at hq51
    replace hC := hq51.1
    replace hK := hK.tr hq51.2
    refine g_aload_n C dX6_forth_54 rfl ?_
    refine g_get (ci := 6) C rfl inTX4 1 (by decide) fl_RX6_72 rfl (hC.W i (by omega)).1 rfl dX6_forth_55 ?_
    rw [iup_s]
    exact g_ireturn C hQ dX6_forth_58 (Nat.le_refl _) (Nat.le_refl _) ⟨Or.inr ⟨by omega, rfl, hC⟩, hK⟩
  · refine g_aload_n C dX6_forth_29 rfl ?_
    refine g_callV C (s_X6_refuse _ hC) (ci := 8) rfl hC.o rfl ml_RX6_86 im_yX6_refuse se_RX6_yX6_refuse in_RX6 co_yX6_refuse hd_X6_refuse rfl ⟨by omega, by omega⟩ rfl (Nat.le_of_ble_eq_true rfl) ⟨by omega, by omega⟩ dX6_forth_30 (fun v30 w30 hp30 => ?_)
    obtain ⟨rfl, hc30, hk30⟩ := hp30
    replace hC := hc30
    replace hK := hK.tr hk30
    exact g_ireturn C hQ dX6_forth_33 (Nat.le_refl _) (Nat.le_refl _) ⟨Or.inl ⟨by omega, rfl, hC⟩, hK⟩
set_option maxHeartbeats 4000000 in
set_option maxRecDepth 100000 in
theorem s_X6_back (l : Launch) {K : KC} {E : GE} {w : Wd} {τ ad : Nat → Nat} {bs ss : Nat → Int} {pb : Nat → PT} {P Q : Nat → Nat} {ct : Nat → Int} (hC0 : CS τ ad w bs ss pb P Q ct) {i : Nat} (hi : i < 3) : St K E l yX6_back cX6_back 3 (some .int) 6 (0) (0) [.ref (ad 100), iI (i : Int)] w (fun r' w' => ((ss i = 0 ∧ r' = some (iI (-9)) ∧ CS τ ad w' (bs) (ss) (pb) (P) (Q) (iup ct 3 (ct 3 + 1))) ∨ (0 < ss i ∧ r' = some (iI (ss i - 1)) ∧ CS τ ad w' (bs) (iup ss i (ss i - 1)) (pb) (P) (Q) (iup ct 0 (ct 0 + 1)))) ∧ KO τ w w') := by
  refine st_intro [some (.ref (ad 100)), some (iI (i : Int)), none] rfl (Nat.le_of_ble_eq_true rfl) pn_X6 ?_
  intro X C hT hRm hl hnm hQ
  obtain ⟨hRf, hRl, hRc, hRs⟩ := hRm
  refine g_wf (fun hwf => ?_)
  have hC := hC0
  have hK : KO τ w w := KO.rf _ _
  have hs := (hC.W i (by omega)).2.2
  refine g_iload_n C dX6_back_0 rfl ?_
  refine g_callS C (s_X6_checkThing _ (v := (i : Int)) (by omega)) ml_RX6_61 sm_yX6_checkThing in_RX6 co_yX6_checkThing hd_X6_checkThing rfl ⟨by omega, by omega⟩ rfl (Nat.le_of_ble_eq_true rfl) ⟨by omega, by omega⟩ dX6_back_1 (fun v1 w1 hp1 => ?_)
  obtain ⟨rfl, hw1⟩ := hp1
  subst w1
  refine g_aload_n C dX6_back_4 rfl ?_
  refine g_get (ci := 8) C rfl inTX6 0 (by decide) fl_RX6_11 rfl hC.o rfl dX6_back_5 ?_
  refine g_iload_n C dX6_back_8 rfl ?_
  refine g_aaloadN (i) C rfl rfl hC.A.1.choose_spec.1 (by omega) (by omega) (hC.A.1.choose_spec.2 _ (by omega)) dX6_back_9 ?_
  refine g_astore_n C dX6_back_10 (by decide) rfl ?_
  refine g_aload_n C dX6_back_11 rfl ?_
  refine g_get (ci := 6) C rfl inTX4 1 (by decide) fl_RX6_72 rfl (hC.W i (by omega)).1 rfl dX6_back_12 ?_
  refine g_if_ne (tgt := 23) C dX6_back_15 (by decide) (by omega) (fun h15 => ?_) (fun h15 => ?_)
  · refine g_aload_n C dX6_back_23 rfl ?_
    refine g_dup C dX6_back_24 rfl ?_
    refine g_get (ci := 6) C rfl inTX4 1 (by decide) fl_RX6_72 rfl (hC.W i (by omega)).1 rfl dX6_back_25 ?_
    refine g_iconst C dX6_back_28 ?_
    refine g_isub C dX6_back_29 ?_
    refine g_put (ci := 6) C rfl inTX4 tyX4 tyX4_ok nmX4 1 (by decide) fl_RX6_72 rfl rfl (hC.W i (by omega)).1 (Nat.le_of_ble_eq_true rfl) rfl rfl dX6_back_30 ?_
    refine g_gen (fun v30 hv30 => ?_)
    replace hv30 : v30 = wset _ (ad (120 + i)) (true, eO 6 [iI (bs i), iI (ss i - 1)]) := hv30
    have hq30 := hC.sw (i := i) (b := bs i) (s := ss i - 1) (by omega) (hC.W i (by omega)).2.1 (by omega)
    rw [← hv30] at hq30
    replace hC := hq30.1
    replace hK := hK.tr hq30.2
    rw [iup_id] at hC
    refine g_aload_n C dX6_back_33 rfl ?_
    refine g_dup C dX6_back_34 rfl ?_
    refine g_get (ci := 8) C rfl inTX6 10 (by decide) fl_RX6_75 rfl hC.o rfl dX6_back_35 ?_
    refine g_iconst C dX6_back_38 ?_
    refine g_iadd C dX6_back_39 ?_
    refine g_put (ci := 8) C rfl inTX6 tyX6 tyX6_ok nmX6 10 (by decide) fl_RX6_75 rfl rfl hC.o (Nat.le_of_ble_eq_true rfl) rfl rfl dX6_back_40 ?_
    refine g_gen (fun v40 hv40 => ?_)
    replace hv40 : v40 = wset _ (ad 100) (true, oX ad (iup ct 0 (ct 0 + 1))) := hv40
    have hq40 := hC.so (iup ct 0 (ct 0 + 1))
    rw [← hv40] at hq40
    replace hC := hq40.1
    replace hK := hK.tr hq40.2
    refine g_aload_n C dX6_back_43 rfl ?_
    refine g_get (ci := 6) C rfl inTX4 1 (by decide) fl_RX6_72 rfl (hC.W i (by omega)).1 rfl dX6_back_44 ?_
    rw [iup_s]
    exact g_ireturn C hQ dX6_back_47 (Nat.le_refl _) (Nat.le_refl _) ⟨Or.inr ⟨by omega, rfl, hC⟩, hK⟩
  · refine g_aload_n C dX6_back_18 rfl ?_
    refine g_callV C (s_X6_refuse _ hC) (ci := 8) rfl hC.o rfl ml_RX6_86 im_yX6_refuse se_RX6_yX6_refuse in_RX6 co_yX6_refuse hd_X6_refuse rfl ⟨by omega, by omega⟩ rfl (Nat.le_of_ble_eq_true rfl) ⟨by omega, by omega⟩ dX6_back_19 (fun v19 w19 hp19 => ?_)
    obtain ⟨rfl, hc19, hk19⟩ := hp19
    replace hC := hc19
    replace hK := hK.tr hk19
    exact g_ireturn C hQ dX6_back_22 (Nat.le_refl _) (Nat.le_refl _) ⟨Or.inl ⟨by omega, rfl, hC⟩, hK⟩
set_option maxHeartbeats 4000000 in
set_option maxRecDepth 100000 in
theorem s_X6_walkCopy (l : Launch) {K : KC} {E : GE} {w : Wd} {τ ad : Nat → Nat} {bs ss : Nat → Int} {pb : Nat → PT} {P Q : Nat → Nat} {ct : Nat → Int} (hC0 : CS τ ad w bs ss pb P Q ct) {i : Nat} (hi : i < 3) {k : Nat} (hk : k < 3) : St K E l yX6_walkCopy cX6_walkCopy 6 (some .int) 6 (0) (0) [.ref (ad 100), iI (i : Int), iI (k : Int)] w (fun r' w' => r' = some (iI (bI (bs i ≠ bs k ∨ ss i ≠ ss k))) ∧ CS τ ad w' (iup bs k (bs i)) (iup ss k (ss i)) (pb) (P) (Q) (iup ct 0 (ct 0 + 1)) ∧ KO τ w w') := by
  refine st_intro [some (.ref (ad 100)), some (iI (i : Int)), some (iI (k : Int)), none, none, none] rfl (Nat.le_of_ble_eq_true rfl) pn_X6 ?_
  intro X C hT hRm hl hnm hQ
  obtain ⟨hRf, hRl, hRc, hRs⟩ := hRm
  refine g_wf (fun hwf => ?_)
  have hC := hC0
  have hK : KO τ w w := KO.rf _ _
  have hs := (hC.W i (by omega)).2.2
  have hs2 := (hC.W k (by omega)).2.2
  have hg := (hC.W i (by omega)).2.1
  have hg2 := (hC.W k (by omega)).2.1
  have g1 := hg.1
  have g2 := hg.2.1
  have g3 := hg2.1
  have g4 := hg2.2.1
  refine g_iload_n C dX6_walkCopy_0 rfl ?_
  refine g_callS C (s_X6_checkThing _ (v := (i : Int)) (by omega)) ml_RX6_61 sm_yX6_checkThing in_RX6 co_yX6_checkThing hd_X6_checkThing rfl ⟨by omega, by omega⟩ rfl (Nat.le_of_ble_eq_true rfl) ⟨by omega, by omega⟩ dX6_walkCopy_1 (fun v1 w1 hp1 => ?_)
  obtain ⟨rfl, hw1⟩ := hp1
  subst w1
  refine g_iload_n C dX6_walkCopy_4 rfl ?_
  refine g_callS C (s_X6_checkThing _ (v := (k : Int)) (by omega)) ml_RX6_61 sm_yX6_checkThing in_RX6 co_yX6_checkThing hd_X6_checkThing rfl ⟨by omega, by omega⟩ rfl (Nat.le_of_ble_eq_true rfl) ⟨by omega, by omega⟩ dX6_walkCopy_5 (fun v5 w5 hp5 => ?_)
  obtain ⟨rfl, hw5⟩ := hp5
  subst w5
  refine g_aload_n C dX6_walkCopy_8 rfl ?_
  refine g_get (ci := 8) C rfl inTX6 0 (by decide) fl_RX6_11 rfl hC.o rfl dX6_walkCopy_9 ?_
  refine g_iload_n C dX6_walkCopy_12 rfl ?_
  refine g_aaloadN (i) C rfl rfl hC.A.1.choose_spec.1 (by omega) (by omega) (hC.A.1.choose_spec.2 _ (by omega)) dX6_walkCopy_13 ?_
  refine g_astore_n C dX6_walkCopy_14 (by decide) rfl ?_
  refine g_aload_n C dX6_walkCopy_15 rfl ?_
  refine g_get (ci := 8) C rfl inTX6 0 (by decide) fl_RX6_11 rfl hC.o rfl dX6_walkCopy_16 ?_
  refine g_iload_n C dX6_walkCopy_19 rfl ?_
  refine g_aaloadN (k) C rfl rfl hC.A.1.choose_spec.1 (by omega) (by omega) (hC.A.1.choose_spec.2 _ (by omega)) dX6_walkCopy_20 ?_
  refine g_astore C dX6_walkCopy_21 (by decide) rfl ?_
  have J52 : ∀ z : Int, z = bI (bs i ≠ bs k ∨ ss i ≠ ss k) → G E X 6 52 [some (.ref (ad 100)), some (iI (i : Int)), some (iI (k : Int)), some (.ref (ad (120 + i))), some (.ref (ad (120 + k))), none] [iI z] w 0 0 := by
    intro z hz
    have hz01 : z = 0 ∨ z = 1 := by rw [hz]; exact bI_01 _
    refine g_istore C dX6_walkCopy_52 (by decide) rfl ?_
    refine g_aload C dX6_walkCopy_54 rfl ?_
    refine g_aload_n C dX6_walkCopy_56 rfl ?_
    refine g_get (ci := 6) C rfl inTX4 0 (by decide) fl_RX6_68 rfl (hC.W i (by omega)).1 rfl dX6_walkCopy_57 ?_
    refine g_put (ci := 6) C rfl inTX4 tyX4 tyX4_ok nmX4 0 (by decide) fl_RX6_68 rfl rfl (hC.W k (by omega)).1 (Nat.le_of_ble_eq_true rfl) rfl rfl dX6_walkCopy_60 ?_
    refine g_gen (fun v60 hv60 => ?_)
    replace hv60 : v60 = wset _ (ad (120 + k)) (true, eO 6 [iI (bs i), iI (ss k)]) := hv60
    have hq60 := hC.sw (i := k) (b := bs i) (s := ss k) (by omega) (hC.W i (by omega)).2.1 (hC.W k (by omega)).2.2
    rw [← hv60] at hq60
    replace hC := hq60.1
    replace hK := hK.tr hq60.2
    rw [iup_id] at hC
    refine g_aload C dX6_walkCopy_63 rfl ?_
    refine g_aload_n C dX6_walkCopy_65 rfl ?_
    refine g_get (ci := 6) C rfl inTX4 1 (by decide) fl_RX6_72 rfl (hC.W i (by omega)).1 rfl dX6_walkCopy_66 ?_
    refine g_put (ci := 6) C rfl inTX4 tyX4 tyX4_ok nmX4 1 (by decide) fl_RX6_72 rfl rfl (hC.W k (by omega)).1 (Nat.le_of_ble_eq_true rfl) rfl rfl dX6_walkCopy_69 ?_
    refine g_gen (fun v69 hv69 => ?_)
    replace hv69 : v69 = wset _ (ad (120 + k)) (true, eO 6 [iI (iup bs k (bs i) k), iI (ss i)]) := hv69
    have hq69 := hC.sw (i := k) (b := iup bs k (bs i) k) (s := ss i) (by omega) (by rw [iup_s]; exact hg) (by omega)
    rw [← hv69] at hq69
    replace hC := hq69.1
    replace hK := hK.tr hq69.2
    rw [iup_s, iup_ii] at hC
    refine g_aload_n C dX6_walkCopy_72 rfl ?_
    refine g_dup C dX6_walkCopy_73 rfl ?_
    refine g_get (ci := 8) C rfl inTX6 10 (by decide) fl_RX6_75 rfl hC.o rfl dX6_walkCopy_74 ?_
    refine g_iconst C dX6_walkCopy_77 ?_
    refine g_iadd C dX6_walkCopy_78 ?_
    refine g_put (ci := 8) C rfl inTX6 tyX6 tyX6_ok nmX6 10 (by decide) fl_RX6_75 rfl rfl hC.o (Nat.le_of_ble_eq_true rfl) rfl rfl dX6_walkCopy_79 ?_
    refine g_gen (fun v79 hv79 => ?_)
    replace hv79 : v79 = wset _ (ad 100) (true, oX ad (iup ct 0 (ct 0 + 1))) := hv79
    have hq79 := hC.so (iup ct 0 (ct 0 + 1))
    rw [← hv79] at hq79
    replace hC := hq79.1
    replace hK := hK.tr hq79.2
    refine g_iload C dX6_walkCopy_82 rfl ?_
    refine g_if_eq (tgt := 91) C dX6_walkCopy_84 (by decide) (by omega) (fun h84 => ?_) (fun h84 => ?_)
    · refine g_iconst C dX6_walkCopy_91 ?_
      exact g_ireturn C hQ dX6_walkCopy_92 (Nat.le_refl _) (Nat.le_refl _) ⟨by rw [← hz]; first | rw [show z = 1 by omega] | rw [show z = 0 by omega], hC, hK⟩
    · refine g_iconst C dX6_walkCopy_87 ?_
      refine g_goto (tgt := 92) C dX6_walkCopy_88 (by decide) ?_
      exact g_ireturn C hQ dX6_walkCopy_92 (Nat.le_refl _) (Nat.le_refl _) ⟨by rw [← hz]; first | rw [show z = 1 by omega] | rw [show z = 0 by omega], hC, hK⟩
  refine g_aload C dX6_walkCopy_23 rfl ?_
  refine g_get (ci := 6) C rfl inTX4 0 (by decide) fl_RX6_68 rfl (hC.W k (by omega)).1 rfl dX6_walkCopy_25 ?_
  refine g_aload_n C dX6_walkCopy_28 rfl ?_
  refine g_get (ci := 6) C rfl inTX4 0 (by decide) fl_RX6_68 rfl (hC.W i (by omega)).1 rfl dX6_walkCopy_29 ?_
  refine g_icmp_ne (tgt := 47) C dX6_walkCopy_32 (by decide) (by omega) (by omega) (fun h32 => ?_) (fun h32 => ?_)
  · refine g_iconst C dX6_walkCopy_47 ?_
    refine g_goto (tgt := 52) C dX6_walkCopy_48 (by decide) ?_
    first
    | exact J52 1 (bI_t (by omega)).symm
    | exact J52 0 (bI_f (by omega)).symm
  · refine g_aload C dX6_walkCopy_35 rfl ?_
    refine g_get (ci := 6) C rfl inTX4 1 (by decide) fl_RX6_72 rfl (hC.W k (by omega)).1 rfl dX6_walkCopy_37 ?_
    refine g_aload_n C dX6_walkCopy_40 rfl ?_
    refine g_get (ci := 6) C rfl inTX4 1 (by decide) fl_RX6_72 rfl (hC.W i (by omega)).1 rfl dX6_walkCopy_41 ?_
    refine g_icmp_eq (tgt := 51) C dX6_walkCopy_44 (by decide) (by omega) (by omega) (fun h44 => ?_) (fun h44 => ?_)
    · refine g_iconst C dX6_walkCopy_51 ?_
      first
      | exact J52 1 (bI_t (by omega)).symm
      | exact J52 0 (bI_f (by omega)).symm
    · refine g_iconst C dX6_walkCopy_47 ?_
      refine g_goto (tgt := 52) C dX6_walkCopy_48 (by decide) ?_
      first
      | exact J52 1 (bI_t (by omega)).symm
      | exact J52 0 (bI_f (by omega)).symm
set_option maxHeartbeats 4000000 in
set_option maxRecDepth 100000 in
theorem s_X6_part (l : Launch) {K : KC} {E : GE} {w : Wd} {τ ad : Nat → Nat} {bs ss : Nat → Int} {pb : Nat → PT} {P Q : Nat → Nat} {ct : Nat → Int} (hC0 : CS τ ad w bs ss pb P Q ct) {i : Nat} (hi : i < 3) {z : Int} (hz : 0 ≤ z ∧ z ≤ 5) : St K E l yX6_part cX6_part 3 (some .int) 6 (0) (0) [.ref (ad 100), iI (i : Int), iI z] w (fun r' w' => ∃ r, r' = some (iI (prV (bs i) r (ss i) z)) ∧ RT (bs i) r ∧ CS τ ad w' (bs) (ss) (pb) (P) (Q) (ct) ∧ KO τ w w') := by
  refine st_intro [some (.ref (ad 100)), some (iI (i : Int)), some (iI z)] rfl (Nat.le_of_ble_eq_true rfl) pn_X6 ?_
  intro X C hT hRm hl hnm hQ
  obtain ⟨hRf, hRl, hRc, hRs⟩ := hRm
  refine g_wf (fun hwf => ?_)
  have hC := hC0
  have hK : KO τ w w := KO.rf _ _
  refine g_iload_n C dX6_part_0 rfl ?_
  refine g_callS C (s_X6_checkThing _ (v := (i : Int)) (by omega)) ml_RX6_61 sm_yX6_checkThing in_RX6 co_yX6_checkThing hd_X6_checkThing rfl ⟨by omega, by omega⟩ rfl (Nat.le_of_ble_eq_true rfl) ⟨by omega, by omega⟩ dX6_part_1 (fun v1 w1 hp1 => ?_)
  obtain ⟨rfl, hw1⟩ := hp1
  subst w1
  refine g_iload_n C dX6_part_4 rfl ?_
  refine g_iconst C dX6_part_5 ?_
  refine g_iconst C dX6_part_6 ?_
  refine g_callS C (s_X6_checkRange _ (v := z) (lo := 0) (hi := 5) (by omega) (by omega) (by omega)) ml_RX6_82 sm_yX6_checkRange in_RX6 co_yX6_checkRange hd_X6_checkRange rfl ⟨by omega, by omega⟩ rfl (Nat.le_of_ble_eq_true rfl) ⟨by omega, by omega⟩ dX6_part_7 (fun v7 w7 hp7 => ?_)
  obtain ⟨rfl, hw7⟩ := hp7
  subst w7
  refine g_aload_n C dX6_part_10 rfl ?_
  refine g_aload_n C dX6_part_11 rfl ?_
  refine g_iload_n C dX6_part_12 rfl ?_
  refine t_callV C hT (s_X6_unfold _ hC (i := i) (by omega)) (RcV.ob (ci := 8) C rfl hC.o) rfl ml_RX6_90 im_yX6_unfold se_RX6_yX6_unfold in_RX6 co_yX6_unfold hd_X6_unfold rfl ⟨by omega, by omega⟩ rfl (Nat.le_of_ble_eq_true rfl) ⟨by omega, by omega⟩ dX6_part_13 (fun v13 w13 hp13 => ?_)
  obtain ⟨rfl, ⟨r, m, d, a, hF, hV, hG⟩, hc13, hk13⟩ := hp13
  replace hC := hc13
  replace hK := hK.tr hk13
  have hs := (hC.W i (by omega)).2.2
  have hgb := hV.1
  have hbl := hgb.1
  have hbh := hgb.2.1
  have hr9 := RT_le hV.1 hV.2.1
  have hr0 := hV.2.1.1
  have hw := wk_f hV.1 hV.2.1 (k := (ss i).toNat) (by omega)
  refine g_iload_n C dX6_part_16 rfl ?_
  refine g_callV C (s_X6_walkPart _ hC hi hF hV hG (z := z) hz) (ci := 8) rfl hC.o rfl ml_RX6_94 im_yX6_walkPart se_RX6_yX6_walkPart in_RX6 co_yX6_walkPart hd_X6_walkPart rfl ⟨by omega, by omega⟩ rfl (Nat.le_of_ble_eq_true rfl) ⟨by omega, by omega⟩ dX6_part_17 (fun v17 w17 hp17 => ?_)
  obtain ⟨rfl, hw17⟩ := hp17
  subst w17
  exact g_ireturn C hQ dX6_part_20 (by omega) (by omega) ⟨r, rfl, hV.2.1, hC, hK⟩
set_option maxHeartbeats 4000000 in
set_option maxRecDepth 100000 in
theorem s_X6_walkText (l : Launch) {K : KC} {E : GE} {w : Wd} {τ ad : Nat → Nat} {bs ss : Nat → Int} {pb : Nat → PT} {P Q : Nat → Nat} {ct : Nat → Int} (hC0 : CS τ ad w bs ss pb P Q ct) {i : Nat} (hi : i < 3) {z rx : Int} (hz : 0 ≤ z ∧ z ≤ 3) (hrx : 2 ≤ rx ∧ rx ≤ 16) : St K E l yX6_walkText cX6_walkText 4 (some (.object "java/lang/String")) 9 (61) (2600) [.ref (ad 100), iI (i : Int), iI z, iI rx] w (fun r' w' => (∃ s : Nat, r' = some (.ref s)) ∧ CS τ ad w' (bs) (ss) (pb) (P) (Q) (ct) ∧ KO τ w w') := by
  refine st_intro [some (.ref (ad 100)), some (iI (i : Int)), some (iI z), some (iI rx)] rfl (Nat.le_of_ble_eq_true rfl) pn_X6 ?_
  intro X C hT hRm hl hnm hQ
  obtain ⟨hRf, hRl, hRc, hRs⟩ := hRm
  refine g_wf (fun hwf => ?_)
  have hC := hC0
  have hK : KO τ w w := KO.rf _ _
  refine g_iload_n C dX6_walkText_0 rfl ?_
  refine g_callS C (s_X6_checkThing _ (v := (i : Int)) (by omega)) ml_RX6_61 sm_yX6_checkThing in_RX6 co_yX6_checkThing hd_X6_checkThing rfl ⟨by omega, by omega⟩ rfl (Nat.le_of_ble_eq_true rfl) ⟨by omega, by omega⟩ dX6_walkText_1 (fun v1 w1 hp1 => ?_)
  obtain ⟨rfl, hw1⟩ := hp1
  subst w1
  refine g_iload_n C dX6_walkText_4 rfl ?_
  refine g_iconst C dX6_walkText_5 ?_
  refine g_iconst C dX6_walkText_6 ?_
  refine g_callS C (s_X6_checkRange _ (v := z) (lo := 0) (hi := 3) (by omega) (by omega) (by omega)) ml_RX6_82 sm_yX6_checkRange in_RX6 co_yX6_checkRange hd_X6_checkRange rfl ⟨by omega, by omega⟩ rfl (Nat.le_of_ble_eq_true rfl) ⟨by omega, by omega⟩ dX6_walkText_7 (fun v7 w7 hp7 => ?_)
  obtain ⟨rfl, hw7⟩ := hp7
  subst w7
  refine g_iload_n C dX6_walkText_10 rfl ?_
  refine g_iconst C dX6_walkText_11 ?_
  refine g_bipush C dX6_walkText_12 (by decide) ?_
  refine g_callS C (s_X6_checkRange _ (v := rx) (lo := 2) (hi := 16) (by omega) (by omega) (by omega)) ml_RX6_82 sm_yX6_checkRange in_RX6 co_yX6_checkRange hd_X6_checkRange rfl ⟨by omega, by omega⟩ rfl (Nat.le_of_ble_eq_true rfl) ⟨by omega, by omega⟩ dX6_walkText_14 (fun v14 w14 hp14 => ?_)
  obtain ⟨rfl, hw14⟩ := hp14
  subst w14
  refine g_aload_n C dX6_walkText_17 rfl ?_
  refine g_get (ci := 8) C rfl inTX6 4 (by decide) fl_RX6_37 rfl hC.o rfl dX6_walkText_18 ?_
  refine g_aload_n C dX6_walkText_21 rfl ?_
  refine g_aload_n C dX6_walkText_22 rfl ?_
  refine g_iload_n C dX6_walkText_23 rfl ?_
  refine t_callV C hT (s_X6_unfold _ hC (i := i) (by omega)) (RcV.ob (ci := 8) C rfl hC.o) rfl ml_RX6_90 im_yX6_unfold se_RX6_yX6_unfold in_RX6 co_yX6_unfold hd_X6_unfold rfl ⟨by omega, by omega⟩ rfl (Nat.le_of_ble_eq_true rfl) ⟨by omega, by omega⟩ dX6_walkText_24 (fun v24 w24 hp24 => ?_)
  obtain ⟨rfl, ⟨r, m, d, a, hF, hV, hG⟩, hc24, hk24⟩ := hp24
  replace hC := hc24
  replace hK := hK.tr hk24
  have hs := (hC.W i (by omega)).2.2
  have hgb := hV.1
  have hbl := hgb.1
  have hbh := hgb.2.1
  have hr9 := RT_le hV.1 hV.2.1
  have hr0 := hV.2.1.1
  have hw := wk_f hV.1 hV.2.1 (k := (ss i).toNat) (by omega)
  refine g_iload_n C dX6_walkText_27 rfl ?_
  refine g_callV C (s_X6_walkNumber _ hC hi hF hV hG (z := z) (by omega)) (ci := 8) rfl hC.o rfl ml_RX6_98 im_yX6_walkNumber se_RX6_yX6_walkNumber in_RX6 co_yX6_walkNumber hd_X6_walkNumber rfl ⟨by omega, by omega⟩ rfl (Nat.le_of_ble_eq_true rfl) ⟨by omega, by omega⟩ dX6_walkText_28 (fun v28 w28 hp28 => ?_)
  obtain ⟨⟨j28, rfl, hj28, f28⟩, hw28⟩ := hp28
  subst w28
  refine g_iload_n C dX6_walkText_31 rfl ?_
  refine t_callV C hT (s_X0_text _ hC.N hC.D (j := j28) (by omega) (rx := rx) (by omega)) (RcV.ob (ci := 2) C rfl hC.D) rfl ml_RX6_102 im_yX0_text se_RX0_yX0_text in_RX0 co_yX0_text hd_X0_text rfl ⟨by omega, by omega⟩ rfl (Nat.le_of_ble_eq_true rfl) ⟨by omega, by omega⟩ dX6_walkText_32 (fun v32 w32 hp32 => ?_)
  obtain ⟨⟨s32, rfl⟩, hN32, hk32⟩ := hp32
  replace hC := hC.kn hk32 hN32
  replace hK := hK.tr hk32.kc
  exact g_areturn C (Or.inl ⟨_, rfl⟩) hQ (Or.inr ⟨_, rfl⟩) dX6_walkText_35 (by omega) (by omega) ⟨⟨s32, rfl⟩, hC, hK⟩
set_option maxHeartbeats 4000000 in
set_option maxRecDepth 100000 in
theorem s_X6_test (l : Launch) {K : KC} {E : GE} {w : Wd} {τ ad : Nat → Nat} {bs ss : Nat → Int} {pb : Nat → PT} {P Q : Nat → Nat} {ct : Nat → Int} (hC0 : CS τ ad w bs ss pb P Q ct) {i : Nat} (hi : i < 3) {z : Int} (hz : 0 ≤ z ∧ z ≤ 2) : St K E l yX6_test cX6_test 3 (some .int) 6 (0) (0) [.ref (ad 100), iI (i : Int), iI z] w (fun r' w' => (∃ x : Int, r' = some (iI x) ∧ ∃ r, RT (bs i) r ∧ x = tstV (bs i) r (ss i).toNat z) ∧ CS τ ad w' (bs) (ss) (pb) (P) (Q) (ct) ∧ KO τ w w') := by
  refine st_intro [some (.ref (ad 100)), some (iI (i : Int)), some (iI z)] rfl (Nat.le_of_ble_eq_true rfl) pn_X6 ?_
  intro X C hT hRm hl hnm hQ
  obtain ⟨hRf, hRl, hRc, hRs⟩ := hRm
  refine g_wf (fun hwf => ?_)
  have hC := hC0
  have hK : KO τ w w := KO.rf _ _
  refine g_iload_n C dX6_test_0 rfl ?_
  refine g_callS C (s_X6_checkThing _ (v := (i : Int)) (by omega)) ml_RX6_61 sm_yX6_checkThing in_RX6 co_yX6_checkThing hd_X6_checkThing rfl ⟨by omega, by omega⟩ rfl (Nat.le_of_ble_eq_true rfl) ⟨by omega, by omega⟩ dX6_test_1 (fun v1 w1 hp1 => ?_)
  obtain ⟨rfl, hw1⟩ := hp1
  subst w1
  refine g_iload_n C dX6_test_4 rfl ?_
  refine g_iconst C dX6_test_5 ?_
  refine g_iconst C dX6_test_6 ?_
  refine g_callS C (s_X6_checkRange _ (v := z) (lo := 0) (hi := 2) (by omega) (by omega) (by omega)) ml_RX6_82 sm_yX6_checkRange in_RX6 co_yX6_checkRange hd_X6_checkRange rfl ⟨by omega, by omega⟩ rfl (Nat.le_of_ble_eq_true rfl) ⟨by omega, by omega⟩ dX6_test_7 (fun v7 w7 hp7 => ?_)
  obtain ⟨rfl, hw7⟩ := hp7
  subst w7
  refine g_aload_n C dX6_test_10 rfl ?_
  refine g_aload_n C dX6_test_11 rfl ?_
  refine g_iload_n C dX6_test_12 rfl ?_
  refine t_callV C hT (s_X6_unfold _ hC (i := i) (by omega)) (RcV.ob (ci := 8) C rfl hC.o) rfl ml_RX6_90 im_yX6_unfold se_RX6_yX6_unfold in_RX6 co_yX6_unfold hd_X6_unfold rfl ⟨by omega, by omega⟩ rfl (Nat.le_of_ble_eq_true rfl) ⟨by omega, by omega⟩ dX6_test_13 (fun v13 w13 hp13 => ?_)
  obtain ⟨rfl, ⟨r, m, d, a, hF, hV, hG⟩, hc13, hk13⟩ := hp13
  replace hC := hc13
  replace hK := hK.tr hk13
  have hs := (hC.W i (by omega)).2.2
  have hgb := hV.1
  have hbl := hgb.1
  have hbh := hgb.2.1
  have hr9 := RT_le hV.1 hV.2.1
  have hr0 := hV.2.1.1
  have hw := wk_f hV.1 hV.2.1 (k := (ss i).toNat) (by omega)
  refine g_iload_n C dX6_test_16 rfl ?_
  refine g_callV C (s_X6_walkTest _ hC hi hF hV hG (z := z) hz) (ci := 8) rfl hC.o rfl ml_RX6_106 im_yX6_walkTest se_RX6_yX6_walkTest in_RX6 co_yX6_walkTest hd_X6_walkTest rfl ⟨by omega, by omega⟩ rfl (Nat.le_of_ble_eq_true rfl) ⟨by omega, by omega⟩ dX6_test_17 (fun v17 w17 hp17 => ?_)
  obtain ⟨rfl, hf17, hg17, hc17, hk17⟩ := hp17
  replace hC := hc17
  replace hK := hK.tr hk17
  exact g_ireturn C hQ dX6_test_20 (by omega) (by omega) ⟨⟨_, rfl, r, hV.2.1, rfl⟩, hC, hK⟩
set_option maxHeartbeats 4000000 in
set_option maxRecDepth 100000 in
theorem s_X6_walkBits (l : Launch) {K : KC} {E : GE} {w : Wd} {τ ad : Nat → Nat} {bs ss : Nat → Int} {pb : Nat → PT} {P Q : Nat → Nat} {ct : Nat → Int} (hC0 : CS τ ad w bs ss pb P Q ct) {i : Nat} (hi : i < 3) {y z : Int} (hy : y = 0 ∨ y = 1) (hz : 0 ≤ z ∧ z ≤ 2) : St K E l yX6_walkBits cX6_walkBits 4 (some .int) 6 (0) (0) [.ref (ad 100), iI (i : Int), iI y, iI z] w (fun r' w' => (∃ x : Int, r' = some (iI x) ∧ ∃ r, RT (bs i) r ∧ x = bitV (if y = 1 then (pq (bs i) r 1 r (ss i).toNat).1 else (pq (bs i) r 0 1 (ss i).toNat).1) z) ∧ CS τ ad w' (bs) (ss) (pb) (P) (Q) (ct) ∧ KO τ w w') := by
  refine st_intro [some (.ref (ad 100)), some (iI (i : Int)), some (iI y), some (iI z)] rfl (Nat.le_of_ble_eq_true rfl) pn_X6 ?_
  intro X C hT hRm hl hnm hQ
  obtain ⟨hRf, hRl, hRc, hRs⟩ := hRm
  refine g_wf (fun hwf => ?_)
  have hC := hC0
  have hK : KO τ w w := KO.rf _ _
  refine g_iload_n C dX6_walkBits_0 rfl ?_
  refine g_callS C (s_X6_checkThing _ (v := (i : Int)) (by omega)) ml_RX6_61 sm_yX6_checkThing in_RX6 co_yX6_checkThing hd_X6_checkThing rfl ⟨by omega, by omega⟩ rfl (Nat.le_of_ble_eq_true rfl) ⟨by omega, by omega⟩ dX6_walkBits_1 (fun v1 w1 hp1 => ?_)
  obtain ⟨rfl, hw1⟩ := hp1
  subst w1
  refine g_iload_n C dX6_walkBits_4 rfl ?_
  refine g_iconst C dX6_walkBits_5 ?_
  refine g_iconst C dX6_walkBits_6 ?_
  refine g_callS C (s_X6_checkRange _ (v := z) (lo := 0) (hi := 2) (by omega) (by omega) (by omega)) ml_RX6_82 sm_yX6_checkRange in_RX6 co_yX6_checkRange hd_X6_checkRange rfl ⟨by omega, by omega⟩ rfl (Nat.le_of_ble_eq_true rfl) ⟨by omega, by omega⟩ dX6_walkBits_7 (fun v7 w7 hp7 => ?_)
  obtain ⟨rfl, hw7⟩ := hp7
  subst w7
  refine g_aload_n C dX6_walkBits_10 rfl ?_
  refine g_aload_n C dX6_walkBits_11 rfl ?_
  refine g_iload_n C dX6_walkBits_12 rfl ?_
  refine t_callV C hT (s_X6_unfold _ hC (i := i) (by omega)) (RcV.ob (ci := 8) C rfl hC.o) rfl ml_RX6_90 im_yX6_unfold se_RX6_yX6_unfold in_RX6 co_yX6_unfold hd_X6_unfold rfl ⟨by omega, by omega⟩ rfl (Nat.le_of_ble_eq_true rfl) ⟨by omega, by omega⟩ dX6_walkBits_13 (fun v13 w13 hp13 => ?_)
  obtain ⟨rfl, ⟨r, m, d, a, hF, hV, hG⟩, hc13, hk13⟩ := hp13
  replace hC := hc13
  replace hK := hK.tr hk13
  have hs := (hC.W i (by omega)).2.2
  have hgb := hV.1
  have hbl := hgb.1
  have hbh := hgb.2.1
  have hr9 := RT_le hV.1 hV.2.1
  have hr0 := hV.2.1.1
  have hw := wk_f hV.1 hV.2.1 (k := (ss i).toNat) (by omega)
  refine g_iload_n C dX6_walkBits_16 rfl ?_
  have J : ∀ z0 : Int, (y = 1 ∧ z0 = 0 ∨ y = 0 ∧ z0 = 1) → G E X 4 25 [some (.ref (ad 100)), some (iI (i : Int)), some (iI y), some (iI z)] [iI z0, .ref (ad (120 + i)), .ref (ad 100)] w13 0 0 := by
    intro z0 hz0
    have hwv : wnV (bs i) r (ss i).toNat z0 = (if y = 1 then (pq (bs i) r 1 r (ss i).toNat).1 else (pq (bs i) r 0 1 (ss i).toNat).1) := by
      rcases hz0 with ⟨q1, q2⟩ | ⟨q1, q2⟩
      · rw [q1, q2]; rfl
      · rw [q1, q2]; rfl
    have hw120 : aB (wnV (bs i) r (ss i).toNat z0) < 2 ^ 120 := by
      rw [hwv]
      split
      · exact pq_120 hV.1 hV.2.1 (x := 1) (y := r) (by omega) (by omega) (k := (ss i).toNat + 1) (by omega)
      · exact pq_120 hV.1 hV.2.1 (x := 0) (y := 1) (by omega) (by omega) (k := (ss i).toNat + 1) (by omega)
    refine g_callV C (s_X6_walkNumber _ hC hi hF hV hG (z := z0) (by omega)) (ci := 8) rfl hC.o rfl ml_RX6_98 im_yX6_walkNumber se_RX6_yX6_walkNumber in_RX6 co_yX6_walkNumber hd_X6_walkNumber rfl ⟨by omega, by omega⟩ rfl (Nat.le_of_ble_eq_true rfl) ⟨by omega, by omega⟩ dX6_walkBits_25 (fun v25 w25 hp25 => ?_)
    obtain ⟨⟨j25, rfl, hj25, f25⟩, hw25⟩ := hp25
    subst w25
    refine g_iload_n C dX6_walkBits_28 rfl ?_
    refine g_callS C (s_X6_countBits _ hC (j := j25) (by omega) f25 hw120 (z := z) hz) ml_RX6_109 sm_yX6_countBits in_RX6 co_yX6_countBits hd_X6_countBits rfl ⟨by omega, by omega⟩ rfl (Nat.le_of_ble_eq_true rfl) ⟨by omega, by omega⟩ dX6_walkBits_29 (fun v29 w29 hp29 => ?_)
    obtain ⟨rfl, hw29⟩ := hp29
    subst w29
    exact g_ireturn C hQ dX6_walkBits_32 (by omega) (by omega) ⟨⟨_, rfl, r, hV.2.1, by rw [hwv]⟩, hC, hK⟩
  refine g_if_eq (tgt := 24) C dX6_walkBits_17 (by decide) (by omega) (fun h17 => ?_) (fun h17 => ?_)
  · refine g_iconst C dX6_walkBits_24 ?_
    exact J _ (by omega)
  · refine g_iconst C dX6_walkBits_20 ?_
    refine g_goto (tgt := 25) C dX6_walkBits_21 (by decide) ?_
    exact J _ (by omega)
set_option maxHeartbeats 4000000 in
set_option maxRecDepth 100000 in
theorem s_X6_bit (l : Launch) {K : KC} {E : GE} {w : Wd} {τ ad : Nat → Nat} {bs ss : Nat → Int} {pb : Nat → PT} {P Q : Nat → Nat} {ct : Nat → Int} (hC0 : CS τ ad w bs ss pb P Q ct) {i : Nat} (hi : i < 3) {y : Int} {z : Nat} (hy : y = 0 ∨ y = 1) (hz : z ≤ 119) : St K E l yX6_bit cX6_bit 4 (some .boolean) 6 (0) (0) [.ref (ad 100), iI (i : Int), iI y, iI (z : Int)] w (fun r' w' => (∃ x : Int, r' = some (iI x) ∧ (x = 0 ∨ x = 1) ∧ ∃ r, RT (bs i) r ∧ x = bI (bt (aB (if y = 1 then (pq (bs i) r 1 r (ss i).toNat).1 else (pq (bs i) r 0 1 (ss i).toNat).1)) z = 1)) ∧ CS τ ad w' (bs) (ss) (pb) (P) (Q) (ct) ∧ KO τ w w') := by
  refine st_intro [some (.ref (ad 100)), some (iI (i : Int)), some (iI y), some (iI (z : Int))] rfl (Nat.le_of_ble_eq_true rfl) pn_X6 ?_
  intro X C hT hRm hl hnm hQ
  obtain ⟨hRf, hRl, hRc, hRs⟩ := hRm
  refine g_wf (fun hwf => ?_)
  have hC := hC0
  have hK : KO τ w w := KO.rf _ _
  refine g_iload_n C dX6_bit_0 rfl ?_
  refine g_callS C (s_X6_checkThing _ (v := (i : Int)) (by omega)) ml_RX6_61 sm_yX6_checkThing in_RX6 co_yX6_checkThing hd_X6_checkThing rfl ⟨by omega, by omega⟩ rfl (Nat.le_of_ble_eq_true rfl) ⟨by omega, by omega⟩ dX6_bit_1 (fun v1 w1 hp1 => ?_)
  obtain ⟨rfl, hw1⟩ := hp1
  subst w1
  refine g_iload_n C dX6_bit_4 rfl ?_
  refine g_iconst C dX6_bit_5 ?_
  refine g_bipush C dX6_bit_6 (by decide) ?_
  refine g_callS C (s_X6_checkRange _ (v := (z : Int)) (lo := 0) (hi := 119) (by omega) (by omega) (by omega)) ml_RX6_82 sm_yX6_checkRange in_RX6 co_yX6_checkRange hd_X6_checkRange rfl ⟨by omega, by omega⟩ rfl (Nat.le_of_ble_eq_true rfl) ⟨by omega, by omega⟩ dX6_bit_8 (fun v8 w8 hp8 => ?_)
  obtain ⟨rfl, hw8⟩ := hp8
  subst w8
  refine g_aload_n C dX6_bit_11 rfl ?_
  refine g_aload_n C dX6_bit_12 rfl ?_
  refine g_iload_n C dX6_bit_13 rfl ?_
  refine t_callV C hT (s_X6_unfold _ hC (i := i) (by omega)) (RcV.ob (ci := 8) C rfl hC.o) rfl ml_RX6_90 im_yX6_unfold se_RX6_yX6_unfold in_RX6 co_yX6_unfold hd_X6_unfold rfl ⟨by omega, by omega⟩ rfl (Nat.le_of_ble_eq_true rfl) ⟨by omega, by omega⟩ dX6_bit_14 (fun v14 w14 hp14 => ?_)
  obtain ⟨rfl, ⟨r, m, d, a, hF, hV, hG⟩, hc14, hk14⟩ := hp14
  replace hC := hc14
  replace hK := hK.tr hk14
  have hs := (hC.W i (by omega)).2.2
  have hgb := hV.1
  have hbl := hgb.1
  have hbh := hgb.2.1
  have hr9 := RT_le hV.1 hV.2.1
  have hr0 := hV.2.1.1
  have hw := wk_f hV.1 hV.2.1 (k := (ss i).toNat) (by omega)
  refine g_iload_n C dX6_bit_17 rfl ?_
  have J : ∀ z0 : Int, (y = 1 ∧ z0 = 0 ∨ y = 0 ∧ z0 = 1) → G E X 4 26 [some (.ref (ad 100)), some (iI (i : Int)), some (iI y), some (iI (z : Int))] [iI z0, .ref (ad (120 + i)), .ref (ad 100)] w14 0 0 := by
    intro z0 hz0
    have hwv : wnV (bs i) r (ss i).toNat z0 = (if y = 1 then (pq (bs i) r 1 r (ss i).toNat).1 else (pq (bs i) r 0 1 (ss i).toNat).1) := by
      rcases hz0 with ⟨q1, q2⟩ | ⟨q1, q2⟩
      · rw [q1, q2]; rfl
      · rw [q1, q2]; rfl
    have hw120 : aB (wnV (bs i) r (ss i).toNat z0) < 2 ^ 120 := by
      rw [hwv]
      split
      · exact pq_120 hV.1 hV.2.1 (x := 1) (y := r) (by omega) (by omega) (k := (ss i).toNat + 1) (by omega)
      · exact pq_120 hV.1 hV.2.1 (x := 0) (y := 1) (by omega) (by omega) (k := (ss i).toNat + 1) (by omega)
    refine g_callV C (s_X6_walkNumber _ hC hi hF hV hG (z := z0) (by omega)) (ci := 8) rfl hC.o rfl ml_RX6_98 im_yX6_walkNumber se_RX6_yX6_walkNumber in_RX6 co_yX6_walkNumber hd_X6_walkNumber rfl ⟨by omega, by omega⟩ rfl (Nat.le_of_ble_eq_true rfl) ⟨by omega, by omega⟩ dX6_bit_26 (fun v26 w26 hp26 => ?_)
    obtain ⟨⟨j26, rfl, hj26, f26⟩, hw26⟩ := hp26
    subst w26
    refine g_iload_n C dX6_bit_29 rfl ?_
    refine g_callV C (u_X5_hasBit _ f26 (p := z) (by omega)) (ci := 7) rfl (hC.N.W (j := j26) (by omega)).o rfl ml_RX6_113 im_yX5_hasBit se_RX5_yX5_hasBit in_RX5 co_yX5_hasBit hd_X5_hasBit rfl ⟨by omega, by omega⟩ rfl (Nat.le_of_ble_eq_true rfl) ⟨by omega, by omega⟩ dX6_bit_30 (fun v30 w30 hp30 => ?_)
    obtain ⟨rfl, hw30⟩ := hp30
    subst w30
    exact g_zreturn C hQ dX6_bit_33 (nar01 (bI_01 _)) (by omega) (by omega) ⟨⟨_, rfl, bI_01 _, r, hV.2.1, by rw [hwv]⟩, hC, hK⟩
  refine g_if_eq (tgt := 25) C dX6_bit_18 (by decide) (by omega) (fun h18 => ?_) (fun h18 => ?_)
  · refine g_iconst C dX6_bit_25 ?_
    exact J _ (by omega)
  · refine g_iconst C dX6_bit_21 ?_
    refine g_goto (tgt := 26) C dX6_bit_22 (by decide) ?_
    exact J _ (by omega)
set_option maxHeartbeats 4000000 in
set_option maxRecDepth 100000 in
theorem s_X6_isRead (l : Launch) {K : KC} {E : GE} {w : Wd} {τ ad : Nat → Nat} {bs ss : Nat → Int} {pb : Nat → PT} {P Q : Nat → Nat} {ct : Nat → Int} (hC0 : CS τ ad w bs ss pb P Q ct) {i : Nat} (hi : i < 3) {z : Int} (hz : z = 0 ∨ 2 ≤ z ∧ z ≤ 16) : St K E l yX6_isRead cX6_isRead 6 (some .boolean) 8 (120) (4200) [.ref (ad 100), iI (i : Int), iI z] w (fun r' w' => (∃ x : Int, r' = some (iI x) ∧ (x = 0 ∨ x = 1) ∧ x = 1) ∧ CS τ ad w' (bs) (ss) (pb) (P) (Q) (ct) ∧ KO τ w w') := by
  refine st_intro [some (.ref (ad 100)), some (iI (i : Int)), some (iI z), none, none, none] rfl (Nat.le_of_ble_eq_true rfl) pn_X6 ?_
  intro X C hT hRm hl hnm hQ
  obtain ⟨hRf, hRl, hRc, hRs⟩ := hRm
  refine g_wf (fun hwf => ?_)
  have hC := hC0
  have hK : KO τ w w := KO.rf _ _
  refine g_iload_n C dX6_isRead_0 rfl ?_
  refine g_callS C (s_X6_checkThing _ (v := (i : Int)) (by omega)) ml_RX6_61 sm_yX6_checkThing in_RX6 co_yX6_checkThing hd_X6_checkThing rfl ⟨by omega, by omega⟩ rfl (Nat.le_of_ble_eq_true rfl) ⟨by omega, by omega⟩ dX6_isRead_1 (fun v1 w1 hp1 => ?_)
  obtain ⟨rfl, hw1⟩ := hp1
  subst w1
  have J15 : G E X 6 15 [some (.ref (ad 100)), some (iI (i : Int)), some (iI z), none, none, none] [] w 0 0 := by
    refine g_aload_n C dX6_isRead_15 rfl ?_
    refine g_iload_n C dX6_isRead_16 rfl ?_
    refine t_callV C hT (s_X6_unfold _ hC (i := i) (by omega)) (RcV.ob (ci := 8) C rfl hC.o) rfl ml_RX6_90 im_yX6_unfold se_RX6_yX6_unfold in_RX6 co_yX6_unfold hd_X6_unfold rfl ⟨by omega, by omega⟩ rfl (Nat.le_of_ble_eq_true rfl) ⟨by omega, by omega⟩ dX6_isRead_17 (fun v17 w17 hp17 => ?_)
    obtain ⟨rfl, ⟨r, m, d, a, hF, hV, hG⟩, hc17, hk17⟩ := hp17
    replace hC := hc17
    replace hK := hK.tr hk17
    have hs := (hC.W i (by omega)).2.2
    have hgb := hV.1
    have hbl := hgb.1
    have hbh := hgb.2.1
    have hr9 := RT_le hV.1 hV.2.1
    have hr0 := hV.2.1.1
    have hw := wk_f hV.1 hV.2.1 (k := (ss i).toNat) (by omega)
    refine g_astore_n C dX6_isRead_20 (by decide) rfl ?_
    refine g_aload_n C dX6_isRead_21 rfl ?_
    refine g_get (ci := 8) C rfl inTX6 3 (by decide) fl_RX6_30 rfl hC.o rfl dX6_isRead_22 ?_
    refine g_aload_n C dX6_isRead_25 rfl ?_
    refine g_get (ci := 6) C rfl inTX4 1 (by decide) fl_RX6_72 rfl (hC.W i (by omega)).1 rfl dX6_isRead_26 ?_
    refine g_callV C (s_X1_top _ hF (k := ss i) (by omega)) (ci := 3) rfl hF.1 rfl ml_RX6_119 im_yX1_top se_RX1_yX1_top in_RX1 co_yX1_top hd_X1_top rfl ⟨by omega, by omega⟩ rfl (Nat.le_of_ble_eq_true rfl) ⟨by omega, by omega⟩ dX6_isRead_29 (fun v29 w29 hp29 => ?_)
    obtain ⟨⟨j29, rfl, hj29a, hj29b, hj29⟩, hw29⟩ := hp29
    subst w29
    have f29 := hG.top (k := ss i) (j := j29) (by omega) (by have := hj29 (by omega); omega)
    refine g_astore C dX6_isRead_32 (by decide) rfl ?_
    refine g_aload_n C dX6_isRead_34 rfl ?_
    refine g_get (ci := 8) C rfl inTX6 3 (by decide) fl_RX6_30 rfl hC.o rfl dX6_isRead_35 ?_
    refine g_aload_n C dX6_isRead_38 rfl ?_
    refine g_get (ci := 6) C rfl inTX4 1 (by decide) fl_RX6_72 rfl (hC.W i (by omega)).1 rfl dX6_isRead_39 ?_
    refine g_callV C (s_X1_bottom _ hF (k := ss i) (by omega)) (ci := 3) rfl hF.1 rfl ml_RX6_123 im_yX1_bottom se_RX1_yX1_bottom in_RX1 co_yX1_bottom hd_X1_bottom rfl ⟨by omega, by omega⟩ rfl (Nat.le_of_ble_eq_true rfl) ⟨by omega, by omega⟩ dX6_isRead_42 (fun v42 w42 hp42 => ?_)
    obtain ⟨⟨j42, rfl, hj42a, hj42b, hj42⟩, hw42⟩ := hp42
    subst w42
    have f42 := hG.bot (k := ss i) (j := j42) (by omega) (by have := hj42 (by omega); omega)
    refine g_astore C dX6_isRead_45 (by decide) rfl ?_
    refine g_iload_n C dX6_isRead_47 rfl ?_
    refine g_if_ne (tgt := 83) C dX6_isRead_48 (by decide) (by omega) (fun h48 => ?_) (fun h48 => ?_)
    · refine g_aload_n C dX6_isRead_83 rfl ?_
      refine g_get (ci := 8) C rfl inTX6 4 (by decide) fl_RX6_37 rfl hC.o rfl dX6_isRead_84 ?_
      refine g_aload C dX6_isRead_87 rfl ?_
      refine g_aload C dX6_isRead_89 rfl ?_
      refine g_iload_n C dX6_isRead_91 rfl ?_
      refine t_callV C hT (t_X0_areReadFromText _ hC.N hC.D (j := j29) (k := j42) (by omega) (by omega) (rx := z) (by omega) (Int.le_of_lt hw.2.2.2.2.1) (Int.le_of_lt hw.2.2.2.2.2.1) f29 f42) (RcV.ob (ci := 2) C rfl hC.D) rfl ml_RX6_130 im_yX0_areReadFromText se_RX0_yX0_areReadFromText in_RX0 co_yX0_areReadFromText hd_X0_areReadFromText rfl ⟨by omega, by omega⟩ rfl (Nat.le_of_ble_eq_true rfl) ⟨by omega, by omega⟩ dX6_isRead_92 (fun v92 w92 hp92 => ?_)
      obtain ⟨rfl, hN92, hk92⟩ := hp92
      replace hC := hC.kn hk92 hN92
      replace hK := hK.tr hk92.kc
      replace hF := hF.kn hk92 hN92
      replace hG := hG.kn hk92 hN92
      replace f29 := hk92.nw hN92 (by omega) f29
      replace f42 := hk92.nw hN92 (by omega) f42
      exact g_zreturn C hQ dX6_isRead_95 (nar01 (by omega)) (by omega) (by omega) ⟨⟨_, rfl, Or.inr rfl, rfl⟩, hC, hK⟩
    · refine g_aload_n C dX6_isRead_51 rfl ?_
      refine g_get (ci := 8) C rfl inTX6 4 (by decide) fl_RX6_37 rfl hC.o rfl dX6_isRead_52 ?_
      refine g_aload C dX6_isRead_55 rfl ?_
      refine g_callV C (t_X0_isReadFromBytes _ hC.N hC.D (j := j29) (by omega) (Int.le_of_lt hw.2.2.2.2.1) f29) (ci := 2) rfl hC.D rfl ml_RX6_126 im_yX0_isReadFromBytes se_RX0_yX0_isReadFromBytes in_RX0 co_yX0_isReadFromBytes hd_X0_isReadFromBytes rfl ⟨by omega, by omega⟩ rfl (Nat.le_of_ble_eq_true rfl) ⟨by omega, by omega⟩ dX6_isRead_57 (fun v57 w57 hp57 => ?_)
      obtain ⟨rfl, hN57, hk57⟩ := hp57
      replace hC := hC.kn hk57 hN57
      replace hK := hK.tr hk57.kc
      replace hF := hF.kn hk57 hN57
      replace hG := hG.kn hk57 hN57
      replace f29 := hk57.nw hN57 (by omega) f29
      replace f42 := hk57.nw hN57 (by omega) f42
      refine g_if_eq (tgt := 79) C dX6_isRead_60 (by decide) (by omega) (fun h60 => ?_) (fun h60 => ?_)
      · omega
      · refine g_aload_n C dX6_isRead_63 rfl ?_
        refine g_get (ci := 8) C rfl inTX6 4 (by decide) fl_RX6_37 rfl hC.o rfl dX6_isRead_64 ?_
        refine g_aload C dX6_isRead_67 rfl ?_
        refine g_callV C (t_X0_isReadFromBytes _ hC.N hC.D (j := j42) (by omega) (Int.le_of_lt hw.2.2.2.2.2.1) f42) (ci := 2) rfl hC.D rfl ml_RX6_126 im_yX0_isReadFromBytes se_RX0_yX0_isReadFromBytes in_RX0 co_yX0_isReadFromBytes hd_X0_isReadFromBytes rfl ⟨by omega, by omega⟩ rfl (Nat.le_of_ble_eq_true rfl) ⟨by omega, by omega⟩ dX6_isRead_69 (fun v69 w69 hp69 => ?_)
        obtain ⟨rfl, hN69, hk69⟩ := hp69
        replace hC := hC.kn hk69 hN69
        replace hK := hK.tr hk69.kc
        replace hF := hF.kn hk69 hN69
        replace hG := hG.kn hk69 hN69
        replace f29 := hk69.nw hN69 (by omega) f29
        replace f42 := hk69.nw hN69 (by omega) f42
        refine g_if_eq (tgt := 79) C dX6_isRead_72 (by decide) (by omega) (fun h72 => ?_) (fun h72 => ?_)
        · omega
        · refine g_iconst C dX6_isRead_75 ?_
          refine g_goto (tgt := 95) C dX6_isRead_76 (by decide) ?_
          exact g_zreturn C hQ dX6_isRead_95 (nar01 (by omega)) (by omega) (by omega) ⟨⟨_, rfl, Or.inr rfl, rfl⟩, hC, hK⟩
  refine g_iload_n C dX6_isRead_4 rfl ?_
  refine g_if_eq (tgt := 15) C dX6_isRead_5 (by decide) (by omega) (fun h5 => ?_) (fun h5 => ?_)
  · exact J15
  · refine g_iload_n C dX6_isRead_8 rfl ?_
    refine g_iconst C dX6_isRead_9 ?_
    refine g_bipush C dX6_isRead_10 (by decide) ?_
    refine g_callS C (s_X6_checkRange _ (v := z) (lo := 2) (hi := 16) (by omega) (by omega) (by omega)) ml_RX6_82 sm_yX6_checkRange in_RX6 co_yX6_checkRange hd_X6_checkRange rfl ⟨by omega, by omega⟩ rfl (Nat.le_of_ble_eq_true rfl) ⟨by omega, by omega⟩ dX6_isRead_12 (fun v12 w12 hp12 => ?_)
    obtain ⟨rfl, hw12⟩ := hp12
    subst w12
    exact J15
set_option maxHeartbeats 4000000 in
set_option maxRecDepth 100000 in
theorem s_X6_isNear (l : Launch) {K : KC} {E : GE} {w : Wd} {τ ad : Nat → Nat} {bs ss : Nat → Int} {pb : Nat → PT} {P Q : Nat → Nat} {ct : Nat → Int} (hC0 : CS τ ad w bs ss pb P Q ct) {i : Nat} (hi : i < 3) {z : Int} (hz : 1 ≤ z ∧ z ≤ 3) : St K E l yX6_isNear cX6_isNear 5 (some .boolean) 6 (0) (0) [.ref (ad 100), iI (i : Int), iI z] w (fun r' w' => (∃ x : Int, r' = some (iI x) ∧ (x = 0 ∨ x = 1) ∧ ∃ r, RT (bs i) r ∧ (x = 1 ∧ nearP (bs i) r z (ss i).toNat ∨ x = 0 ∧ ¬ nearP (bs i) r z (ss i).toNat)) ∧ CS τ ad w' (bs) (ss) (pb) (P) (Q) (ct) ∧ KO τ w w') := by
  refine st_intro [some (.ref (ad 100)), some (iI (i : Int)), some (iI z), none, none] rfl (Nat.le_of_ble_eq_true rfl) pn_X6 ?_
  intro X C hT hRm hl hnm hQ
  obtain ⟨hRf, hRl, hRc, hRs⟩ := hRm
  refine g_wf (fun hwf => ?_)
  have hC := hC0
  have hK : KO τ w w := KO.rf _ _
  refine g_iload_n C dX6_isNear_0 rfl ?_
  refine g_callS C (s_X6_checkThing _ (v := (i : Int)) (by omega)) ml_RX6_61 sm_yX6_checkThing in_RX6 co_yX6_checkThing hd_X6_checkThing rfl ⟨by omega, by omega⟩ rfl (Nat.le_of_ble_eq_true rfl) ⟨by omega, by omega⟩ dX6_isNear_1 (fun v1 w1 hp1 => ?_)
  obtain ⟨rfl, hw1⟩ := hp1
  subst w1
  refine g_iload_n C dX6_isNear_4 rfl ?_
  refine g_iconst C dX6_isNear_5 ?_
  refine g_iconst C dX6_isNear_6 ?_
  refine g_callS C (s_X6_checkRange _ (v := z) (lo := 1) (hi := 3) (by omega) (by omega) (by omega)) ml_RX6_82 sm_yX6_checkRange in_RX6 co_yX6_checkRange hd_X6_checkRange rfl ⟨by omega, by omega⟩ rfl (Nat.le_of_ble_eq_true rfl) ⟨by omega, by omega⟩ dX6_isNear_7 (fun v7 w7 hp7 => ?_)
  obtain ⟨rfl, hw7⟩ := hp7
  subst w7
  refine g_aload_n C dX6_isNear_10 rfl ?_
  refine g_iload_n C dX6_isNear_11 rfl ?_
  refine t_callV C hT (s_X6_unfold _ hC (i := i) (by omega)) (RcV.ob (ci := 8) C rfl hC.o) rfl ml_RX6_90 im_yX6_unfold se_RX6_yX6_unfold in_RX6 co_yX6_unfold hd_X6_unfold rfl ⟨by omega, by omega⟩ rfl (Nat.le_of_ble_eq_true rfl) ⟨by omega, by omega⟩ dX6_isNear_12 (fun v12 w12 hp12 => ?_)
  obtain ⟨rfl, ⟨r, m, d, a, hF, hV, hG⟩, hc12, hk12⟩ := hp12
  replace hC := hc12
  replace hK := hK.tr hk12
  have hs := (hC.W i (by omega)).2.2
  have hgb := hV.1
  have hbl := hgb.1
  have hbh := hgb.2.1
  have hr9 := RT_le hV.1 hV.2.1
  have hr0 := hV.2.1.1
  have hw := wk_f hV.1 hV.2.1 (k := (ss i).toNat) (by omega)
  refine g_astore_n C dX6_isNear_15 (by decide) rfl ?_
  refine g_aload_n C dX6_isNear_16 rfl ?_
  refine g_get (ci := 8) C rfl inTX6 3 (by decide) fl_RX6_30 rfl hC.o rfl dX6_isNear_17 ?_
  refine g_aload_n C dX6_isNear_20 rfl ?_
  refine g_get (ci := 6) C rfl inTX4 1 (by decide) fl_RX6_72 rfl (hC.W i (by omega)).1 rfl dX6_isNear_21 ?_
  refine g_iconst C dX6_isNear_24 ?_
  refine g_iadd C dX6_isNear_25 ?_
  refine g_callV C (s_X1_bottom _ hF (k := (ss i + 1)) (by omega)) (ci := 3) rfl hF.1 rfl ml_RX6_123 im_yX1_bottom se_RX1_yX1_bottom in_RX1 co_yX1_bottom hd_X1_bottom rfl ⟨by omega, by omega⟩ rfl (Nat.le_of_ble_eq_true rfl) ⟨by omega, by omega⟩ dX6_isNear_26 (fun v26 w26 hp26 => ?_)
  obtain ⟨⟨j26, rfl, hj26a, hj26b, hj26⟩, hw26⟩ := hp26
  subst w26
  have f26 := hG.bot (k := (ss i + 1)) (j := j26) (by omega) (by have := hj26 (by omega); omega)
  rw [show (ss i + 1).toNat = (ss i).toNat + 1 by omega] at f26
  have bu := row_a hV.1 hV.2.1 (x := 0) (y := 1) (by omega) (by omega) (k := (ss i).toNat + 2) (by omega)
  have cg := cf_good hV.1 hV.2.1 (k := (ss i).toNat + 1) (by omega)
  have haN : aB ((pq (bs i) r 1 r (ss i).toNat).1 * (pq (bs i) r 1 r (ss i).toNat).1 - bs i * ((pq (bs i) r 0 1 (ss i).toNat).1 * (pq (bs i) r 0 1 (ss i).toNat).1)) = (cf (bs i) r ((ss i).toNat + 1)).2.1 := by
    rw [hw.2.2.2.1]
    split
    · exact aB_p (by omega)
    · rw [aB_neg]; exact aB_p (by omega)
  refine g_astore C dX6_isNear_29 (by decide) rfl ?_
  refine g_aload_n C dX6_isNear_31 rfl ?_
  refine g_get (ci := 8) C rfl inTX6 4 (by decide) fl_RX6_37 rfl hC.o rfl dX6_isNear_32 ?_
  refine g_aload_n C dX6_isNear_35 rfl ?_
  refine g_get (ci := 6) C rfl inTX4 0 (by decide) fl_RX6_68 rfl (hC.W i (by omega)).1 rfl dX6_isNear_36 ?_
  refine g_aload_n C dX6_isNear_39 rfl ?_
  refine g_get (ci := 8) C rfl inTX6 3 (by decide) fl_RX6_30 rfl hC.o rfl dX6_isNear_40 ?_
  refine g_aload_n C dX6_isNear_43 rfl ?_
  refine g_get (ci := 6) C rfl inTX4 1 (by decide) fl_RX6_72 rfl (hC.W i (by omega)).1 rfl dX6_isNear_44 ?_
  refine g_callV C (s_X1_top _ hF (k := ss i) (by omega)) (ci := 3) rfl hF.1 rfl ml_RX6_119 im_yX1_top se_RX1_yX1_top in_RX1 co_yX1_top hd_X1_top rfl ⟨by omega, by omega⟩ rfl (Nat.le_of_ble_eq_true rfl) ⟨by omega, by omega⟩ dX6_isNear_47 (fun v47 w47 hp47 => ?_)
  obtain ⟨⟨j47, rfl, hj47a, hj47b, hj47⟩, hw47⟩ := hp47
  subst w47
  have f47 := hG.top (k := ss i) (j := j47) (by omega) (by have := hj47 (by omega); omega)
  refine g_aload_n C dX6_isNear_50 rfl ?_
  refine g_get (ci := 8) C rfl inTX6 3 (by decide) fl_RX6_30 rfl hC.o rfl dX6_isNear_51 ?_
  refine g_aload_n C dX6_isNear_54 rfl ?_
  refine g_get (ci := 6) C rfl inTX4 1 (by decide) fl_RX6_72 rfl (hC.W i (by omega)).1 rfl dX6_isNear_55 ?_
  refine g_callV C (s_X1_bottom _ hF (k := ss i) (by omega)) (ci := 3) rfl hF.1 rfl ml_RX6_123 im_yX1_bottom se_RX1_yX1_bottom in_RX1 co_yX1_bottom hd_X1_bottom rfl ⟨by omega, by omega⟩ rfl (Nat.le_of_ble_eq_true rfl) ⟨by omega, by omega⟩ dX6_isNear_58 (fun v58 w58 hp58 => ?_)
  obtain ⟨⟨j58, rfl, hj58a, hj58b, hj58⟩, hw58⟩ := hp58
  subst w58
  have f58 := hG.bot (k := ss i) (j := j58) (by omega) (by have := hj58 (by omega); omega)
  refine g_aload C dX6_isNear_61 rfl ?_
  refine g_iload_n C dX6_isNear_63 rfl ?_
  refine g_callV C (s_X0_isWithin _ hC.N hC.D (b := bs i) (n := z) (by omega) (by omega) (j := j47) (k := j58) (m := j26) (by omega) (by omega) (by omega) f47 hw.1.1 f58 hw.2.1.1 f26 bu (by rw [haN]; omega)) (ci := 2) rfl hC.D rfl ml_RX6_134 im_yX0_isWithin se_RX0_yX0_isWithin in_RX0 co_yX0_isWithin hd_X0_isWithin rfl ⟨by omega, by omega⟩ rfl (Nat.le_of_ble_eq_true rfl) ⟨by omega, by omega⟩ dX6_isNear_64 (fun v64 w64 hp64 => ?_)
  obtain ⟨rfl, hN64, hk64⟩ := hp64
  replace hC := hC.kn hk64 hN64
  replace hK := hK.tr hk64.kc
  replace hF := hF.kn hk64 hN64
  replace hG := hG.kn hk64 hN64
  exact g_zreturn C hQ dX6_isNear_67 (nar01 (bI_01 _)) (by omega) (by omega) ⟨⟨_, rfl, bI_01 _, r, hV.2.1, by
    rw [haN]
    have e : (cf (bs i) r ((ss i).toNat + 1)).2.1 * (pq (bs i) r 0 1 ((ss i).toNat + 1)).1 * z - (pq (bs i) r 1 r (ss i).toNat).1 = nearO (bs i) r z (ss i).toNat := by unfold nearO; grind
    rw [e, Int.mul_comm _ (bs i)]
    by_cases c : nearP (bs i) r z (ss i).toNat
    · exact Or.inl ⟨bI_t c, c⟩
    · exact Or.inr ⟨bI_f c, c⟩⟩, hC, hK⟩
set_option maxHeartbeats 4000000 in
set_option maxRecDepth 100000 in
theorem s_X6_decimals (l : Launch) {K : KC} {E : GE} {w : Wd} {τ ad : Nat → Nat} {bs ss : Nat → Int} {pb : Nat → PT} {P Q : Nat → Nat} {ct : Nat → Int} (hC0 : CS τ ad w bs ss pb P Q ct) {i : Nat} (hi : i < 3) {z : Nat} (hz : z ≤ 16) : St K E l yX6_decimals cX6_decimals 3 (some (.object "java/lang/String")) 9 (61) (2600) [.ref (ad 100), iI (i : Int), iI (z : Int)] w (fun r' w' => (∃ s : Nat, r' = some (.ref s)) ∧ CS τ ad w' (bs) (ss) (pb) (P) (Q) (ct) ∧ KO τ w w') := by
  refine st_intro [some (.ref (ad 100)), some (iI (i : Int)), some (iI (z : Int))] rfl (Nat.le_of_ble_eq_true rfl) pn_X6 ?_
  intro X C hT hRm hl hnm hQ
  obtain ⟨hRf, hRl, hRc, hRs⟩ := hRm
  refine g_wf (fun hwf => ?_)
  have hC := hC0
  have hK : KO τ w w := KO.rf _ _
  refine g_iload_n C dX6_decimals_0 rfl ?_
  refine g_callS C (s_X6_checkThing _ (v := (i : Int)) (by omega)) ml_RX6_61 sm_yX6_checkThing in_RX6 co_yX6_checkThing hd_X6_checkThing rfl ⟨by omega, by omega⟩ rfl (Nat.le_of_ble_eq_true rfl) ⟨by omega, by omega⟩ dX6_decimals_1 (fun v1 w1 hp1 => ?_)
  obtain ⟨rfl, hw1⟩ := hp1
  subst w1
  refine g_iload_n C dX6_decimals_4 rfl ?_
  refine g_iconst C dX6_decimals_5 ?_
  refine g_bipush C dX6_decimals_6 (by decide) ?_
  refine g_callS C (s_X6_checkRange _ (v := (z : Int)) (lo := 0) (hi := 16) (by omega) (by omega) (by omega)) ml_RX6_82 sm_yX6_checkRange in_RX6 co_yX6_checkRange hd_X6_checkRange rfl ⟨by omega, by omega⟩ rfl (Nat.le_of_ble_eq_true rfl) ⟨by omega, by omega⟩ dX6_decimals_8 (fun v8 w8 hp8 => ?_)
  obtain ⟨rfl, hw8⟩ := hp8
  subst w8
  refine g_aload_n C dX6_decimals_11 rfl ?_
  refine g_get (ci := 8) C rfl inTX6 4 (by decide) fl_RX6_37 rfl hC.o rfl dX6_decimals_12 ?_
  refine g_aload_n C dX6_decimals_15 rfl ?_
  refine g_aload_n C dX6_decimals_16 rfl ?_
  refine g_iload_n C dX6_decimals_17 rfl ?_
  refine t_callV C hT (s_X6_unfold _ hC (i := i) (by omega)) (RcV.ob (ci := 8) C rfl hC.o) rfl ml_RX6_90 im_yX6_unfold se_RX6_yX6_unfold in_RX6 co_yX6_unfold hd_X6_unfold rfl ⟨by omega, by omega⟩ rfl (Nat.le_of_ble_eq_true rfl) ⟨by omega, by omega⟩ dX6_decimals_18 (fun v18 w18 hp18 => ?_)
  obtain ⟨rfl, ⟨r, m, d, a, hF, hV, hG⟩, hc18, hk18⟩ := hp18
  replace hC := hc18
  replace hK := hK.tr hk18
  have hs := (hC.W i (by omega)).2.2
  have hgb := hV.1
  have hbl := hgb.1
  have hbh := hgb.2.1
  have hr9 := RT_le hV.1 hV.2.1
  have hr0 := hV.2.1.1
  have hw := wk_f hV.1 hV.2.1 (k := (ss i).toNat) (by omega)
  refine g_iload_n C dX6_decimals_21 rfl ?_
  refine g_callV C (s_X6_walkDecimals _ hC hi hF hV hG (z := z) hz) (ci := 8) rfl hC.o rfl ml_RX6_138 im_yX6_walkDecimals se_RX6_yX6_walkDecimals in_RX6 co_yX6_walkDecimals hd_X6_walkDecimals rfl ⟨by omega, by omega⟩ rfl (Nat.le_of_ble_eq_true rfl) ⟨by omega, by omega⟩ dX6_decimals_22 (fun v22 w22 hp22 => ?_)
  obtain ⟨rfl, hc22, hk22⟩ := hp22
  replace hC := hc22
  replace hK := hK.tr hk22
  obtain ⟨x22, ex22, hx22, hx222⟩ := gen64 (Int64.ofInt ((pq (bs i) r 1 r (ss i).toNat).1 * 10 ^ z / (pq (bs i) r 0 1 (ss i).toNat).1))
  rw [show jJ ((pq (bs i) r 1 r (ss i).toNat).1 * 10 ^ z / (pq (bs i) r 0 1 (ss i).toNat).1) = jJ x22 from congrArg Value.long ex22]
  refine t_callV C hT (s_X0_longText _ hC.N hC.D (x := x22) (by omega)) (RcV.ob (ci := 2) C rfl hC.D) rfl ml_RX6_142 im_yX0_longText se_RX0_yX0_longText in_RX0 co_yX0_longText hd_X0_longText rfl ⟨by omega, by omega⟩ rfl (Nat.le_of_ble_eq_true rfl) ⟨by omega, by omega⟩ dX6_decimals_25 (fun v25 w25 hp25 => ?_)
  obtain ⟨⟨s25, rfl⟩, hN25, hk25⟩ := hp25
  replace hC := hC.kn hk25 hN25
  replace hK := hK.tr hk25.kc
  exact g_areturn C (Or.inl ⟨_, rfl⟩) hQ (Or.inr ⟨_, rfl⟩) dX6_decimals_28 (by omega) (by omega) ⟨⟨s25, rfl⟩, hC, hK⟩
theorem rt_dn {b Y : Int} {e : Nat} (h : RT (b * 100 ^ (e + 1)) Y) : RT (b * 100 ^ e) (Y / 10) := by
  obtain ⟨h0, h1, h2⟩ := h
  have q0 : 0 ≤ Y / 10 := Int.ediv_nonneg h0 (by decide)
  have q1 : Y / 10 * 10 ≤ Y := by omega
  have q2 : Y + 1 ≤ (Y / 10 + 1) * 10 := by omega
  have e1 := Int.mul_le_mul q1 q1 (by omega) h0
  have e2 := Int.mul_le_mul q2 q2 (by omega) (by omega)
  rw [Int.pow_succ, ← Int.mul_assoc] at h1 h2
  have g1 : Y / 10 * 10 * (Y / 10 * 10) = Y / 10 * (Y / 10) * 100 := by grind
  have g2 : (Y / 10 + 1) * 10 * ((Y / 10 + 1) * 10) = (Y / 10 + 1) * (Y / 10 + 1) * 100 := by grind
  exact ⟨q0, by omega, by omega⟩
theorem dc_dn {P Q : Int} (hQ : 0 < Q) (e : Nat) : P * 10 ^ (e + 1) / Q / 10 = P * 10 ^ e / Q := by
  rw [Int.ediv_ediv_of_nonneg (Int.le_of_lt hQ), Int.pow_succ, ← Int.mul_assoc, Int.mul_ediv_mul_of_pos_left _ _ (show (0 : Int) < 10 by decide)]
theorem dc_r {P Q : Int} (hP : 0 ≤ P) (hPQ : P ≤ 10 * Q) (hQ : 0 < Q) {e : Nat} (he : e ≤ 16) : 0 ≤ P * 10 ^ e / Q ∧ P * 10 ^ e / Q ≤ 100000000000000000 := by
  have p : (0 : Int) < 10 ^ e := Int.pow_pos (by decide)
  have e2 : (10 : Int) ^ 16 = 10 ^ e * 10 ^ (16 - e) := by rw [← Int.pow_add]; congr 1; omega
  have p2 : (1 : Int) ≤ 10 ^ (16 - e) := Int.pow_pos (n := 10) (by decide)
  have h1 := Int.mul_le_mul_of_nonneg_left p2 (Int.le_of_lt p)
  rw [← e2, show (10 : Int) ^ 16 = 10000000000000000 by decide] at h1
  refine ⟨Int.ediv_nonneg (Int.mul_nonneg hP (Int.le_of_lt p)) (Int.le_of_lt hQ), Int.ediv_le_of_le_mul hQ ?_⟩
  have h2 := Int.mul_le_mul hPQ (show (10 : Int) ^ e ≤ 10000000000000000 by omega) (Int.le_of_lt p) (by omega)
  omega
/-- the last places that agree are n - 1 -/
def alkP (b P Q : Int) (n : Nat) : Prop := ∃ Y : Nat → Int, (∀ e, e ≤ 16 → RT (b * 100 ^ e) (Y e)) ∧ (∀ e, n ≤ e → e < 17 → P * 10 ^ e / Q ≠ Y e) ∧ (1 ≤ n → P * 10 ^ (n - 1) / Q = Y (n - 1))
theorem rt_all {b Y : Int} (h : RT (b * 100 ^ 16) Y) : ∃ f : Nat → Int, f 16 = Y ∧ (∀ e, e ≤ 16 → RT (b * 100 ^ e) (f e)) ∧ ∀ e, e < 16 → f (e + 1) / 10 = f e := by
  have key : ∀ n : Nat, n ≤ 16 → RT (b * 100 ^ (16 - n)) (Y / 10 ^ n) := by
    intro n
    induction n with
    | zero => intro _; rw [Int.pow_zero, Int.ediv_one]; exact h
    | succ n ih =>
      intro hn
      have := ih (by omega)
      rw [show 16 - n = (16 - (n + 1)) + 1 by omega] at this
      have g := rt_dn this
      rw [Int.ediv_ediv_of_nonneg (Int.le_of_lt (Int.pow_pos (by decide))), ← Int.pow_succ] at g
      exact g
  refine ⟨fun e => Y / 10 ^ (16 - e), ?_, fun e he => ?_, fun e he => ?_⟩
  · show Y / 10 ^ 0 = Y
    rw [Int.pow_zero, Int.ediv_one]
  · have := key (16 - e) (by omega)
    rw [show 16 - (16 - e) = e by omega] at this
    exact this
  · show Y / 10 ^ (16 - (e + 1)) / 10 = Y / 10 ^ (16 - e)
    rw [Int.ediv_ediv_of_nonneg (Int.le_of_lt (Int.pow_pos (by decide))), ← Int.pow_succ, show (16 - (e + 1)).succ = 16 - e by omega]
theorem g_ldivT {E X own cc nL ret pc L st w k n} (C : CX E X own cc nL ret) {x y : Int} (d : decode cc pc = .ok (.ldiv, 1)) (hx : -9223372036854775808 ≤ x ∧ x < 9223372036854775808) (hy : 1 < y ∧ y < 9223372036854775808) (kk : G E X nL (pc + 1) L (jJ (x.tdiv y) :: st) w k n) : G E X nL pc L (jJ y :: jJ x :: st) w k n := by
  exact fun H locs ls h1 h2 h3 => lv_ldiv C.ex C.co d (by rw [show (0 : Int64) = Int64.ofInt 0 from rfl, j_eq (by omega) (by omega)]; omega) (by
    rw [show Int64.ofInt x / Int64.ofInt y = Int64.ofInt (x.tdiv y) from (Int64.ofInt_tdiv (by show -9223372036854775808 ≤ x; omega) (by show x ≤ 9223372036854775807; omega) (by show -9223372036854775808 ≤ y; omega) (by show y ≤ 9223372036854775807; omega)).symm]
    exact kk H locs ls h1 h2 h3)
set_option maxHeartbeats 4000000 in
set_option maxRecDepth 100000 in
theorem s_X6_alike (l : Launch) {K : KC} {E : GE} {w : Wd} {τ ad : Nat → Nat} {bs ss : Nat → Int} {pb : Nat → PT} {P Q : Nat → Nat} {ct : Nat → Int} (hC0 : CS τ ad w bs ss pb P Q ct) {i : Nat} (hi : i < 3) : St K E l yX6_alike cX6_alike 8 (some .int) 6 (0) (0) [.ref (ad 100), iI (i : Int)] w (fun r' w' => (∃ x : Int, r' = some (iI x) ∧ ∃ r, RT (bs i) r ∧ ∃ n : Nat, n ≤ 17 ∧ x = (n : Int) - 1 ∧ alkP (bs i) (pq (bs i) r 1 r (ss i).toNat).1 (pq (bs i) r 0 1 (ss i).toNat).1 n) ∧ CS τ ad w' (bs) (ss) (pb) (P) (Q) (ct) ∧ KO τ w w') := by
  refine st_intro [some (.ref (ad 100)), some (iI (i : Int)), none, none, none, none, none, none] rfl (Nat.le_of_ble_eq_true rfl) pn_X6 ?_
  intro X C hT hRm hl hnm hQ
  obtain ⟨hRf, hRl, hRc, hRs⟩ := hRm
  refine g_wf (fun hwf => ?_)
  have hC := hC0
  have hK : KO τ w w := KO.rf _ _
  refine g_iload_n C dX6_alike_0 rfl ?_
  refine g_callS C (s_X6_checkThing _ (v := (i : Int)) (by omega)) ml_RX6_61 sm_yX6_checkThing in_RX6 co_yX6_checkThing hd_X6_checkThing rfl ⟨by omega, by omega⟩ rfl (Nat.le_of_ble_eq_true rfl) ⟨by omega, by omega⟩ dX6_alike_1 (fun v1 w1 hp1 => ?_)
  obtain ⟨rfl, hw1⟩ := hp1
  subst w1
  refine g_aload_n C dX6_alike_4 rfl ?_
  refine g_iload_n C dX6_alike_5 rfl ?_
  refine t_callV C hT (s_X6_unfold _ hC (i := i) (by omega)) (RcV.ob (ci := 8) C rfl hC.o) rfl ml_RX6_90 im_yX6_unfold se_RX6_yX6_unfold in_RX6 co_yX6_unfold hd_X6_unfold rfl ⟨by omega, by omega⟩ rfl (Nat.le_of_ble_eq_true rfl) ⟨by omega, by omega⟩ dX6_alike_6 (fun v6 w6 hp6 => ?_)
  obtain ⟨rfl, ⟨r, m, d, a, hF, hV, hG⟩, hc6, hk6⟩ := hp6
  replace hC := hc6
  replace hK := hK.tr hk6
  have hs := (hC.W i (by omega)).2.2
  have hgb := hV.1
  have hbl := hgb.1
  have hbh := hgb.2.1
  have hr9 := RT_le hV.1 hV.2.1
  have hr0 := hV.2.1.1
  have hw := wk_f hV.1 hV.2.1 (k := (ss i).toNat) (by omega)
  refine g_astore_n C dX6_alike_9 (by decide) rfl ?_
  refine g_aload_n C dX6_alike_10 rfl ?_
  refine g_aload_n C dX6_alike_11 rfl ?_
  refine g_bipush C dX6_alike_12 (by decide) ?_
  refine g_callV C (s_X6_walkDecimals _ hC hi hF hV hG (z := 16) (by omega)) (ci := 8) rfl hC.o rfl ml_RX6_138 im_yX6_walkDecimals se_RX6_yX6_walkDecimals in_RX6 co_yX6_walkDecimals hd_X6_walkDecimals rfl ⟨by omega, by omega⟩ rfl (Nat.le_of_ble_eq_true rfl) ⟨by omega, by omega⟩ dX6_alike_14 (fun v14 w14 hp14 => ?_)
  obtain ⟨rfl, hc14, hk14⟩ := hp14
  replace hC := hc14
  replace hK := hK.tr hk14
  refine g_lstore_n C dX6_alike_17 (by decide) rfl ?_
  refine g_aload_n C dX6_alike_18 rfl ?_
  refine g_get (ci := 6) C rfl inTX4 0 (by decide) fl_RX6_68 rfl (hC.W i (by omega)).1 rfl dX6_alike_19 ?_
  refine g_bipush C dX6_alike_22 (by decide) ?_
  refine g_callS C (s_X6_rootDecimals _ (b := bs i) (n := 16) (by omega) (by omega)) ml_RX6_146 sm_yX6_rootDecimals in_RX6 co_yX6_rootDecimals hd_X6_rootDecimals rfl ⟨by omega, by omega⟩ rfl (Nat.le_of_ble_eq_true rfl) ⟨by omega, by omega⟩ dX6_alike_24 (fun v24 w24 hp24 => ?_)
  obtain ⟨⟨x24, rfl, hx24⟩, hw24⟩ := hp24
  subst w24
  obtain ⟨Yf, hY0, hY1, hY2⟩ := rt_all hx24
  rw [← hY0]
  obtain ⟨Pv, hPv⟩ : ∃ v, v = (pq (bs i) r 1 r (ss i).toNat).1 := ⟨_, rfl⟩
  obtain ⟨Qv, hQv⟩ : ∃ v, v = (pq (bs i) r 0 1 (ss i).toNat).1 := ⟨_, rfl⟩
  obtain ⟨-, -, -, -, wk3, wk4, wk5⟩ := id hw
  rw [← hPv] at wk3 wk5
  rw [← hQv] at wk4 wk5
  rw [← hPv, ← hQv]
  refine g_lstore C dX6_alike_27 (by decide) rfl ?_
  refine g_bipush C dX6_alike_29 (by decide) ?_
  refine g_istore C dX6_alike_31 (by decide) rfl ?_
  refine g_gen (fun u33 hu33 => ?_)
  rw [← hu33] at hC hK
  refine g_loop (σ := Nat × Int × Int) (fun s => s.1 ≤ 17 ∧ (1 ≤ s.1 → s.2.1 = Pv * 10 ^ (s.1 - 1) / Qv ∧ s.2.2 = Yf (s.1 - 1)) ∧ (∀ e, s.1 ≤ e → e < 17 → Pv * 10 ^ e / Qv ≠ Yf e)) (fun s => G E X 8 33 [some (.ref (ad 100)), some (iI (i : Int)), some (.ref (ad (120 + i))), some (jJ (s.2.1)), none, some (jJ (s.2.2)), none, some (iI ((s.1 : Int) - 1))] [] u33 0 0) (fun s => s.1) ?_ (17, Pv * 10 ^ 16 / Qv, Yf 16) ⟨by dsimp only; omega, fun _ => ⟨rfl, rfl⟩, fun e h1 h2 => by dsimp only at h1; omega⟩
  rintro ⟨n, y, z⟩ ⟨hn, hyz, hne⟩ ih
  dsimp only at hn hyz hne ⊢
  refine g_iload C dX6_alike_33 rfl ?_
  refine g_if_lt (tgt := 68) C dX6_alike_35 (by decide) (by omega) (fun h35 => ?_) (fun h35 => ?_)
  · refine g_iconst C dX6_alike_68 ?_
    exact g_ireturn C hQ dX6_alike_69 (by omega) (by omega) ⟨⟨_, rfl, r, hV.2.1, 0, by omega, by omega, by rw [← hPv, ← hQv]; exact ⟨Yf, hY1, fun e h1 h2 => hne e (by omega) h2, fun h => by omega⟩⟩, hC, hK⟩
  · obtain ⟨m9, rfl⟩ : ∃ m, n = m + 1 := ⟨n - 1, by omega⟩
    obtain ⟨hy9, hz9⟩ := hyz (by omega)
    rw [Nat.add_sub_cancel] at hy9 hz9
    have hyr := dc_r (P := Pv) (Q := Qv) (by omega) wk5 wk4 (e := m9) (by omega)
    have hzr := rd_le (b := bs i) (by omega) (by omega) (hY1 m9 (by omega))
    rw [← hy9] at hyr
    rw [← hz9] at hzr
    refine g_lload_n C dX6_alike_38 rfl ?_
    refine g_lload C dX6_alike_39 rfl ?_
    refine g_lcmp C dX6_alike_41 (by omega) (by omega) (fun c41 hc41 => ?_)
    refine g_if_ne (tgt := 48) C dX6_alike_42 (by decide) (by omega) (fun h42 => ?_) (fun h42 => ?_)
    · refine g_lload_n C dX6_alike_48 rfl ?_
      refine g_ldc2 (z := 10) C kj_RX6_150 (by decide) dX6_alike_49 ?_
      refine g_ldivT C dX6_alike_52 (by omega) (by omega) ?_
      rw [show Int.tdiv y 10 = y / 10 from Int.tdiv_eq_ediv_of_nonneg (by omega)]
      refine g_lstore_n C dX6_alike_53 (by decide) rfl ?_
      refine g_lload C dX6_alike_54 rfl ?_
      refine g_ldc2 (z := 10) C kj_RX6_150 (by decide) dX6_alike_56 ?_
      refine g_ldivT C dX6_alike_59 (by omega) (by omega) ?_
      rw [show Int.tdiv z 10 = z / 10 from Int.tdiv_eq_ediv_of_nonneg (by omega)]
      refine g_lstore C dX6_alike_60 (by decide) rfl ?_
      refine g_iinc C dX6_alike_62 rfl (by decide) rfl ?_
      refine g_goto (tgt := 33) C dX6_alike_65 (by decide) ?_
      rw [show ((m9 + 1 : Nat) : Int) - 1 + -1 = ((m9 : Nat) : Int) - 1 by omega]
      exact ih (m9, y / 10, z / 10) ⟨by dsimp only; omega, fun h1 => by
        dsimp only at h1 ⊢
        obtain ⟨m8, rfl⟩ : ∃ m, m9 = m + 1 := ⟨m9 - 1, by omega⟩
        rw [Nat.add_sub_cancel, hy9, hz9]
        exact ⟨dc_dn wk4 m8, hY2 m8 (by omega)⟩, fun e h1 h2 => by
        dsimp only at h1
        by_cases c : e = m9
        · subst c
          rw [← hy9, ← hz9]
          omega
        · exact hne e (by omega) h2⟩ (by dsimp only; omega)
    · refine g_iload C dX6_alike_45 rfl ?_
      exact g_ireturn C hQ dX6_alike_47 (by omega) (by omega) ⟨⟨_, rfl, r, hV.2.1, m9 + 1, by omega, by omega, by rw [← hPv, ← hQv]; exact ⟨Yf, hY1, fun e h1 h2 => hne e h1 h2, fun _ => by rw [Nat.add_sub_cancel, ← hy9, ← hz9]; omega⟩⟩, hC, hK⟩
