set_option maxHeartbeats 4000000 in
set_option maxRecDepth 100000 in
theorem c_X8_tested (l : Launch) {E : GE} {w : Wd} {b r what : Int} {K q lo : Nat} (hb : GB b) (hr : RT b r) (hK : K ≤ 25) (hR : R4 lo w q (pq b r 1 r K).1 (pq b r 0 1 K).1 (pq b r 1 r K).2 (pq b r 0 1 K).2) (hw : 0 ≤ what ∧ what ≤ 2) : Sp E l yX8_tested cX8_tested 3 (some .int) 5 (11) (124) [iI b, .ref q, iI what] w (fun r1 w' => r1 = some (iI (tstV b r K what)) ∧ Ex w w') := by
  refine sp_intro [some (iI b), some (.ref q), some (iI what)] rfl (Nat.le_of_ble_eq_true rfl) pn_X8 ?_
  intro X C hRm hl hnm hQ
  obtain ⟨hRf, hRl, hRc, hRs⟩ := hRm
  refine g_wf (fun hwf => ?_)
  obtain ⟨R, a0, a1, a2, a3, hR0, k0, k1, k2, k3, l0, l1, l2, l3, lo0, lo1, lo2, lo3⟩ := id hR
  obtain ⟨n0, f0, e0, b0, d0⟩ := id l0
  obtain ⟨n1, f1, e1, b1, d1⟩ := id l1
  obtain ⟨n2, f2, e2, b2, d2⟩ := id l2
  obtain ⟨n3, f3, e3, b3, d3⟩ := id l3
  obtain ⟨wk1, wk2, wk3, wk4, wk5⟩ := wk_good hb hr hK
  have hb1 := hb.1
  have hb2 := hb.2.1
  refine g_iload_n C dX8_tested_0 rfl ?_
  refine g_if_ne (tgt := 14) C dX8_tested_1 (by decide) (by omega) (fun h1 => ?_) (fun h1 => ?_)
  · have J53 : ∀ (qq mm : Nat) (g : Nat → Int) (z : Int) (u : Wd), u.2 qq = some (true, eI mm g) → BN g mm z → mm ≤ 25 → Ex w u → z = tstV b r K what → G E X 3 53 [some (iI b), some (.ref q), some (iI what)] [.ref qq] u 11 124 := by
      intro qq mm g z u hqq hbb hmm xu hz
      refine g_callS C (c_X8_last _ hqq hbb (by omega)) ml_RX8_181 sm_yX8_last in_RX8 co_yX8_last hd_X8_last rfl ⟨by omega, by omega⟩ rfl (Nat.le_of_ble_eq_true rfl) ⟨by omega, by omega⟩ dX8_tested_53 (fun v53 w53 hp53 => ?_)
      obtain ⟨rfl, hw53⟩ := hp53
      subst w53
      refine g_l2i C dX8_tested_56 ?_
      exact g_ireturn C hQ dX8_tested_57 (by omega) (by omega) ⟨by rw [hz], xu⟩
    refine g_iload_n C dX8_tested_14 rfl ?_
    refine g_iconst C dX8_tested_15 ?_
    refine g_icmp_ne (tgt := 43) C dX8_tested_16 (by decide) (by omega) (by omega) (fun h16 => ?_) (fun h16 => ?_)
    · refine g_iload_n C dX8_tested_43 rfl ?_
      refine g_aload_n C dX8_tested_44 rfl ?_
      refine g_iconst C dX8_tested_45 ?_
      refine g_aaloadN (0) C rfl rfl hR0 (by omega) (by omega) k0 dX8_tested_46 ?_
      refine g_aload_n C dX8_tested_47 rfl ?_
      refine g_iconst C dX8_tested_48 ?_
      refine g_aaloadN (1) C rfl rfl hR0 (by omega) (by omega) k1 dX8_tested_49 ?_
      refine g_callS C (c_X8_norm _ (c := 5) e0 e1 b0 b1 (by omega) (by omega) (by omega) (by omega)) ml_RX8_188 sm_yX8_norm in_RX8 co_yX8_norm hd_X8_norm rfl ⟨by omega, by omega⟩ rfl (Nat.le_of_ble_eq_true rfl) ⟨by omega, by omega⟩ dX8_tested_50 (fun v50 w50 hp50 => ?_)
      obtain ⟨q50, m50, g50, rfl, h50, hb50, hm50, hx50, hq50⟩ := hp50
      first
      | exact g_widen (by omega) (by omega) (J53 q37 m37 g37 _ _ h37 hb37 (by omega) ((hx25.tr hx34).tr hx37) (by unfold tstV; rw [if_neg (by omega), if_pos (by omega)]; exact wk1))
      | exact g_widen (by omega) (by omega) (J53 q50 m50 g50 _ _ h50 hb50 (by omega) hx50 (by unfold tstV; rw [if_neg (by omega), if_neg (by omega)]; exact wk2))
    · refine g_aload_n C dX8_tested_19 rfl ?_
      refine g_iconst C dX8_tested_20 ?_
      refine g_aaloadN (0) C rfl rfl hR0 (by omega) (by omega) k0 dX8_tested_21 ?_
      refine g_aload_n C dX8_tested_22 rfl ?_
      refine g_iconst C dX8_tested_23 ?_
      refine g_aaloadN (3) C rfl rfl hR0 (by omega) (by omega) k3 dX8_tested_24 ?_
      refine g_callS C (c_X8_times _ (c := 10) e0 e3 b0 b3 (by omega) (by omega)) ml_RX8_124 sm_yX8_times in_RX8 co_yX8_times hd_X8_times rfl ⟨by omega, by omega⟩ rfl (Nat.le_of_ble_eq_true rfl) ⟨by omega, by omega⟩ dX8_tested_25 (fun v25 w25 hp25 => ?_)
      obtain ⟨q25, m25, g25, rfl, h25, hb25, hm25, hx25, hq25⟩ := hp25
      refine g_aload_n C dX8_tested_28 rfl ?_
      refine g_iconst C dX8_tested_29 ?_
      refine g_aaloadN (2) C rfl rfl (hx25.2 _ _ hR0) (by omega) (by omega) k2 dX8_tested_30 ?_
      refine g_aload_n C dX8_tested_31 rfl ?_
      refine g_iconst C dX8_tested_32 ?_
      refine g_aaloadN (1) C rfl rfl (hx25.2 _ _ hR0) (by omega) (by omega) k1 dX8_tested_33 ?_
      refine g_callS C (c_X8_times _ (c := 10) (hx25.2 _ _ e2) (hx25.2 _ _ e1) b2 b1 (by omega) (by omega)) ml_RX8_124 sm_yX8_times in_RX8 co_yX8_times hd_X8_times rfl ⟨by omega, by omega⟩ rfl (Nat.le_of_ble_eq_true rfl) ⟨by omega, by omega⟩ dX8_tested_34 (fun v34 w34 hp34 => ?_)
      obtain ⟨q34, m34, g34, rfl, h34, hb34, hm34, hx34, hq34⟩ := hp34
      refine g_callS C (c_X8_minus _ (c := 10) (hx34.2 _ _ h25) h34 hb25 hb34 hm25 hm34 (by omega)) ml_RX8_127 sm_yX8_minus in_RX8 co_yX8_minus hd_X8_minus rfl ⟨by omega, by omega⟩ rfl (Nat.le_of_ble_eq_true rfl) ⟨by omega, by omega⟩ dX8_tested_37 (fun v37 w37 hp37 => ?_)
      obtain ⟨q37, m37, g37, rfl, h37, hb37, hm37, hx37, hq37⟩ := hp37
      refine g_goto (tgt := 53) C dX8_tested_40 (by decide) ?_
      first
      | exact g_widen (by omega) (by omega) (J53 q37 m37 g37 _ _ h37 hb37 (by omega) ((hx25.tr hx34).tr hx37) (by unfold tstV; rw [if_neg (by omega), if_pos (by omega)]; exact wk1))
      | exact g_widen (by omega) (by omega) (J53 q50 m50 g50 _ _ h50 hb50 (by omega) hx50 (by unfold tstV; rw [if_neg (by omega), if_neg (by omega)]; exact wk2))
  · refine g_aload_n C dX8_tested_4 rfl ?_
    refine g_iconst C dX8_tested_5 ?_
    refine g_aaloadN (0) C rfl rfl hR0 (by omega) (by omega) k0 dX8_tested_6 ?_
    refine g_aload_n C dX8_tested_7 rfl ?_
    refine g_iconst C dX8_tested_8 ?_
    refine g_aaloadN (1) C rfl rfl hR0 (by omega) (by omega) k1 dX8_tested_9 ?_
    refine g_callS C (c_X8_divisor _ l0 l1 wk3 wk4) ml_RX8_185 sm_yX8_divisor in_RX8 co_yX8_divisor hd_X8_divisor rfl ⟨by omega, by omega⟩ rfl (Nat.le_of_ble_eq_true rfl) ⟨by omega, by omega⟩ dX8_tested_10 (fun v10 w10 hp10 => ?_)
    obtain ⟨a10, rfl, r10, hc10, fr10⟩ := hp10
    have := hc10 (fun d h0 h1 h2 => wk_cop hb hr hK h0 h1 h2)
    subst this
    exact g_ireturn C hQ dX8_tested_13 (by omega) (by omega) ⟨by unfold tstV; rw [if_pos (by omega)], fr10.ex hwf⟩
set_option maxHeartbeats 4000000 in
set_option maxRecDepth 100000 in
theorem c_X8_test (l : Launch) {E : GE} {w : Wd} {v what : Int} (h_v : -2147483648 ≤ v ∧ v < 2147483648) (h_what : -2147483648 ≤ what ∧ what < 2147483648) {τ : Nat → Nat} {m : Nat} {A : MA} {th : Int} {ba st pb le ri : Nat → Int} {sp : Nat → Nat → Int} {ct : Nat → Int} (hM : MSx τ w m A th ba st pb le ri sp ct) (hB : ∀ i, i < 3 → GB (ba i)) (hS : ∀ i, i < 3 → 0 ≤ st i ∧ st i ≤ 24) : Sp E l yX8_test cX8_test 3 (some .int) 6 (21) (172) [.ref m, iI v, iI what] w (fun r' w' => ∃ (t ans : Int), r' = some (iI ans) ∧ MSx τ w' m A (t) (ba) (st) (pb) (le) (ri) (sp) (ct) ∧ Keep τ w w' ∧ (¬ (0 ≤ v ∧ v ≤ 2) ∧ t = 1 ∧ ans = 0 ∨ (0 ≤ v ∧ v ≤ 2) ∧ ¬ (0 ≤ what ∧ what ≤ 2) ∧ t = 2 ∧ ans = 0 ∨ (0 ≤ v ∧ v ≤ 2) ∧ (0 ≤ what ∧ what ≤ 2) ∧ t = 0 ∧ ∃ r, RT (ba v.toNat) r ∧ ans = tstV (ba v.toNat) r (st v.toNat).toNat what)) := by
  refine sp_intro [some (.ref m), some (iI v), some (iI what)] rfl (Nat.le_of_ble_eq_true rfl) pn_X8 ?_
  intro X C hRm hl hnm hQ
  obtain ⟨hRf, hRl, hRc, hRs⟩ := hRm
  refine g_wf (fun hwf => ?_)
  refine g_aload_n C dX8_test_0 rfl ?_
  refine g_iload_n C dX8_test_1 rfl ?_
  refine g_callS C (c_X8_isNo _ (v := v) h_v) ml_RX8_145 sm_yX8_isNo in_RX8 co_yX8_isNo hd_X8_isNo rfl ⟨by omega, by omega⟩ rfl (Nat.le_of_ble_eq_true rfl) ⟨by omega, by omega⟩ dX8_test_2 (fun v2 w2 hp2 => ?_)
  obtain ⟨rfl, hw2⟩ := hp2
  subst w2
  refine g_iconst C dX8_test_5 ?_
  refine g_callV C (c_X8_start _ hM (y := bI (¬ (0 ≤ v ∧ v ≤ 2))) (wh := 1) (bI_01 _) (by omega)) (ci := 10) rfl hM.o rfl ml_RX8_149 im_yX8_start se_RX8_yX8_start in_RX8 co_yX8_start hd_X8_start rfl ⟨by omega, by omega⟩ rfl (Nat.le_of_ble_eq_true rfl) ⟨by omega, by omega⟩ dX8_test_6 (fun v6 w6 hp6 => ?_)
  obtain ⟨t6, rfl, ht6, hM6, hK6⟩ := hp6
  have hy6 : (bI (¬ (0 ≤ v ∧ v ≤ 2))) = 0 ∨ (bI (¬ (0 ≤ v ∧ v ≤ 2))) = 1 := (bI_01 _)
  refine g_if_ne (tgt := 34) C dX8_test_9 (by decide) (bI_r _) (fun h9 => ?_) (fun h9 => ?_)
  · refine g_iconst C dX8_test_34 ?_
    refine g_goto (tgt := 53) C dX8_test_35 (by decide) ?_
    exact g_ireturn C hQ dX8_test_53 (by omega) (by omega) (by
      first
      | exact ⟨t, _, rfl, hM7.ex (x1.tr x2), hK67.tr (Keep.ex (x1.tr x2)), Or.inr (Or.inr ⟨hwk, by omega, by omega, r, hr, rfl⟩)⟩
      | exact ⟨t, _, rfl, hM7, hK67, Or.inr (Or.inl ⟨hwk, by have := bI_1 h31; omega, by have := bI_1 h31; omega, rfl⟩)⟩
      | exact ⟨t6, _, rfl, hM6, hK6, Or.inl ⟨bI_1 h9, by omega, rfl⟩⟩)
  · refine g_aload_n C dX8_test_12 rfl ?_
    refine g_iload_n C dX8_test_13 rfl ?_
    refine g_iconst C dX8_test_14 ?_
    refine g_iconst C dX8_test_15 ?_
    refine g_callS C (c_X8_isIn _ (v := what) (a := 0) (b := 2) h_what (by omega) (by omega)) ml_RX8_49 sm_yX8_isIn in_RX8 co_yX8_isIn hd_X8_isIn rfl ⟨by omega, by omega⟩ rfl (Nat.le_of_ble_eq_true rfl) ⟨by omega, by omega⟩ dX8_test_16 (fun v16 w16 hp16 => ?_)
    obtain ⟨rfl, hw16⟩ := hp16
    subst w16
    have J27 : ∀ y : Int, (y = 0 ∧ (0 ≤ what ∧ what ≤ 2) ∨ y = 1 ∧ ¬ (0 ≤ what ∧ what ≤ 2)) → G E X 3 27 [some (.ref m), some (iI v), some (iI what)] [iI y, .ref m] w6 0 0 := by
      intro y hy
      have hwk : 0 ≤ v ∧ v ≤ 2 := Classical.not_not.mp (bI_0 (Classical.not_not.mp h9))
      refine g_iconst C dX8_test_27 ?_
      refine g_callV C (c_X8_refuse _ hM6 (y := y) (wh := 2) (by omega) (by omega) (by omega)) (ci := 10) rfl hM6.o rfl ml_RX8_45 im_yX8_refuse se_RX8_yX8_refuse in_RX8 co_yX8_refuse hd_X8_refuse rfl ⟨by omega, by omega⟩ rfl (Nat.le_of_ble_eq_true rfl) ⟨by omega, by omega⟩ dX8_test_28 (fun v28 w28 hp28 => ?_)
      obtain ⟨t, rfl, ht, hM7, hK7⟩ := hp28
      have hy7 : (y) = 0 ∨ (y) = 1 := (by omega)
      have hK67 := hK6.tr hK7
      refine g_if_eq (tgt := 38) C dX8_test_31 (by decide) (bI_r _) (fun h31 => ?_) (fun h31 => ?_)
      · have htz : ¬ (0 < t) := bI_0 h31
        obtain ⟨V, rfl⟩ := Int.eq_ofNat_of_zero_le hwk.1
        have hg := hB V (by omega)
        obtain ⟨r, hr⟩ := RT_ex hg
        have hsv := hS V (by omega)
        refine g_aload_n C dX8_test_38 rfl ?_
        refine g_get (ci := 10) C rfl inTX8 1 (by decide) fl_RX8_9 rfl hM7.o rfl dX8_test_39 ?_
        refine g_iload_n C dX8_test_42 rfl ?_
        refine g_ialoadN (V) C hM7.b (by omega) (by omega) dX8_test_43 ?_
        refine g_aload_n C dX8_test_44 rfl ?_
        refine g_iload_n C dX8_test_45 rfl ?_
        refine g_callV C (c_X8_at _ hM7 (i := V) (r := r) (by omega) hg hr hsv) (ci := 10) rfl hM7.o rfl ml_RX8_167 im_yX8_at se_RX8_yX8_at in_RX8 co_yX8_at hd_X8_at rfl ⟨by omega, by omega⟩ rfl (Nat.le_of_ble_eq_true rfl) ⟨by omega, by omega⟩ dX8_test_46 (fun v46 w46 hp46 => ?_)
        obtain ⟨q, rfl, hR, x1, hq⟩ := hp46
        refine g_iload_n C dX8_test_49 rfl ?_
        refine g_callS C (c_X8_tested _ (what := what) hg hr (by omega) hR (by omega)) ml_RX8_192 sm_yX8_tested in_RX8 co_yX8_tested hd_X8_tested rfl ⟨by omega, by omega⟩ rfl (Nat.le_of_ble_eq_true rfl) ⟨by omega, by omega⟩ dX8_test_50 (fun v50 w50 hp50 => ?_)
        obtain ⟨rfl, x2⟩ := hp50
        exact g_ireturn C hQ dX8_test_53 (by omega) (by omega) (by
          first
          | exact ⟨t, _, rfl, hM7.ex (x1.tr x2), hK67.tr (Keep.ex (x1.tr x2)), Or.inr (Or.inr ⟨hwk, by omega, by omega, r, hr, rfl⟩)⟩
          | exact ⟨t, _, rfl, hM7, hK67, Or.inr (Or.inl ⟨hwk, by have := bI_1 h31; omega, by have := bI_1 h31; omega, rfl⟩)⟩
          | exact ⟨t6, _, rfl, hM6, hK6, Or.inl ⟨bI_1 h9, by omega, rfl⟩⟩)
      · refine g_iconst C dX8_test_34 ?_
        refine g_goto (tgt := 53) C dX8_test_35 (by decide) ?_
        exact g_ireturn C hQ dX8_test_53 (by omega) (by omega) (by
          first
          | exact ⟨t, _, rfl, hM7.ex (x1.tr x2), hK67.tr (Keep.ex (x1.tr x2)), Or.inr (Or.inr ⟨hwk, by omega, by omega, r, hr, rfl⟩)⟩
          | exact ⟨t, _, rfl, hM7, hK67, Or.inr (Or.inl ⟨hwk, by have := bI_1 h31; omega, by have := bI_1 h31; omega, rfl⟩)⟩
          | exact ⟨t6, _, rfl, hM6, hK6, Or.inl ⟨bI_1 h9, by omega, rfl⟩⟩)
    refine g_if_ne (tgt := 26) C dX8_test_19 (by decide) (bI_r _) (fun h19 => ?_) (fun h19 => ?_)
    · refine g_iconst C dX8_test_26 ?_
      exact J27 _ (by first | exact Or.inl ⟨rfl, bI_1 h19⟩ | exact Or.inr ⟨rfl, bI_0 (Classical.not_not.mp h19)⟩)
    · refine g_iconst C dX8_test_22 ?_
      refine g_goto (tgt := 27) C dX8_test_23 (by decide) ?_
      exact J27 _ (by first | exact Or.inl ⟨rfl, bI_1 h19⟩ | exact Or.inr ⟨rfl, bI_0 (Classical.not_not.mp h19)⟩)
set_option maxHeartbeats 4000000 in
set_option maxRecDepth 100000 in
theorem c_X8_isNear (l : Launch) {E : GE} {w : Wd} {v x : Int} (h_v : -2147483648 ≤ v ∧ v < 2147483648) (h_x : -2147483648 ≤ x ∧ x < 2147483648) {τ : Nat → Nat} {m : Nat} {A : MA} {th : Int} {ba st pb le ri : Nat → Int} {sp : Nat → Nat → Int} {ct : Nat → Int} (hM : MSx τ w m A th ba st pb le ri sp ct) (hB : ∀ i, i < 3 → GB (ba i)) (hS : ∀ i, i < 3 → 0 ≤ st i ∧ st i ≤ 24) : Sp E l yX8_isNear cX8_isNear 6 (some .boolean) 6 (46) (380) [.ref m, iI v, iI x] w (fun r' w' => ∃ (t ans : Int), r' = some (iI ans) ∧ MSx τ w' m A (t) (ba) (st) (pb) (le) (ri) (sp) (ct) ∧ Keep τ w w' ∧ (¬ (0 ≤ v ∧ v ≤ 2) ∧ t = 1 ∧ ans = 0 ∨ (0 ≤ v ∧ v ≤ 2) ∧ ¬ (1 ≤ x ∧ x ≤ 3) ∧ t = 2 ∧ ans = 0 ∨ (0 ≤ v ∧ v ≤ 2) ∧ (1 ≤ x ∧ x ≤ 3) ∧ t = 0 ∧ ∃ r, RT (ba v.toNat) r ∧ (ans = 1 ∧ nearP (ba v.toNat) r x (st v.toNat).toNat ∨ ans = 0 ∧ ¬ nearP (ba v.toNat) r x (st v.toNat).toNat))) := by
  refine sp_intro [some (.ref m), some (iI v), some (iI x), none, none, none] rfl (Nat.le_of_ble_eq_true rfl) pn_X8 ?_
  intro X C hRm hl hnm hQ
  obtain ⟨hRf, hRl, hRc, hRs⟩ := hRm
  refine g_wf (fun hwf => ?_)
  refine g_aload_n C dX8_isNear_0 rfl ?_
  refine g_iload_n C dX8_isNear_1 rfl ?_
  refine g_callS C (c_X8_isNo _ (v := v) h_v) ml_RX8_145 sm_yX8_isNo in_RX8 co_yX8_isNo hd_X8_isNo rfl ⟨by omega, by omega⟩ rfl (Nat.le_of_ble_eq_true rfl) ⟨by omega, by omega⟩ dX8_isNear_2 (fun v2 w2 hp2 => ?_)
  obtain ⟨rfl, hw2⟩ := hp2
  subst w2
  refine g_iconst C dX8_isNear_5 ?_
  refine g_callV C (c_X8_start _ hM (y := bI (¬ (0 ≤ v ∧ v ≤ 2))) (wh := 1) (bI_01 _) (by omega)) (ci := 10) rfl hM.o rfl ml_RX8_149 im_yX8_start se_RX8_yX8_start in_RX8 co_yX8_start hd_X8_start rfl ⟨by omega, by omega⟩ rfl (Nat.le_of_ble_eq_true rfl) ⟨by omega, by omega⟩ dX8_isNear_6 (fun v6 w6 hp6 => ?_)
  obtain ⟨t6, rfl, ht6, hM6, hK6⟩ := hp6
  have hy6 : (bI (¬ (0 ≤ v ∧ v ≤ 2))) = 0 ∨ (bI (¬ (0 ≤ v ∧ v ≤ 2))) = 1 := (bI_01 _)
  refine g_if_ne (tgt := 34) C dX8_isNear_9 (by decide) (bI_r _) (fun h9 => ?_) (fun h9 => ?_)
  · refine g_iconst C dX8_isNear_34 ?_
    exact g_zreturn C hQ dX8_isNear_35 (nar01 (by omega)) (by omega) (by omega) (by
      first
      | exact ⟨t, _, rfl, hM7, hK67, Or.inr (Or.inl ⟨hwk, by have := bI_1 h31; omega, by have := bI_1 h31; omega, rfl⟩)⟩
      | exact ⟨t6, _, rfl, hM6, hK6, Or.inl ⟨bI_1 h9, by omega, rfl⟩⟩)
  · refine g_aload_n C dX8_isNear_12 rfl ?_
    refine g_iload_n C dX8_isNear_13 rfl ?_
    refine g_iconst C dX8_isNear_14 ?_
    refine g_iconst C dX8_isNear_15 ?_
    refine g_callS C (c_X8_isIn _ (v := x) (a := 1) (b := 3) h_x (by omega) (by omega)) ml_RX8_49 sm_yX8_isIn in_RX8 co_yX8_isIn hd_X8_isIn rfl ⟨by omega, by omega⟩ rfl (Nat.le_of_ble_eq_true rfl) ⟨by omega, by omega⟩ dX8_isNear_16 (fun v16 w16 hp16 => ?_)
    obtain ⟨rfl, hw16⟩ := hp16
    subst w16
    have J27 : ∀ y : Int, (y = 0 ∧ (1 ≤ x ∧ x ≤ 3) ∨ y = 1 ∧ ¬ (1 ≤ x ∧ x ≤ 3)) → G E X 6 27 [some (.ref m), some (iI v), some (iI x), none, none, none] [iI y, .ref m] w6 0 0 := by
      intro y hy
      have hwk : 0 ≤ v ∧ v ≤ 2 := Classical.not_not.mp (bI_0 (Classical.not_not.mp h9))
      refine g_iconst C dX8_isNear_27 ?_
      refine g_callV C (c_X8_refuse _ hM6 (y := y) (wh := 2) (by omega) (by omega) (by omega)) (ci := 10) rfl hM6.o rfl ml_RX8_45 im_yX8_refuse se_RX8_yX8_refuse in_RX8 co_yX8_refuse hd_X8_refuse rfl ⟨by omega, by omega⟩ rfl (Nat.le_of_ble_eq_true rfl) ⟨by omega, by omega⟩ dX8_isNear_28 (fun v28 w28 hp28 => ?_)
      obtain ⟨t, rfl, ht, hM7, hK7⟩ := hp28
      have hy7 : (y) = 0 ∨ (y) = 1 := (by omega)
      have hK67 := hK6.tr hK7
      refine g_if_eq (tgt := 36) C dX8_isNear_31 (by decide) (bI_r _) (fun h31 => ?_) (fun h31 => ?_)
      · have htz : ¬ (0 < t) := bI_0 h31
        have hx13 : 1 ≤ x ∧ x ≤ 3 := by omega
        have ht0 : t = 0 := by omega
        obtain ⟨V, rfl⟩ := Int.eq_ofNat_of_zero_le hwk.1
        have hg := hB V (by omega)
        obtain ⟨r, hr⟩ := RT_ex hg
        have hsv := hS V (by omega)
        have hg1 := hg.1
        have hg2 := hg.2.1
        have hta := tst_abs hg hr (k := (st V).toNat) (by omega)
        have htr := tst_r hg hr (k := (st V).toNat) (by omega) 2
        have hcg := cf_good hg hr (k := (st V).toNat + 1) (by omega)
        have hr9 := RT_le hg hr
        refine g_aload_n C dX8_isNear_36 rfl ?_
        refine g_iload_n C dX8_isNear_37 rfl ?_
        refine g_callV C (c_X8_at _ hM7 (i := V) (r := r) (by omega) hg hr hsv) (ci := 10) rfl hM7.o rfl ml_RX8_167 im_yX8_at se_RX8_yX8_at in_RX8 co_yX8_at hd_X8_at rfl ⟨by omega, by omega⟩ rfl (Nat.le_of_ble_eq_true rfl) ⟨by omega, by omega⟩ dX8_isNear_38 (fun v38 w38 hp38 => ?_)
        obtain ⟨q, rfl, hR, x1, hq⟩ := hp38
        have hM8 := hM7.ex x1
        refine g_astore_n C dX8_isNear_41 (by decide) rfl ?_
        refine g_aload_n C dX8_isNear_42 rfl ?_
        refine g_get (ci := 10) C rfl inTX8 1 (by decide) fl_RX8_9 rfl hM8.o rfl dX8_isNear_43 ?_
        refine g_iload_n C dX8_isNear_46 rfl ?_
        refine g_ialoadN (V) C hM8.b (by omega) (by omega) dX8_isNear_47 ?_
        refine g_aload_n C dX8_isNear_48 rfl ?_
        refine g_iconst C dX8_isNear_49 ?_
        refine g_callS C (c_X8_tested _ (what := 2) hg hr (by omega) hR (by omega)) ml_RX8_192 sm_yX8_tested in_RX8 co_yX8_tested hd_X8_tested rfl ⟨by omega, by omega⟩ rfl (Nat.le_of_ble_eq_true rfl) ⟨by omega, by omega⟩ dX8_isNear_50 (fun v50 w50 hp50 => ?_)
        obtain ⟨rfl, x2⟩ := hp50
        refine g_abs C ml_RX8_196 (by omega) (by omega) (by omega) (Nat.le_of_ble_eq_true rfl) (by omega) dX8_isNear_53 ?_
        rw [hta]
        refine g_istore C dX8_isNear_56 (by decide) rfl ?_
        refine g_iload_n C dX8_isNear_58 rfl ?_
        refine g_iload C dX8_isNear_59 rfl ?_
        refine g_imul C dX8_isNear_61 ?_
        have hxd : 0 ≤ x * (cf (ba V) r ((st V).toNat + 1)).2.1 := Int.mul_nonneg (by omega) (by omega)
        have hxd2 : x * (cf (ba V) r ((st V).toNat + 1)).2.1 ≤ 3 * 18 := Int.mul_le_mul (by omega) (by omega) (by omega) (by omega)
        refine g_i2l C dX8_isNear_62 (by omega) ?_
        refine g_callS C (c_X8_of _ (v := x * (cf (ba V) r ((st V).toNat + 1)).2.1) (by omega)) ml_RX8_20 sm_yX8_of in_RX8 co_yX8_of hd_X8_of rfl ⟨by omega, by omega⟩ rfl (Nat.le_of_ble_eq_true rfl) ⟨by omega, by omega⟩ dX8_isNear_63 (fun v63 w63 hp63 => ?_)
        obtain ⟨m63, k63, rfl, h63, hb63, hm63, s63, x3⟩ := hp63
        have y3 := x2.tr x3
        have hM9 := hM8.ex y3
        refine g_aload_n C dX8_isNear_66 rfl ?_
        refine g_get (ci := 10) C rfl inTX8 1 (by decide) fl_RX8_9 rfl hM9.o rfl dX8_isNear_67 ?_
        refine g_iload_n C dX8_isNear_70 rfl ?_
        refine g_ialoadN (V) C hM9.b (by omega) (by omega) dX8_isNear_71 ?_
        refine g_aload_n C dX8_isNear_72 rfl ?_
        refine g_get (ci := 10) C rfl inTX8 2 (by decide) fl_RX8_13 rfl hM9.o rfl dX8_isNear_73 ?_
        refine g_iload_n C dX8_isNear_76 rfl ?_
        refine g_ialoadN (V) C hM9.s (by omega) (by omega) dX8_isNear_77 ?_
        refine g_iconst C dX8_isNear_78 ?_
        refine g_iadd C dX8_isNear_79 ?_
        rw [show st V + 1 = (((st V).toNat + 1 : Nat) : Int) by omega]
        refine g_wf (fun hwf80 => ?_)
        refine g_callS C (c_X8_walked _ (K := (st V).toNat + 1) hg hr (by omega)) ml_RX8_134 sm_yX8_walked in_RX8 co_yX8_walked hd_X8_walked rfl ⟨by omega, by omega⟩ rfl (Nat.le_of_ble_eq_true rfl) ⟨by omega, by omega⟩ dX8_isNear_80 (fun v80 w80 hp80 => ?_)
        obtain ⟨q80, rfl, hR80, x4, hq80⟩ := hp80
        have x4 := x4.ex hwf80
        obtain ⟨R2, c0, c1, c2, c3, hR2, j0, j1, j2, j3, i0, i1, i2, i3, -⟩ := id hR80
        obtain ⟨n1, f1, e1, b1, d1⟩ := id i1
        obtain ⟨R, a0, a1, a2, a3, hR0, k0, k1, k2, k3, l0, l1, l2, l3, -⟩ := id hR
        obtain ⟨nP, fP, eP, bP, dP⟩ := id l0
        obtain ⟨nQ, fQ, eQ, bQ, dQ⟩ := id l1
        have y4 := y3.tr x4
        refine g_iconst C dX8_isNear_83 ?_
        refine g_aaloadN (1) C rfl rfl hR2 (by omega) (by omega) j1 dX8_isNear_84 ?_
        refine g_callS C (c_X8_times _ (c := 9) (x4.2 _ _ h63) e1 hb63 b1 (by omega) (by omega)) ml_RX8_124 sm_yX8_times in_RX8 co_yX8_times hd_X8_times rfl ⟨by omega, by omega⟩ rfl (Nat.le_of_ble_eq_true rfl) ⟨by omega, by omega⟩ dX8_isNear_85 (fun v85 w85 hp85 => ?_)
        obtain ⟨q85, m85, g85, rfl, h85, hb85, hm85, x5, hq85⟩ := hp85
        have y5 := y4.tr x5
        refine g_aload_n C dX8_isNear_88 rfl ?_
        refine g_iconst C dX8_isNear_89 ?_
        refine g_aaloadN (0) C rfl rfl (y5.2 _ _ hR0) (by omega) (by omega) k0 dX8_isNear_90 ?_
        refine g_callS C (c_X8_minus _ (c := 9) h85 (y5.2 _ _ eP) hb85 bP (by omega) (by omega) (by omega)) ml_RX8_127 sm_yX8_minus in_RX8 co_yX8_minus hd_X8_minus rfl ⟨by omega, by omega⟩ rfl (Nat.le_of_ble_eq_true rfl) ⟨by omega, by omega⟩ dX8_isNear_91 (fun v91 w91 hp91 => ?_)
        obtain ⟨q91, m91, g91, rfl, h91, hb91, hm91, x6, hq91⟩ := hp91
        have y6 := y5.tr x6
        have hn91 := hb91.n1
        have hs91 := hb91.s
        have hv91 := hb91.m
        have hp91 := mg_nonneg hb91.d
        have hM10 := hM8.ex y6
        refine g_astore C dX8_isNear_94 (by decide) rfl ?_
        have hO : x * (cf (ba V) r ((st V).toNat + 1)).2.1 * (pq (ba V) r 0 1 ((st V).toNat + 1)).1 - (pq (ba V) r 1 r (st V).toNat).1 = nearO (ba V) r x (st V).toNat := rfl
        rw [hO] at hb91 hv91
        refine g_aload C dX8_isNear_96 rfl ?_
        refine g_iconst C dX8_isNear_98 ?_
        refine g_ialoadN (0) C h91 (by omega) (by omega) dX8_isNear_99 ?_
        refine g_if_lt (tgt := 138) C dX8_isNear_100 (by decide) (by omega) (fun h100 => ?_) (fun h100 => ?_)
        · refine g_iconst C dX8_isNear_138 ?_
          refine g_goto (tgt := 143) C dX8_isNear_139 (by decide) ?_
          exact g_zreturn C hQ dX8_isNear_143 (nar01 (by omega)) (by omega) (by omega) (by
            simp only [Int.toNat_natCast]
            first
            | exact ⟨t, _, rfl, hM12, hK67.tr (Keep.ex (x1.tr (y7.tr y10))), Or.inr (Or.inr ⟨hwk, hx13, ht0, r, hr, by
                first
                | exact Or.inl ⟨rfl, Or.inr (by omega)⟩
                | exact Or.inr ⟨rfl, fun q => q.elim (fun q => by omega) (fun q => by omega)⟩⟩)⟩
            | exact ⟨t, _, rfl, hM10, hK67.tr (Keep.ex (x1.tr y6)), Or.inr (Or.inr ⟨hwk, hx13, ht0, r, hr, Or.inl ⟨rfl, Or.inl (by
                omega)⟩⟩)⟩)
        · refine g_aload C dX8_isNear_103 rfl ?_
          refine g_aload C dX8_isNear_105 rfl ?_
          refine g_callS C (c_X8_times _ (c := 20) h91 h91 hb91 hb91 (by omega) (by omega)) ml_RX8_124 sm_yX8_times in_RX8 co_yX8_times hd_X8_times rfl ⟨by omega, by omega⟩ rfl (Nat.le_of_ble_eq_true rfl) ⟨by omega, by omega⟩ dX8_isNear_107 (fun v107 w107 hp107 => ?_)
          obtain ⟨q107, m107, g107, rfl, h107, hb107, hm107, x7, hq107⟩ := hp107
          have y7 := y6.tr x7
          have hM11 := hM8.ex y7
          refine g_aload_n C dX8_isNear_110 rfl ?_
          refine g_get (ci := 10) C rfl inTX8 1 (by decide) fl_RX8_9 rfl hM11.o rfl dX8_isNear_111 ?_
          refine g_iload_n C dX8_isNear_114 rfl ?_
          refine g_ialoadN (V) C hM11.b (by omega) (by omega) dX8_isNear_115 ?_
          refine g_i2l C dX8_isNear_116 (by omega) ?_
          refine g_callS C (c_X8_of _ (v := ba V) (by omega)) ml_RX8_20 sm_yX8_of in_RX8 co_yX8_of hd_X8_of rfl ⟨by omega, by omega⟩ rfl (Nat.le_of_ble_eq_true rfl) ⟨by omega, by omega⟩ dX8_isNear_117 (fun v117 w117 hp117 => ?_)
          obtain ⟨m117, k117, rfl, h117, hb117, hm117, s117, x8⟩ := hp117
          have y8 := y7.tr x8
          refine g_aload_n C dX8_isNear_120 rfl ?_
          refine g_iconst C dX8_isNear_121 ?_
          refine g_aaloadN (1) C rfl rfl (y8.2 _ _ hR0) (by omega) (by omega) k1 dX8_isNear_122 ?_
          refine g_aload_n C dX8_isNear_123 rfl ?_
          refine g_iconst C dX8_isNear_124 ?_
          refine g_aaloadN (1) C rfl rfl (y8.2 _ _ hR0) (by omega) (by omega) k1 dX8_isNear_125 ?_
          refine g_callS C (c_X8_times _ (c := 10) (y8.2 _ _ eQ) (y8.2 _ _ eQ) bQ bQ (by omega) (by omega)) ml_RX8_124 sm_yX8_times in_RX8 co_yX8_times hd_X8_times rfl ⟨by omega, by omega⟩ rfl (Nat.le_of_ble_eq_true rfl) ⟨by omega, by omega⟩ dX8_isNear_126 (fun v126 w126 hp126 => ?_)
          obtain ⟨q126, m126, g126, rfl, h126, hb126, hm126, x9, hq126⟩ := hp126
          refine g_callS C (c_X8_times _ (c := 14) (x9.2 _ _ h117) h126 hb117 hb126 (by omega) (by omega)) ml_RX8_124 sm_yX8_times in_RX8 co_yX8_times hd_X8_times rfl ⟨by omega, by omega⟩ rfl (Nat.le_of_ble_eq_true rfl) ⟨by omega, by omega⟩ dX8_isNear_129 (fun v129 w129 hp129 => ?_)
          obtain ⟨q129, m129, g129, rfl, h129, hb129, hm129, x10, hq129⟩ := hp129
          have y10 := (x8.tr x9).tr x10
          refine g_callS C (c_X8_side _ (y10.2 _ _ h107) h129 hb107 hb129 (by omega) (by omega)) ml_RX8_199 sm_yX8_side in_RX8 co_yX8_side hd_X8_side rfl ⟨by omega, by omega⟩ rfl (Nat.le_of_ble_eq_true rfl) ⟨by omega, by omega⟩ dX8_isNear_132 (fun v132 w132 hp132 => ?_)
          obtain ⟨⟨d132, rfl, hd132⟩, hw132⟩ := hp132
          subst w132
          have hM12 := hM8.ex (y7.tr y10)
          refine g_if_ge (tgt := 142) C dX8_isNear_135 (by decide) (by omega) (fun h135 => ?_) (fun h135 => ?_)
          · refine g_iconst C dX8_isNear_142 ?_
            exact g_zreturn C hQ dX8_isNear_143 (nar01 (by omega)) (by omega) (by omega) (by
              simp only [Int.toNat_natCast]
              first
              | exact ⟨t, _, rfl, hM12, hK67.tr (Keep.ex (x1.tr (y7.tr y10))), Or.inr (Or.inr ⟨hwk, hx13, ht0, r, hr, by
                  first
                  | exact Or.inl ⟨rfl, Or.inr (by omega)⟩
                  | exact Or.inr ⟨rfl, fun q => q.elim (fun q => by omega) (fun q => by omega)⟩⟩)⟩
              | exact ⟨t, _, rfl, hM10, hK67.tr (Keep.ex (x1.tr y6)), Or.inr (Or.inr ⟨hwk, hx13, ht0, r, hr, Or.inl ⟨rfl, Or.inl (by
                  omega)⟩⟩)⟩)
          · refine g_iconst C dX8_isNear_138 ?_
            refine g_goto (tgt := 143) C dX8_isNear_139 (by decide) ?_
            exact g_zreturn C hQ dX8_isNear_143 (nar01 (by omega)) (by omega) (by omega) (by
              simp only [Int.toNat_natCast]
              first
              | exact ⟨t, _, rfl, hM12, hK67.tr (Keep.ex (x1.tr (y7.tr y10))), Or.inr (Or.inr ⟨hwk, hx13, ht0, r, hr, by
                  first
                  | exact Or.inl ⟨rfl, Or.inr (by omega)⟩
                  | exact Or.inr ⟨rfl, fun q => q.elim (fun q => by omega) (fun q => by omega)⟩⟩)⟩
              | exact ⟨t, _, rfl, hM10, hK67.tr (Keep.ex (x1.tr y6)), Or.inr (Or.inr ⟨hwk, hx13, ht0, r, hr, Or.inl ⟨rfl, Or.inl (by
                  omega)⟩⟩)⟩)
      · refine g_iconst C dX8_isNear_34 ?_
        exact g_zreturn C hQ dX8_isNear_35 (nar01 (by omega)) (by omega) (by omega) (by
          first
          | exact ⟨t, _, rfl, hM7, hK67, Or.inr (Or.inl ⟨hwk, by have := bI_1 h31; omega, by have := bI_1 h31; omega, rfl⟩)⟩
          | exact ⟨t6, _, rfl, hM6, hK6, Or.inl ⟨bI_1 h9, by omega, rfl⟩⟩)
    refine g_if_ne (tgt := 26) C dX8_isNear_19 (by decide) (bI_r _) (fun h19 => ?_) (fun h19 => ?_)
    · refine g_iconst C dX8_isNear_26 ?_
      exact J27 _ (by first | exact Or.inl ⟨rfl, bI_1 h19⟩ | exact Or.inr ⟨rfl, bI_0 (Classical.not_not.mp h19)⟩)
    · refine g_iconst C dX8_isNear_22 ?_
      refine g_goto (tgt := 27) C dX8_isNear_23 (by decide) ?_
      exact J27 _ (by first | exact Or.inl ⟨rfl, bI_1 h19⟩ | exact Or.inr ⟨rfl, bI_0 (Classical.not_not.mp h19)⟩)
