theorem SBw.fr {u u' : Wd} {a v n m : Nat} (h : SBw u a v n m) (x : Fr u u') (hw : wF u) : SBw u' a v n m := by
  obtain ⟨mb, f, k1, k2, k3, k4, k5⟩ := h
  exact ⟨mb, f, by rw [x.2 a (hw a _ k1)]; exact k1, by rw [x.2 v (hw v _ k2)]; exact k2, k3, k4, k5⟩
theorem SBq.fr {W0 u u' : Wd} {a N : Nat} (h : SBq W0 u a N) (x : Fr u u') (hw : wF u) : SBq W0 u' a N := by
  obtain ⟨v, n, m, h1, h2, h3, h4, h5, h6⟩ := h
  exact ⟨v, n, m, h1.fr x hw, h2, h3, h4, h5, h6.tr x⟩
theorem mulb {x y n : Int} (hx : 0 ≤ x ∧ x ≤ n) (hy : 0 ≤ y ∧ y ≤ n) : 0 ≤ x * y ∧ x * y ≤ n * n := ⟨Int.mul_nonneg hx.1 hy.1, Int.mul_le_mul hx.2 hy.2 hy.1 (by omega)⟩
set_option maxHeartbeats 4000000 in
set_option maxRecDepth 100000 in
theorem c_X8_extreme (l : Launch) {K : KC} {E : GE} {w : Wd} {yy gg : Int} (hyy : yy = 0 ∨ yy = 1) (hgg : gg = 0 ∨ gg = 1) {τ : Nat → Nat} {m : Nat} {A : MA} {th : Int} {ba st pb le ri : Nat → Int} {sp : Nat → Nat → Int} {ct : Nat → Int} (hM : MSx τ w m A th ba st pb le ri sp ct) : St K E l yX8_extreme cX8_extreme 5 (some (.object "java/lang/String")) 7 (60) (2000) [.ref m, iI yy, iI gg] w (fun r' w' => ∃ (t : Int) (s : Nat), r' = some (.ref s) ∧ MSx τ w' m A (t) (ba) (st) (pb) (le) (ri) (sp) (ct) ∧ Keep τ w w' ∧ 0 ≤ t ∧ t ≤ 2) := by
  refine st_intro [some (.ref m), some (iI yy), some (iI gg), none, none] rfl (Nat.le_of_ble_eq_true rfl) pn_X8 ?_
  intro X C hT hRm hl hnm hQ
  obtain ⟨hRf, hRl, hRc, hRs⟩ := hRm
  refine g_wf (fun hwf => ?_)
  refine g_aload_n C dX8_extreme_0 rfl ?_
  refine g_iconst C dX8_extreme_1 ?_
  refine g_put (ci := 10) C rfl inTX8 tyX8 tyX8_ok nmX8 0 (by decide) fl_RX8_41 rfl rfl hM.o (Nat.le_of_ble_eq_true rfl) rfl rfl dX8_extreme_2 ?_
  have hM2 := hM.setO 0
  obtain ⟨u0, hu0, hK2⟩ : ∃ u0, u0 = wset w m (true, eO 10 [iI 0, .ref A.1, .ref A.2.1, .ref A.2.2.1, .ref A.2.2.2.1, .ref A.2.2.2.2.1, .ref A.2.2.2.2.2.1, .ref A.2.2.2.2.2.2.1]) ∧ Keep τ w u0 := ⟨_, rfl, Keep.set _ (by have := hM.tg; omega)⟩
  rw [← hu0] at hM2
  refine g_eqw (w' := u0) hu0.symm ?_
  refine g_aload_n C dX8_extreme_5 rfl ?_
  refine g_iconst C dX8_extreme_6 ?_
  refine g_iload_n C dX8_extreme_7 rfl ?_
  refine g_callV C (c_X8_its _ hM2 (i := 0) (y := yy) (by omega) hyy) (ci := 10) rfl hM2.o rfl ml_RX8_246 im_yX8_its se_RX8_yX8_its in_RX8 co_yX8_its hd_X8_its rfl ⟨by omega, by omega⟩ rfl (Nat.le_of_ble_eq_true rfl) ⟨by omega, by omega⟩ dX8_extreme_8 (fun v8 w8 hp8 => ?_)
  obtain ⟨⟨q8, rfl, hq8, r8⟩, hw8⟩ := hp8
  rw [hw8]
  refine g_astore_n C dX8_extreme_11 (by decide) rfl ?_
  refine g_iconst C dX8_extreme_12 ?_
  refine g_istore C dX8_extreme_13 (by decide) rfl ?_
  refine g_loop (σ := Nat × Nat) (fun s => 1 ≤ s.1 ∧ s.1 ≤ 3 ∧ ∃ z, RowAt u0 s.2 z 4) (fun s => G E X 5 15 [some (.ref m), some (iI yy), some (iI gg), some (.ref s.2), some (iI (s.1 : Int))] [] u0 0 0) (fun s => 3 - s.1) ?_ (1, q8) ⟨by dsimp only; omega, by dsimp only; omega, _, r8⟩
  rintro ⟨j, a⟩ hqq ih
  obtain ⟨hj1, hj, z, ra⟩ := hqq
  dsimp only at hj1 hj ra ⊢
  refine g_iload C dX8_extreme_15 rfl ?_
  refine g_iconst C dX8_extreme_17 ?_
  refine g_icmp_ge (tgt := 58) C dX8_extreme_18 (by decide) (by omega) (by omega) (fun h18 => ?_) (fun h18 => ?_)
  · refine g_aload_n C dX8_extreme_58 rfl ?_
    refine g_bipush C dX8_extreme_59 (by decide) ?_
    refine g_wf (fun hwf61 => ?_)
    refine t_callS C hT (c_X8_text _ (rx := 10) (ra.le (by omega)) (by omega)) ml_RX8_171 sm_yX8_text in_RX8 co_yX8_text hd_X8_text rfl ⟨by omega, by omega⟩ rfl (Nat.le_of_ble_eq_true rfl) ⟨by omega, by omega⟩ dX8_extreme_61 (fun v61 w61 hp61 => ?_)
    obtain ⟨s61, rfl, hfr61⟩ := hp61
    have hxf61 := hfr61.ex hwf61
    exact g_areturn C (Or.inl ⟨_, rfl⟩) hQ (Or.inr ⟨_, rfl⟩) dX8_extreme_64 (by omega) (by omega) (by
      first
      | exact ⟨0, _, rfl, hM2.ex hxf61, hK2.tr (Keep.ex hxf61), by omega, by omega⟩)
  · refine g_aload_n C dX8_extreme_21 rfl ?_
    refine g_iload C dX8_extreme_22 rfl ?_
    refine g_iload_n C dX8_extreme_24 rfl ?_
    refine g_callV C (c_X8_its _ hM2 (i := j) (y := yy) (by omega) hyy) (ci := 10) rfl hM2.o rfl ml_RX8_246 im_yX8_its se_RX8_yX8_its in_RX8 co_yX8_its hd_X8_its rfl ⟨by omega, by omega⟩ rfl (Nat.le_of_ble_eq_true rfl) ⟨by omega, by omega⟩ dX8_extreme_25 (fun v25 w25 hp25 => ?_)
    obtain ⟨⟨q25, rfl, hq25, r25⟩, hw25⟩ := hp25
    rw [hw25]
    obtain ⟨n25, f25, e25, b25, d25⟩ := id r25
    obtain ⟨na, fa, ea, ba2, da⟩ := id ra
    refine g_aload_n C dX8_extreme_28 rfl ?_
    refine g_callS C (c_X8_side _ e25 ea b25 ba2 (by omega) (by omega)) ml_RX8_199 sm_yX8_side in_RX8 co_yX8_side hd_X8_side rfl ⟨by omega, by omega⟩ rfl (Nat.le_of_ble_eq_true rfl) ⟨by omega, by omega⟩ dX8_extreme_29 (fun v29 w29 hp29 => ?_)
    obtain ⟨⟨d29, rfl, hd29⟩, hw29⟩ := hp29
    subst w29
    refine g_iload_n C dX8_extreme_32 rfl ?_
    refine g_if_eq (tgt := 40) C dX8_extreme_33 (by decide) (by omega) (fun h33 => ?_) (fun h33 => ?_)
    · refine g_iconst C dX8_extreme_40 ?_
      refine g_icmp_ne (tgt := 52) C dX8_extreme_41 (by decide) (by omega) (by omega) (fun h41 => ?_) (fun h41 => ?_)
      · refine g_iinc C dX8_extreme_52 rfl (by decide) rfl ?_
        refine g_goto (tgt := 15) C dX8_extreme_55 (by decide) ?_
        first
        | exact ih (j + 1, q48) ⟨by dsimp only; omega, by dsimp only; omega, _, r48⟩ (by dsimp only; omega)
        | exact ih (j + 1, a) ⟨by dsimp only; omega, by dsimp only; omega, _, ra⟩ (by dsimp only; omega)
      · refine g_aload_n C dX8_extreme_44 rfl ?_
        refine g_iload C dX8_extreme_45 rfl ?_
        refine g_iload_n C dX8_extreme_47 rfl ?_
        refine g_callV C (c_X8_its _ hM2 (i := j) (y := yy) (by omega) hyy) (ci := 10) rfl hM2.o rfl ml_RX8_246 im_yX8_its se_RX8_yX8_its in_RX8 co_yX8_its hd_X8_its rfl ⟨by omega, by omega⟩ rfl (Nat.le_of_ble_eq_true rfl) ⟨by omega, by omega⟩ dX8_extreme_48 (fun v48 w48 hp48 => ?_)
        obtain ⟨⟨q48, rfl, hq48, r48⟩, hw48⟩ := hp48
        rw [hw48]
        refine g_astore_n C dX8_extreme_51 (by decide) rfl ?_
        refine g_iinc C dX8_extreme_52 rfl (by decide) rfl ?_
        refine g_goto (tgt := 15) C dX8_extreme_55 (by decide) ?_
        first
        | exact ih (j + 1, q48) ⟨by dsimp only; omega, by dsimp only; omega, _, r48⟩ (by dsimp only; omega)
        | exact ih (j + 1, a) ⟨by dsimp only; omega, by dsimp only; omega, _, ra⟩ (by dsimp only; omega)
    · refine g_iconst C dX8_extreme_36 ?_
      refine g_goto (tgt := 41) C dX8_extreme_37 (by decide) ?_
      refine g_icmp_ne (tgt := 52) C dX8_extreme_41 (by decide) (by omega) (by omega) (fun h41 => ?_) (fun h41 => ?_)
      · refine g_iinc C dX8_extreme_52 rfl (by decide) rfl ?_
        refine g_goto (tgt := 15) C dX8_extreme_55 (by decide) ?_
        first
        | exact ih (j + 1, q48) ⟨by dsimp only; omega, by dsimp only; omega, _, r48⟩ (by dsimp only; omega)
        | exact ih (j + 1, a) ⟨by dsimp only; omega, by dsimp only; omega, _, ra⟩ (by dsimp only; omega)
      · refine g_aload_n C dX8_extreme_44 rfl ?_
        refine g_iload C dX8_extreme_45 rfl ?_
        refine g_iload_n C dX8_extreme_47 rfl ?_
        refine g_callV C (c_X8_its _ hM2 (i := j) (y := yy) (by omega) hyy) (ci := 10) rfl hM2.o rfl ml_RX8_246 im_yX8_its se_RX8_yX8_its in_RX8 co_yX8_its hd_X8_its rfl ⟨by omega, by omega⟩ rfl (Nat.le_of_ble_eq_true rfl) ⟨by omega, by omega⟩ dX8_extreme_48 (fun v48 w48 hp48 => ?_)
        obtain ⟨⟨q48, rfl, hq48, r48⟩, hw48⟩ := hp48
        rw [hw48]
        refine g_astore_n C dX8_extreme_51 (by decide) rfl ?_
        refine g_iinc C dX8_extreme_52 rfl (by decide) rfl ?_
        refine g_goto (tgt := 15) C dX8_extreme_55 (by decide) ?_
        first
        | exact ih (j + 1, q48) ⟨by dsimp only; omega, by dsimp only; omega, _, r48⟩ (by dsimp only; omega)
        | exact ih (j + 1, a) ⟨by dsimp only; omega, by dsimp only; omega, _, ra⟩ (by dsimp only; omega)
set_option maxHeartbeats 4000000 in
set_option maxRecDepth 100000 in
theorem c_X8_periodText (l : Launch) {K : KC} {E : GE} {w : Wd} {v : Int} (h_v : -2147483648 ≤ v ∧ v < 2147483648) {τ : Nat → Nat} {m : Nat} {A : MA} {th : Int} {ba st pb le ri : Nat → Int} {sp : Nat → Nat → Int} {ct : Nat → Int} (hM : MSx τ w m A th ba st pb le ri sp ct) : St K E l yX8_periodText cX8_periodText 5 (some (.object "java/lang/String")) 7 (80) (52500) [.ref m, iI v] w (fun r' w' => ∃ (t : Int) (s : Nat), r' = some (.ref s) ∧ MSx τ w' m A (t) (ba) (st) (pb) (le) (ri) (sp) (ct) ∧ Keep τ w w' ∧ 0 ≤ t ∧ t ≤ 2) := by
  refine st_intro [some (.ref m), some (iI v), none, none, none] rfl (Nat.le_of_ble_eq_true rfl) pn_X8 ?_
  intro X C hT hRm hl hnm hQ
  obtain ⟨hRf, hRl, hRc, hRs⟩ := hRm
  refine g_wf (fun hwf => ?_)
  refine g_aload_n C dX8_periodText_0 rfl ?_
  refine g_iload_n C dX8_periodText_1 rfl ?_
  refine g_callS C (c_X8_isNoBase _ (v := v) h_v) ml_RX8_152 sm_yX8_isNoBase in_RX8 co_yX8_isNoBase hd_X8_isNoBase rfl ⟨by omega, by omega⟩ rfl (Nat.le_of_ble_eq_true rfl) ⟨by omega, by omega⟩ dX8_periodText_2 (fun v2 w2 hp2 => ?_)
  obtain ⟨⟨yb, rfl, hyb⟩, hw2⟩ := hp2
  subst w2
  have hyb01 : yb = 0 ∨ yb = 1 := by rcases hyb with q | q <;> omega
  refine g_iconst C dX8_periodText_5 ?_
  refine g_callV C (c_X8_start _ hM (y := yb) (wh := 1) (by omega) (by omega)) (ci := 10) rfl hM.o rfl ml_RX8_149 im_yX8_start se_RX8_yX8_start in_RX8 co_yX8_start hd_X8_start rfl ⟨by omega, by omega⟩ rfl (Nat.le_of_ble_eq_true rfl) ⟨by omega, by omega⟩ dX8_periodText_6 (fun v6 w6 hp6 => ?_)
  obtain ⟨t6, rfl, ht6, hM6, hK6⟩ := hp6
  have hy6 : (yb) = 0 ∨ (yb) = 1 := (by omega)
  refine g_if_eq (tgt := 15) C dX8_periodText_9 (by decide) (by omega) (fun h9 => ?_) (fun h9 => ?_)
  · have hgb : GB v := by
      rcases hyb with q | q
      · exact q.2
      · omega
    obtain ⟨r, hr⟩ := RT_ex hgb
    have hr9 := RT_le hgb hr
    refine g_iload_n C dX8_periodText_15 rfl ?_
    refine g_callS C (c_X8_periodOf _ hgb hr) ml_RX8_142 sm_yX8_periodOf in_RX8 co_yX8_periodOf hd_X8_periodOf rfl ⟨by omega, by omega⟩ rfl (Nat.le_of_ble_eq_true rfl) ⟨by omega, by omega⟩ dX8_periodText_16 (fun v16 w16 hp16 => ?_)
    obtain ⟨p, rfl, hper, x1⟩ := hp16
    have pp1 := hper.1
    have pp2 := hper.2.1
    refine g_istore_n C dX8_periodText_19 (by decide) rfl ?_
    refine g_wf (fun hwq => ?_)
    refine g_new (ci := 1) C rfl inTJ4 tyJ4 tyJ4_ok kl_RX8_86 ib_RJ4 in_RJ4 (fs := [.null, iI 0, iI 0, iI 0]) (by intro j hj; repeat (first | rfl | (cases j; rfl) | (rename_i j; cases j; rfl) | omega)) (by omega) dX8_periodText_20 ?_
    refine g_dup C dX8_periodText_23 rfl ?_
    refine t_callI C hT (c_J4_init_da8c8 _ wpush_s) ml_RX8_88 im_yJ4_init_da8c8 in_RJ4 co_yJ4_init_da8c8 rfl hd_J4_init_da8c8 rfl ⟨by omega, by omega⟩ rfl (Nat.le_of_ble_eq_true rfl) ⟨by omega, by omega⟩ dX8_periodText_24 (fun v24 w24 hp24 => ?_)
    obtain ⟨rfl, hq0⟩ := hp24
    have hq := SBq.new hwq hq0
    have hqb := hwq
    refine g_astore_n C dX8_periodText_27 (by decide) rfl ?_
    refine g_iconst C dX8_periodText_28 ?_
    refine g_istore C dX8_periodText_29 (by decide) rfl ?_
    refine g_widen (k' := 18 + 0) (n' := 100 + 0) (by omega) (by omega) ?_
    refine g_loop (σ := Nat × Wd) (fun s => s.1 ≤ p + 1 ∧ SBq w16 s.2 w16.1 (27 * s.1)) (fun s => G E X 5 31 [some (.ref m), some (iI v), some (iI (p : Int)), some (.ref w16.1), some (iI (s.1 : Int))] [] s.2 (18 + 3 * s.1) (100 + 3000 * s.1)) (fun s => p + 1 - s.1) ?_ (0, w24) ⟨by dsimp only; omega, hq⟩
    rintro ⟨j, u⟩ hqq ih
    obtain ⟨hj, hq⟩ := hqq
    dsimp only at hj hq ⊢
    refine g_iload C dX8_periodText_31 rfl ?_
    refine g_iload_n C dX8_periodText_33 rfl ?_
    refine g_icmp_gt (tgt := 71) C dX8_periodText_34 (by decide) (by omega) (by omega) (fun h34 => ?_) (fun h34 => ?_)
    · refine g_aload_n C dX8_periodText_71 rfl ?_
      obtain ⟨v72, n72, m72, hS72, hn72, hm72, hv72, ha72, hf72⟩ := hq
      refine t_callV C hT (c_J4_toString_0e30d _ hS72 (by omega)) (RcV.sb C hS72) rfl ml_RX8_113 im_yJ4_toString_0e30d se_RJ4_yJ4_toString_0e30d in_RJ4 co_yJ4_toString_0e30d hd_J4_toString_0e30d rfl ⟨by omega, by omega⟩ rfl (Nat.le_of_ble_eq_true rfl) ⟨by omega, by omega⟩ dX8_periodText_72 (fun v72 w72 hp72 => ?_)
      obtain ⟨rfl, hfr72⟩ := hp72
      have hfx := hf72.tr hfr72
      exact g_areturn C (Or.inl ⟨_, rfl⟩) hQ (Or.inr ⟨_, rfl⟩) dX8_periodText_75 (by omega) (by omega) (by
        first
        | exact ⟨t6, _, rfl, hM6.ex (x1.tr (hfx.ex hqb)), hK6.tr (Keep.ex (x1.tr (hfx.ex hqb))), by omega, by omega⟩)
    · refine g_aload_n C dX8_periodText_37 rfl ?_
      refine g_iload C dX8_periodText_38 rfl ?_
      have hjp : j ≤ p := by omega
      have J50 : ∀ i, i < 4 → G E X 5 50 [some (.ref m), some (iI v), some (iI (p : Int)), some (.ref w16.1), some (iI (j : Int))] [.ref (K.1 i), .ref w16.1] u (18 + 3 * j) (100 + 3000 * j) := by
        intro i hi
        obtain ⟨v50, n50, m50, hS50, hn50, hm50, hv50, ha50, hf50⟩ := hq
        have hg50 := grow1 (i := i) hS50 hm50
        refine t_callV C hT (c_J4_append_15ec4 _ hS50 (i := i) (by omega) (by omega) (by omega)) (RcV.sb C hS50) rfl ml_RX8_222 im_yJ4_append_15ec4 se_RJ4_yJ4_append_15ec4 in_RJ4 co_yJ4_append_15ec4 hd_J4_append_15ec4 rfl ⟨by omega, by omega⟩ rfl (Nat.le_of_ble_eq_true rfl) ⟨by omega, by omega⟩ dX8_periodText_50 (fun v50 w50 hp50 => ?_)
        obtain ⟨rfl, x50⟩ := hp50
        replace hq := SBq.str hn50 hm50 hv50 ha50 hf50 hg50 x50
        have cg := cf_good hgb hr (k := j) (by omega)
        refine g_wf (fun hwf50 => ?_)
        refine g_iload_n C dX8_periodText_53 rfl ?_
        refine g_iload C dX8_periodText_54 rfl ?_
        refine g_callS C (c_X8_terms _ (b := v) (r := r) (K := j) hgb hr (by omega)) ml_RX8_138 sm_yX8_terms in_RX8 co_yX8_terms hd_X8_terms rfl ⟨by omega, by omega⟩ rfl (Nat.le_of_ble_eq_true rfl) ⟨by omega, by omega⟩ dX8_periodText_56 (fun v56 w56 hp56 => ?_)
        obtain ⟨f56, rfl, rfl, t0, t1, t2⟩ := hp56
        replace hq := hq.fr ((Fr.rf w50).push (true, eI 3 f56)) hwf50
        refine g_iconst C dX8_periodText_59 ?_
        refine g_ialoadN (2) C wpush_s (by omega) (by omega) dX8_periodText_60 ?_
        rw [t2]
        obtain ⟨v61, n61, m61, hS61, hn61, hm61, hv61, ha61, hf61⟩ := hq
        refine t_callV C hT (c_J4_append_bf812 _ hS61 (by omega) (by omega) (by omega)) (RcV.sb C hS61) rfl ml_RX8_204 im_yJ4_append_bf812 se_RJ4_yJ4_append_bf812 in_RJ4 co_yJ4_append_bf812 hd_J4_append_bf812 rfl ⟨by omega, by omega⟩ rfl (Nat.le_of_ble_eq_true rfl) ⟨by omega, by omega⟩ dX8_periodText_61 (fun v61 w61 hp61 => ?_)
        obtain ⟨rfl, x61⟩ := hp61
        replace hq := SBq.int hn61 hm61 hv61 ha61 hf61 x61
        refine g_pop C dX8_periodText_64 rfl ?_
        refine g_iinc C dX8_periodText_65 rfl (by decide) rfl ?_
        refine g_goto (tgt := 31) C dX8_periodText_68 (by decide) ?_
        refine g_widen (k' := 18 + 3 * (j + 1)) (n' := 100 + 3000 * (j + 1)) (by omega) (by omega) ?_
        exact ih (j + 1, w61) ⟨by dsimp only; omega, (show 27 * (j + 1) = 27 * j + 16 + 11 by omega) ▸ hq⟩ (by dsimp only; omega)
      refine g_if_ne (tgt := 48) C dX8_periodText_40 (by decide) (by omega) (fun h40 => ?_) (fun h40 => ?_)
      · refine g_ldcS C hT 1 rfl dX8_periodText_48 ?_
        first | exact J50 0 (by omega) | exact J50 1 (by omega)
      · refine g_ldcS C hT 0 rfl dX8_periodText_43 ?_
        refine g_goto (tgt := 50) C dX8_periodText_45 (by decide) ?_
        first | exact J50 0 (by omega) | exact J50 1 (by omega)
  · refine g_ldcS C hT 0 rfl dX8_periodText_12 ?_
    exact g_areturn C (Or.inl ⟨_, rfl⟩) hQ (Or.inr ⟨_, rfl⟩) dX8_periodText_14 (by omega) (by omega) (by
      first
      | exact ⟨t6, _, rfl, hM6, hK6, by omega, by omega⟩)
set_option maxHeartbeats 4000000 in
set_option maxRecDepth 100000 in
theorem c_X8_middle (l : Launch) {K : KC} {E : GE} {w : Wd} {v : Int} (h_v : -2147483648 ≤ v ∧ v < 2147483648) {τ : Nat → Nat} {m : Nat} {A : MA} {th : Int} {ba st pb le ri : Nat → Int} {sp : Nat → Nat → Int} {ct : Nat → Int} (hM : MSx τ w m A th ba st pb le ri sp ct) : St K E l yX8_middle cX8_middle 3 (some (.object "java/lang/String")) 7 (60) (2000) [.ref m, iI v] w (fun r' w' => ∃ (t : Int) (s : Nat), r' = some (.ref s) ∧ MSx τ w' m A (t) (ba) (st) (pb) (le) (ri) (sp) (ct) ∧ Keep τ w w' ∧ 0 ≤ t ∧ t ≤ 2) := by
  refine st_intro [some (.ref m), some (iI v), none] rfl (Nat.le_of_ble_eq_true rfl) pn_X8 ?_
  intro X C hT hRm hl hnm hQ
  obtain ⟨hRf, hRl, hRc, hRs⟩ := hRm
  refine g_wf (fun hwf => ?_)
  refine g_aload_n C dX8_middle_0 rfl ?_
  refine g_iload_n C dX8_middle_1 rfl ?_
  refine g_callS C (c_X8_isNoBase _ (v := v) h_v) ml_RX8_152 sm_yX8_isNoBase in_RX8 co_yX8_isNoBase hd_X8_isNoBase rfl ⟨by omega, by omega⟩ rfl (Nat.le_of_ble_eq_true rfl) ⟨by omega, by omega⟩ dX8_middle_2 (fun v2 w2 hp2 => ?_)
  obtain ⟨⟨yb, rfl, hyb⟩, hw2⟩ := hp2
  subst w2
  have hyb01 : yb = 0 ∨ yb = 1 := by rcases hyb with q | q <;> omega
  refine g_iconst C dX8_middle_5 ?_
  refine g_callV C (c_X8_start _ hM (y := yb) (wh := 1) (by omega) (by omega)) (ci := 10) rfl hM.o rfl ml_RX8_149 im_yX8_start se_RX8_yX8_start in_RX8 co_yX8_start hd_X8_start rfl ⟨by omega, by omega⟩ rfl (Nat.le_of_ble_eq_true rfl) ⟨by omega, by omega⟩ dX8_middle_6 (fun v6 w6 hp6 => ?_)
  obtain ⟨t6, rfl, ht6, hM6, hK6⟩ := hp6
  have hy6 : (yb) = 0 ∨ (yb) = 1 := (by omega)
  refine g_if_ne (tgt := 21) C dX8_middle_9 (by decide) (by omega) (fun h9 => ?_) (fun h9 => ?_)
  · refine g_ldcS C hT 0 rfl dX8_middle_21 ?_
    exact g_areturn C (Or.inl ⟨_, rfl⟩) hQ (Or.inr ⟨_, rfl⟩) dX8_middle_23 (by omega) (by omega) (by
      first
      | exact ⟨t6, _, rfl, hM6.ex x1, hK6.tr (Keep.ex x1), by omega, by omega⟩
      | exact ⟨t6, _, rfl, hM6, hK6, by omega, by omega⟩)
  · have hgb : GB v := by
      rcases hyb with q | q
      · exact q.2
      · omega
    obtain ⟨r, hr⟩ := RT_ex hgb
    have hr9 := RT_le hgb hr
    refine g_iload_n C dX8_middle_12 rfl ?_
    refine g_callS C (c_X8_periodOf _ hgb hr) ml_RX8_142 sm_yX8_periodOf in_RX8 co_yX8_periodOf hd_X8_periodOf rfl ⟨by omega, by omega⟩ rfl (Nat.le_of_ble_eq_true rfl) ⟨by omega, by omega⟩ dX8_middle_13 (fun v13 w13 hp13 => ?_)
    obtain ⟨p, rfl, hper, x1⟩ := hp13
    have pp1 := hper.1
    have pp2 := hper.2.1
    refine g_iconst C dX8_middle_16 ?_
    refine g_iremN C dX8_middle_17 (by omega) (by omega) ?_
    refine g_if_ne (tgt := 24) C dX8_middle_18 (by decide) (by omega) (fun h18 => ?_) (fun h18 => ?_)
    · refine g_iload_n C dX8_middle_24 rfl ?_
      refine g_iload_n C dX8_middle_25 rfl ?_
      refine g_callS C (c_X8_periodOf _ hgb hr) ml_RX8_142 sm_yX8_periodOf in_RX8 co_yX8_periodOf hd_X8_periodOf rfl ⟨by omega, by omega⟩ rfl (Nat.le_of_ble_eq_true rfl) ⟨by omega, by omega⟩ dX8_middle_26 (fun v26 w26 hp26 => ?_)
      obtain ⟨p2, rfl, hper2, x2⟩ := hp26
      have pp3 := hper2.1
      have pp4 := hper2.2.1
      obtain ⟨K0, hK0⟩ : ∃ K0 : Nat, ((p2 : Int) + 1) / 2 = (K0 : Int) := ⟨(p2 + 1) / 2, by omega⟩
      refine g_iconst C dX8_middle_29 ?_
      refine g_iadd C dX8_middle_30 ?_
      refine g_iconst C dX8_middle_31 ?_
      refine g_idivN C dX8_middle_32 (by omega) (by omega) ?_
      rw [hK0]
      have cg := cf_good hgb hr (k := K0) (by omega)
      refine g_wf (fun hwf32 => ?_)
      refine g_callS C (c_X8_terms _ (b := v) (r := r) (K := K0) hgb hr (by omega)) ml_RX8_138 sm_yX8_terms in_RX8 co_yX8_terms hd_X8_terms rfl ⟨by omega, by omega⟩ rfl (Nat.le_of_ble_eq_true rfl) ⟨by omega, by omega⟩ dX8_middle_33 (fun v33 w33 hp33 => ?_)
      obtain ⟨f33, rfl, rfl, t0, t1, t2⟩ := hp33
      have x3 := Ex.push hwf32 (true, eI 3 f33)
      have x123 := (x1.tr x2).tr x3
      obtain ⟨u3, hu3⟩ : ∃ u3, u3 = wpush w26 (true, eI 3 f33) := ⟨_, rfl⟩
      have e33 : u3.2 w26.1 = some (true, eI 3 f33) := by rw [hu3]; exact wpush_s
      rw [← hu3] at x123
      refine g_eqw (w' := u3) hu3.symm ?_
      refine g_astore_n C dX8_middle_36 (by decide) rfl ?_
      refine g_wf (fun hwq => ?_)
      refine g_new (ci := 1) C rfl inTJ4 tyJ4 tyJ4_ok kl_RX8_86 ib_RJ4 in_RJ4 (fs := [.null, iI 0, iI 0, iI 0]) (by intro j hj; repeat (first | rfl | (cases j; rfl) | (rename_i j; cases j; rfl) | omega)) (by omega) dX8_middle_37 ?_
      refine g_dup C dX8_middle_40 rfl ?_
      refine t_callI C hT (c_J4_init_da8c8 _ wpush_s) ml_RX8_88 im_yJ4_init_da8c8 in_RJ4 co_yJ4_init_da8c8 rfl hd_J4_init_da8c8 rfl ⟨by omega, by omega⟩ rfl (Nat.le_of_ble_eq_true rfl) ⟨by omega, by omega⟩ dX8_middle_41 (fun v41 w41 hp41 => ?_)
      obtain ⟨rfl, hq0⟩ := hp41
      have hq := SBq.new hwq hq0
      have hqb := hwq
      have e41 : ∀ N z, SBq u3 z u3.1 N → z.2 w26.1 = some (true, eI 3 f33) := fun N z hz => by obtain ⟨v9, n9, m9, -, -, -, -, -, hf9⟩ := hz; rw [hf9.2 _ (hqb _ _ e33)]; exact e33
      refine g_aload_n C dX8_middle_44 rfl ?_
      refine g_iconst C dX8_middle_45 ?_
      refine g_ialoadN (0) C (e41 _ _ hq) (by omega) (by omega) dX8_middle_46 ?_
      rw [t0]
      obtain ⟨v47, n47, m47, hS47, hn47, hm47, hv47, ha47, hf47⟩ := hq
      refine t_callV C hT (c_J4_append_bf812 _ hS47 (by omega) (by omega) (by omega)) (RcV.sb C hS47) rfl ml_RX8_204 im_yJ4_append_bf812 se_RJ4_yJ4_append_bf812 in_RJ4 co_yJ4_append_bf812 hd_J4_append_bf812 rfl ⟨by omega, by omega⟩ rfl (Nat.le_of_ble_eq_true rfl) ⟨by omega, by omega⟩ dX8_middle_47 (fun v47 w47 hp47 => ?_)
      obtain ⟨rfl, x47⟩ := hp47
      replace hq := SBq.int hn47 hm47 hv47 ha47 hf47 x47
      refine g_ldcS C hT 1 rfl dX8_middle_50 ?_
      obtain ⟨v52, n52, m52, hS52, hn52, hm52, hv52, ha52, hf52⟩ := hq
      have hg52 := grow1 (i := 1) hS52 hm52
      refine t_callV C hT (c_J4_append_15ec4 _ hS52 (i := 1) (by omega) (by omega) (by omega)) (RcV.sb C hS52) rfl ml_RX8_222 im_yJ4_append_15ec4 se_RJ4_yJ4_append_15ec4 in_RJ4 co_yJ4_append_15ec4 hd_J4_append_15ec4 rfl ⟨by omega, by omega⟩ rfl (Nat.le_of_ble_eq_true rfl) ⟨by omega, by omega⟩ dX8_middle_52 (fun v52 w52 hp52 => ?_)
      obtain ⟨rfl, x52⟩ := hp52
      replace hq := SBq.str hn52 hm52 hv52 ha52 hf52 hg52 x52
      refine g_aload_n C dX8_middle_55 rfl ?_
      refine g_iconst C dX8_middle_56 ?_
      refine g_ialoadN (1) C (e41 _ _ hq) (by omega) (by omega) dX8_middle_57 ?_
      rw [t1]
      obtain ⟨v58, n58, m58, hS58, hn58, hm58, hv58, ha58, hf58⟩ := hq
      refine t_callV C hT (c_J4_append_bf812 _ hS58 (by omega) (by omega) (by omega)) (RcV.sb C hS58) rfl ml_RX8_204 im_yJ4_append_bf812 se_RJ4_yJ4_append_bf812 in_RJ4 co_yJ4_append_bf812 hd_J4_append_bf812 rfl ⟨by omega, by omega⟩ rfl (Nat.le_of_ble_eq_true rfl) ⟨by omega, by omega⟩ dX8_middle_58 (fun v58 w58 hp58 => ?_)
      obtain ⟨rfl, x58⟩ := hp58
      replace hq := SBq.int hn58 hm58 hv58 ha58 hf58 x58
      obtain ⟨v61, n61, m61, hS61, hn61, hm61, hv61, ha61, hf61⟩ := hq
      refine t_callV C hT (c_J4_toString_0e30d _ hS61 (by omega)) (RcV.sb C hS61) rfl ml_RX8_113 im_yJ4_toString_0e30d se_RJ4_yJ4_toString_0e30d in_RJ4 co_yJ4_toString_0e30d hd_J4_toString_0e30d rfl ⟨by omega, by omega⟩ rfl (Nat.le_of_ble_eq_true rfl) ⟨by omega, by omega⟩ dX8_middle_61 (fun v61 w61 hp61 => ?_)
      obtain ⟨rfl, hfr61⟩ := hp61
      have hfx := hf61.tr hfr61
      exact g_areturn C (Or.inl ⟨_, rfl⟩) hQ (Or.inr ⟨_, rfl⟩) dX8_middle_64 (by omega) (by omega) (by
        first
        | exact ⟨t6, _, rfl, hM6.ex (x123.tr (hfx.ex hqb)), hK6.tr (Keep.ex (x123.tr (hfx.ex hqb))), by omega, by omega⟩)
    · refine g_ldcS C hT 0 rfl dX8_middle_21 ?_
      exact g_areturn C (Or.inl ⟨_, rfl⟩) hQ (Or.inr ⟨_, rfl⟩) dX8_middle_23 (by omega) (by omega) (by
        first
        | exact ⟨t6, _, rfl, hM6.ex x1, hK6.tr (Keep.ex x1), by omega, by omega⟩
        | exact ⟨t6, _, rfl, hM6, hK6, by omega, by omega⟩)
set_option maxHeartbeats 4000000 in
set_option maxRecDepth 100000 in
theorem c_X8_way (l : Launch) {K : KC} {E : GE} {w : Wd} {v : Int} (h_v : -2147483648 ≤ v ∧ v < 2147483648) {τ : Nat → Nat} {m : Nat} {A : MA} {th : Int} {ba st pb le ri : Nat → Int} {sp : Nat → Nat → Int} {ct : Nat → Int} (hM : MSx τ w m A th ba st pb le ri sp ct) (hZ : HZp sp) : St K E l yX8_way cX8_way 3 (some (.object "java/lang/String")) 7 (60) (2000) [.ref m, iI v] w (fun r' w' => ∃ (t : Int) (s : Nat), r' = some (.ref s) ∧ MSx τ w' m A (t) (ba) (st) (pb) (le) (ri) (sp) (ct) ∧ Keep τ w w' ∧ 0 ≤ t ∧ t ≤ 2) := by
  refine st_intro [some (.ref m), some (iI v), none] rfl (Nat.le_of_ble_eq_true rfl) pn_X8 ?_
  intro X C hT hRm hl hnm hQ
  obtain ⟨hRf, hRl, hRc, hRs⟩ := hRm
  refine g_wf (fun hwf => ?_)
  refine g_aload_n C dX8_way_0 rfl ?_
  refine g_iload_n C dX8_way_1 rfl ?_
  refine g_callS C (c_X8_isNo _ (v := v) h_v) ml_RX8_145 sm_yX8_isNo in_RX8 co_yX8_isNo hd_X8_isNo rfl ⟨by omega, by omega⟩ rfl (Nat.le_of_ble_eq_true rfl) ⟨by omega, by omega⟩ dX8_way_2 (fun v2 w2 hp2 => ?_)
  obtain ⟨rfl, hw2⟩ := hp2
  subst w2
  refine g_iconst C dX8_way_5 ?_
  refine g_callV C (c_X8_start _ hM (y := bI (¬ (0 ≤ v ∧ v ≤ 2))) (wh := 1) (bI_01 _) (by omega)) (ci := 10) rfl hM.o rfl ml_RX8_149 im_yX8_start se_RX8_yX8_start in_RX8 co_yX8_start hd_X8_start rfl ⟨by omega, by omega⟩ rfl (Nat.le_of_ble_eq_true rfl) ⟨by omega, by omega⟩ dX8_way_6 (fun v6 w6 hp6 => ?_)
  obtain ⟨t6, rfl, ht6, hM6, hK6⟩ := hp6
  have hy6 : (bI (¬ (0 ≤ v ∧ v ≤ 2))) = 0 ∨ (bI (¬ (0 ≤ v ∧ v ≤ 2))) = 1 := (bI_01 _)
  refine g_if_eq (tgt := 15) C dX8_way_9 (by decide) (bI_r _) (fun h9 => ?_) (fun h9 => ?_)
  · have hwk : 0 ≤ v ∧ v ≤ 2 := Classical.not_not.mp (bI_0 (by omega))
    obtain ⟨V, rfl⟩ := Int.eq_ofNat_of_zero_le hwk.1
    obtain ⟨pa, ka, hSpa⟩ := hZ V (by omega)
    obtain ⟨qa, hqa, tqa, ea⟩ := hM6.Z (i := V) (by omega)
    refine g_aload_n C dX8_way_15 rfl ?_
    refine g_get (ci := 10) C rfl inTX8 6 (by decide) fl_RX8_35 rfl hM6.o rfl dX8_way_16 ?_
    refine g_iload_n C dX8_way_19 rfl ?_
    refine g_aaloadN (V) C rfl rfl hM6.z (by omega) (by omega) hqa dX8_way_20 ?_
    refine g_iconst C dX8_way_21 ?_
    refine g_ialoadN (0) C ea (by omega) (by omega) dX8_way_22 ?_
    rw [hSpa.2.1]
    refine g_wf (fun hwf22 => ?_)
    refine g_callS C (c_X8_wayOf _ (p := pa) hSpa.1.1) ml_RX8_274 sm_yX8_wayOf in_RX8 co_yX8_wayOf hd_X8_wayOf rfl ⟨by omega, by omega⟩ rfl (Nat.le_of_ble_eq_true rfl) ⟨by omega, by omega⟩ dX8_way_23 (fun v23 w23 hp23 => ?_)
    obtain ⟨q23, f23, j23, rfl, e23, sv23, f230, f231, -, -, hf23⟩ := hp23
    have x23 := hf23.ex hwf22
    obtain ⟨v1w, v2w, v3w, -⟩ := sv23.good
    have v4w := sv23.p
    have g0w : 0 ≤ f23 0 ∧ f23 0 ≤ 997 := by rw [f230]; omega
    have g1w : 0 ≤ f23 1 ∧ f23 1 ≤ 997 := by rw [f231]; omega
    refine g_astore_n C dX8_way_26 (by decide) rfl ?_
    refine g_wf (fun hwq => ?_)
    refine g_new (ci := 1) C rfl inTJ4 tyJ4 tyJ4_ok kl_RX8_86 ib_RJ4 in_RJ4 (fs := [.null, iI 0, iI 0, iI 0]) (by intro j hj; repeat (first | rfl | (cases j; rfl) | (rename_i j; cases j; rfl) | omega)) (by omega) dX8_way_27 ?_
    refine g_dup C dX8_way_30 rfl ?_
    refine t_callI C hT (c_J4_init_da8c8 _ wpush_s) ml_RX8_88 im_yJ4_init_da8c8 in_RJ4 co_yJ4_init_da8c8 rfl hd_J4_init_da8c8 rfl ⟨by omega, by omega⟩ rfl (Nat.le_of_ble_eq_true rfl) ⟨by omega, by omega⟩ dX8_way_31 (fun v31 w31 hp31 => ?_)
    obtain ⟨rfl, hq0⟩ := hp31
    have hq := SBq.new hwq hq0
    have hqb := hwq
    have e31 : ∀ N z, SBq w23 z w23.1 N → z.2 q23 = some (true, eI 2 f23) := fun N z hz => by obtain ⟨v9, n9, m9, -, -, -, -, -, hf9⟩ := hz; rw [hf9.2 _ (hqb _ _ e23)]; exact e23
    refine g_aload_n C dX8_way_34 rfl ?_
    refine g_iconst C dX8_way_35 ?_
    refine g_ialoadN (0) C (e31 _ _ hq) (by omega) (by omega) dX8_way_36 ?_
    obtain ⟨v37, n37, m37, hS37, hn37, hm37, hv37, ha37, hf37⟩ := hq
    refine t_callV C hT (c_J4_append_bf812 _ hS37 (by omega) (by omega) (by omega)) (RcV.sb C hS37) rfl ml_RX8_204 im_yJ4_append_bf812 se_RJ4_yJ4_append_bf812 in_RJ4 co_yJ4_append_bf812 hd_J4_append_bf812 rfl ⟨by omega, by omega⟩ rfl (Nat.le_of_ble_eq_true rfl) ⟨by omega, by omega⟩ dX8_way_37 (fun v37 w37 hp37 => ?_)
    obtain ⟨rfl, x37⟩ := hp37
    replace hq := SBq.int hn37 hm37 hv37 ha37 hf37 x37
    refine g_ldcS C hT 1 rfl dX8_way_40 ?_
    obtain ⟨v42, n42, m42, hS42, hn42, hm42, hv42, ha42, hf42⟩ := hq
    have hg42 := grow1 (i := 1) hS42 hm42
    refine t_callV C hT (c_J4_append_15ec4 _ hS42 (i := 1) (by omega) (by omega) (by omega)) (RcV.sb C hS42) rfl ml_RX8_222 im_yJ4_append_15ec4 se_RJ4_yJ4_append_15ec4 in_RJ4 co_yJ4_append_15ec4 hd_J4_append_15ec4 rfl ⟨by omega, by omega⟩ rfl (Nat.le_of_ble_eq_true rfl) ⟨by omega, by omega⟩ dX8_way_42 (fun v42 w42 hp42 => ?_)
    obtain ⟨rfl, x42⟩ := hp42
    replace hq := SBq.str hn42 hm42 hv42 ha42 hf42 hg42 x42
    refine g_aload_n C dX8_way_45 rfl ?_
    refine g_iconst C dX8_way_46 ?_
    refine g_ialoadN (1) C (e31 _ _ hq) (by omega) (by omega) dX8_way_47 ?_
    obtain ⟨v48, n48, m48, hS48, hn48, hm48, hv48, ha48, hf48⟩ := hq
    refine t_callV C hT (c_J4_append_bf812 _ hS48 (by omega) (by omega) (by omega)) (RcV.sb C hS48) rfl ml_RX8_204 im_yJ4_append_bf812 se_RJ4_yJ4_append_bf812 in_RJ4 co_yJ4_append_bf812 hd_J4_append_bf812 rfl ⟨by omega, by omega⟩ rfl (Nat.le_of_ble_eq_true rfl) ⟨by omega, by omega⟩ dX8_way_48 (fun v48 w48 hp48 => ?_)
    obtain ⟨rfl, x48⟩ := hp48
    replace hq := SBq.int hn48 hm48 hv48 ha48 hf48 x48
    obtain ⟨v51, n51, m51, hS51, hn51, hm51, hv51, ha51, hf51⟩ := hq
    refine t_callV C hT (c_J4_toString_0e30d _ hS51 (by omega)) (RcV.sb C hS51) rfl ml_RX8_113 im_yJ4_toString_0e30d se_RJ4_yJ4_toString_0e30d in_RJ4 co_yJ4_toString_0e30d hd_J4_toString_0e30d rfl ⟨by omega, by omega⟩ rfl (Nat.le_of_ble_eq_true rfl) ⟨by omega, by omega⟩ dX8_way_51 (fun v51 w51 hp51 => ?_)
    obtain ⟨rfl, hfr51⟩ := hp51
    have hfx := hf51.tr hfr51
    exact g_areturn C (Or.inl ⟨_, rfl⟩) hQ (Or.inr ⟨_, rfl⟩) dX8_way_54 (by omega) (by omega) (by
      first
      | exact ⟨t6, _, rfl, hM6.ex (x23.tr (hfx.ex hqb)), hK6.tr (Keep.ex (x23.tr (hfx.ex hqb))), by omega, by omega⟩)
  · refine g_ldcS C hT 0 rfl dX8_way_12 ?_
    exact g_areturn C (Or.inl ⟨_, rfl⟩) hQ (Or.inr ⟨_, rfl⟩) dX8_way_14 (by omega) (by omega) (by
      first
      | exact ⟨t6, _, rfl, hM6, hK6, by omega, by omega⟩)
set_option maxHeartbeats 4000000 in
set_option maxRecDepth 100000 in
theorem c_X8_product_ (l : Launch) {K : KC} {E : GE} {w : Wd} {v x : Int} (h_v : -2147483648 ≤ v ∧ v < 2147483648) (h_x : -2147483648 ≤ x ∧ x < 2147483648) {τ : Nat → Nat} {m : Nat} {A : MA} {th : Int} {ba st pb le ri : Nat → Int} {sp : Nat → Nat → Int} {ct : Nat → Int} (hM : MSx τ w m A th ba st pb le ri sp ct) (hZ : HZp sp) : St K E l yX8_product_ cX8_product_ 5 (some (.object "java/lang/String")) 7 (90) (4000) [.ref m, iI v, iI x] w (fun r' w' => ∃ (t : Int) (s : Nat), r' = some (.ref s) ∧ MSx τ w' m A (t) (ba) (st) (pb) (le) (ri) (sp) (ct) ∧ Keep τ w w' ∧ 0 ≤ t ∧ t ≤ 2) := by
  refine st_intro [some (.ref m), some (iI v), some (iI x), none, none] rfl (Nat.le_of_ble_eq_true rfl) pn_X8 ?_
  intro X C hT hRm hl hnm hQ
  obtain ⟨hRf, hRl, hRc, hRs⟩ := hRm
  refine g_wf (fun hwf => ?_)
  refine g_aload_n C dX8_product__0 rfl ?_
  refine g_iload_n C dX8_product__1 rfl ?_
  refine g_callS C (c_X8_isNo _ (v := v) h_v) ml_RX8_145 sm_yX8_isNo in_RX8 co_yX8_isNo hd_X8_isNo rfl ⟨by omega, by omega⟩ rfl (Nat.le_of_ble_eq_true rfl) ⟨by omega, by omega⟩ dX8_product__2 (fun v2 w2 hp2 => ?_)
  obtain ⟨rfl, hw2⟩ := hp2
  subst w2
  have J20 : ∀ y : Int, (y = 0 ∧ (0 ≤ v ∧ v ≤ 2) ∧ (0 ≤ x ∧ x ≤ 2) ∨ y = 1 ∧ ¬ ((0 ≤ v ∧ v ≤ 2) ∧ (0 ≤ x ∧ x ≤ 2))) → G E X 5 20 [some (.ref m), some (iI v), some (iI x), none, none] [iI y, .ref m] w 0 0 := by
    intro y hy
    refine g_iconst C dX8_product__20 ?_
    refine g_callV C (c_X8_start _ hM (y := y) (wh := 1) (by omega) (by omega)) (ci := 10) rfl hM.o rfl ml_RX8_149 im_yX8_start se_RX8_yX8_start in_RX8 co_yX8_start hd_X8_start rfl ⟨by omega, by omega⟩ rfl (Nat.le_of_ble_eq_true rfl) ⟨by omega, by omega⟩ dX8_product__21 (fun v21 w21 hp21 => ?_)
    obtain ⟨t6, rfl, ht6, hM6, hK6⟩ := hp21
    have hy6 : (y) = 0 ∨ (y) = 1 := (by omega)
    refine g_if_eq (tgt := 30) C dX8_product__24 (by decide) (by omega) (fun h24 => ?_) (fun h24 => ?_)
    · have ht06 : 0 ≤ t6 ∧ t6 ≤ 2 := by omega
      obtain ⟨V, rfl⟩ := Int.eq_ofNat_of_zero_le (show 0 ≤ v by omega)
      obtain ⟨U, rfl⟩ := Int.eq_ofNat_of_zero_le (show 0 ≤ x by omega)
      obtain ⟨pa, ka, hSpa⟩ := hZ V (by omega)
      obtain ⟨qa, hqa, tqa, ea⟩ := hM6.Z (i := V) (by omega)
      obtain ⟨pb9, kb, hSpb⟩ := hZ U (by omega)
      obtain ⟨qb, hqb, tqb, eb⟩ := hM6.Z (i := U) (by omega)
      refine g_aload_n C dX8_product__30 rfl ?_
      refine g_get (ci := 10) C rfl inTX8 6 (by decide) fl_RX8_35 rfl hM6.o rfl dX8_product__31 ?_
      refine g_iload_n C dX8_product__34 rfl ?_
      refine g_aaloadN (V) C rfl rfl hM6.z (by omega) (by omega) hqa dX8_product__35 ?_
      refine g_iconst C dX8_product__36 ?_
      refine g_ialoadN (0) C ea (by omega) (by omega) dX8_product__37 ?_
      rw [hSpa.2.1]
      refine g_wf (fun hwf37 => ?_)
      refine g_callS C (c_X8_wayOf _ (p := pa) hSpa.1.1) ml_RX8_274 sm_yX8_wayOf in_RX8 co_yX8_wayOf hd_X8_wayOf rfl ⟨by omega, by omega⟩ rfl (Nat.le_of_ble_eq_true rfl) ⟨by omega, by omega⟩ dX8_product__38 (fun v38 w38 hp38 => ?_)
      obtain ⟨q38, f38, j38, rfl, e38, sv38, f380, f381, -, -, hf38⟩ := hp38
      have x38 := hf38.ex hwf37
      have hM8 := hM6.ex x38
      obtain ⟨v1w, v2w, v3w, -⟩ := sv38.good
      have v4w := sv38.p
      have g0w : 0 ≤ f38 0 ∧ f38 0 ≤ 997 := by rw [f380]; omega
      have g1w : 0 ≤ f38 1 ∧ f38 1 ≤ 997 := by rw [f381]; omega
      refine g_astore_n C dX8_product__41 (by decide) rfl ?_
      refine g_aload_n C dX8_product__42 rfl ?_
      refine g_get (ci := 10) C rfl inTX8 6 (by decide) fl_RX8_35 rfl hM8.o rfl dX8_product__43 ?_
      refine g_iload_n C dX8_product__46 rfl ?_
      refine g_aaloadN (U) C rfl rfl hM8.z (by omega) (by omega) hqb dX8_product__47 ?_
      refine g_iconst C dX8_product__48 ?_
      refine g_ialoadN (0) C (x38.2 _ _ eb) (by omega) (by omega) dX8_product__49 ?_
      rw [hSpb.2.1]
      refine g_wf (fun hwf49 => ?_)
      refine g_callS C (c_X8_wayOf _ (p := pb9) hSpb.1.1) ml_RX8_274 sm_yX8_wayOf in_RX8 co_yX8_wayOf hd_X8_wayOf rfl ⟨by omega, by omega⟩ rfl (Nat.le_of_ble_eq_true rfl) ⟨by omega, by omega⟩ dX8_product__50 (fun v50 w50 hp50 => ?_)
      obtain ⟨q50, f50, j50, rfl, e50, sv50, f500, f501, -, -, hf50⟩ := hp50
      have x50 := x38.tr (hf50.ex hwf49)
      have e38b := (hf50.ex hwf49).2 _ _ e38
      obtain ⟨v1z, v2z, v3z, -⟩ := sv50.good
      have v4z := sv50.p
      have g0z : 0 ≤ f50 0 ∧ f50 0 ≤ 997 := by rw [f500]; omega
      have g1z : 0 ≤ f50 1 ∧ f50 1 ≤ 997 := by rw [f501]; omega
      have m00 := mulb g0w g0z
      have m11 := mulb g1w g1z
      have m01 := mulb g0w g1z
      have m10 := mulb g1w g0z
      generalize hA0 : f38 0 * f50 0 = A0 at *
      generalize hA1 : f38 1 * f50 1 = A1 at *
      generalize hA2 : f38 0 * f50 1 = A2 at *
      generalize hA3 : f38 1 * f50 0 = A3 at *
      refine g_astore C dX8_product__53 (by decide) rfl ?_
      refine g_wf (fun hwq => ?_)
      refine g_new (ci := 1) C rfl inTJ4 tyJ4 tyJ4_ok kl_RX8_86 ib_RJ4 in_RJ4 (fs := [.null, iI 0, iI 0, iI 0]) (by intro j hj; repeat (first | rfl | (cases j; rfl) | (rename_i j; cases j; rfl) | omega)) (by omega) dX8_product__55 ?_
      refine g_dup C dX8_product__58 rfl ?_
      refine t_callI C hT (c_J4_init_da8c8 _ wpush_s) ml_RX8_88 im_yJ4_init_da8c8 in_RJ4 co_yJ4_init_da8c8 rfl hd_J4_init_da8c8 rfl ⟨by omega, by omega⟩ rfl (Nat.le_of_ble_eq_true rfl) ⟨by omega, by omega⟩ dX8_product__59 (fun v59 w59 hp59 => ?_)
      obtain ⟨rfl, hq0⟩ := hp59
      have hq := SBq.new hwq hq0
      have hqB := hwq
      have e5a : ∀ N z, SBq w50 z w50.1 N → z.2 q38 = some (true, eI 2 f38) := fun N z hz => by obtain ⟨v9, n9, m9, -, -, -, -, -, hf9⟩ := hz; rw [hf9.2 _ (hqB _ _ e38b)]; exact e38b
      have e5b : ∀ N z, SBq w50 z w50.1 N → z.2 q50 = some (true, eI 2 f50) := fun N z hz => by obtain ⟨v9, n9, m9, -, -, -, -, -, hf9⟩ := hz; rw [hf9.2 _ (hqB _ _ e50)]; exact e50
      refine g_aload_n C dX8_product__62 rfl ?_
      refine g_iconst C dX8_product__63 ?_
      refine g_ialoadN (0) C (e5a _ _ hq) (by omega) (by omega) dX8_product__64 ?_
      refine g_aload C dX8_product__65 rfl ?_
      refine g_iconst C dX8_product__67 ?_
      refine g_ialoadN (0) C (e5b _ _ hq) (by omega) (by omega) dX8_product__68 ?_
      refine g_imul C dX8_product__69 ?_
      rw [hA0]
      refine g_aload_n C dX8_product__70 rfl ?_
      refine g_iconst C dX8_product__71 ?_
      refine g_ialoadN (1) C (e5a _ _ hq) (by omega) (by omega) dX8_product__72 ?_
      refine g_aload C dX8_product__73 rfl ?_
      refine g_iconst C dX8_product__75 ?_
      refine g_ialoadN (1) C (e5b _ _ hq) (by omega) (by omega) dX8_product__76 ?_
      refine g_imul C dX8_product__77 ?_
      rw [hA1]
      refine g_iadd C dX8_product__78 ?_
      obtain ⟨v79, n79, m79, hS79, hn79, hm79, hv79, ha79, hf79⟩ := hq
      refine t_callV C hT (c_J4_append_bf812 _ hS79 (by omega) (by omega) (by omega)) (RcV.sb C hS79) rfl ml_RX8_204 im_yJ4_append_bf812 se_RJ4_yJ4_append_bf812 in_RJ4 co_yJ4_append_bf812 hd_J4_append_bf812 rfl ⟨by omega, by omega⟩ rfl (Nat.le_of_ble_eq_true rfl) ⟨by omega, by omega⟩ dX8_product__79 (fun v79 w79 hp79 => ?_)
      obtain ⟨rfl, x79⟩ := hp79
      replace hq := SBq.int hn79 hm79 hv79 ha79 hf79 x79
      refine g_ldcS C hT 1 rfl dX8_product__82 ?_
      obtain ⟨v84, n84, m84, hS84, hn84, hm84, hv84, ha84, hf84⟩ := hq
      have hg84 := grow1 (i := 1) hS84 hm84
      refine t_callV C hT (c_J4_append_15ec4 _ hS84 (i := 1) (by omega) (by omega) (by omega)) (RcV.sb C hS84) rfl ml_RX8_222 im_yJ4_append_15ec4 se_RJ4_yJ4_append_15ec4 in_RJ4 co_yJ4_append_15ec4 hd_J4_append_15ec4 rfl ⟨by omega, by omega⟩ rfl (Nat.le_of_ble_eq_true rfl) ⟨by omega, by omega⟩ dX8_product__84 (fun v84 w84 hp84 => ?_)
      obtain ⟨rfl, x84⟩ := hp84
      replace hq := SBq.str hn84 hm84 hv84 ha84 hf84 hg84 x84
      refine g_aload_n C dX8_product__87 rfl ?_
      refine g_iconst C dX8_product__88 ?_
      refine g_ialoadN (0) C (e5a _ _ hq) (by omega) (by omega) dX8_product__89 ?_
      refine g_aload C dX8_product__90 rfl ?_
      refine g_iconst C dX8_product__92 ?_
      refine g_ialoadN (1) C (e5b _ _ hq) (by omega) (by omega) dX8_product__93 ?_
      refine g_imul C dX8_product__94 ?_
      rw [hA2]
      refine g_aload_n C dX8_product__95 rfl ?_
      refine g_iconst C dX8_product__96 ?_
      refine g_ialoadN (1) C (e5a _ _ hq) (by omega) (by omega) dX8_product__97 ?_
      refine g_aload C dX8_product__98 rfl ?_
      refine g_iconst C dX8_product__100 ?_
      refine g_ialoadN (0) C (e5b _ _ hq) (by omega) (by omega) dX8_product__101 ?_
      refine g_imul C dX8_product__102 ?_
      rw [hA3]
      refine g_isub C dX8_product__103 ?_
      refine g_abs C ml_RX8_196 (by omega) (by omega) (by omega) (Nat.le_of_ble_eq_true rfl) (by omega) dX8_product__104 ?_
      obtain ⟨v107, n107, m107, hS107, hn107, hm107, hv107, ha107, hf107⟩ := hq
      refine t_callV C hT (c_J4_append_bf812 _ hS107 (by split <;> omega) (by omega) (by omega)) (RcV.sb C hS107) rfl ml_RX8_204 im_yJ4_append_bf812 se_RJ4_yJ4_append_bf812 in_RJ4 co_yJ4_append_bf812 hd_J4_append_bf812 rfl ⟨by omega, by omega⟩ rfl (Nat.le_of_ble_eq_true rfl) ⟨by omega, by omega⟩ dX8_product__107 (fun v107 w107 hp107 => ?_)
      obtain ⟨rfl, x107⟩ := hp107
      replace hq := SBq.int hn107 hm107 hv107 ha107 hf107 x107
      refine g_ldcS C hT 1 rfl dX8_product__110 ?_
      obtain ⟨v112, n112, m112, hS112, hn112, hm112, hv112, ha112, hf112⟩ := hq
      have hg112 := grow1 (i := 1) hS112 hm112
      refine t_callV C hT (c_J4_append_15ec4 _ hS112 (i := 1) (by omega) (by omega) (by omega)) (RcV.sb C hS112) rfl ml_RX8_222 im_yJ4_append_15ec4 se_RJ4_yJ4_append_15ec4 in_RJ4 co_yJ4_append_15ec4 hd_J4_append_15ec4 rfl ⟨by omega, by omega⟩ rfl (Nat.le_of_ble_eq_true rfl) ⟨by omega, by omega⟩ dX8_product__112 (fun v112 w112 hp112 => ?_)
      obtain ⟨rfl, x112⟩ := hp112
      replace hq := SBq.str hn112 hm112 hv112 ha112 hf112 hg112 x112
      refine g_aload_n C dX8_product__115 rfl ?_
      refine g_iconst C dX8_product__116 ?_
      refine g_ialoadN (0) C (e5a _ _ hq) (by omega) (by omega) dX8_product__117 ?_
      refine g_aload C dX8_product__118 rfl ?_
      refine g_iconst C dX8_product__120 ?_
      refine g_ialoadN (0) C (e5b _ _ hq) (by omega) (by omega) dX8_product__121 ?_
      refine g_imul C dX8_product__122 ?_
      rw [hA0]
      refine g_aload_n C dX8_product__123 rfl ?_
      refine g_iconst C dX8_product__124 ?_
      refine g_ialoadN (1) C (e5a _ _ hq) (by omega) (by omega) dX8_product__125 ?_
      refine g_aload C dX8_product__126 rfl ?_
      refine g_iconst C dX8_product__128 ?_
      refine g_ialoadN (1) C (e5b _ _ hq) (by omega) (by omega) dX8_product__129 ?_
      refine g_imul C dX8_product__130 ?_
      rw [hA1]
      refine g_isub C dX8_product__131 ?_
      refine g_abs C ml_RX8_196 (by omega) (by omega) (by omega) (Nat.le_of_ble_eq_true rfl) (by omega) dX8_product__132 ?_
      obtain ⟨v135, n135, m135, hS135, hn135, hm135, hv135, ha135, hf135⟩ := hq
      refine t_callV C hT (c_J4_append_bf812 _ hS135 (by split <;> omega) (by omega) (by omega)) (RcV.sb C hS135) rfl ml_RX8_204 im_yJ4_append_bf812 se_RJ4_yJ4_append_bf812 in_RJ4 co_yJ4_append_bf812 hd_J4_append_bf812 rfl ⟨by omega, by omega⟩ rfl (Nat.le_of_ble_eq_true rfl) ⟨by omega, by omega⟩ dX8_product__135 (fun v135 w135 hp135 => ?_)
      obtain ⟨rfl, x135⟩ := hp135
      replace hq := SBq.int hn135 hm135 hv135 ha135 hf135 x135
      refine g_ldcS C hT 1 rfl dX8_product__138 ?_
      obtain ⟨v140, n140, m140, hS140, hn140, hm140, hv140, ha140, hf140⟩ := hq
      have hg140 := grow1 (i := 1) hS140 hm140
      refine t_callV C hT (c_J4_append_15ec4 _ hS140 (i := 1) (by omega) (by omega) (by omega)) (RcV.sb C hS140) rfl ml_RX8_222 im_yJ4_append_15ec4 se_RJ4_yJ4_append_15ec4 in_RJ4 co_yJ4_append_15ec4 hd_J4_append_15ec4 rfl ⟨by omega, by omega⟩ rfl (Nat.le_of_ble_eq_true rfl) ⟨by omega, by omega⟩ dX8_product__140 (fun v140 w140 hp140 => ?_)
      obtain ⟨rfl, x140⟩ := hp140
      replace hq := SBq.str hn140 hm140 hv140 ha140 hf140 hg140 x140
      refine g_aload_n C dX8_product__143 rfl ?_
      refine g_iconst C dX8_product__144 ?_
      refine g_ialoadN (0) C (e5a _ _ hq) (by omega) (by omega) dX8_product__145 ?_
      refine g_aload C dX8_product__146 rfl ?_
      refine g_iconst C dX8_product__148 ?_
      refine g_ialoadN (1) C (e5b _ _ hq) (by omega) (by omega) dX8_product__149 ?_
      refine g_imul C dX8_product__150 ?_
      rw [hA2]
      refine g_aload_n C dX8_product__151 rfl ?_
      refine g_iconst C dX8_product__152 ?_
      refine g_ialoadN (1) C (e5a _ _ hq) (by omega) (by omega) dX8_product__153 ?_
      refine g_aload C dX8_product__154 rfl ?_
      refine g_iconst C dX8_product__156 ?_
      refine g_ialoadN (0) C (e5b _ _ hq) (by omega) (by omega) dX8_product__157 ?_
      refine g_imul C dX8_product__158 ?_
      rw [hA3]
      refine g_iadd C dX8_product__159 ?_
      obtain ⟨v160, n160, m160, hS160, hn160, hm160, hv160, ha160, hf160⟩ := hq
      refine t_callV C hT (c_J4_append_bf812 _ hS160 (by omega) (by omega) (by omega)) (RcV.sb C hS160) rfl ml_RX8_204 im_yJ4_append_bf812 se_RJ4_yJ4_append_bf812 in_RJ4 co_yJ4_append_bf812 hd_J4_append_bf812 rfl ⟨by omega, by omega⟩ rfl (Nat.le_of_ble_eq_true rfl) ⟨by omega, by omega⟩ dX8_product__160 (fun v160 w160 hp160 => ?_)
      obtain ⟨rfl, x160⟩ := hp160
      replace hq := SBq.int hn160 hm160 hv160 ha160 hf160 x160
      obtain ⟨v163, n163, m163, hS163, hn163, hm163, hv163, ha163, hf163⟩ := hq
      refine t_callV C hT (c_J4_toString_0e30d _ hS163 (by omega)) (RcV.sb C hS163) rfl ml_RX8_113 im_yJ4_toString_0e30d se_RJ4_yJ4_toString_0e30d in_RJ4 co_yJ4_toString_0e30d hd_J4_toString_0e30d rfl ⟨by omega, by omega⟩ rfl (Nat.le_of_ble_eq_true rfl) ⟨by omega, by omega⟩ dX8_product__163 (fun v163 w163 hp163 => ?_)
      obtain ⟨rfl, hfr163⟩ := hp163
      have hfx := hf163.tr hfr163
      exact g_areturn C (Or.inl ⟨_, rfl⟩) hQ (Or.inr ⟨_, rfl⟩) dX8_product__166 (by omega) (by omega) (by
        first
        | exact ⟨t6, _, rfl, hM6.ex (x50.tr (hfx.ex hqB)), hK6.tr (Keep.ex (x50.tr (hfx.ex hqB))), ht06.1, ht06.2⟩)
    · refine g_ldcS C hT 0 rfl dX8_product__27 ?_
      exact g_areturn C (Or.inl ⟨_, rfl⟩) hQ (Or.inr ⟨_, rfl⟩) dX8_product__29 (by omega) (by omega) (by
        first
        | exact ⟨t6, _, rfl, hM6, hK6, by omega, by omega⟩)
  refine g_if_ne (tgt := 15) C dX8_product__5 (by decide) (bI_r _) (fun h5 => ?_) (fun h5 => ?_)
  · refine g_iconst C dX8_product__15 ?_
    refine g_goto (tgt := 20) C dX8_product__16 (by decide) ?_
    exact J20 _ (by first | (have := bI_1 h5; exact Or.inr ⟨rfl, by omega⟩) | (have := bI_1 h12; exact Or.inr ⟨rfl, by omega⟩) | (have := bI_0 (Classical.not_not.mp h5); have := bI_0 h12; exact Or.inl ⟨rfl, by omega, by omega⟩))
  · refine g_iload_n C dX8_product__8 rfl ?_
    refine g_callS C (c_X8_isNo _ (v := x) h_x) ml_RX8_145 sm_yX8_isNo in_RX8 co_yX8_isNo hd_X8_isNo rfl ⟨by omega, by omega⟩ rfl (Nat.le_of_ble_eq_true rfl) ⟨by omega, by omega⟩ dX8_product__9 (fun v9 w9 hp9 => ?_)
    obtain ⟨rfl, hw9⟩ := hp9
    subst w9
    refine g_if_eq (tgt := 19) C dX8_product__12 (by decide) (bI_r _) (fun h12 => ?_) (fun h12 => ?_)
    · refine g_iconst C dX8_product__19 ?_
      exact J20 _ (by first | (have := bI_1 h5; exact Or.inr ⟨rfl, by omega⟩) | (have := bI_1 h12; exact Or.inr ⟨rfl, by omega⟩) | (have := bI_0 (Classical.not_not.mp h5); have := bI_0 h12; exact Or.inl ⟨rfl, by omega, by omega⟩))
    · refine g_iconst C dX8_product__15 ?_
      refine g_goto (tgt := 20) C dX8_product__16 (by decide) ?_
      exact J20 _ (by first | (have := bI_1 h5; exact Or.inr ⟨rfl, by omega⟩) | (have := bI_1 h12; exact Or.inr ⟨rfl, by omega⟩) | (have := bI_0 (Classical.not_not.mp h5); have := bI_0 h12; exact Or.inl ⟨rfl, by omega, by omega⟩))
