theorem RcV.sb {E X own cc nL ret} (C : CX E X own cc nL ret) {w : Wd} {a v n m : Nat} (h : SBw w a v n m) : RcV E X w RJ4 a := by
  obtain ⟨mb, f, hO, -⟩ := h
  exact RcV.ob (ci := 1) C rfl hO
def SBq (W0 w : Wd) (a N : Nat) : Prop := ∃ v n m, SBw w a v n m ∧ n ≤ N ∧ m ≤ 2 * n + 16 ∧ W0.1 ≤ v ∧ W0.1 ≤ a ∧ Fr W0 w
theorem SBq.new {w u : Wd} {e : WdE} (hw : wF w) (h : ∃ v, SBw u w.1 v 0 16 ∧ (wpush w e).1 ≤ v ∧ FrY (wpush w e) u w.1 w.1) : SBq w u w.1 0 := by
  obtain ⟨v, h1, h2, h3⟩ := h
  have h2 : w.1 + 1 ≤ v := h2
  exact ⟨v, 0, 16, h1, Nat.le_refl _, by omega, by omega, Nat.le_refl _, FrY.fr ((Fr.rf w).push e) h3 (Nat.le_refl _) (Nat.le_refl _)⟩
theorem capG_up {n k m : Nat} (h : m ≤ 2 * n + 16) : capG (n + k) m ≤ 2 * (n + k) + 16 := by
  unfold capG; split <;> (try split) <;> omega
theorem SBq.int {W0 w u : Wd} {a v n m N : Nat} (hn : n ≤ N) (hm : m ≤ 2 * n + 16) (hv : W0.1 ≤ v) (ha : W0.1 ≤ a) (hf : Fr W0 w) (h : ∃ v' k : Nat, 1 ≤ k ∧ k ≤ 11 ∧ SBw u a v' (n + k) (capG (n + k) m) ∧ (v' = v ∨ w.1 ≤ v') ∧ FrY w u a v) : SBq W0 u a (N + 11) := by
  obtain ⟨v', k, h1, h2, h3, h4, h5⟩ := h
  exact ⟨v', n + k, _, h3, by omega, capG_up hm, by have := hf.1; omega, ha, FrY.fr hf h5 ha hv⟩
theorem grow1 {w : Wd} {a v n m i : Nat} (h : SBw w a v n m) (hm : m ≤ 2 * n + 16) : gC (n + (kBy i).length) m ≤ 1 ∧ gS (n + (kBy i).length) m ≤ 2 * n + 48 ∧ (kBy i).length ≤ 16 := by
  have h1 := kBy_r i
  have h2 := capG_up (k := (kBy i).length) hm
  refine ⟨by unfold gC; split <;> omega, by unfold gS; split <;> omega, h1⟩
theorem SBq.str {W0 w u : Wd} {a v n m N i : Nat} (hn : n ≤ N) (hm : m ≤ 2 * n + 16) (hv : W0.1 ≤ v) (ha : W0.1 ≤ a) (hf : Fr W0 w) (hg : gC (n + (kBy i).length) m ≤ 1 ∧ gS (n + (kBy i).length) m ≤ 2 * n + 48 ∧ (kBy i).length ≤ 16) (h : ∃ v' : Nat, SBw u a v' (n + (kBy i).length) (capG (n + (kBy i).length) m) ∧ (v' = v ∨ w.1 ≤ v') ∧ FrY w u a v) : SBq W0 u a (N + 16) := by
  obtain ⟨v', h3, h4, h5⟩ := h
  exact ⟨v', n + (kBy i).length, _, h3, by omega, capG_up hm, by have := hf.1; omega, ha, FrY.fr hf h5 ha hv⟩
theorem grow {n m c s : Nat} (h1 : n ≤ m) (h2 : 18 * c + 16 ≤ m) (h3 : s + 32 ≤ 2 * m) (h4 : m ≤ 2 * n + 16) : 18 * (c + gC (n + 1) m) + 16 ≤ capG (n + 1) m ∧ s + gS (n + 1) m + 32 ≤ 2 * capG (n + 1) m ∧ capG (n + 1) m ≤ 2 * (n + 1) + 16 := by
  have h5 := capG_up (k := 1) h4
  have h6 := capG_ge (n + 1) m
  unfold gC gS
  by_cases q : n + 1 ≤ m
  · have e : capG (n + 1) m = m := if_pos q
    rw [if_pos q, if_pos q]
    omega
  · have e : capG (n + 1) m = 2 * m + 2 := by
      unfold capG
      rw [if_neg q, if_neg (by omega)]
    rw [if_neg q, if_neg q]
    omega
set_option maxHeartbeats 4000000 in
set_option maxRecDepth 100000 in
theorem c_X8_joined (l : Launch) {K : KC} {E : GE} {w : Wd} {q N : Nat} {f : Nat → Int} (hpq : w.2 q = some (true, eI 17 f)) (hfp : ∀ j, j < 17 → 0 ≤ f j ∧ f j ≤ 10) (hN : N ≤ 16) : St K E l yX8_joined cX8_joined 4 (some (.object "java/lang/String")) 6 (21) (15600) [.ref q, iI (N : Int)] w (fun r' w' => ∃ s : Nat, r' = some (.ref s) ∧ Fr w w') := by
  refine st_intro [some (.ref q), some (iI (N : Int)), none, none] rfl (Nat.le_of_ble_eq_true rfl) pn_X8 ?_
  intro X C hT hRm hl hnm hQ
  obtain ⟨hRf, hRl, hRc, hRs⟩ := hRm
  refine g_wf (fun hwf => ?_)
  refine g_wf (fun hwq => ?_)
  refine g_new (ci := 1) C rfl inTJ4 tyJ4 tyJ4_ok kl_RX8_86 ib_RJ4 in_RJ4 (fs := [.null, iI 0, iI 0, iI 0]) (by intro j hj; repeat (first | rfl | (cases j; rfl) | (rename_i j; cases j; rfl) | omega)) (by omega) dX8_joined_0 ?_
  refine g_dup C dX8_joined_3 rfl ?_
  refine t_callI C hT (c_J4_init_da8c8 _ wpush_s) ml_RX8_88 im_yJ4_init_da8c8 in_RJ4 co_yJ4_init_da8c8 rfl hd_J4_init_da8c8 rfl ⟨by omega, by omega⟩ rfl (Nat.le_of_ble_eq_true rfl) ⟨by omega, by omega⟩ dX8_joined_4 (fun v4 w4 hp4 => ?_)
  obtain ⟨rfl, hq0⟩ := hp4
  have hq := SBq.new hwq hq0
  refine g_astore_n C dX8_joined_7 (by decide) rfl ?_
  refine g_iconst C dX8_joined_8 ?_
  refine g_istore_n C dX8_joined_9 (by decide) rfl ?_
  refine g_widen (k' := 2) (n' := 20) (by omega) (by omega) ?_
  refine g_loop (σ := Nat × Wd) (fun t => t.1 ≤ N + 1 ∧ SBq w t.2 w.1 (11 * t.1)) (fun t => G E X 4 10 [some (.ref q), some (iI (N : Int)), some (.ref w.1), some (iI (t.1 : Int))] [] t.2 (2 + t.1) (20 + 900 * t.1)) (fun t => N + 1 - t.1) ?_ (0, w4) ⟨by dsimp only; omega, hq⟩
  rintro ⟨j, u⟩ hqq ih
  obtain ⟨hj, hq⟩ := hqq
  dsimp only at hj hq ⊢
  have hpl : u.2 q = some (true, eI 17 f) := by obtain ⟨v9, n9, m9, -, -, -, -, -, hf9⟩ := id hq; rw [hf9.2 q (hwq q _ hpq)]; exact hpq
  refine g_iload_n C dX8_joined_10 rfl ?_
  refine g_iload_n C dX8_joined_11 rfl ?_
  refine g_icmp_gt (tgt := 29) C dX8_joined_12 (by decide) (by omega) (by omega) (fun h12 => ?_) (fun h12 => ?_)
  · refine g_aload_n C dX8_joined_29 rfl ?_
    obtain ⟨v30, n30, m30, hS30, hn30, hm30, hv30, ha30, hf30⟩ := hq
    refine t_callV C hT (c_J4_toString_0e30d _ hS30 (by omega)) (RcV.sb C hS30) rfl ml_RX8_113 im_yJ4_toString_0e30d se_RJ4_yJ4_toString_0e30d in_RJ4 co_yJ4_toString_0e30d hd_J4_toString_0e30d rfl ⟨by omega, by omega⟩ rfl (Nat.le_of_ble_eq_true rfl) ⟨by omega, by omega⟩ dX8_joined_30 (fun v30 w30 hp30 => ?_)
    obtain ⟨rfl, hfr30⟩ := hp30
    have hfx := hf30.tr hfr30
    exact g_areturn C (Or.inl ⟨_, rfl⟩) hQ (Or.inr ⟨_, rfl⟩) dX8_joined_33 (by omega) (by omega) ⟨_, rfl, hfx⟩
  · refine g_aload_n C dX8_joined_15 rfl ?_
    refine g_aload_n C dX8_joined_16 rfl ?_
    refine g_iload_n C dX8_joined_17 rfl ?_
    refine g_ialoadN (j) C hpl (by omega) (by omega) dX8_joined_18 ?_
    have hfj := hfp j (by omega)
    obtain ⟨v19, n19, m19, hS19, hn19, hm19, hv19, ha19, hf19⟩ := hq
    refine t_callV C hT (c_J4_append_bf812 _ hS19 (by omega) (by omega) (by omega)) (RcV.sb C hS19) rfl ml_RX8_204 im_yJ4_append_bf812 se_RJ4_yJ4_append_bf812 in_RJ4 co_yJ4_append_bf812 hd_J4_append_bf812 rfl ⟨by omega, by omega⟩ rfl (Nat.le_of_ble_eq_true rfl) ⟨by omega, by omega⟩ dX8_joined_19 (fun v19 w19 hp19 => ?_)
    obtain ⟨rfl, x19⟩ := hp19
    replace hq := SBq.int hn19 hm19 hv19 ha19 hf19 x19
    refine g_pop C dX8_joined_22 rfl ?_
    refine g_iinc C dX8_joined_23 rfl (by decide) rfl ?_
    refine g_goto (tgt := 10) C dX8_joined_26 (by decide) ?_
    refine g_widen (k' := 2 + (j + 1)) (n' := 20 + 900 * (j + 1)) (by omega) (by omega) ?_
    exact ih (j + 1, w19) ⟨by dsimp only; omega, (show 11 * (j + 1) = 11 * j + 11 by omega) ▸ hq⟩ (by dsimp only; omega)
set_option maxHeartbeats 4000000 in
set_option maxRecDepth 100000 in
theorem c_X8_text (l : Launch) {K : KC} {E : GE} {w : Wd} {a : Nat} {z rx : Int} (ra : RowAt w a z 13) (hrx : 2 ≤ rx ∧ rx ≤ 16) : St K E l yX8_text cX8_text 4 (some (.object "java/lang/String")) 6 (60) (2000) [.ref a, iI rx] w (fun r' w' => ∃ s : Nat, r' = some (.ref s) ∧ Fr w w') := by
  refine st_intro [some (.ref a), some (iI rx), none, none] rfl (Nat.le_of_ble_eq_true rfl) pn_X8 ?_
  intro X C hT hRm hl hnm hQ
  obtain ⟨hRf, hRl, hRc, hRs⟩ := hRm
  refine g_wf (fun hwf => ?_)
  obtain ⟨len, f, e0, b0, d0⟩ := id ra
  have l1 := b0.n1
  have s0 := b0.s
  refine g_aload_n C dX8_text_0 rfl ?_
  refine g_iconst C dX8_text_1 ?_
  refine g_ialoadN (0) C e0 (by omega) (by omega) dX8_text_2 ?_
  refine g_if_ne (tgt := 9) C dX8_text_3 (by decide) (by omega) (fun h3 => ?_) (fun h3 => ?_)
  · refine g_aload_n C dX8_text_9 rfl ?_
    refine g_cloneI C e0 ml_RX8_59 (by omega) (by omega) (Nat.le_of_ble_eq_true rfl) (by omega) dX8_text_10 ?_
    refine g_castI C wpush_s kl_RX8_19 dX8_text_13 ?_
    refine g_astore_n C dX8_text_16 (by decide) rfl ?_
    refine g_wf (fun hwq => ?_)
    refine g_new (ci := 1) C rfl inTJ4 tyJ4 tyJ4_ok kl_RX8_86 ib_RJ4 in_RJ4 (fs := [.null, iI 0, iI 0, iI 0]) (by intro j hj; repeat (first | rfl | (cases j; rfl) | (rename_i j; cases j; rfl) | omega)) (by omega) dX8_text_17 ?_
    refine g_dup C dX8_text_20 rfl ?_
    refine t_callI C hT (c_J4_init_da8c8 _ wpush_s) ml_RX8_88 im_yJ4_init_da8c8 in_RJ4 co_yJ4_init_da8c8 rfl hd_J4_init_da8c8 rfl ⟨by omega, by omega⟩ rfl (Nat.le_of_ble_eq_true rfl) ⟨by omega, by omega⟩ dX8_text_21 (fun v21 w21 hp21 => ?_)
    obtain ⟨rfl, v0, hS0, hv0, hf0⟩ := hp21
    have hv0 : w.1 + 1 + 1 ≤ v0 := hv0
    have hff : Fr w w21 := FrY.fr (((Fr.rf w).push _).push _) hf0 (by show w.1 ≤ w.1 + 1; omega) (by show w.1 ≤ w.1 + 1; omega)
    have hb0 : w21.2 w.1 = some (true, eI len f) := by
      rw [hf0.2 w.1 (by show w.1 < w.1 + 1 + 1; omega) (by show w.1 ≠ w.1 + 1; omega) (by show w.1 ≠ w.1 + 1; omega), wpush_n (by show w.1 ≠ w.1 + 1; omega)]
      exact wpush_s
    have hb2 : mg f len < 2 ^ (30 * (len - 1)) := mg_lt2 b0.d
    refine g_astore_n C dX8_text_24 (by decide) rfl ?_
    refine g_widen (k' := 3 + 0) (n' := len + 20 + 0) (by omega) (by omega) ?_
    refine g_loop (σ := Wd × (Nat → Int) × Nat × Nat × Nat × Nat × Nat) (fun t => t.1.2 w.1 = some (true, eI len t.2.1) ∧ DG t.2.1 len ∧ SBw t.1 (w.1 + 1) t.2.2.1 t.2.2.2.1 t.2.2.2.2.1 ∧ w.1 + 1 < t.2.2.1 ∧ Fr w t.1 ∧ 18 * t.2.2.2.2.2.1 + 16 ≤ t.2.2.2.2.1 ∧ t.2.2.2.2.2.2 + 32 ≤ 2 * t.2.2.2.2.1 ∧ t.2.2.2.2.1 ≤ 2 * t.2.2.2.1 + 16 ∧ t.2.2.2.1 ≤ 30 * (len - 1) ∧ mg t.2.1 len < 2 ^ (30 * (len - 1) - t.2.2.2.1)) (fun t => G E X 4 25 [some (.ref a), some (iI rx), some (.ref w.1), some (.ref (w.1 + 1))] [] t.1 (3 + t.2.2.2.2.2.1) (len + 20 + t.2.2.2.2.2.2)) (fun t => (mg t.2.1 len).toNat) ?_ (w21, f, v0, 0, 16, 0, 0) ⟨hb0, b0.d, hS0, by dsimp only; omega, hff, by dsimp only; omega, by dsimp only; omega, by dsimp only; omega, by dsimp only; omega, hb2⟩
    rintro ⟨u, g, v, n, mm, c, sl⟩ hqq ih
    obtain ⟨hbu, hdg, hS, hvv, hfu, hc1, hc2, hc3, hnn, hmg⟩ := hqq
    dsimp only at hbu hdg hS hvv hfu hc1 hc2 hc3 hnn hmg ⊢
    have hnm : n ≤ mm := by obtain ⟨_, _, _, _, _, _, q⟩ := id hS; exact q
    have hg0 := mg_nonneg hdg
    refine g_aload_n C dX8_text_25 rfl ?_
    refine g_wf (fun hwu => ?_)
    refine g_callS C (c_X8_isNone _ hbu ⟨by omega, by omega⟩ hdg) ml_RX8_89 sm_yX8_isNone in_RX8 co_yX8_isNone hd_X8_isNone rfl ⟨by omega, by omega⟩ rfl (Nat.le_of_ble_eq_true rfl) ⟨by omega, by omega⟩ dX8_text_26 (fun v26 w26 hp26 => ?_)
    obtain ⟨⟨y26, rfl, hy26⟩, hw26⟩ := hp26
    subst w26
    refine g_if_ne (tgt := 50) C dX8_text_29 (by decide) (by omega) (fun h29 => ?_) (fun h29 => ?_)
    · have J63 : ∀ (u2 : Wd) (v2 n2 m2 c2 s2 : Nat), SBw u2 (w.1 + 1) v2 n2 m2 → w.1 ≤ v2 → Fr w u2 → m2 ≤ 2 * n2 + 16 → n2 ≤ 30 * (len - 1) + 1 → 18 * c2 + 16 ≤ m2 → s2 + 32 ≤ 2 * m2 → G E X 4 63 [some (.ref a), some (iI rx), some (.ref w.1), some (.ref (w.1 + 1))] [] u2 (3 + c2) (len + 20 + s2) := by
        intro u2 v2 n2 m2 c2 s2 hS2 hv2 hf2 hm2 hn2 hc2' hs2
        refine g_aload_n C dX8_text_63 rfl ?_
        refine t_callV C hT (c_J4_reverse_43fcb _ hS2 (by omega)) (RcV.sb C hS2) rfl ml_RX8_109 im_yJ4_reverse_43fcb se_RJ4_yJ4_reverse_43fcb in_RJ4 co_yJ4_reverse_43fcb hd_J4_reverse_43fcb rfl ⟨by omega, by omega⟩ rfl (Nat.le_of_ble_eq_true rfl) ⟨by omega, by omega⟩ dX8_text_64 (fun v64 w64 hp64 => ?_)
        obtain ⟨rfl, v64, hS64, hv64, hf64⟩ := hp64
        have hff2 := FrY.fr hf2 hf64 (by omega) hv2
        refine t_callV C hT (c_J4_toString_0e30d _ hS64 (by omega)) (RcV.sb C hS64) rfl ml_RX8_113 im_yJ4_toString_0e30d se_RJ4_yJ4_toString_0e30d in_RJ4 co_yJ4_toString_0e30d hd_J4_toString_0e30d rfl ⟨by omega, by omega⟩ rfl (Nat.le_of_ble_eq_true rfl) ⟨by omega, by omega⟩ dX8_text_67 (fun v67 w67 hp67 => ?_)
        obtain ⟨rfl, hf67⟩ := hp67
        exact g_areturn C (Or.inl ⟨_, rfl⟩) hQ (Or.inr ⟨_, rfl⟩) dX8_text_70 (by omega) (by omega) ⟨_, rfl, hff2.tr hf67⟩
      obtain ⟨gr1, gr2, gr3⟩ := grow hnm hc1 hc2 hc3
      refine g_aload_n C dX8_text_50 rfl ?_
      refine g_iconst C dX8_text_51 ?_
      refine g_ialoadN (0) C (by rw [hfu.2 a (hwf a _ e0)]; exact e0) (by omega) (by omega) dX8_text_52 ?_
      refine g_if_ge (tgt := 63) C dX8_text_53 (by decide) (by omega) (fun h53 => ?_) (fun h53 => ?_)
      · first
        | exact J63 u v n mm c sl hS (by omega) hfu (by omega) (by omega) (by omega) (by omega)
        | exact g_widen (by omega) (by omega) (J63 w59 v59 (n + 1) (capG (n + 1) mm) (c + gC (n + 1) mm) (sl + gS (n + 1) mm) hS59 (by omega) (FrY.fr hfu hf59 (by omega) (by omega)) gr3 (by omega) gr1 gr2)
      · refine g_aload_n C dX8_text_56 rfl ?_
        refine g_bipush C dX8_text_57 (by decide) ?_
        refine t_callV C hT (c_J4_append_cf468 _ hS (x := 45) (by omega) (by omega) (by omega)) (RcV.sb C hS) rfl ml_RX8_105 im_yJ4_append_cf468 se_RJ4_yJ4_append_cf468 in_RJ4 co_yJ4_append_cf468 hd_J4_append_cf468 rfl ⟨by omega, by omega⟩ rfl (Nat.le_of_ble_eq_true rfl) ⟨by omega, by omega⟩ dX8_text_59 (fun v59 w59 hp59 => ?_)
        obtain ⟨rfl, v59, hS59, hv59, hf59⟩ := hp59
        have hfu1 := hfu.1
        refine g_pop C dX8_text_62 rfl ?_
        first
        | exact J63 u v n mm c sl hS (by omega) hfu (by omega) (by omega) (by omega) (by omega)
        | exact g_widen (by omega) (by omega) (J63 w59 v59 (n + 1) (capG (n + 1) mm) (c + gC (n + 1) mm) (sl + gS (n + 1) mm) hS59 (by omega) (FrY.fr hfu hf59 (by omega) (by omega)) gr3 (by omega) gr1 gr2)
    · refine g_aload_n C dX8_text_32 rfl ?_
      refine g_ldcS C hT 3 rfl dX8_text_33 ?_
      refine g_aload_n C dX8_text_35 rfl ?_
      refine g_iload_n C dX8_text_36 rfl ?_
      refine g_callS C (c_X8_divide _ (d := rx) hbu ⟨by omega, by omega⟩ hdg (by omega)) ml_RX8_95 sm_yX8_divide in_RX8 co_yX8_divide hd_X8_divide rfl ⟨by omega, by omega⟩ rfl (Nat.le_of_ble_eq_true rfl) ⟨by omega, by omega⟩ dX8_text_37 (fun v37 w37 hp37 => ?_)
      obtain ⟨x, g2, rfl, rfl, hdg2, hg20, hx0, hx1, hxe⟩ := hp37
      obtain ⟨xn, rfl⟩ := Int.eq_ofNat_of_zero_le hx0
      have hge2 := mg_nonneg hdg2
      have h2 : mg g2 len * 2 ≤ mg g len := by
        have := Int.mul_le_mul_of_nonneg_left (show (2 : Int) ≤ rx by omega) hge2
        omega
      have hn1 : n < 30 * (len - 1) := by
        rcases Nat.lt_or_ge n (30 * (len - 1)) with q | q
        · exact q
        · rw [show 30 * (len - 1) - n = 0 by omega, Int.pow_zero] at hmg
          omega
      have hmg2 : mg g2 len < 2 ^ (30 * (len - 1) - (n + 1)) := by
        have e9 : (2 : Int) ^ (30 * (len - 1) - n) = 2 ^ (30 * (len - 1) - (n + 1)) * 2 := by rw [← Int.pow_succ]; congr 1; omega
        rw [e9] at hmg
        omega
      have hS2 : SBw (wset u w.1 (true, eI len g2)) (w.1 + 1) v n mm := by
        obtain ⟨mb, fb, k1, k2, k3, k4, k5⟩ := hS
        exact ⟨mb, fb, by rw [wset_n (by omega)]; exact k1, by rw [wset_n (by omega)]; exact k2, k3, k4, k5⟩
      obtain ⟨gr1, gr2, gr3⟩ := grow hnm hc1 hc2 hc3
      have hlen3 : (kBy 3).length = 16 := rfl
      refine t_callV C hT (c_J0_charAt_5068e _ (i := 3) (by omega) (p := xn) (by omega)) (RcV.k hT (by omega)) rfl ml_RX8_99 im_yJ0_charAt_5068e se_RJ0_yJ0_charAt_5068e in_RJ0 co_yJ0_charAt_5068e hd_J0_charAt_5068e rfl ⟨by omega, by omega⟩ rfl (Nat.le_of_ble_eq_true rfl) ⟨by omega, by omega⟩ dX8_text_40 (fun v40 w40 hp40 => ?_)
      obtain ⟨⟨y40, rfl, y400, y401⟩, hw40⟩ := hp40
      subst w40
      refine t_callV C hT (c_J4_append_cf468 _ hS2 (x := y40) (by omega) (by omega) (by omega)) (RcV.sb C hS2) rfl ml_RX8_105 im_yJ4_append_cf468 se_RJ4_yJ4_append_cf468 in_RJ4 co_yJ4_append_cf468 hd_J4_append_cf468 rfl ⟨by omega, by omega⟩ rfl (Nat.le_of_ble_eq_true rfl) ⟨by omega, by omega⟩ dX8_text_43 (fun v43 w43 hp43 => ?_)
      obtain ⟨rfl, v43, hS43, hv43, hf43⟩ := hp43
      have hu1 : (wset u w.1 (true, eI len g2)).1 = u.1 := rfl
      have hfu1 := hfu.1
      have hlt : w.1 < u.1 := by have := (show wF u from hwu); exact this _ _ hbu
      have hlt2 : w.1 + 1 < u.1 := by obtain ⟨_, _, k1, _⟩ := hS; exact hwu _ _ k1
      refine g_pop C dX8_text_46 rfl ?_
      refine g_goto (tgt := 25) C dX8_text_47 (by decide) ?_
      refine g_widen (k' := 3 + (c + gC (n + 1) mm)) (n' := len + 20 + (sl + gS (n + 1) mm)) (by omega) (by omega) ?_
      exact ih (w43, g2, v43, n + 1, capG (n + 1) mm, c + gC (n + 1) mm, sl + gS (n + 1) mm) ⟨by rw [hf43.2 w.1 (by rw [hu1]; exact hlt) (by omega) (by omega)]; exact wset_s, hdg2, hS43, by dsimp only; omega, FrY.fr (hfu.set (Nat.le_refl _) _) hf43 (by omega) (by omega), gr1, gr2, gr3, by dsimp only; omega, hmg2⟩ (by dsimp only; omega)
  · refine g_ldcS C hT 2 rfl dX8_text_6 ?_
    exact g_areturn C (Or.inl ⟨_, rfl⟩) hQ (Or.inr ⟨_, rfl⟩) dX8_text_8 (by omega) (by omega) ⟨_, rfl, Fr.rf w⟩
