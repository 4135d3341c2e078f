theorem RowAt.ex4 {w w' : Wd} {q c : Nat} {z : Int} (h : RowAt w q z c) (e : Ex w w') : RowAt w' q z c := h.ex e
theorem GB.i {b : Int} (h : GB b) : -2147483648 ≤ b ∧ b < 2147483648 := by have h1 := h.1; have h2 := h.2.1; omega
theorem RowAt.lt {w : Wd} {q c : Nat} {z : Int} (h : RowAt w q z c) (hw : wF w) : q < w.1 := by
  obtain ⟨n, f, a, -, -⟩ := h
  exact hw q _ a
/-- what every pair keeps -/
def HPp (pb le ri : Nat → Int) : Prop := ∀ i, i < 3 → GB (pb i) ∧ ¬ LGN ≤ aB (le i) ∧ ¬ LGN ≤ aB (ri i)
set_option maxHeartbeats 4000000 in
set_option maxRecDepth 100000 in
theorem c_X8_pairCopy (l : Launch) {E : GE} {w : Wd} {v into : Int} (h_v : -2147483648 ≤ v ∧ v < 2147483648) (h_into : -2147483648 ≤ into ∧ into < 2147483648) {τ : Nat → Nat} {m : Nat} {A : MA} {th : Int} {ba st pb le ri : Nat → Int} {sp : Nat → Nat → Int} {ct : Nat → Int} (hM : MSx τ w m A th ba st pb le ri sp ct) (hP : HPp pb le ri) : Sp E l yX8_pairCopy cX8_pairCopy 3 (some .int) 4 (0) (0) [.ref m, iI v, iI into] w (fun r w' => ∃ (τ' : Nat → Nat) (A' : MA) (t : Int) (pb' le' ri' ct' : Nat → Int) (ans : Int), (∀ a, a < w.1 → τ' a = τ a) ∧ r = some (iI ans) ∧ MSx τ' w' m A' (t) (ba) (st) (pb') (le') (ri') (sp) (ct') ∧ Keep τ w w' ∧ (¬ ((0 ≤ v ∧ v ≤ 2) ∧ (0 ≤ into ∧ into ≤ 2)) ∧ t = 1 ∧ ans = 0 ∧ pb' = pb ∧ le' = le ∧ ri' = ri ∧ ct' = ct ∨ ((0 ≤ v ∧ v ≤ 2) ∧ (0 ≤ into ∧ into ≤ 2)) ∧ t = 0 ∧ ans = bI (¬ (pb into.toNat = (pb v.toNat) ∧ le into.toNat = (le v.toNat) ∧ ri into.toNat = (ri v.toNat))) ∧ pb' = iup pb into.toNat (pb v.toNat) ∧ le' = iup le into.toNat (le v.toNat) ∧ ri' = iup ri into.toNat (ri v.toNat) ∧ ct' = iup ct 1 (ct 1 + 1))) := by
  refine sp_intro [some (.ref m), some (iI v), some (iI into)] rfl (Nat.le_of_ble_eq_true rfl) pn_X8 ?_
  intro X C hRm hl hnm hQ
  obtain ⟨hRf, hRl, hRc, hRs⟩ := hRm
  refine g_wf (fun hwf => ?_)
  refine g_aload_n C dX8_pairCopy_0 rfl ?_
  refine g_iload_n C dX8_pairCopy_1 rfl ?_
  refine g_callS C (c_X8_isNo _ (v := v) h_v) ml_RX8_145 sm_yX8_isNo in_RX8 co_yX8_isNo hd_X8_isNo rfl ⟨by omega, by omega⟩ rfl (Nat.le_of_ble_eq_true rfl) ⟨by omega, by omega⟩ dX8_pairCopy_2 (fun v2 w2 hp2 => ?_)
  obtain ⟨rfl, hw2⟩ := hp2
  subst w2
  have J20 : ∀ y : Int, (y = 0 ∧ (0 ≤ v ∧ v ≤ 2) ∧ (0 ≤ into ∧ into ≤ 2) ∨ y = 1 ∧ ¬ ((0 ≤ v ∧ v ≤ 2) ∧ (0 ≤ into ∧ into ≤ 2))) → G E X 3 20 [some (.ref m), some (iI v), some (iI into)] [iI y, .ref m] w 0 0 := by
    intro y hy
    refine g_iconst C dX8_pairCopy_20 ?_
    refine g_callV C (c_X8_start _ hM (y := y) (wh := 1) (by omega) (by omega)) (ci := 10) rfl hM.o rfl ml_RX8_149 im_yX8_start se_RX8_yX8_start in_RX8 co_yX8_start hd_X8_start rfl ⟨by omega, by omega⟩ rfl (Nat.le_of_ble_eq_true rfl) ⟨by omega, by omega⟩ dX8_pairCopy_21 (fun v21 w21 hp21 => ?_)
    obtain ⟨t6, rfl, ht6, hM6, hK6⟩ := hp21
    have hy6 : (y) = 0 ∨ (y) = 1 := (by omega)
    refine g_if_eq (tgt := 31) C dX8_pairCopy_24 (by decide) (by omega) (fun h24 => ?_) (fun h24 => ?_)
    · have hin : (0 ≤ v ∧ v ≤ 2) ∧ (0 ≤ into ∧ into ≤ 2) := by omega
      obtain ⟨V, rfl⟩ := Int.eq_ofNat_of_zero_le hin.1.1
      obtain ⟨I, rfl⟩ := Int.eq_ofNat_of_zero_le hin.2.1
      obtain ⟨q1, hq1, tq1, r1⟩ := hM6.L (i := V) (by omega)
      obtain ⟨q2, hq2, tq2, r2⟩ := hM6.R (i := V) (by omega)
      have g1 := (hP V (by omega)).1.i
      have g2 := (hP I (by omega)).1.i
      refine g_aload_n C dX8_pairCopy_31 rfl ?_
      refine g_iload_n C dX8_pairCopy_32 rfl ?_
      refine g_aload_n C dX8_pairCopy_33 rfl ?_
      refine g_get (ci := 10) C rfl inTX8 3 (by decide) fl_RX8_16 rfl hM6.o rfl dX8_pairCopy_34 ?_
      refine g_iload_n C dX8_pairCopy_37 rfl ?_
      refine g_ialoadN (V) C hM6.p (by omega) (by omega) dX8_pairCopy_38 ?_
      refine g_aload_n C dX8_pairCopy_39 rfl ?_
      refine g_get (ci := 10) C rfl inTX8 4 (by decide) fl_RX8_24 rfl hM6.o rfl dX8_pairCopy_40 ?_
      refine g_iload_n C dX8_pairCopy_43 rfl ?_
      refine g_aaloadN (V) C rfl rfl hM6.l (by omega) (by omega) hq1 dX8_pairCopy_44 ?_
      refine g_aload_n C dX8_pairCopy_45 rfl ?_
      refine g_get (ci := 10) C rfl inTX8 5 (by decide) fl_RX8_28 rfl hM6.o rfl dX8_pairCopy_46 ?_
      refine g_iload_n C dX8_pairCopy_49 rfl ?_
      refine g_aaloadN (V) C rfl rfl hM6.r (by omega) (by omega) hq2 dX8_pairCopy_50 ?_
      refine g_callV C (c_X8_become _ hM6 (i := I) (bz := pb V) (by omega) g2 g1 tq1 tq2 r1 r2) (ci := 10) rfl hM6.o rfl ml_RX8_232 im_yX8_become se_RX8_yX8_become in_RX8 co_yX8_become hd_X8_become rfl ⟨by omega, by omega⟩ rfl (Nat.le_of_ble_eq_true rfl) ⟨by omega, by omega⟩ dX8_pairCopy_51 (fun v51 w51 hp51 => ?_)
      obtain ⟨rfl, hM9, hK9⟩ := hp51
      exact g_ireturn C hQ dX8_pairCopy_54 (Nat.le_refl _) (Nat.le_refl _) (by
        first
        | exact ⟨τ, _, t6, _, _, _, _, _, (fun _ _ => rfl), rfl, hM9, hK6.tr hK9, Or.inr ⟨hin, by omega, rfl, rfl, rfl, rfl, rfl⟩⟩
        | exact ⟨τ, _, t6, _, _, _, _, _, (fun _ _ => rfl), rfl, hM6, hK6, Or.inl ⟨by omega, by omega, rfl, rfl, rfl, rfl, rfl⟩⟩)
    · refine g_iconst C dX8_pairCopy_27 ?_
      refine g_goto (tgt := 54) C dX8_pairCopy_28 (by decide) ?_
      exact g_ireturn C hQ dX8_pairCopy_54 (Nat.le_refl _) (Nat.le_refl _) (by
        first
        | exact ⟨τ, _, t6, _, _, _, _, _, (fun _ _ => rfl), rfl, hM9, hK6.tr hK9, Or.inr ⟨hin, by omega, rfl, rfl, rfl, rfl, rfl⟩⟩
        | exact ⟨τ, _, t6, _, _, _, _, _, (fun _ _ => rfl), rfl, hM6, hK6, Or.inl ⟨by omega, by omega, rfl, rfl, rfl, rfl, rfl⟩⟩)
  refine g_if_ne (tgt := 15) C dX8_pairCopy_5 (by decide) (bI_r _) (fun h5 => ?_) (fun h5 => ?_)
  · refine g_iconst C dX8_pairCopy_15 ?_
    refine g_goto (tgt := 20) C dX8_pairCopy_16 (by decide) ?_
    exact J20 _ (by first | (have := bI_1 h5; exact Or.inr ⟨rfl, by omega⟩) | (have := bI_1 h12; exact Or.inr ⟨rfl, by omega⟩) | (have := bI_0 (Classical.not_not.mp h5); have := bI_0 h12; exact Or.inl ⟨rfl, by omega, by omega⟩))
  · refine g_iload_n C dX8_pairCopy_8 rfl ?_
    refine g_callS C (c_X8_isNo _ (v := into) h_into) ml_RX8_145 sm_yX8_isNo in_RX8 co_yX8_isNo hd_X8_isNo rfl ⟨by omega, by omega⟩ rfl (Nat.le_of_ble_eq_true rfl) ⟨by omega, by omega⟩ dX8_pairCopy_9 (fun v9 w9 hp9 => ?_)
    obtain ⟨rfl, hw9⟩ := hp9
    subst w9
    refine g_if_eq (tgt := 19) C dX8_pairCopy_12 (by decide) (bI_r _) (fun h12 => ?_) (fun h12 => ?_)
    · refine g_iconst C dX8_pairCopy_19 ?_
      exact J20 _ (by first | (have := bI_1 h5; exact Or.inr ⟨rfl, by omega⟩) | (have := bI_1 h12; exact Or.inr ⟨rfl, by omega⟩) | (have := bI_0 (Classical.not_not.mp h5); have := bI_0 h12; exact Or.inl ⟨rfl, by omega, by omega⟩))
    · refine g_iconst C dX8_pairCopy_15 ?_
      refine g_goto (tgt := 20) C dX8_pairCopy_16 (by decide) ?_
      exact J20 _ (by first | (have := bI_1 h5; exact Or.inr ⟨rfl, by omega⟩) | (have := bI_1 h12; exact Or.inr ⟨rfl, by omega⟩) | (have := bI_0 (Classical.not_not.mp h5); have := bI_0 h12; exact Or.inl ⟨rfl, by omega, by omega⟩))
set_option maxHeartbeats 4000000 in
set_option maxRecDepth 100000 in
theorem c_X8_order (l : Launch) {E : GE} {w : Wd} {v into z : Int} (h_v : -2147483648 ≤ v ∧ v < 2147483648) (h_into : -2147483648 ≤ into ∧ into < 2147483648) (hz : z = 0 ∨ z = 1) {τ : Nat → Nat} {m : Nat} {A : MA} {th : Int} {ba st pb le ri : Nat → Int} {sp : Nat → Nat → Int} {ct : Nat → Int} (hM : MSx τ w m A th ba st pb le ri sp ct) : Sp E l yX8_order cX8_order 4 (some .int) 3 (0) (0) [.ref m, iI v, iI into, iI z] w (fun r w' => ∃ (t ans : Int), r = some (iI ans) ∧ MSx τ w' m A (t) (ba) (st) (pb) (le) (ri) (sp) (ct) ∧ Keep τ w w' ∧ (¬ ((0 ≤ v ∧ v ≤ 2) ∧ (0 ≤ into ∧ into ≤ 2)) ∧ t = 1 ∧ ans = 0 ∨ ((0 ≤ v ∧ v ≤ 2) ∧ (0 ≤ into ∧ into ≤ 2)) ∧ t = 0 ∧ ((if z = 1 then le v.toNat else ri v.toNat) < (if z = 1 then le into.toNat else ri into.toNat) ∧ ans = -1 ∨ (if z = 1 then le v.toNat else ri v.toNat) = (if z = 1 then le into.toNat else ri into.toNat) ∧ ans = 0 ∨ (if z = 1 then le into.toNat else ri into.toNat) < (if z = 1 then le v.toNat else ri v.toNat) ∧ ans = 1))) := by
  refine sp_intro [some (.ref m), some (iI v), some (iI into), some (iI z)] rfl (Nat.le_of_ble_eq_true rfl) pn_X8 ?_
  intro X C hRm hl hnm hQ
  obtain ⟨hRf, hRl, hRc, hRs⟩ := hRm
  refine g_wf (fun hwf => ?_)
  refine g_aload_n C dX8_order_0 rfl ?_
  refine g_iload_n C dX8_order_1 rfl ?_
  refine g_callS C (c_X8_isNo _ (v := v) h_v) ml_RX8_145 sm_yX8_isNo in_RX8 co_yX8_isNo hd_X8_isNo rfl ⟨by omega, by omega⟩ rfl (Nat.le_of_ble_eq_true rfl) ⟨by omega, by omega⟩ dX8_order_2 (fun v2 w2 hp2 => ?_)
  obtain ⟨rfl, hw2⟩ := hp2
  subst w2
  have J20 : ∀ y : Int, (y = 0 ∧ (0 ≤ v ∧ v ≤ 2) ∧ (0 ≤ into ∧ into ≤ 2) ∨ y = 1 ∧ ¬ ((0 ≤ v ∧ v ≤ 2) ∧ (0 ≤ into ∧ into ≤ 2))) → G E X 4 20 [some (.ref m), some (iI v), some (iI into), some (iI z)] [iI y, .ref m] w 0 0 := by
    intro y hy
    refine g_iconst C dX8_order_20 ?_
    refine g_callV C (c_X8_start _ hM (y := y) (wh := 1) (by omega) (by omega)) (ci := 10) rfl hM.o rfl ml_RX8_149 im_yX8_start se_RX8_yX8_start in_RX8 co_yX8_start hd_X8_start rfl ⟨by omega, by omega⟩ rfl (Nat.le_of_ble_eq_true rfl) ⟨by omega, by omega⟩ dX8_order_21 (fun v21 w21 hp21 => ?_)
    obtain ⟨t6, rfl, ht6, hM6, hK6⟩ := hp21
    have hy6 : (y) = 0 ∨ (y) = 1 := (by omega)
    refine g_if_eq (tgt := 31) C dX8_order_24 (by decide) (by omega) (fun h24 => ?_) (fun h24 => ?_)
    · have hin : (0 ≤ v ∧ v ≤ 2) ∧ (0 ≤ into ∧ into ≤ 2) := by omega
      obtain ⟨V, rfl⟩ := Int.eq_ofNat_of_zero_le hin.1.1
      obtain ⟨I, rfl⟩ := Int.eq_ofNat_of_zero_le hin.2.1
      refine g_aload_n C dX8_order_31 rfl ?_
      refine g_iload_n C dX8_order_32 rfl ?_
      refine g_iload_n C dX8_order_33 rfl ?_
      refine g_callV C (c_X8_its _ hM6 (i := V) (y := z) (by omega) hz) (ci := 10) rfl hM6.o rfl ml_RX8_246 im_yX8_its se_RX8_yX8_its in_RX8 co_yX8_its hd_X8_its rfl ⟨by omega, by omega⟩ rfl (Nat.le_of_ble_eq_true rfl) ⟨by omega, by omega⟩ dX8_order_34 (fun v34 w34 hp34 => ?_)
      obtain ⟨⟨q1, rfl, tq1, r1⟩, hw34⟩ := hp34
      subst w34
      obtain ⟨n1, f1, e1, b1, c1⟩ := r1
      refine g_aload_n C dX8_order_37 rfl ?_
      refine g_iload_n C dX8_order_38 rfl ?_
      refine g_iload_n C dX8_order_39 rfl ?_
      refine g_callV C (c_X8_its _ hM6 (i := I) (y := z) (by omega) hz) (ci := 10) rfl hM6.o rfl ml_RX8_246 im_yX8_its se_RX8_yX8_its in_RX8 co_yX8_its hd_X8_its rfl ⟨by omega, by omega⟩ rfl (Nat.le_of_ble_eq_true rfl) ⟨by omega, by omega⟩ dX8_order_40 (fun v40 w40 hp40 => ?_)
      obtain ⟨⟨q2, rfl, tq2, r2⟩, hw40⟩ := hp40
      subst w40
      obtain ⟨n2, f2, e2, b2, c2⟩ := r2
      refine g_callS C (c_X8_side _ e1 e2 b1 b2 (by omega) (by omega)) ml_RX8_199 sm_yX8_side in_RX8 co_yX8_side hd_X8_side rfl ⟨by omega, by omega⟩ rfl (Nat.le_of_ble_eq_true rfl) ⟨by omega, by omega⟩ dX8_order_43 (fun v43 w43 hp43 => ?_)
      obtain ⟨⟨d, rfl, hd⟩, hw43⟩ := hp43
      subst w43
      exact g_ireturn C hQ dX8_order_46 (Nat.le_refl _) (Nat.le_refl _) (by
        first
        | exact ⟨t6, _, rfl, hM6, hK6, Or.inr ⟨hin, by omega, hd⟩⟩
        | exact ⟨t6, 0, rfl, hM6, hK6, Or.inl ⟨by omega, by omega, rfl⟩⟩)
    · refine g_iconst C dX8_order_27 ?_
      refine g_goto (tgt := 46) C dX8_order_28 (by decide) ?_
      exact g_ireturn C hQ dX8_order_46 (Nat.le_refl _) (Nat.le_refl _) (by
        first
        | exact ⟨t6, _, rfl, hM6, hK6, Or.inr ⟨hin, by omega, hd⟩⟩
        | exact ⟨t6, 0, rfl, hM6, hK6, Or.inl ⟨by omega, by omega, rfl⟩⟩)
  refine g_if_ne (tgt := 15) C dX8_order_5 (by decide) (bI_r _) (fun h5 => ?_) (fun h5 => ?_)
  · refine g_iconst C dX8_order_15 ?_
    refine g_goto (tgt := 20) C dX8_order_16 (by decide) ?_
    exact J20 _ (by first | (have := bI_1 h5; exact Or.inr ⟨rfl, by omega⟩) | (have := bI_1 h12; exact Or.inr ⟨rfl, by omega⟩) | (have := bI_0 (Classical.not_not.mp h5); have := bI_0 h12; exact Or.inl ⟨rfl, by omega, by omega⟩))
  · refine g_iload_n C dX8_order_8 rfl ?_
    refine g_callS C (c_X8_isNo _ (v := into) h_into) ml_RX8_145 sm_yX8_isNo in_RX8 co_yX8_isNo hd_X8_isNo rfl ⟨by omega, by omega⟩ rfl (Nat.le_of_ble_eq_true rfl) ⟨by omega, by omega⟩ dX8_order_9 (fun v9 w9 hp9 => ?_)
    obtain ⟨rfl, hw9⟩ := hp9
    subst w9
    refine g_if_eq (tgt := 19) C dX8_order_12 (by decide) (bI_r _) (fun h12 => ?_) (fun h12 => ?_)
    · refine g_iconst C dX8_order_19 ?_
      exact J20 _ (by first | (have := bI_1 h5; exact Or.inr ⟨rfl, by omega⟩) | (have := bI_1 h12; exact Or.inr ⟨rfl, by omega⟩) | (have := bI_0 (Classical.not_not.mp h5); have := bI_0 h12; exact Or.inl ⟨rfl, by omega, by omega⟩))
    · refine g_iconst C dX8_order_15 ?_
      refine g_goto (tgt := 20) C dX8_order_16 (by decide) ?_
      exact J20 _ (by first | (have := bI_1 h5; exact Or.inr ⟨rfl, by omega⟩) | (have := bI_1 h12; exact Or.inr ⟨rfl, by omega⟩) | (have := bI_0 (Classical.not_not.mp h5); have := bI_0 h12; exact Or.inl ⟨rfl, by omega, by omega⟩))
set_option maxHeartbeats 4000000 in
set_option maxRecDepth 100000 in
theorem c_X8_isSame (l : Launch) {E : GE} {w : Wd} {v into : Int} (h_v : -2147483648 ≤ v ∧ v < 2147483648) (h_into : -2147483648 ≤ into ∧ into < 2147483648) {τ : Nat → Nat} {m : Nat} {A : MA} {th : Int} {ba st pb le ri : Nat → Int} {sp : Nat → Nat → Int} {ct : Nat → Int} (hM : MSx τ w m A th ba st pb le ri sp ct) (hP : HPp pb le ri) : Sp E l yX8_isSame cX8_isSame 3 (some .boolean) 3 (0) (0) [.ref m, iI v, iI into] w (fun r w' => ∃ (t ans : Int), r = some (iI ans) ∧ MSx τ w' m A (t) (ba) (st) (pb) (le) (ri) (sp) (ct) ∧ Keep τ w w' ∧ (¬ ((0 ≤ v ∧ v ≤ 2) ∧ (0 ≤ into ∧ into ≤ 2)) ∧ t = 1 ∧ ans = 0 ∨ ((0 ≤ v ∧ v ≤ 2) ∧ (0 ≤ into ∧ into ≤ 2)) ∧ t = 0 ∧ ans = bI (pb v.toNat = pb into.toNat ∧ le v.toNat = le into.toNat ∧ ri v.toNat = ri into.toNat))) := by
  refine sp_intro [some (.ref m), some (iI v), some (iI into)] rfl (Nat.le_of_ble_eq_true rfl) pn_X8 ?_
  intro X C hRm hl hnm hQ
  obtain ⟨hRf, hRl, hRc, hRs⟩ := hRm
  refine g_wf (fun hwf => ?_)
  refine g_aload_n C dX8_isSame_0 rfl ?_
  refine g_iload_n C dX8_isSame_1 rfl ?_
  refine g_callS C (c_X8_isNo _ (v := v) h_v) ml_RX8_145 sm_yX8_isNo in_RX8 co_yX8_isNo hd_X8_isNo rfl ⟨by omega, by omega⟩ rfl (Nat.le_of_ble_eq_true rfl) ⟨by omega, by omega⟩ dX8_isSame_2 (fun v2 w2 hp2 => ?_)
  obtain ⟨rfl, hw2⟩ := hp2
  subst w2
  have J20 : ∀ y : Int, (y = 0 ∧ (0 ≤ v ∧ v ≤ 2) ∧ (0 ≤ into ∧ into ≤ 2) ∨ y = 1 ∧ ¬ ((0 ≤ v ∧ v ≤ 2) ∧ (0 ≤ into ∧ into ≤ 2))) → G E X 3 20 [some (.ref m), some (iI v), some (iI into)] [iI y, .ref m] w 0 0 := by
    intro y hy
    refine g_iconst C dX8_isSame_20 ?_
    refine g_callV C (c_X8_start _ hM (y := y) (wh := 1) (by omega) (by omega)) (ci := 10) rfl hM.o rfl ml_RX8_149 im_yX8_start se_RX8_yX8_start in_RX8 co_yX8_start hd_X8_start rfl ⟨by omega, by omega⟩ rfl (Nat.le_of_ble_eq_true rfl) ⟨by omega, by omega⟩ dX8_isSame_21 (fun v21 w21 hp21 => ?_)
    obtain ⟨t6, rfl, ht6, hM6, hK6⟩ := hp21
    have hy6 : (y) = 0 ∨ (y) = 1 := (by omega)
    refine g_if_ne (tgt := 73) C dX8_isSame_24 (by decide) (by omega) (fun h24 => ?_) (fun h24 => ?_)
    · refine g_iconst C dX8_isSame_73 ?_
      exact g_zreturn C hQ dX8_isSame_74 (nar01 (by omega)) (Nat.le_refl _) (Nat.le_refl _) (by
        first
        | exact ⟨t6, _, rfl, hM6, hK6, Or.inr ⟨hin, by omega, (bI_t (bI_1 h66)).symm⟩⟩
        | exact ⟨t6, _, rfl, hM6, hK6, Or.inr ⟨hin, by omega, (bI_f (bI_0 h66)).symm⟩⟩
        | exact ⟨t6, _, rfl, hM6, hK6, Or.inr ⟨hin, by omega, (bI_t (bI_1 (fun q => h66 q))).symm⟩⟩
        | exact ⟨t6, 0, rfl, hM6, hK6, Or.inl ⟨by omega, by omega, rfl⟩⟩)
    · have hin : (0 ≤ v ∧ v ≤ 2) ∧ (0 ≤ into ∧ into ≤ 2) := by omega
      obtain ⟨V, rfl⟩ := Int.eq_ofNat_of_zero_le hin.1.1
      obtain ⟨I, rfl⟩ := Int.eq_ofNat_of_zero_le hin.2.1
      obtain ⟨q1, hq1, tq1, r1⟩ := hM6.L (i := V) (by omega)
      obtain ⟨q2, hq2, tq2, r2⟩ := hM6.R (i := V) (by omega)
      obtain ⟨q3, hq3, tq3, r3⟩ := hM6.L (i := I) (by omega)
      obtain ⟨q4, hq4, tq4, r4⟩ := hM6.R (i := I) (by omega)
      have g1 := (hP V (by omega)).1.i
      have g2 := (hP I (by omega)).1.i
      refine g_aload_n C dX8_isSame_27 rfl ?_
      refine g_get (ci := 10) C rfl inTX8 3 (by decide) fl_RX8_16 rfl hM6.o rfl dX8_isSame_28 ?_
      refine g_iload_n C dX8_isSame_31 rfl ?_
      refine g_ialoadN (V) C hM6.p (by omega) (by omega) dX8_isSame_32 ?_
      refine g_aload_n C dX8_isSame_33 rfl ?_
      refine g_get (ci := 10) C rfl inTX8 4 (by decide) fl_RX8_24 rfl hM6.o rfl dX8_isSame_34 ?_
      refine g_iload_n C dX8_isSame_37 rfl ?_
      refine g_aaloadN (V) C rfl rfl hM6.l (by omega) (by omega) hq1 dX8_isSame_38 ?_
      refine g_aload_n C dX8_isSame_39 rfl ?_
      refine g_get (ci := 10) C rfl inTX8 5 (by decide) fl_RX8_28 rfl hM6.o rfl dX8_isSame_40 ?_
      refine g_iload_n C dX8_isSame_43 rfl ?_
      refine g_aaloadN (V) C rfl rfl hM6.r (by omega) (by omega) hq2 dX8_isSame_44 ?_
      refine g_aload_n C dX8_isSame_45 rfl ?_
      refine g_get (ci := 10) C rfl inTX8 3 (by decide) fl_RX8_16 rfl hM6.o rfl dX8_isSame_46 ?_
      refine g_iload_n C dX8_isSame_49 rfl ?_
      refine g_ialoadN (I) C hM6.p (by omega) (by omega) dX8_isSame_50 ?_
      refine g_aload_n C dX8_isSame_51 rfl ?_
      refine g_get (ci := 10) C rfl inTX8 4 (by decide) fl_RX8_24 rfl hM6.o rfl dX8_isSame_52 ?_
      refine g_iload_n C dX8_isSame_55 rfl ?_
      refine g_aaloadN (I) C rfl rfl hM6.l (by omega) (by omega) hq3 dX8_isSame_56 ?_
      refine g_aload_n C dX8_isSame_57 rfl ?_
      refine g_get (ci := 10) C rfl inTX8 5 (by decide) fl_RX8_28 rfl hM6.o rfl dX8_isSame_58 ?_
      refine g_iload_n C dX8_isSame_61 rfl ?_
      refine g_aaloadN (I) C rfl rfl hM6.r (by omega) (by omega) hq4 dX8_isSame_62 ?_
      refine g_callS C (c_X8_areSame _ (r1.le (by omega)) (r2.le (by omega)) (r3.le (by omega)) (r4.le (by omega)) g1 g2) ml_RX8_228 sm_yX8_areSame in_RX8 co_yX8_areSame hd_X8_areSame rfl ⟨by omega, by omega⟩ rfl (Nat.le_of_ble_eq_true rfl) ⟨by omega, by omega⟩ dX8_isSame_63 (fun v63 w63 hp63 => ?_)
      obtain ⟨rfl, hw63⟩ := hp63
      subst w63
      refine g_if_eq (tgt := 73) C dX8_isSame_66 (by decide) (bI_r _) (fun h66 => ?_) (fun h66 => ?_)
      · refine g_iconst C dX8_isSame_73 ?_
        exact g_zreturn C hQ dX8_isSame_74 (nar01 (by omega)) (Nat.le_refl _) (Nat.le_refl _) (by
          first
          | exact ⟨t6, _, rfl, hM6, hK6, Or.inr ⟨hin, by omega, (bI_t (bI_1 h66)).symm⟩⟩
          | exact ⟨t6, _, rfl, hM6, hK6, Or.inr ⟨hin, by omega, (bI_f (bI_0 h66)).symm⟩⟩
          | exact ⟨t6, _, rfl, hM6, hK6, Or.inr ⟨hin, by omega, (bI_t (bI_1 (fun q => h66 q))).symm⟩⟩
          | exact ⟨t6, 0, rfl, hM6, hK6, Or.inl ⟨by omega, by omega, rfl⟩⟩)
      · refine g_iconst C dX8_isSame_69 ?_
        refine g_goto (tgt := 74) C dX8_isSame_70 (by decide) ?_
        exact g_zreturn C hQ dX8_isSame_74 (nar01 (by omega)) (Nat.le_refl _) (Nat.le_refl _) (by
          first
          | exact ⟨t6, _, rfl, hM6, hK6, Or.inr ⟨hin, by omega, (bI_t (bI_1 h66)).symm⟩⟩
          | exact ⟨t6, _, rfl, hM6, hK6, Or.inr ⟨hin, by omega, (bI_f (bI_0 h66)).symm⟩⟩
          | exact ⟨t6, _, rfl, hM6, hK6, Or.inr ⟨hin, by omega, (bI_t (bI_1 (fun q => h66 q))).symm⟩⟩
          | exact ⟨t6, 0, rfl, hM6, hK6, Or.inl ⟨by omega, by omega, rfl⟩⟩)
  refine g_if_ne (tgt := 15) C dX8_isSame_5 (by decide) (bI_r _) (fun h5 => ?_) (fun h5 => ?_)
  · refine g_iconst C dX8_isSame_15 ?_
    refine g_goto (tgt := 20) C dX8_isSame_16 (by decide) ?_
    exact J20 _ (by first | (have := bI_1 h5; exact Or.inr ⟨rfl, by omega⟩) | (have := bI_1 h12; exact Or.inr ⟨rfl, by omega⟩) | (have := bI_0 (Classical.not_not.mp h5); have := bI_0 h12; exact Or.inl ⟨rfl, by omega, by omega⟩))
  · refine g_iload_n C dX8_isSame_8 rfl ?_
    refine g_callS C (c_X8_isNo _ (v := into) h_into) ml_RX8_145 sm_yX8_isNo in_RX8 co_yX8_isNo hd_X8_isNo rfl ⟨by omega, by omega⟩ rfl (Nat.le_of_ble_eq_true rfl) ⟨by omega, by omega⟩ dX8_isSame_9 (fun v9 w9 hp9 => ?_)
    obtain ⟨rfl, hw9⟩ := hp9
    subst w9
    refine g_if_eq (tgt := 19) C dX8_isSame_12 (by decide) (bI_r _) (fun h12 => ?_) (fun h12 => ?_)
    · refine g_iconst C dX8_isSame_19 ?_
      exact J20 _ (by first | (have := bI_1 h5; exact Or.inr ⟨rfl, by omega⟩) | (have := bI_1 h12; exact Or.inr ⟨rfl, by omega⟩) | (have := bI_0 (Classical.not_not.mp h5); have := bI_0 h12; exact Or.inl ⟨rfl, by omega, by omega⟩))
    · refine g_iconst C dX8_isSame_15 ?_
      refine g_goto (tgt := 20) C dX8_isSame_16 (by decide) ?_
      exact J20 _ (by first | (have := bI_1 h5; exact Or.inr ⟨rfl, by omega⟩) | (have := bI_1 h12; exact Or.inr ⟨rfl, by omega⟩) | (have := bI_0 (Classical.not_not.mp h5); have := bI_0 h12; exact Or.inl ⟨rfl, by omega, by omega⟩))
/-- BITS, the ones, the zeros behind -/
def bitV (z what : Int) : Int := if what = 0 then hiB (aB z) 120 + 1 else if what = 1 then onB (aB z) 120 else loB (aB z) 120
theorem hiB_ext {v : Int} {p : Nat} (h0 : 0 ≤ v) (h1 : v < 2 ^ p) : ∀ {q : Nat}, p ≤ q → hiB v q = hiB v p
  | 0, h => by rw [show p = 0 by omega]
  | q + 1, h => by
    rcases Nat.lt_or_ge p (q + 1) with a | a
    · rw [hiB_s0 (bt_big h0 h1 (by omega))]; exact hiB_ext h0 h1 (by omega)
    · rw [show p = q + 1 by omega]
theorem loB_ext {v : Int} {p : Nat} (h0 : 0 ≤ v) (h1 : v < 2 ^ p) : ∀ {q : Nat}, p ≤ q → loB v q = loB v p
  | 0, h => by rw [show p = 0 by omega]
  | q + 1, h => by
    rcases Nat.lt_or_ge p (q + 1) with a | a
    · rw [loB_s0 (bt_big h0 h1 (by omega))]; exact loB_ext h0 h1 (by omega)
    · rw [show p = q + 1 by omega]
theorem onB_ext {v : Int} {p : Nat} (h0 : 0 ≤ v) (h1 : v < 2 ^ p) : ∀ {q : Nat}, p ≤ q → onB v q = onB v p
  | 0, h => by rw [show p = 0 by omega]
  | q + 1, h => by
    rcases Nat.lt_or_ge p (q + 1) with a | a
    · rw [onB_s, bt_big h0 h1 (by omega), Int.add_zero]; exact onB_ext h0 h1 (by omega)
    · rw [show p = q + 1 by omega]
theorem bitV_of {f : Nat → Int} {n cap : Nat} {z what : Int} (h : BN f n z) (hn : n ≤ cap) (hc : cap ≤ 5 := by omega) : (if what = 0 then hiB (mg f n) (30 * (n - 1)) + 1 else if what = 1 then onB (mg f n) (30 * (n - 1)) else loB (mg f n) (30 * (n - 1))) = bitV z what := by
  have h0 := mg_nonneg h.d
  have h1 : mg f n < 2 ^ (30 * (n - 1)) := by rw [← B30_pow]; exact mg_lt h.d
  unfold bitV
  rw [← h.abs, hiB_ext h0 h1 (q := 120) (by omega), loB_ext h0 h1 (q := 120) (by omega), onB_ext h0 h1 (q := 120) (by omega)]
set_option maxHeartbeats 4000000 in
set_option maxRecDepth 100000 in
theorem c_X8_pairBits (l : Launch) {E : GE} {w : Wd} {v z what : Int} (h_v : -2147483648 ≤ v ∧ v < 2147483648) (h_what : -2147483648 ≤ what ∧ what < 2147483648) (hz : z = 0 ∨ z = 1) {τ : Nat → Nat} {m : Nat} {A : MA} {th : Int} {ba st pb le ri : Nat → Int} {sp : Nat → Nat → Int} {ct : Nat → Int} (hM : MSx τ w m A th ba st pb le ri sp ct) : Sp E l yX8_pairBits cX8_pairBits 4 (some .int) 2 (0) (0) [.ref m, iI v, iI z, iI what] w (fun r w' => ∃ (t ans : Int), r = some (iI ans) ∧ MSx τ w' m A (t) (ba) (st) (pb) (le) (ri) (sp) (ct) ∧ Keep τ w w' ∧ (¬ (0 ≤ v ∧ v ≤ 2) ∧ t = 1 ∧ ans = 0 ∨ (0 ≤ v ∧ v ≤ 2) ∧ ¬ (0 ≤ what ∧ what ≤ 2) ∧ t = 2 ∧ ans = 0 ∨ (0 ≤ v ∧ v ≤ 2) ∧ (0 ≤ what ∧ what ≤ 2) ∧ t = 0 ∧ ans = bitV (if z = 1 then le v.toNat else ri v.toNat) what)) := by
  refine sp_intro [some (.ref m), some (iI v), some (iI z), some (iI what)] rfl (Nat.le_of_ble_eq_true rfl) pn_X8 ?_
  intro X C hRm hl hnm hQ
  obtain ⟨hRf, hRl, hRc, hRs⟩ := hRm
  refine g_wf (fun hwf => ?_)
  refine g_aload_n C dX8_pairBits_0 rfl ?_
  refine g_iload_n C dX8_pairBits_1 rfl ?_
  refine g_callS C (c_X8_isNo _ (v := v) h_v) ml_RX8_145 sm_yX8_isNo in_RX8 co_yX8_isNo hd_X8_isNo rfl ⟨by omega, by omega⟩ rfl (Nat.le_of_ble_eq_true rfl) ⟨by omega, by omega⟩ dX8_pairBits_2 (fun v2 w2 hp2 => ?_)
  obtain ⟨rfl, hw2⟩ := hp2
  subst w2
  refine g_iconst C dX8_pairBits_5 ?_
  refine g_callV C (c_X8_start _ hM (y := bI (¬ (0 ≤ v ∧ v ≤ 2))) (wh := 1) (bI_01 _) (by omega)) (ci := 10) rfl hM.o rfl ml_RX8_149 im_yX8_start se_RX8_yX8_start in_RX8 co_yX8_start hd_X8_start rfl ⟨by omega, by omega⟩ rfl (Nat.le_of_ble_eq_true rfl) ⟨by omega, by omega⟩ dX8_pairBits_6 (fun v6 w6 hp6 => ?_)
  obtain ⟨t6, rfl, ht6, hM6, hK6⟩ := hp6
  have hy6 : (bI (¬ (0 ≤ v ∧ v ≤ 2))) = 0 ∨ (bI (¬ (0 ≤ v ∧ v ≤ 2))) = 1 := (bI_01 _)
  refine g_if_ne (tgt := 34) C dX8_pairBits_9 (by decide) (bI_r _) (fun h9 => ?_) (fun h9 => ?_)
  · refine g_iconst C dX8_pairBits_34 ?_
    refine g_goto (tgt := 48) C dX8_pairBits_35 (by decide) ?_
    exact g_ireturn C hQ dX8_pairBits_48 (Nat.le_refl _) (Nat.le_refl _) (by
      first
      | exact ⟨t, _, rfl, hM7, hK67, Or.inr (Or.inr ⟨hwk, by omega, by omega, by rw [bitV_of b1 c1]; rfl⟩)⟩
      | exact ⟨t, 0, rfl, hM7, hK67, Or.inr (Or.inl ⟨hwk, by have := bI_1 h31; omega, by have := bI_1 h31; omega, rfl⟩)⟩
      | exact ⟨t6, 0, rfl, hM6, hK6, Or.inl ⟨bI_1 h9, by omega, rfl⟩⟩)
  · refine g_aload_n C dX8_pairBits_12 rfl ?_
    refine g_iload_n C dX8_pairBits_13 rfl ?_
    refine g_iconst C dX8_pairBits_14 ?_
    refine g_iconst C dX8_pairBits_15 ?_
    refine g_callS C (c_X8_isIn _ (v := what) (a := 0) (b := 2) h_what (by omega) (by omega)) ml_RX8_49 sm_yX8_isIn in_RX8 co_yX8_isIn hd_X8_isIn rfl ⟨by omega, by omega⟩ rfl (Nat.le_of_ble_eq_true rfl) ⟨by omega, by omega⟩ dX8_pairBits_16 (fun v16 w16 hp16 => ?_)
    obtain ⟨rfl, hw16⟩ := hp16
    subst w16
    have J27 : ∀ y : Int, (y = 0 ∧ (0 ≤ what ∧ what ≤ 2) ∨ y = 1 ∧ ¬ (0 ≤ what ∧ what ≤ 2)) → G E X 4 27 [some (.ref m), some (iI v), some (iI z), some (iI what)] [iI y, .ref m] w6 0 0 := by
      intro y hy
      have hwk : 0 ≤ v ∧ v ≤ 2 := Classical.not_not.mp (bI_0 (Classical.not_not.mp h9))
      refine g_iconst C dX8_pairBits_27 ?_
      refine g_callV C (c_X8_refuse _ hM6 (y := y) (wh := 2) (by omega) (by omega) (by omega)) (ci := 10) rfl hM6.o rfl ml_RX8_45 im_yX8_refuse se_RX8_yX8_refuse in_RX8 co_yX8_refuse hd_X8_refuse rfl ⟨by omega, by omega⟩ rfl (Nat.le_of_ble_eq_true rfl) ⟨by omega, by omega⟩ dX8_pairBits_28 (fun v28 w28 hp28 => ?_)
      obtain ⟨t, rfl, ht, hM7, hK7⟩ := hp28
      have hy7 : (y) = 0 ∨ (y) = 1 := (by omega)
      have hK67 := hK6.tr hK7
      refine g_if_eq (tgt := 38) C dX8_pairBits_31 (by decide) (bI_r _) (fun h31 => ?_) (fun h31 => ?_)
      · have htz : ¬ (0 < t) := bI_0 h31
        obtain ⟨V, rfl⟩ := Int.eq_ofNat_of_zero_le hwk.1
        refine g_aload_n C dX8_pairBits_38 rfl ?_
        refine g_iload_n C dX8_pairBits_39 rfl ?_
        refine g_iload_n C dX8_pairBits_40 rfl ?_
        refine g_callV C (c_X8_its _ hM7 (i := V) (y := z) (by omega) hz) (ci := 10) rfl hM7.o rfl ml_RX8_246 im_yX8_its se_RX8_yX8_its in_RX8 co_yX8_its hd_X8_its rfl ⟨by omega, by omega⟩ rfl (Nat.le_of_ble_eq_true rfl) ⟨by omega, by omega⟩ dX8_pairBits_41 (fun v41 w41 hp41 => ?_)
        obtain ⟨⟨q1, rfl, tq1, r1⟩, hw41⟩ := hp41
        subst w41
        obtain ⟨n1, f1, e1, b1, c1⟩ := r1
        refine g_iload_n C dX8_pairBits_44 rfl ?_
        refine g_callS C (c_X8_bits _ e1 ⟨b1.n1, by omega⟩ b1.d (what := what) (by omega)) ml_RX8_121 sm_yX8_bits in_RX8 co_yX8_bits hd_X8_bits rfl ⟨by omega, by omega⟩ rfl (Nat.le_of_ble_eq_true rfl) ⟨by omega, by omega⟩ dX8_pairBits_45 (fun v45 w45 hp45 => ?_)
        obtain ⟨rfl, hw45⟩ := hp45
        subst w45
        exact g_ireturn C hQ dX8_pairBits_48 (Nat.le_refl _) (Nat.le_refl _) (by
          first
          | exact ⟨t, _, rfl, hM7, hK67, Or.inr (Or.inr ⟨hwk, by omega, by omega, by rw [bitV_of b1 c1]; rfl⟩)⟩
          | exact ⟨t, 0, rfl, hM7, hK67, Or.inr (Or.inl ⟨hwk, by have := bI_1 h31; omega, by have := bI_1 h31; omega, rfl⟩)⟩
          | exact ⟨t6, 0, rfl, hM6, hK6, Or.inl ⟨bI_1 h9, by omega, rfl⟩⟩)
      · refine g_iconst C dX8_pairBits_34 ?_
        refine g_goto (tgt := 48) C dX8_pairBits_35 (by decide) ?_
        exact g_ireturn C hQ dX8_pairBits_48 (Nat.le_refl _) (Nat.le_refl _) (by
          first
          | exact ⟨t, _, rfl, hM7, hK67, Or.inr (Or.inr ⟨hwk, by omega, by omega, by rw [bitV_of b1 c1]; rfl⟩)⟩
          | exact ⟨t, 0, rfl, hM7, hK67, Or.inr (Or.inl ⟨hwk, by have := bI_1 h31; omega, by have := bI_1 h31; omega, rfl⟩)⟩
          | exact ⟨t6, 0, rfl, hM6, hK6, Or.inl ⟨bI_1 h9, by omega, rfl⟩⟩)
    refine g_if_ne (tgt := 26) C dX8_pairBits_19 (by decide) (bI_r _) (fun h19 => ?_) (fun h19 => ?_)
    · refine g_iconst C dX8_pairBits_26 ?_
      exact J27 _ (by first | exact Or.inl ⟨rfl, bI_1 h19⟩ | exact Or.inr ⟨rfl, bI_0 (Classical.not_not.mp h19)⟩)
    · refine g_iconst C dX8_pairBits_22 ?_
      refine g_goto (tgt := 27) C dX8_pairBits_23 (by decide) ?_
      exact J27 _ (by first | exact Or.inl ⟨rfl, bI_1 h19⟩ | exact Or.inr ⟨rfl, bI_0 (Classical.not_not.mp h19)⟩)
