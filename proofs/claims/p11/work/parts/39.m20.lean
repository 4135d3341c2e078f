set_option maxHeartbeats 4000000 in
set_option maxRecDepth 100000 in
theorem c_X8_walkBits (l : Launch) {E : GE} {w : Wd} {v z what : Int} (h_v : -2147483648 ≤ v ∧ v < 2147483648) (h_what : -2147483648 ≤ what ∧ what < 2147483648) (hz : z = 0 ∨ z = 1) {τ : Nat → Nat} {m : Nat} {A : MA} {th : Int} {ba st pb le ri : Nat → Int} {sp : Nat → Nat → Int} {ct : Nat → Int} (hM : MSx τ w m A th ba st pb le ri sp ct) (hB : ∀ i, i < 3 → GB (ba i)) (hS : ∀ i, i < 3 → 0 ≤ st i ∧ st i ≤ 24) : Sp E l yX8_walkBits cX8_walkBits 4 (some .int) 4 (10) (48) [.ref m, iI v, iI z, iI what] w (fun r' w' => ∃ (t ans : Int), r' = some (iI ans) ∧ MSx τ w' m A (t) (ba) (st) (pb) (le) (ri) (sp) (ct) ∧ Keep τ w w' ∧ (¬ (0 ≤ v ∧ v ≤ 2) ∧ t = 1 ∧ ans = 0 ∨ (0 ≤ v ∧ v ≤ 2) ∧ ¬ (0 ≤ what ∧ what ≤ 2) ∧ t = 2 ∧ ans = 0 ∨ (0 ≤ v ∧ v ≤ 2) ∧ (0 ≤ what ∧ what ≤ 2) ∧ t = 0 ∧ ∃ r, RT (ba v.toNat) r ∧ ans = bitV (if z = 1 then (pq (ba v.toNat) r 1 r (st v.toNat).toNat).1 else (pq (ba v.toNat) r 0 1 (st v.toNat).toNat).1) what)) := by
  refine sp_intro [some (.ref m), some (iI v), some (iI z), some (iI what)] rfl (Nat.le_of_ble_eq_true rfl) pn_X8 ?_
  intro X C hRm hl hnm hQ
  obtain ⟨hRf, hRl, hRc, hRs⟩ := hRm
  refine g_wf (fun hwf => ?_)
  refine g_aload_n C dX8_walkBits_0 rfl ?_
  refine g_iload_n C dX8_walkBits_1 rfl ?_
  refine g_callS C (c_X8_isNo _ (v := v) h_v) ml_RX8_145 sm_yX8_isNo in_RX8 co_yX8_isNo hd_X8_isNo rfl ⟨by omega, by omega⟩ rfl (Nat.le_of_ble_eq_true rfl) ⟨by omega, by omega⟩ dX8_walkBits_2 (fun v2 w2 hp2 => ?_)
  obtain ⟨rfl, hw2⟩ := hp2
  subst w2
  refine g_iconst C dX8_walkBits_5 ?_
  refine g_callV C (c_X8_start _ hM (y := bI (¬ (0 ≤ v ∧ v ≤ 2))) (wh := 1) (bI_01 _) (by omega)) (ci := 10) rfl hM.o rfl ml_RX8_149 im_yX8_start se_RX8_yX8_start in_RX8 co_yX8_start hd_X8_start rfl ⟨by omega, by omega⟩ rfl (Nat.le_of_ble_eq_true rfl) ⟨by omega, by omega⟩ dX8_walkBits_6 (fun v6 w6 hp6 => ?_)
  obtain ⟨t6, rfl, ht6, hM6, hK6⟩ := hp6
  have hy6 : (bI (¬ (0 ≤ v ∧ v ≤ 2))) = 0 ∨ (bI (¬ (0 ≤ v ∧ v ≤ 2))) = 1 := (bI_01 _)
  refine g_if_ne (tgt := 34) C dX8_walkBits_9 (by decide) (bI_r _) (fun h9 => ?_) (fun h9 => ?_)
  · refine g_iconst C dX8_walkBits_34 ?_
    exact g_ireturn C hQ dX8_walkBits_35 (by omega) (by omega) (by
      first
      | exact ⟨t, 0, rfl, hM7, hK67, Or.inr (Or.inl ⟨hwk, by have := bI_1 h31; omega, by have := bI_1 h31; omega, rfl⟩)⟩
      | exact ⟨t6, 0, rfl, hM6, hK6, Or.inl ⟨bI_1 h9, by omega, rfl⟩⟩)
  · refine g_aload_n C dX8_walkBits_12 rfl ?_
    refine g_iload_n C dX8_walkBits_13 rfl ?_
    refine g_iconst C dX8_walkBits_14 ?_
    refine g_iconst C dX8_walkBits_15 ?_
    refine g_callS C (c_X8_isIn _ (v := what) (a := 0) (b := 2) h_what (by omega) (by omega)) ml_RX8_49 sm_yX8_isIn in_RX8 co_yX8_isIn hd_X8_isIn rfl ⟨by omega, by omega⟩ rfl (Nat.le_of_ble_eq_true rfl) ⟨by omega, by omega⟩ dX8_walkBits_16 (fun v16 w16 hp16 => ?_)
    obtain ⟨rfl, hw16⟩ := hp16
    subst w16
    have J27 : ∀ y : Int, (y = 0 ∧ (0 ≤ what ∧ what ≤ 2) ∨ y = 1 ∧ ¬ (0 ≤ what ∧ what ≤ 2)) → G E X 4 27 [some (.ref m), some (iI v), some (iI z), some (iI what)] [iI y, .ref m] w6 0 0 := by
      intro y hy
      have hwk : 0 ≤ v ∧ v ≤ 2 := Classical.not_not.mp (bI_0 (Classical.not_not.mp h9))
      refine g_iconst C dX8_walkBits_27 ?_
      refine g_callV C (c_X8_refuse _ hM6 (y := y) (wh := 2) (by omega) (by omega) (by omega)) (ci := 10) rfl hM6.o rfl ml_RX8_45 im_yX8_refuse se_RX8_yX8_refuse in_RX8 co_yX8_refuse hd_X8_refuse rfl ⟨by omega, by omega⟩ rfl (Nat.le_of_ble_eq_true rfl) ⟨by omega, by omega⟩ dX8_walkBits_28 (fun v28 w28 hp28 => ?_)
      obtain ⟨t, rfl, ht, hM7, hK7⟩ := hp28
      have hy7 : (y) = 0 ∨ (y) = 1 := (by omega)
      have hK67 := hK6.tr hK7
      refine g_if_eq (tgt := 36) C dX8_walkBits_31 (by decide) (bI_r _) (fun h31 => ?_) (fun h31 => ?_)
      · have htz : ¬ (0 < t) := bI_0 h31
        obtain ⟨V, rfl⟩ := Int.eq_ofNat_of_zero_le hwk.1
        have hg := hB V (by omega)
        obtain ⟨r, hr⟩ := RT_ex hg
        refine g_aload_n C dX8_walkBits_36 rfl ?_
        refine g_iload_n C dX8_walkBits_37 rfl ?_
        refine g_callV C (c_X8_at _ hM7 (i := V) (r := r) (by omega) hg hr (hS V (by omega))) (ci := 10) rfl hM7.o rfl ml_RX8_167 im_yX8_at se_RX8_yX8_at in_RX8 co_yX8_at hd_X8_at rfl ⟨by omega, by omega⟩ rfl (Nat.le_of_ble_eq_true rfl) ⟨by omega, by omega⟩ dX8_walkBits_38 (fun v38 w38 hp38 => ?_)
        obtain ⟨q, rfl, hR, x1, hq⟩ := hp38
        obtain ⟨R, a0, a1, a2, a3, hR0, k0, k1, k2, k3, l0, l1, l2, l3, lo0, lo1, lo2, lo3⟩ := hR
        have hM8 := hM7.ex x1
        have hK7 := hK67.tr (Keep.ex x1)
        refine g_iload_n C dX8_walkBits_41 rfl ?_
        have J50 : ∀ (x : Int) (i a : Nat) (c : Int), x = i → i < 4 → R i = some a → RowAt w38 a c 5 → c = (if z = 1 then (pq (ba V) r 1 r (st V).toNat).1 else (pq (ba V) r 0 1 (st V).toNat).1) → G E X 4 50 [some (.ref m), some (iI (V : Int)), some (iI z), some (iI what)] [iI x, .ref q] w38 10 48 := by
          intro x i a c hx hi hRi lc hc
          obtain ⟨n1, f1, e1, b1, d1⟩ := lc
          refine g_aaloadN (i) C rfl rfl hR0 (by omega) (by omega) hRi dX8_walkBits_50 ?_
          refine g_iload_n C dX8_walkBits_51 rfl ?_
          refine g_callS C (c_X8_bits _ e1 ⟨b1.n1, by omega⟩ b1.d (what := what) (by omega)) ml_RX8_121 sm_yX8_bits in_RX8 co_yX8_bits hd_X8_bits rfl ⟨by omega, by omega⟩ rfl (Nat.le_of_ble_eq_true rfl) ⟨by omega, by omega⟩ dX8_walkBits_52 (fun v52 w52 hp52 => ?_)
          obtain ⟨rfl, hw52⟩ := hp52
          subst w52
          exact g_ireturn C hQ dX8_walkBits_55 (by omega) (by omega) ⟨t, _, rfl, hM8, hK7, Or.inr (Or.inr ⟨hwk, by omega, by omega, r, hr, by rw [bitV_of b1 d1, hc]; rfl⟩)⟩
        refine g_if_eq (tgt := 49) C dX8_walkBits_42 (by decide) (by omega) (fun h42 => ?_) (fun h42 => ?_)
        · refine g_iconst C dX8_walkBits_49 ?_
          first | exact J50 _ 0 a0 _ rfl (by omega) k0 l0 (by rw [if_pos (by omega)]) | exact J50 _ 1 a1 _ rfl (by omega) k1 l1 (by rw [if_neg (by omega)])
        · refine g_iconst C dX8_walkBits_45 ?_
          refine g_goto (tgt := 50) C dX8_walkBits_46 (by decide) ?_
          first | exact J50 _ 0 a0 _ rfl (by omega) k0 l0 (by rw [if_pos (by omega)]) | exact J50 _ 1 a1 _ rfl (by omega) k1 l1 (by rw [if_neg (by omega)])
      · refine g_iconst C dX8_walkBits_34 ?_
        exact g_ireturn C hQ dX8_walkBits_35 (by omega) (by omega) (by
          first
          | exact ⟨t, 0, rfl, hM7, hK67, Or.inr (Or.inl ⟨hwk, by have := bI_1 h31; omega, by have := bI_1 h31; omega, rfl⟩)⟩
          | exact ⟨t6, 0, rfl, hM6, hK6, Or.inl ⟨bI_1 h9, by omega, rfl⟩⟩)
    refine g_if_ne (tgt := 26) C dX8_walkBits_19 (by decide) (bI_r _) (fun h19 => ?_) (fun h19 => ?_)
    · refine g_iconst C dX8_walkBits_26 ?_
      exact J27 _ (by first | exact Or.inl ⟨rfl, bI_1 h19⟩ | exact Or.inr ⟨rfl, bI_0 (Classical.not_not.mp h19)⟩)
    · refine g_iconst C dX8_walkBits_22 ?_
      refine g_goto (tgt := 27) C dX8_walkBits_23 (by decide) ?_
      exact J27 _ (by first | exact Or.inl ⟨rfl, bI_1 h19⟩ | exact Or.inr ⟨rfl, bI_0 (Classical.not_not.mp h19)⟩)
set_option maxHeartbeats 4000000 in
set_option maxRecDepth 100000 in
theorem c_X8_bit (l : Launch) {E : GE} {w : Wd} {v z pl : Int} (h_v : -2147483648 ≤ v ∧ v < 2147483648) (h_pl : -2147483648 ≤ pl ∧ pl < 2147483648) (hz : z = 0 ∨ z = 1) {τ : Nat → Nat} {m : Nat} {A : MA} {th : Int} {ba st pb le ri : Nat → Int} {sp : Nat → Nat → Int} {ct : Nat → Int} (hM : MSx τ w m A th ba st pb le ri sp ct) (hB : ∀ i, i < 3 → GB (ba i)) (hS : ∀ i, i < 3 → 0 ≤ st i ∧ st i ≤ 24) : Sp E l yX8_bit cX8_bit 4 (some .boolean) 4 (10) (48) [.ref m, iI v, iI z, iI pl] w (fun r' w' => ∃ (t ans : Int), r' = some (iI ans) ∧ MSx τ w' m A (t) (ba) (st) (pb) (le) (ri) (sp) (ct) ∧ Keep τ w w' ∧ (¬ (0 ≤ v ∧ v ≤ 2) ∧ t = 1 ∧ ans = 0 ∨ (0 ≤ v ∧ v ≤ 2) ∧ ¬ (0 ≤ pl ∧ pl ≤ 119) ∧ t = 2 ∧ ans = 0 ∨ (0 ≤ v ∧ v ≤ 2) ∧ (0 ≤ pl ∧ pl ≤ 119) ∧ t = 0 ∧ ∃ r, RT (ba v.toNat) r ∧ ans = bI (bt (aB (if z = 1 then (pq (ba v.toNat) r 1 r (st v.toNat).toNat).1 else (pq (ba v.toNat) r 0 1 (st v.toNat).toNat).1)) pl.toNat = 1))) := by
  refine sp_intro [some (.ref m), some (iI v), some (iI z), some (iI pl)] rfl (Nat.le_of_ble_eq_true rfl) pn_X8 ?_
  intro X C hRm hl hnm hQ
  obtain ⟨hRf, hRl, hRc, hRs⟩ := hRm
  refine g_wf (fun hwf => ?_)
  refine g_aload_n C dX8_bit_0 rfl ?_
  refine g_iload_n C dX8_bit_1 rfl ?_
  refine g_callS C (c_X8_isNo _ (v := v) h_v) ml_RX8_145 sm_yX8_isNo in_RX8 co_yX8_isNo hd_X8_isNo rfl ⟨by omega, by omega⟩ rfl (Nat.le_of_ble_eq_true rfl) ⟨by omega, by omega⟩ dX8_bit_2 (fun v2 w2 hp2 => ?_)
  obtain ⟨rfl, hw2⟩ := hp2
  subst w2
  refine g_iconst C dX8_bit_5 ?_
  refine g_callV C (c_X8_start _ hM (y := bI (¬ (0 ≤ v ∧ v ≤ 2))) (wh := 1) (bI_01 _) (by omega)) (ci := 10) rfl hM.o rfl ml_RX8_149 im_yX8_start se_RX8_yX8_start in_RX8 co_yX8_start hd_X8_start rfl ⟨by omega, by omega⟩ rfl (Nat.le_of_ble_eq_true rfl) ⟨by omega, by omega⟩ dX8_bit_6 (fun v6 w6 hp6 => ?_)
  obtain ⟨t6, rfl, ht6, hM6, hK6⟩ := hp6
  have hy6 : (bI (¬ (0 ≤ v ∧ v ≤ 2))) = 0 ∨ (bI (¬ (0 ≤ v ∧ v ≤ 2))) = 1 := (bI_01 _)
  refine g_if_ne (tgt := 35) C dX8_bit_9 (by decide) (bI_r _) (fun h9 => ?_) (fun h9 => ?_)
  · refine g_iconst C dX8_bit_35 ?_
    exact g_zreturn C hQ dX8_bit_36 rfl (by omega) (by omega) (by
      first
      | exact ⟨t, 0, rfl, hM7, hK67, Or.inr (Or.inl ⟨hwk, by have := bI_1 h32; omega, by have := bI_1 h32; omega, rfl⟩)⟩
      | exact ⟨t6, 0, rfl, hM6, hK6, Or.inl ⟨bI_1 h9, by omega, rfl⟩⟩)
  · refine g_aload_n C dX8_bit_12 rfl ?_
    refine g_iload_n C dX8_bit_13 rfl ?_
    refine g_iconst C dX8_bit_14 ?_
    refine g_bipush C dX8_bit_15 (by decide) ?_
    refine g_callS C (c_X8_isIn _ (v := pl) (a := 0) (b := 119) h_pl (by omega) (by omega)) ml_RX8_49 sm_yX8_isIn in_RX8 co_yX8_isIn hd_X8_isIn rfl ⟨by omega, by omega⟩ rfl (Nat.le_of_ble_eq_true rfl) ⟨by omega, by omega⟩ dX8_bit_17 (fun v17 w17 hp17 => ?_)
    obtain ⟨rfl, hw17⟩ := hp17
    subst w17
    have J28 : ∀ y : Int, (y = 0 ∧ (0 ≤ pl ∧ pl ≤ 119) ∨ y = 1 ∧ ¬ (0 ≤ pl ∧ pl ≤ 119)) → G E X 4 28 [some (.ref m), some (iI v), some (iI z), some (iI pl)] [iI y, .ref m] w6 0 0 := by
      intro y hy
      have hwk : 0 ≤ v ∧ v ≤ 2 := Classical.not_not.mp (bI_0 (Classical.not_not.mp h9))
      refine g_iconst C dX8_bit_28 ?_
      refine g_callV C (c_X8_refuse _ hM6 (y := y) (wh := 2) (by omega) (by omega) (by omega)) (ci := 10) rfl hM6.o rfl ml_RX8_45 im_yX8_refuse se_RX8_yX8_refuse in_RX8 co_yX8_refuse hd_X8_refuse rfl ⟨by omega, by omega⟩ rfl (Nat.le_of_ble_eq_true rfl) ⟨by omega, by omega⟩ dX8_bit_29 (fun v29 w29 hp29 => ?_)
      obtain ⟨t, rfl, ht, hM7, hK7⟩ := hp29
      have hy7 : (y) = 0 ∨ (y) = 1 := (by omega)
      have hK67 := hK6.tr hK7
      refine g_if_eq (tgt := 37) C dX8_bit_32 (by decide) (bI_r _) (fun h32 => ?_) (fun h32 => ?_)
      · have htz : ¬ (0 < t) := bI_0 h32
        obtain ⟨V, rfl⟩ := Int.eq_ofNat_of_zero_le hwk.1
        have hg := hB V (by omega)
        obtain ⟨r, hr⟩ := RT_ex hg
        refine g_aload_n C dX8_bit_37 rfl ?_
        refine g_iload_n C dX8_bit_38 rfl ?_
        refine g_callV C (c_X8_at _ hM7 (i := V) (r := r) (by omega) hg hr (hS V (by omega))) (ci := 10) rfl hM7.o rfl ml_RX8_167 im_yX8_at se_RX8_yX8_at in_RX8 co_yX8_at hd_X8_at rfl ⟨by omega, by omega⟩ rfl (Nat.le_of_ble_eq_true rfl) ⟨by omega, by omega⟩ dX8_bit_39 (fun v39 w39 hp39 => ?_)
        obtain ⟨q, rfl, hR, x1, hq⟩ := hp39
        obtain ⟨R, a0, a1, a2, a3, hR0, k0, k1, k2, k3, l0, l1, l2, l3, lo0, lo1, lo2, lo3⟩ := hR
        have hM8 := hM7.ex x1
        have hK7 := hK67.tr (Keep.ex x1)
        refine g_iload_n C dX8_bit_42 rfl ?_
        have J51 : ∀ (x : Int) (i a : Nat) (c : Int), x = i → i < 4 → R i = some a → RowAt w39 a c 5 → c = (if z = 1 then (pq (ba V) r 1 r (st V).toNat).1 else (pq (ba V) r 0 1 (st V).toNat).1) → G E X 4 51 [some (.ref m), some (iI (V : Int)), some (iI z), some (iI pl)] [iI x, .ref q] w39 10 48 := by
          intro x i a c hx hi hRi lc hc
          obtain ⟨n1, f1, e1, b1, d1⟩ := lc
          refine g_aaloadN (i) C rfl rfl hR0 (by omega) (by omega) hRi dX8_bit_51 ?_
          refine g_iload_n C dX8_bit_52 rfl ?_
          refine g_callS C (c_X8_isDigit _ e1 ⟨b1.n1, by omega⟩ b1.d (pl := pl) (by omega)) ml_RX8_117 sm_yX8_isDigit in_RX8 co_yX8_isDigit hd_X8_isDigit rfl ⟨by omega, by omega⟩ rfl (Nat.le_of_ble_eq_true rfl) ⟨by omega, by omega⟩ dX8_bit_53 (fun v53 w53 hp53 => ?_)
          obtain ⟨rfl, hw53⟩ := hp53
          subst w53
          exact g_zreturn C hQ dX8_bit_56 narB (by omega) (by omega) ⟨t, _, rfl, hM8, hK7, Or.inr (Or.inr ⟨hwk, by omega, by omega, r, hr, by rw [b1.abs, hc]; rfl⟩)⟩
        refine g_if_eq (tgt := 50) C dX8_bit_43 (by decide) (by omega) (fun h43 => ?_) (fun h43 => ?_)
        · refine g_iconst C dX8_bit_50 ?_
          first | exact J51 _ 0 a0 _ rfl (by omega) k0 l0 (by rw [if_pos (by omega)]) | exact J51 _ 1 a1 _ rfl (by omega) k1 l1 (by rw [if_neg (by omega)])
        · refine g_iconst C dX8_bit_46 ?_
          refine g_goto (tgt := 51) C dX8_bit_47 (by decide) ?_
          first | exact J51 _ 0 a0 _ rfl (by omega) k0 l0 (by rw [if_pos (by omega)]) | exact J51 _ 1 a1 _ rfl (by omega) k1 l1 (by rw [if_neg (by omega)])
      · refine g_iconst C dX8_bit_35 ?_
        exact g_zreturn C hQ dX8_bit_36 rfl (by omega) (by omega) (by
          first
          | exact ⟨t, 0, rfl, hM7, hK67, Or.inr (Or.inl ⟨hwk, by have := bI_1 h32; omega, by have := bI_1 h32; omega, rfl⟩)⟩
          | exact ⟨t6, 0, rfl, hM6, hK6, Or.inl ⟨bI_1 h9, by omega, rfl⟩⟩)
    refine g_if_ne (tgt := 27) C dX8_bit_20 (by decide) (bI_r _) (fun h20 => ?_) (fun h20 => ?_)
    · refine g_iconst C dX8_bit_27 ?_
      exact J28 _ (by first | exact Or.inl ⟨rfl, bI_1 h20⟩ | exact Or.inr ⟨rfl, bI_0 (Classical.not_not.mp h20)⟩)
    · refine g_iconst C dX8_bit_23 ?_
      refine g_goto (tgt := 28) C dX8_bit_24 (by decide) ?_
      exact J28 _ (by first | exact Or.inl ⟨rfl, bI_1 h20⟩ | exact Or.inr ⟨rfl, bI_0 (Classical.not_not.mp h20)⟩)
set_option maxHeartbeats 4000000 in
set_option maxRecDepth 100000 in
theorem c_X8_isRead (l : Launch) {E : GE} {w : Wd} {v x : Int} (h_v : -2147483648 ≤ v ∧ v < 2147483648) (h_x : -2147483648 ≤ x ∧ x < 2147483648) {τ : Nat → Nat} {m : Nat} {A : MA} {th : Int} {ba st pb le ri : Nat → Int} {sp : Nat → Nat → Int} {ct : Nat → Int} (hM : MSx τ w m A th ba st pb le ri sp ct) : Sp E l yX8_isRead cX8_isRead 3 (some .boolean) 2 (0) (0) [.ref m, iI v, iI x] w (fun r w' => ∃ (t ans : Int), r = some (iI ans) ∧ MSx τ w' m A (t) (ba) (st) (pb) (le) (ri) (sp) (ct) ∧ Keep τ w w' ∧ (¬ (0 ≤ v ∧ v ≤ 2) ∧ t = 1 ∧ ans = 0 ∨ (0 ≤ v ∧ v ≤ 2) ∧ ¬ (x = 0 ∨ (2 ≤ x ∧ x ≤ 16)) ∧ t = 2 ∧ ans = 0 ∨ (0 ≤ v ∧ v ≤ 2) ∧ (x = 0 ∨ (2 ≤ x ∧ x ≤ 16)) ∧ t = 0 ∧ ans = 1)) := by
  refine sp_intro [some (.ref m), some (iI v), some (iI x)] rfl (Nat.le_of_ble_eq_true rfl) pn_X8 ?_
  intro X C hRm hl hnm hQ
  obtain ⟨hRf, hRl, hRc, hRs⟩ := hRm
  refine g_wf (fun hwf => ?_)
  refine g_aload_n C dX8_isRead_0 rfl ?_
  refine g_iload_n C dX8_isRead_1 rfl ?_
  refine g_callS C (c_X8_isNo _ (v := v) h_v) ml_RX8_145 sm_yX8_isNo in_RX8 co_yX8_isNo hd_X8_isNo rfl ⟨by omega, by omega⟩ rfl (Nat.le_of_ble_eq_true rfl) ⟨by omega, by omega⟩ dX8_isRead_2 (fun v2 w2 hp2 => ?_)
  obtain ⟨rfl, hw2⟩ := hp2
  subst w2
  refine g_iconst C dX8_isRead_5 ?_
  refine g_callV C (c_X8_start _ hM (y := bI (¬ (0 ≤ v ∧ v ≤ 2))) (wh := 1) (bI_01 _) (by omega)) (ci := 10) rfl hM.o rfl ml_RX8_149 im_yX8_start se_RX8_yX8_start in_RX8 co_yX8_start hd_X8_start rfl ⟨by omega, by omega⟩ rfl (Nat.le_of_ble_eq_true rfl) ⟨by omega, by omega⟩ dX8_isRead_6 (fun v6 w6 hp6 => ?_)
  obtain ⟨t6, rfl, ht6, hM6, hK6⟩ := hp6
  have hy6 : (bI (¬ (0 ≤ v ∧ v ≤ 2))) = 0 ∨ (bI (¬ (0 ≤ v ∧ v ≤ 2))) = 1 := (bI_01 _)
  refine g_if_ne (tgt := 43) C dX8_isRead_9 (by decide) (bI_r _) (fun h9 => ?_) (fun h9 => ?_)
  · refine g_iconst C dX8_isRead_43 ?_
    exact g_zreturn C hQ dX8_isRead_44 (nar01 (by omega)) (Nat.le_refl _) (Nat.le_refl _) (by
      first
      | exact ⟨t, 1, rfl, hM7, hK67, Or.inr (Or.inr ⟨hwk, by have := bI_0 (Classical.not_not.mp h36); omega, by have := bI_0 (Classical.not_not.mp h36); omega, rfl⟩)⟩
      | exact ⟨t, 0, rfl, hM7, hK67, Or.inr (Or.inl ⟨hwk, by have := bI_1 h36; omega, by have := bI_1 h36; omega, rfl⟩)⟩
      | exact ⟨t6, 0, rfl, hM6, hK6, Or.inl ⟨bI_1 h9, by omega, rfl⟩⟩)
  · refine g_aload_n C dX8_isRead_12 rfl ?_
    refine g_iload_n C dX8_isRead_13 rfl ?_
    have J32 : ∀ y : Int, (y = 0 ∧ (x = 0 ∨ (2 ≤ x ∧ x ≤ 16)) ∨ y = 1 ∧ ¬ (x = 0 ∨ (2 ≤ x ∧ x ≤ 16))) → G E X 3 32 [some (.ref m), some (iI v), some (iI x)] [iI y, .ref m] w6 0 0 := by
      intro y hy
      have hwk : 0 ≤ v ∧ v ≤ 2 := Classical.not_not.mp (bI_0 (Classical.not_not.mp h9))
      refine g_iconst C dX8_isRead_32 ?_
      refine g_callV C (c_X8_refuse _ hM6 (y := y) (wh := 2) (by omega) (by omega) (by omega)) (ci := 10) rfl hM6.o rfl ml_RX8_45 im_yX8_refuse se_RX8_yX8_refuse in_RX8 co_yX8_refuse hd_X8_refuse rfl ⟨by omega, by omega⟩ rfl (Nat.le_of_ble_eq_true rfl) ⟨by omega, by omega⟩ dX8_isRead_33 (fun v33 w33 hp33 => ?_)
      obtain ⟨t, rfl, ht, hM7, hK7⟩ := hp33
      have hy7 : (y) = 0 ∨ (y) = 1 := (by omega)
      have hK67 := hK6.tr hK7
      refine g_if_ne (tgt := 43) C dX8_isRead_36 (by decide) (bI_r _) (fun h36 => ?_) (fun h36 => ?_)
      · refine g_iconst C dX8_isRead_43 ?_
        exact g_zreturn C hQ dX8_isRead_44 (nar01 (by omega)) (Nat.le_refl _) (Nat.le_refl _) (by
          first
          | exact ⟨t, 1, rfl, hM7, hK67, Or.inr (Or.inr ⟨hwk, by have := bI_0 (Classical.not_not.mp h36); omega, by have := bI_0 (Classical.not_not.mp h36); omega, rfl⟩)⟩
          | exact ⟨t, 0, rfl, hM7, hK67, Or.inr (Or.inl ⟨hwk, by have := bI_1 h36; omega, by have := bI_1 h36; omega, rfl⟩)⟩
          | exact ⟨t6, 0, rfl, hM6, hK6, Or.inl ⟨bI_1 h9, by omega, rfl⟩⟩)
      · refine g_iconst C dX8_isRead_39 ?_
        refine g_goto (tgt := 44) C dX8_isRead_40 (by decide) ?_
        exact g_zreturn C hQ dX8_isRead_44 (nar01 (by omega)) (Nat.le_refl _) (Nat.le_refl _) (by
          first
          | exact ⟨t, 1, rfl, hM7, hK67, Or.inr (Or.inr ⟨hwk, by have := bI_0 (Classical.not_not.mp h36); omega, by have := bI_0 (Classical.not_not.mp h36); omega, rfl⟩)⟩
          | exact ⟨t, 0, rfl, hM7, hK67, Or.inr (Or.inl ⟨hwk, by have := bI_1 h36; omega, by have := bI_1 h36; omega, rfl⟩)⟩
          | exact ⟨t6, 0, rfl, hM6, hK6, Or.inl ⟨bI_1 h9, by omega, rfl⟩⟩)
    refine g_if_eq (tgt := 31) C dX8_isRead_14 (by decide) h_x (fun h14 => ?_) (fun h14 => ?_)
    · refine g_iconst C dX8_isRead_31 ?_
      exact J32 _ (by first | exact Or.inl ⟨rfl, Or.inl h14⟩ | exact Or.inl ⟨rfl, Or.inr (bI_1 h24)⟩ | exact Or.inr ⟨rfl, fun q => q.elim h14 (bI_0 (Classical.not_not.mp h24))⟩)
    · refine g_iload_n C dX8_isRead_17 rfl ?_
      refine g_iconst C dX8_isRead_18 ?_
      refine g_bipush C dX8_isRead_19 (by decide) ?_
      refine g_callS C (c_X8_isIn _ (v := x) (a := 2) (b := 16) h_x (by omega) (by omega)) ml_RX8_49 sm_yX8_isIn in_RX8 co_yX8_isIn hd_X8_isIn rfl ⟨by omega, by omega⟩ rfl (Nat.le_of_ble_eq_true rfl) ⟨by omega, by omega⟩ dX8_isRead_21 (fun v21 w21 hp21 => ?_)
      obtain ⟨rfl, hw21⟩ := hp21
      subst w21
      refine g_if_ne (tgt := 31) C dX8_isRead_24 (by decide) (bI_r _) (fun h24 => ?_) (fun h24 => ?_)
      · refine g_iconst C dX8_isRead_31 ?_
        exact J32 _ (by first | exact Or.inl ⟨rfl, Or.inl h14⟩ | exact Or.inl ⟨rfl, Or.inr (bI_1 h24)⟩ | exact Or.inr ⟨rfl, fun q => q.elim h14 (bI_0 (Classical.not_not.mp h24))⟩)
      · refine g_iconst C dX8_isRead_27 ?_
        refine g_goto (tgt := 32) C dX8_isRead_28 (by decide) ?_
        exact J32 _ (by first | exact Or.inl ⟨rfl, Or.inl h14⟩ | exact Or.inl ⟨rfl, Or.inr (bI_1 h24)⟩ | exact Or.inr ⟨rfl, fun q => q.elim h14 (bI_0 (Classical.not_not.mp h24))⟩)
set_option maxHeartbeats 4000000 in
set_option maxRecDepth 100000 in
theorem c_X8_wide (l : Launch) {E : GE} {w : Wd} {a n W : Nat} {b : Bool} {f : Nat → Int} (ha : w.2 a = some (b, eI n f)) (hn : n ≤ W) (hW : W ≤ 200) : Sp E l yX8_wide cX8_wide 4 (some (.array .int)) 0 (1) (W) [.ref a, iI (W : Int)] w (fun r w' => ∃ g : Nat → Int, r = some (.ref w.1) ∧ w' = wpush w (true, eI W g) ∧ ∀ i, i < W → g i = ext f n i) := by
  refine sp_intro [some (.ref a), some (iI (W : Int)), none, none] rfl (Nat.le_of_ble_eq_true rfl) pn_X8 ?_
  intro X C hRm hl hnm hQ
  obtain ⟨hRf, hRl, hRc, hRs⟩ := hRm
  refine g_wf (fun hwf => ?_)
  have hne : a ≠ w.1 := Nat.ne_of_lt (hwf a _ ha)
  refine g_iload_n C dX8_wide_0 rfl ?_
  refine g_newI C gw_arrayClass_int (N := W) rfl (by omega) (by omega) dX8_wide_1 ?_
  refine g_astore_n C dX8_wide_3 (by decide) rfl ?_
  refine g_iconst C dX8_wide_4 ?_
  refine g_istore_n C dX8_wide_5 (by decide) rfl ?_
  refine g_loop (σ := Nat × (Nat → Int)) (fun q => q.1 ≤ n ∧ (∀ i, i < q.1 → q.2 i = f i) ∧ ∀ i, q.1 ≤ i → q.2 i = 0) (fun q => G E X 4 6 [some (.ref a), some (iI (W : Int)), some (.ref w.1), some (iI (q.1 : Int))] [] (wpush w (true, eI W q.2)) 1 (0 + W)) (fun q => n - q.1) ?_ (0, fun _ => 0) ⟨by dsimp only; omega, fun i hi => absurd hi (Nat.not_lt_zero i), fun i _ => rfl⟩
  rintro ⟨j, g⟩ hq ih
  obtain ⟨hj, h1, h2⟩ := hq
  dsimp only at hj h1 h2 ⊢
  have hpa : (wpush w (true, eI W g)).2 a = some (b, eI n f) := by rw [wpush_n hne]; exact ha
  refine g_iload_n C dX8_wide_6 rfl ?_
  refine g_aload_n C dX8_wide_7 rfl ?_
  refine g_alen C hpa (Or.inl ⟨_, rfl⟩) dX8_wide_8 ?_
  refine g_icmp_ge (tgt := 24) C dX8_wide_9 (by decide) (by omega) (by omega) (fun h9 => ?_) (fun h9 => ?_)
  · refine g_aload_n C dX8_wide_24 rfl ?_
    exact g_areturn C (Or.inr ⟨_, rfl⟩) hQ (Or.inr ⟨_, rfl⟩) dX8_wide_25 (by omega) (by omega) ⟨g, rfl, rfl, fun i hi => by
      have ejn : j = n := by omega
      by_cases q : i < n
      · rw [h1 i (by omega), ext_lo q]
      · rw [h2 i (by omega), ext_hi q]⟩
  · refine g_aload_n C dX8_wide_12 rfl ?_
    refine g_iload_n C dX8_wide_13 rfl ?_
    refine g_aload_n C dX8_wide_14 rfl ?_
    refine g_iload_n C dX8_wide_15 rfl ?_
    refine g_ialoadN (j) C hpa (by omega) (by omega) dX8_wide_16 ?_
    refine g_iastoreN (j) C wpush_s (by omega) (by omega) dX8_wide_17 ?_
    rw [wset_push]
    refine g_iinc C dX8_wide_18 rfl (by decide) rfl ?_
    refine g_goto (tgt := 6) C dX8_wide_21 (by decide) ?_
    exact ih (j + 1, iup g j (f j)) ⟨by dsimp only; omega, fun i hi => by
      dsimp only at hi ⊢
      by_cases q : i = j
      · rw [q, iup_s]
      · rw [iup_n q]; exact h1 i (by omega), fun i hi => by
      dsimp only at hi ⊢
      rw [iup_n (by omega)]; exact h2 i (by omega)⟩ (by dsimp only; omega)
