set_option maxHeartbeats 4000000 in
set_option maxRecDepth 100000 in
theorem c_X8_forth (l : Launch) {E : GE} {w : Wd} {walk many : Int} (h_walk : -2147483648 ≤ walk ∧ walk < 2147483648) (h_many : -2147483648 ≤ many ∧ many < 2147483648) {τ : Nat → Nat} {m : Nat} {A : MA} {th : Int} {ba st pb le ri : Nat → Int} {sp : Nat → Nat → Int} {ct : Nat → Int} (hM : MSx τ w m A th ba st pb le ri sp ct) (hS : ∀ i, i < 3 → 0 ≤ st i ∧ st i ≤ 24) : Sp E l yX8_forth cX8_forth 3 (some .int) 2 (0) (0) [.ref m, iI walk, iI many] w (fun r w' => ∃ (t : Int) (st' ct' : Nat → Int) (ans : Int), r = some (iI ans) ∧ MSx τ w' m A (t) (ba) (st') (pb) (le) (ri) (sp) (ct') ∧ Keep τ w w' ∧ (¬ (0 ≤ walk ∧ walk ≤ 2) ∧ t = 1 ∧ ans = 0 ∧ st' = st ∧ ct' = ct ∨ (0 ≤ walk ∧ walk ≤ 2) ∧ ¬ (1 ≤ many ∧ many ≤ 6) ∧ t = 2 ∧ ans = 0 ∧ st' = st ∧ ct' = ct ∨ (0 ≤ walk ∧ walk ≤ 2) ∧ (1 ≤ many ∧ many ≤ 6) ∧ t = 0 ∧ 24 < st walk.toNat + many ∧ ans = -9 ∧ st' = st ∧ ct' = iup ct 3 (ct 3 + 1) ∨ (0 ≤ walk ∧ walk ≤ 2) ∧ (1 ≤ many ∧ many ≤ 6) ∧ t = 0 ∧ st walk.toNat + many ≤ 24 ∧ ans = st walk.toNat + many ∧ st' = iup st walk.toNat (st walk.toNat + many) ∧ ct' = iup ct 0 (ct 0 + 1))) := by
  refine sp_intro [some (.ref m), some (iI walk), some (iI many)] rfl (Nat.le_of_ble_eq_true rfl) pn_X8 ?_
  intro X C hRm hl hnm hQ
  obtain ⟨hRf, hRl, hRc, hRs⟩ := hRm
  refine g_wf (fun hwf => ?_)
  refine g_aload_n C dX8_forth_0 rfl ?_
  refine g_iload_n C dX8_forth_1 rfl ?_
  refine g_callS C (c_X8_isNo _ (v := walk) h_walk) ml_RX8_145 sm_yX8_isNo in_RX8 co_yX8_isNo hd_X8_isNo rfl ⟨by omega, by omega⟩ rfl (Nat.le_of_ble_eq_true rfl) ⟨by omega, by omega⟩ dX8_forth_2 (fun v2 w2 hp2 => ?_)
  obtain ⟨rfl, hw2⟩ := hp2
  subst w2
  refine g_iconst C dX8_forth_5 ?_
  refine g_callV C (c_X8_start _ hM (y := bI (¬ (0 ≤ walk ∧ walk ≤ 2))) (wh := 1) (bI_01 _) (by omega)) (ci := 10) rfl hM.o rfl ml_RX8_149 im_yX8_start se_RX8_yX8_start in_RX8 co_yX8_start hd_X8_start rfl ⟨by omega, by omega⟩ rfl (Nat.le_of_ble_eq_true rfl) ⟨by omega, by omega⟩ dX8_forth_6 (fun v6 w6 hp6 => ?_)
  obtain ⟨t6, rfl, ht6, hM6, hK6⟩ := hp6
  have hy6 : (bI (¬ (0 ≤ walk ∧ walk ≤ 2))) = 0 ∨ (bI (¬ (0 ≤ walk ∧ walk ≤ 2))) = 1 := (bI_01 _)
  refine g_if_ne (tgt := 35) C dX8_forth_9 (by decide) (bI_r _) (fun h9 => ?_) (fun h9 => ?_)
  · refine g_iconst C dX8_forth_35 ?_
    exact g_ireturn C hQ dX8_forth_36 (Nat.le_refl _) (Nat.le_refl _) (by
      first
      | exact ⟨t, st, ct, 0, rfl, hM7, hK67, Or.inr (Or.inl ⟨hwk, by have := bI_1 h32; omega, by have := bI_1 h32; omega, rfl, rfl, rfl⟩)⟩
      | exact ⟨t6, st, ct, 0, rfl, hM6, hK6, Or.inl ⟨bI_1 h9, by omega, rfl, rfl, rfl⟩⟩)
  · refine g_aload_n C dX8_forth_12 rfl ?_
    refine g_iload_n C dX8_forth_13 rfl ?_
    refine g_iconst C dX8_forth_14 ?_
    refine g_bipush C dX8_forth_15 (by decide) ?_
    refine g_callS C (c_X8_isIn _ (v := many) (a := 1) (b := 6) h_many (by omega) (by omega)) ml_RX8_49 sm_yX8_isIn in_RX8 co_yX8_isIn hd_X8_isIn rfl ⟨by omega, by omega⟩ rfl (Nat.le_of_ble_eq_true rfl) ⟨by omega, by omega⟩ dX8_forth_17 (fun v17 w17 hp17 => ?_)
    obtain ⟨rfl, hw17⟩ := hp17
    subst w17
    have J28 : ∀ y : Int, (y = 0 ∧ (1 ≤ many ∧ many ≤ 6) ∨ y = 1 ∧ ¬ (1 ≤ many ∧ many ≤ 6)) → G E X 3 28 [some (.ref m), some (iI walk), some (iI many)] [iI y, .ref m] w6 0 0 := by
      intro y hy
      have hwk : 0 ≤ walk ∧ walk ≤ 2 := Classical.not_not.mp (bI_0 (Classical.not_not.mp h9))
      refine g_iconst C dX8_forth_28 ?_
      refine g_callV C (c_X8_refuse _ hM6 (y := y) (wh := 2) (by omega) (by omega) (by omega)) (ci := 10) rfl hM6.o rfl ml_RX8_45 im_yX8_refuse se_RX8_yX8_refuse in_RX8 co_yX8_refuse hd_X8_refuse rfl ⟨by omega, by omega⟩ rfl (Nat.le_of_ble_eq_true rfl) ⟨by omega, by omega⟩ dX8_forth_29 (fun v29 w29 hp29 => ?_)
      obtain ⟨t, rfl, ht, hM7, hK7⟩ := hp29
      have hy7 : (y) = 0 ∨ (y) = 1 := (by omega)
      have hK67 := hK6.tr hK7
      refine g_if_eq (tgt := 37) C dX8_forth_32 (by decide) (bI_r _) (fun h32 => ?_) (fun h32 => ?_)
      · have htz : ¬ (0 < t) := bI_0 h32
        have hs := hS walk.toNat (by omega)
        refine g_aload_n C dX8_forth_37 rfl ?_
        refine g_get (ci := 10) C rfl inTX8 2 (by decide) fl_RX8_13 rfl hM7.o rfl dX8_forth_38 ?_
        refine g_iload_n C dX8_forth_41 rfl ?_
        refine g_ialoadN (walk.toNat) C hM7.s (by omega) (by omega) dX8_forth_42 ?_
        refine g_iload_n C dX8_forth_43 rfl ?_
        refine g_iadd C dX8_forth_44 ?_
        refine g_bipush C dX8_forth_45 (by decide) ?_
        refine g_icmp_le (tgt := 55) C dX8_forth_47 (by decide) (by omega) (by omega) (fun h47 => ?_) (fun h47 => ?_)
        · refine g_aload_n C dX8_forth_55 rfl ?_
          refine g_get (ci := 10) C rfl inTX8 2 (by decide) fl_RX8_13 rfl hM7.o rfl dX8_forth_56 ?_
          refine g_iload_n C dX8_forth_59 rfl ?_
          refine g_dup2 C dX8_forth_60 rfl rfl ?_
          refine g_ialoadN (walk.toNat) C hM7.s (by omega) (by omega) dX8_forth_61 ?_
          refine g_iload_n C dX8_forth_62 rfl ?_
          refine g_iadd C dX8_forth_63 ?_
          refine g_iastoreN (walk.toNat) C hM7.s (by omega) (by omega) dX8_forth_64 ?_
          refine g_aload_n C dX8_forth_65 rfl ?_
          refine g_iconst C dX8_forth_66 ?_
          refine g_aload_n C dX8_forth_67 rfl ?_
          refine g_get (ci := 10) C rfl inTX8 2 (by decide) fl_RX8_13 rfl (hM7.setS _).o rfl dX8_forth_68 ?_
          refine g_iload_n C dX8_forth_71 rfl ?_
          refine g_ialoadN (walk.toNat) C (hM7.setS _).s (by omega) (by omega) dX8_forth_72 ?_
          rw [iup_s]
          refine g_callV C (c_X8_done _ (hM7.setS _) (kd := 0) (to := st walk.toNat + many) (by omega)) (ci := 10) rfl (hM7.setS _).o rfl ml_RX8_155 im_yX8_done se_RX8_yX8_done in_RX8 co_yX8_done hd_X8_done rfl ⟨by omega, by omega⟩ rfl (Nat.le_of_ble_eq_true rfl) ⟨by omega, by omega⟩ dX8_forth_73 (fun v73 w73 hp73 => ?_)
          obtain ⟨rfl, hM9, hK9⟩ := hp73
          exact g_ireturn C hQ dX8_forth_76 (Nat.le_refl _) (Nat.le_refl _) ⟨t, _, _, _, rfl, hM9, (hK67.tr (Keep.set _ (by have := hM7.tg; omega))).tr hK9, Or.inr (Or.inr (Or.inr ⟨hwk, by omega, by omega, by omega, rfl, rfl, rfl⟩))⟩
        · refine g_aload_n C dX8_forth_50 rfl ?_
          refine g_callV C (c_X8_cannot _ hM7) (ci := 10) rfl hM7.o rfl ml_RX8_158 im_yX8_cannot se_RX8_yX8_cannot in_RX8 co_yX8_cannot hd_X8_cannot rfl ⟨by omega, by omega⟩ rfl (Nat.le_of_ble_eq_true rfl) ⟨by omega, by omega⟩ dX8_forth_51 (fun v51 w51 hp51 => ?_)
          obtain ⟨rfl, hM9, hK9⟩ := hp51
          exact g_ireturn C hQ dX8_forth_54 (Nat.le_refl _) (Nat.le_refl _) ⟨t, st, _, -9, rfl, hM9, hK67.tr hK9, Or.inr (Or.inr (Or.inl ⟨hwk, by omega, by omega, by omega, rfl, rfl, rfl⟩))⟩
      · refine g_iconst C dX8_forth_35 ?_
        exact g_ireturn C hQ dX8_forth_36 (Nat.le_refl _) (Nat.le_refl _) (by
          first
          | exact ⟨t, st, ct, 0, rfl, hM7, hK67, Or.inr (Or.inl ⟨hwk, by have := bI_1 h32; omega, by have := bI_1 h32; omega, rfl, rfl, rfl⟩)⟩
          | exact ⟨t6, st, ct, 0, rfl, hM6, hK6, Or.inl ⟨bI_1 h9, by omega, rfl, rfl, rfl⟩⟩)
    refine g_if_ne (tgt := 27) C dX8_forth_20 (by decide) (bI_r _) (fun h20 => ?_) (fun h20 => ?_)
    · refine g_iconst C dX8_forth_27 ?_
      exact J28 _ (by first | exact Or.inl ⟨rfl, bI_1 h20⟩ | exact Or.inr ⟨rfl, bI_0 (Classical.not_not.mp h20)⟩)
    · refine g_iconst C dX8_forth_23 ?_
      refine g_goto (tgt := 28) C dX8_forth_24 (by decide) ?_
      exact J28 _ (by first | exact Or.inl ⟨rfl, bI_1 h20⟩ | exact Or.inr ⟨rfl, bI_0 (Classical.not_not.mp h20)⟩)
set_option maxHeartbeats 4000000 in
set_option maxRecDepth 100000 in
theorem c_X8_back (l : Launch) {E : GE} {w : Wd} {walk : Int} (h_walk : -2147483648 ≤ walk ∧ walk < 2147483648) {τ : Nat → Nat} {m : Nat} {A : MA} {th : Int} {ba st pb le ri : Nat → Int} {sp : Nat → Nat → Int} {ct : Nat → Int} (hM : MSx τ w m A th ba st pb le ri sp ct) (hS : ∀ i, i < 3 → 0 ≤ st i ∧ st i ≤ 24) : Sp E l yX8_back cX8_back 2 (some .int) 2 (0) (0) [.ref m, iI walk] w (fun r w' => ∃ (t : Int) (st' ct' : Nat → Int) (ans : Int), r = some (iI ans) ∧ MSx τ w' m A (t) (ba) (st') (pb) (le) (ri) (sp) (ct') ∧ Keep τ w w' ∧ (¬ (0 ≤ walk ∧ walk ≤ 2) ∧ t = 1 ∧ ans = 0 ∧ st' = st ∧ ct' = ct ∨ (0 ≤ walk ∧ walk ≤ 2) ∧ t = 0 ∧ st walk.toNat = 0 ∧ ans = -9 ∧ st' = st ∧ ct' = iup ct 3 (ct 3 + 1) ∨ (0 ≤ walk ∧ walk ≤ 2) ∧ t = 0 ∧ 0 < st walk.toNat ∧ ans = st walk.toNat - 1 ∧ st' = iup st walk.toNat (st walk.toNat - 1) ∧ ct' = iup ct 0 (ct 0 + 1))) := by
  refine sp_intro [some (.ref m), some (iI walk)] rfl (Nat.le_of_ble_eq_true rfl) pn_X8 ?_
  intro X C hRm hl hnm hQ
  obtain ⟨hRf, hRl, hRc, hRs⟩ := hRm
  refine g_wf (fun hwf => ?_)
  refine g_aload_n C dX8_back_0 rfl ?_
  refine g_iload_n C dX8_back_1 rfl ?_
  refine g_callS C (c_X8_isNo _ (v := walk) h_walk) ml_RX8_145 sm_yX8_isNo in_RX8 co_yX8_isNo hd_X8_isNo rfl ⟨by omega, by omega⟩ rfl (Nat.le_of_ble_eq_true rfl) ⟨by omega, by omega⟩ dX8_back_2 (fun v2 w2 hp2 => ?_)
  obtain ⟨rfl, hw2⟩ := hp2
  subst w2
  refine g_iconst C dX8_back_5 ?_
  refine g_callV C (c_X8_start _ hM (y := bI (¬ (0 ≤ walk ∧ walk ≤ 2))) (wh := 1) (bI_01 _) (by omega)) (ci := 10) rfl hM.o rfl ml_RX8_149 im_yX8_start se_RX8_yX8_start in_RX8 co_yX8_start hd_X8_start rfl ⟨by omega, by omega⟩ rfl (Nat.le_of_ble_eq_true rfl) ⟨by omega, by omega⟩ dX8_back_6 (fun v6 w6 hp6 => ?_)
  obtain ⟨t6, rfl, ht6, hM6, hK6⟩ := hp6
  have hy6 : (bI (¬ (0 ≤ walk ∧ walk ≤ 2))) = 0 ∨ (bI (¬ (0 ≤ walk ∧ walk ≤ 2))) = 1 := (bI_01 _)
  refine g_if_eq (tgt := 14) C dX8_back_9 (by decide) (bI_r _) (fun h9 => ?_) (fun h9 => ?_)
  · have hwk : 0 ≤ walk ∧ walk ≤ 2 := Classical.not_not.mp (bI_0 h9)
    have hs := hS walk.toNat (by omega)
    refine g_aload_n C dX8_back_14 rfl ?_
    refine g_get (ci := 10) C rfl inTX8 2 (by decide) fl_RX8_13 rfl hM6.o rfl dX8_back_15 ?_
    refine g_iload_n C dX8_back_18 rfl ?_
    refine g_ialoadN (walk.toNat) C hM6.s (by omega) (by omega) dX8_back_19 ?_
    refine g_if_ne (tgt := 28) C dX8_back_20 (by decide) (by omega) (fun h20 => ?_) (fun h20 => ?_)
    · refine g_aload_n C dX8_back_28 rfl ?_
      refine g_get (ci := 10) C rfl inTX8 2 (by decide) fl_RX8_13 rfl hM6.o rfl dX8_back_29 ?_
      refine g_iload_n C dX8_back_32 rfl ?_
      refine g_dup2 C dX8_back_33 rfl rfl ?_
      refine g_ialoadN (walk.toNat) C hM6.s (by omega) (by omega) dX8_back_34 ?_
      refine g_iconst C dX8_back_35 ?_
      refine g_isub C dX8_back_36 ?_
      refine g_iastoreN (walk.toNat) C hM6.s (by omega) (by omega) dX8_back_37 ?_
      refine g_aload_n C dX8_back_38 rfl ?_
      refine g_iconst C dX8_back_39 ?_
      refine g_aload_n C dX8_back_40 rfl ?_
      refine g_get (ci := 10) C rfl inTX8 2 (by decide) fl_RX8_13 rfl (hM6.setS _).o rfl dX8_back_41 ?_
      refine g_iload_n C dX8_back_44 rfl ?_
      refine g_ialoadN (walk.toNat) C (hM6.setS _).s (by omega) (by omega) dX8_back_45 ?_
      rw [iup_s]
      refine g_callV C (c_X8_done _ (hM6.setS _) (kd := 0) (to := st walk.toNat - 1) (by omega)) (ci := 10) rfl (hM6.setS _).o rfl ml_RX8_155 im_yX8_done se_RX8_yX8_done in_RX8 co_yX8_done hd_X8_done rfl ⟨by omega, by omega⟩ rfl (Nat.le_of_ble_eq_true rfl) ⟨by omega, by omega⟩ dX8_back_46 (fun v46 w46 hp46 => ?_)
      obtain ⟨rfl, hM9, hK9⟩ := hp46
      exact g_ireturn C hQ dX8_back_49 (Nat.le_refl _) (Nat.le_refl _) ⟨t6, _, _, _, rfl, hM9, (hK6.tr (Keep.set _ (by have := hM6.tg; omega))).tr hK9, Or.inr (Or.inr ⟨hwk, by omega, by omega, rfl, rfl, rfl⟩)⟩
    · refine g_aload_n C dX8_back_23 rfl ?_
      refine g_callV C (c_X8_cannot _ hM6) (ci := 10) rfl hM6.o rfl ml_RX8_158 im_yX8_cannot se_RX8_yX8_cannot in_RX8 co_yX8_cannot hd_X8_cannot rfl ⟨by omega, by omega⟩ rfl (Nat.le_of_ble_eq_true rfl) ⟨by omega, by omega⟩ dX8_back_24 (fun v24 w24 hp24 => ?_)
      obtain ⟨rfl, hM9, hK9⟩ := hp24
      exact g_ireturn C hQ dX8_back_27 (Nat.le_refl _) (Nat.le_refl _) ⟨t6, st, _, -9, rfl, hM9, hK6.tr hK9, Or.inr (Or.inl ⟨hwk, by omega, by omega, rfl, rfl, rfl⟩)⟩
  · refine g_iconst C dX8_back_12 ?_
    exact g_ireturn C hQ dX8_back_13 (Nat.le_refl _) (Nat.le_refl _) (by have q := bI_1 h9; exact ⟨t6, st, ct, 0, rfl, hM6, hK6, Or.inl ⟨q, by omega, rfl, rfl, rfl⟩⟩)
set_option maxHeartbeats 4000000 in
set_option maxRecDepth 100000 in
theorem c_X8_walkCopy (l : Launch) {E : GE} {w : Wd} {walk into : Int} (h_walk : -2147483648 ≤ walk ∧ walk < 2147483648) (h_into : -2147483648 ≤ into ∧ into < 2147483648) {τ : Nat → Nat} {m : Nat} {A : MA} {th : Int} {ba st pb le ri : Nat → Int} {sp : Nat → Nat → Int} {ct : Nat → Int} (hM : MSx τ w m A th ba st pb le ri sp ct) (hB : ∀ i, i < 3 → GB (ba i)) (hS : ∀ i, i < 3 → 0 ≤ st i ∧ st i ≤ 24) : Sp E l yX8_walkCopy cX8_walkCopy 4 (some .int) 2 (0) (0) [.ref m, iI walk, iI into] w (fun r w' => ∃ (t : Int) (ba' st' ct' : Nat → Int) (ans : Int), r = some (iI ans) ∧ MSx τ w' m A (t) (ba') (st') (pb) (le) (ri) (sp) (ct') ∧ Keep τ w w' ∧ (¬ ((0 ≤ walk ∧ walk ≤ 2) ∧ (0 ≤ into ∧ into ≤ 2)) ∧ t = 1 ∧ ans = 0 ∧ ba' = ba ∧ st' = st ∧ ct' = ct ∨ ((0 ≤ walk ∧ walk ≤ 2) ∧ (0 ≤ into ∧ into ≤ 2)) ∧ t = 0 ∧ ans = bI (ba walk.toNat ≠ ba into.toNat ∨ st walk.toNat ≠ st into.toNat) ∧ ba' = iup ba into.toNat (ba walk.toNat) ∧ st' = iup st into.toNat (st walk.toNat) ∧ ct' = iup ct 0 (ct 0 + 1))) := by
  refine sp_intro [some (.ref m), some (iI walk), some (iI into), none] rfl (Nat.le_of_ble_eq_true rfl) pn_X8 ?_
  intro X C hRm hl hnm hQ
  obtain ⟨hRf, hRl, hRc, hRs⟩ := hRm
  refine g_wf (fun hwf => ?_)
  refine g_aload_n C dX8_walkCopy_0 rfl ?_
  refine g_iload_n C dX8_walkCopy_1 rfl ?_
  refine g_callS C (c_X8_isNo _ (v := walk) h_walk) ml_RX8_145 sm_yX8_isNo in_RX8 co_yX8_isNo hd_X8_isNo rfl ⟨by omega, by omega⟩ rfl (Nat.le_of_ble_eq_true rfl) ⟨by omega, by omega⟩ dX8_walkCopy_2 (fun v2 w2 hp2 => ?_)
  obtain ⟨rfl, hw2⟩ := hp2
  subst w2
  have J20 : ∀ y : Int, (y = 0 ∧ (0 ≤ walk ∧ walk ≤ 2) ∧ (0 ≤ into ∧ into ≤ 2) ∨ y = 1 ∧ ¬ ((0 ≤ walk ∧ walk ≤ 2) ∧ (0 ≤ into ∧ into ≤ 2))) → G E X 4 20 [some (.ref m), some (iI walk), some (iI into), none] [iI y, .ref m] w 0 0 := by
    intro y hy
    refine g_iconst C dX8_walkCopy_20 ?_
    refine g_callV C (c_X8_start _ hM (y := y) (wh := 1) (by omega) (by omega)) (ci := 10) rfl hM.o rfl ml_RX8_149 im_yX8_start se_RX8_yX8_start in_RX8 co_yX8_start hd_X8_start rfl ⟨by omega, by omega⟩ rfl (Nat.le_of_ble_eq_true rfl) ⟨by omega, by omega⟩ dX8_walkCopy_21 (fun v21 w21 hp21 => ?_)
    obtain ⟨t6, rfl, ht6, hM6, hK6⟩ := hp21
    have hy6 : (y) = 0 ∨ (y) = 1 := (by omega)
    refine g_if_eq (tgt := 29) C dX8_walkCopy_24 (by decide) (by omega) (fun h24 => ?_) (fun h24 => ?_)
    · have hwk : (0 ≤ walk ∧ walk ≤ 2) ∧ (0 ≤ into ∧ into ≤ 2) := by omega
      have b1 := hB walk.toNat (by omega)
      have b2 := hB into.toNat (by omega)
      have b11 := b1.1
      have b12 := b1.2.1
      have b21 := b2.1
      have b22 := b2.2.1
      have s1 := hS walk.toNat (by omega)
      have s2 := hS into.toNat (by omega)
      refine g_aload_n C dX8_walkCopy_29 rfl ?_
      refine g_get (ci := 10) C rfl inTX8 1 (by decide) fl_RX8_9 rfl hM6.o rfl dX8_walkCopy_30 ?_
      refine g_iload_n C dX8_walkCopy_33 rfl ?_
      refine g_ialoadN (walk.toNat) C hM6.b (by omega) (by omega) dX8_walkCopy_34 ?_
      refine g_aload_n C dX8_walkCopy_35 rfl ?_
      refine g_get (ci := 10) C rfl inTX8 1 (by decide) fl_RX8_9 rfl hM6.o rfl dX8_walkCopy_36 ?_
      refine g_iload_n C dX8_walkCopy_39 rfl ?_
      refine g_ialoadN (into.toNat) C hM6.b (by omega) (by omega) dX8_walkCopy_40 ?_
      have J64 : ∀ z : Int, (z = bI (ba walk.toNat ≠ ba into.toNat ∨ st walk.toNat ≠ st into.toNat)) → G E X 4 64 [some (.ref m), some (iI walk), some (iI into), none] [iI z] w21 0 0 := by
        intro z hz
        refine g_istore_n C dX8_walkCopy_64 (by decide) rfl ?_
        refine g_aload_n C dX8_walkCopy_65 rfl ?_
        refine g_get (ci := 10) C rfl inTX8 1 (by decide) fl_RX8_9 rfl hM6.o rfl dX8_walkCopy_66 ?_
        refine g_iload_n C dX8_walkCopy_69 rfl ?_
        refine g_aload_n C dX8_walkCopy_70 rfl ?_
        refine g_get (ci := 10) C rfl inTX8 1 (by decide) fl_RX8_9 rfl hM6.o rfl dX8_walkCopy_71 ?_
        refine g_iload_n C dX8_walkCopy_74 rfl ?_
        refine g_ialoadN (walk.toNat) C hM6.b (by omega) (by omega) dX8_walkCopy_75 ?_
        refine g_iastoreN (into.toNat) C hM6.b (by omega) (by omega) dX8_walkCopy_76 ?_
        refine g_aload_n C dX8_walkCopy_77 rfl ?_
        refine g_get (ci := 10) C rfl inTX8 2 (by decide) fl_RX8_13 rfl (hM6.setB _).o rfl dX8_walkCopy_78 ?_
        refine g_iload_n C dX8_walkCopy_81 rfl ?_
        refine g_aload_n C dX8_walkCopy_82 rfl ?_
        refine g_get (ci := 10) C rfl inTX8 2 (by decide) fl_RX8_13 rfl (hM6.setB _).o rfl dX8_walkCopy_83 ?_
        refine g_iload_n C dX8_walkCopy_86 rfl ?_
        refine g_ialoadN (walk.toNat) C (hM6.setB _).s (by omega) (by omega) dX8_walkCopy_87 ?_
        refine g_iastoreN (into.toNat) C (hM6.setB _).s (by omega) (by omega) dX8_walkCopy_88 ?_
        refine g_aload_n C dX8_walkCopy_89 rfl ?_
        refine g_iconst C dX8_walkCopy_90 ?_
        refine g_iload_n C dX8_walkCopy_91 rfl ?_
        have hz01 : z = 0 ∨ z = 1 := by rw [hz]; exact bI_01 _
        have J100 : ∀ x : Int, x = z → G E X 4 100 [some (.ref m), some (iI walk), some (iI into), some (iI z)] [iI x, iI 0, .ref m] (wset (wset w21 A.1 (true, eI 3 (iup ba into.toNat (ba walk.toNat)))) A.2.1 (true, eI 3 (iup st into.toNat (st walk.toNat)))) 0 0 := by
          intro x hx
          subst hx
          refine g_callV C (c_X8_done _ ((hM6.setB _).setS _) (kd := 0) (to := x) (by omega)) (ci := 10) rfl ((hM6.setB _).setS _).o rfl ml_RX8_155 im_yX8_done se_RX8_yX8_done in_RX8 co_yX8_done hd_X8_done rfl ⟨by omega, by omega⟩ rfl (Nat.le_of_ble_eq_true rfl) ⟨by omega, by omega⟩ dX8_walkCopy_100 (fun v100 w100 hp100 => ?_)
          obtain ⟨rfl, hM9, hK9⟩ := hp100
          exact g_ireturn C hQ dX8_walkCopy_103 (Nat.le_refl _) (Nat.le_refl _) ⟨t6, _, _, _, x, rfl, hM9, (hK6.tr ((Keep.set _ (by have := hM6.tg; omega)).tr (Keep.set _ (by have := hM6.tg; omega)))).tr hK9, Or.inr ⟨hwk, by omega, hz, rfl, rfl, rfl⟩⟩
        refine g_if_eq (tgt := 99) C dX8_walkCopy_92 (by decide) (by rw [hz]; exact bI_r _) (fun h92 => ?_) (fun h92 => ?_)
        · refine g_iconst C dX8_walkCopy_99 ?_
          exact J100 _ (by omega)
        · refine g_iconst C dX8_walkCopy_95 ?_
          refine g_goto (tgt := 100) C dX8_walkCopy_96 (by decide) ?_
          exact J100 _ (by omega)
      refine g_icmp_ne (tgt := 59) C dX8_walkCopy_41 (by decide) (by omega) (by omega) (fun h41 => ?_) (fun h41 => ?_)
      · refine g_iconst C dX8_walkCopy_59 ?_
        refine g_goto (tgt := 64) C dX8_walkCopy_60 (by decide) ?_
        exact J64 _ (by first | rw [bI_t (by omega)] | rw [bI_f (by omega)])
      · refine g_aload_n C dX8_walkCopy_44 rfl ?_
        refine g_get (ci := 10) C rfl inTX8 2 (by decide) fl_RX8_13 rfl hM6.o rfl dX8_walkCopy_45 ?_
        refine g_iload_n C dX8_walkCopy_48 rfl ?_
        refine g_ialoadN (walk.toNat) C hM6.s (by omega) (by omega) dX8_walkCopy_49 ?_
        refine g_aload_n C dX8_walkCopy_50 rfl ?_
        refine g_get (ci := 10) C rfl inTX8 2 (by decide) fl_RX8_13 rfl hM6.o rfl dX8_walkCopy_51 ?_
        refine g_iload_n C dX8_walkCopy_54 rfl ?_
        refine g_ialoadN (into.toNat) C hM6.s (by omega) (by omega) dX8_walkCopy_55 ?_
        refine g_icmp_eq (tgt := 63) C dX8_walkCopy_56 (by decide) (by omega) (by omega) (fun h56 => ?_) (fun h56 => ?_)
        · refine g_iconst C dX8_walkCopy_63 ?_
          exact J64 _ (by first | rw [bI_t (by omega)] | rw [bI_f (by omega)])
        · refine g_iconst C dX8_walkCopy_59 ?_
          refine g_goto (tgt := 64) C dX8_walkCopy_60 (by decide) ?_
          exact J64 _ (by first | rw [bI_t (by omega)] | rw [bI_f (by omega)])
    · refine g_iconst C dX8_walkCopy_27 ?_
      exact g_ireturn C hQ dX8_walkCopy_28 (Nat.le_refl _) (Nat.le_refl _) ⟨t6, ba, st, ct, 0, rfl, hM6, hK6, Or.inl ⟨by omega, by omega, rfl, rfl, rfl, rfl⟩⟩
  refine g_if_ne (tgt := 15) C dX8_walkCopy_5 (by decide) (bI_r _) (fun h5 => ?_) (fun h5 => ?_)
  · refine g_iconst C dX8_walkCopy_15 ?_
    refine g_goto (tgt := 20) C dX8_walkCopy_16 (by decide) ?_
    exact J20 _ (by first | (have := bI_1 h5; exact Or.inr ⟨rfl, by omega⟩) | (have := bI_1 h12; exact Or.inr ⟨rfl, by omega⟩) | (have := bI_0 (Classical.not_not.mp h5); have := bI_0 h12; exact Or.inl ⟨rfl, by omega, by omega⟩))
  · refine g_iload_n C dX8_walkCopy_8 rfl ?_
    refine g_callS C (c_X8_isNo _ (v := into) h_into) ml_RX8_145 sm_yX8_isNo in_RX8 co_yX8_isNo hd_X8_isNo rfl ⟨by omega, by omega⟩ rfl (Nat.le_of_ble_eq_true rfl) ⟨by omega, by omega⟩ dX8_walkCopy_9 (fun v9 w9 hp9 => ?_)
    obtain ⟨rfl, hw9⟩ := hp9
    subst w9
    refine g_if_eq (tgt := 19) C dX8_walkCopy_12 (by decide) (bI_r _) (fun h12 => ?_) (fun h12 => ?_)
    · refine g_iconst C dX8_walkCopy_19 ?_
      exact J20 _ (by first | (have := bI_1 h5; exact Or.inr ⟨rfl, by omega⟩) | (have := bI_1 h12; exact Or.inr ⟨rfl, by omega⟩) | (have := bI_0 (Classical.not_not.mp h5); have := bI_0 h12; exact Or.inl ⟨rfl, by omega, by omega⟩))
    · refine g_iconst C dX8_walkCopy_15 ?_
      refine g_goto (tgt := 20) C dX8_walkCopy_16 (by decide) ?_
      exact J20 _ (by first | (have := bI_1 h5; exact Or.inr ⟨rfl, by omega⟩) | (have := bI_1 h12; exact Or.inr ⟨rfl, by omega⟩) | (have := bI_0 (Classical.not_not.mp h5); have := bI_0 h12; exact Or.inl ⟨rfl, by omega, by omega⟩))
def prV (b r s what : Int) : Int := if what = 0 then b else if what = 1 then s else if what = 2 then r else if what = 3 then (cf b r s.toNat).1 else if what = 4 then (cf b r s.toNat).2.1 else (cf b r s.toNat).2.2
set_option maxHeartbeats 4000000 in
set_option maxRecDepth 100000 in
theorem c_X8_partOf (l : Launch) {E : GE} {w : Wd} {τ : Nat → Nat} {m : Nat} {A : MA} {th : Int} {ba st pb le ri : Nat → Int} {sp : Nat → Nat → Int} {ct : Nat → Int} (hM : MSx τ w m A th ba st pb le ri sp ct) {i : Nat} {r what : Int} (hi : i < 3) (hw : 0 ≤ what ∧ what ≤ 5) (hb : GB (ba i)) (hr : RT (ba i) r) (hs : 0 ≤ st i ∧ st i ≤ 24) : Sp E l yX8_partOf cX8_partOf 3 (some .int) 2 (1) (3) [.ref m, iI (i : Int), iI what] w (fun r1 w' => r1 = some (iI (prV (ba i) r (st i) what)) ∧ Ex w w') := by
  refine sp_intro [some (.ref m), some (iI (i : Int)), some (iI what)] rfl (Nat.le_of_ble_eq_true rfl) pn_X8 ?_
  intro X C hRm hl hnm hQ
  obtain ⟨hRf, hRl, hRc, hRs⟩ := hRm
  refine g_wf (fun hwf => ?_)
  refine g_iload_n C dX8_partOf_0 rfl ?_
  refine g_iconst C dX8_partOf_1 ?_
  refine g_icmp_ge (tgt := 42) C dX8_partOf_2 (by decide) (by omega) (by omega) (fun h2 => ?_) (fun h2 => ?_)
  · refine g_aload_n C dX8_partOf_42 rfl ?_
    refine g_get (ci := 10) C rfl inTX8 1 (by decide) fl_RX8_9 rfl hM.o rfl dX8_partOf_43 ?_
    refine g_iload_n C dX8_partOf_46 rfl ?_
    refine g_ialoadN (i) C hM.b (by omega) (by omega) dX8_partOf_47 ?_
    refine g_aload_n C dX8_partOf_48 rfl ?_
    refine g_get (ci := 10) C rfl inTX8 2 (by decide) fl_RX8_13 rfl hM.o rfl dX8_partOf_49 ?_
    refine g_iload_n C dX8_partOf_52 rfl ?_
    refine g_ialoadN (i) C hM.s (by omega) (by omega) dX8_partOf_53 ?_
    rw [show st i = (((st i).toNat : Nat) : Int) by omega]
    refine g_callS C (c_X8_terms _ (b := ba i) (r := r) (K := (st i).toNat) hb hr (by omega)) ml_RX8_138 sm_yX8_terms in_RX8 co_yX8_terms hd_X8_terms rfl ⟨by omega, by omega⟩ rfl (Nat.le_of_ble_eq_true rfl) ⟨by omega, by omega⟩ dX8_partOf_54 (fun v54 w54 hp54 => ?_)
    obtain ⟨f, rfl, rfl, g0, g1, g2⟩ := hp54
    refine g_iload_n C dX8_partOf_57 rfl ?_
    refine g_iconst C dX8_partOf_58 ?_
    refine g_isub C dX8_partOf_59 ?_
    refine g_ialoadN ((what - 3).toNat) C wpush_s (by omega) (by omega) dX8_partOf_60 ?_
    exact g_ireturn C hQ dX8_partOf_61 (by omega) (by omega) ⟨by
      unfold prV
      rw [if_neg (by omega), if_neg (by omega), if_neg (by omega)]
      have e : what = 3 ∨ what = 4 ∨ what = 5 := by omega
      rcases e with e | e | e
      · rw [if_pos e, e]; rw [← g0]; rfl
      · rw [if_neg (by omega), if_pos e, e]; rw [← g1]; rfl
      · rw [if_neg (by omega), if_neg (by omega), e]; rw [← g2]; rfl, Ex.push hwf _⟩
  · refine g_iload_n C dX8_partOf_5 rfl ?_
    refine g_if_ne (tgt := 18) C dX8_partOf_6 (by decide) (by omega) (fun h6 => ?_) (fun h6 => ?_)
    · refine g_iload_n C dX8_partOf_18 rfl ?_
      refine g_iconst C dX8_partOf_19 ?_
      refine g_icmp_ne (tgt := 32) C dX8_partOf_20 (by decide) (by omega) (by omega) (fun h20 => ?_) (fun h20 => ?_)
      · refine g_aload_n C dX8_partOf_32 rfl ?_
        refine g_get (ci := 10) C rfl inTX8 1 (by decide) fl_RX8_9 rfl hM.o rfl dX8_partOf_33 ?_
        refine g_iload_n C dX8_partOf_36 rfl ?_
        refine g_ialoadN (i) C hM.b (by omega) (by omega) dX8_partOf_37 ?_
        refine g_callS C (c_X8_root _ (b := ba i) (by have := hb.1; have := hb.2.1; omega)) ml_RX8_130 sm_yX8_root in_RX8 co_yX8_root hd_X8_root rfl ⟨by omega, by omega⟩ rfl (Nat.le_of_ble_eq_true rfl) ⟨by omega, by omega⟩ dX8_partOf_38 (fun v38 w38 hp38 => ?_)
        obtain ⟨⟨rr, rfl, q1, q2, q3⟩, hw38⟩ := hp38
        subst w38
        have er := RT_uniq hr ⟨q1, q2, q3⟩
        exact g_ireturn C hQ dX8_partOf_41 (by omega) (by omega) ⟨by unfold prV; first | rw [if_pos (by omega)] | (rw [if_neg (by omega), if_pos (by omega)]) | (rw [if_neg (by omega), if_neg (by omega), if_pos (by omega), er]), Ex.rf w⟩
      · refine g_aload_n C dX8_partOf_23 rfl ?_
        refine g_get (ci := 10) C rfl inTX8 2 (by decide) fl_RX8_13 rfl hM.o rfl dX8_partOf_24 ?_
        refine g_iload_n C dX8_partOf_27 rfl ?_
        refine g_ialoadN (i) C hM.s (by omega) (by omega) dX8_partOf_28 ?_
        refine g_goto (tgt := 41) C dX8_partOf_29 (by decide) ?_
        exact g_ireturn C hQ dX8_partOf_41 (by omega) (by omega) ⟨by unfold prV; first | rw [if_pos (by omega)] | (rw [if_neg (by omega), if_pos (by omega)]) | (rw [if_neg (by omega), if_neg (by omega), if_pos (by omega), er]), Ex.rf w⟩
    · refine g_aload_n C dX8_partOf_9 rfl ?_
      refine g_get (ci := 10) C rfl inTX8 1 (by decide) fl_RX8_9 rfl hM.o rfl dX8_partOf_10 ?_
      refine g_iload_n C dX8_partOf_13 rfl ?_
      refine g_ialoadN (i) C hM.b (by omega) (by omega) dX8_partOf_14 ?_
      refine g_goto (tgt := 41) C dX8_partOf_15 (by decide) ?_
      exact g_ireturn C hQ dX8_partOf_41 (by omega) (by omega) ⟨by unfold prV; first | rw [if_pos (by omega)] | (rw [if_neg (by omega), if_pos (by omega)]) | (rw [if_neg (by omega), if_neg (by omega), if_pos (by omega), er]), Ex.rf w⟩
theorem RT_ex {b : Int} (h : GB b) : ∃ r, RT b r := by
  have key : ∀ n : Nat, (∃ r, RT b r) ∨ ((n : Int) * n ≤ b) := by
    intro n
    induction n with
    | zero => exact Or.inr (by have := h.1; omega)
    | succ n ih =>
      rcases ih with q | q
      · exact Or.inl q
      · rcases Int.lt_or_le b (((n + 1 : Nat) : Int) * ((n + 1 : Nat) : Int)) with a | a
        · exact Or.inl ⟨n, by omega, q, by rw [show ((n : Int) + 1) = ((n + 1 : Nat) : Int) by omega]; exact a⟩
        · exact Or.inr a
  rcases key 10 with q | q
  · exact q
  · have := h.2.1; omega
set_option maxHeartbeats 4000000 in
set_option maxRecDepth 100000 in
theorem c_X8_part (l : Launch) {E : GE} {w : Wd} {walk what : Int} (h_walk : -2147483648 ≤ walk ∧ walk < 2147483648) (h_what : -2147483648 ≤ what ∧ what < 2147483648) {τ : Nat → Nat} {m : Nat} {A : MA} {th : Int} {ba st pb le ri : Nat → Int} {sp : Nat → Nat → Int} {ct : Nat → Int} (hM : MSx τ w m A th ba st pb le ri sp ct) (hB : ∀ i, i < 3 → GB (ba i)) (hS : ∀ i, i < 3 → 0 ≤ st i ∧ st i ≤ 24) : Sp E l yX8_part cX8_part 3 (some .int) 3 (1) (3) [.ref m, iI walk, iI what] w (fun r w' => ∃ (t : Int) (ans : Int), r = some (iI ans) ∧ MSx τ w' m A (t) (ba) (st) (pb) (le) (ri) (sp) (ct) ∧ Keep τ w w' ∧ (¬ (0 ≤ walk ∧ walk ≤ 2) ∧ t = 1 ∧ ans = 0 ∨ (0 ≤ walk ∧ walk ≤ 2) ∧ ¬ (0 ≤ what ∧ what ≤ 5) ∧ t = 2 ∧ ans = 0 ∨ (0 ≤ walk ∧ walk ≤ 2) ∧ (0 ≤ what ∧ what ≤ 5) ∧ t = 0 ∧ ∃ r, RT (ba walk.toNat) r ∧ ans = prV (ba walk.toNat) r (st walk.toNat) what)) := by
  refine sp_intro [some (.ref m), some (iI walk), some (iI what)] rfl (Nat.le_of_ble_eq_true rfl) pn_X8 ?_
  intro X C hRm hl hnm hQ
  obtain ⟨hRf, hRl, hRc, hRs⟩ := hRm
  refine g_wf (fun hwf => ?_)
  refine g_aload_n C dX8_part_0 rfl ?_
  refine g_iload_n C dX8_part_1 rfl ?_
  refine g_callS C (c_X8_isNo _ (v := walk) h_walk) ml_RX8_145 sm_yX8_isNo in_RX8 co_yX8_isNo hd_X8_isNo rfl ⟨by omega, by omega⟩ rfl (Nat.le_of_ble_eq_true rfl) ⟨by omega, by omega⟩ dX8_part_2 (fun v2 w2 hp2 => ?_)
  obtain ⟨rfl, hw2⟩ := hp2
  subst w2
  refine g_iconst C dX8_part_5 ?_
  refine g_callV C (c_X8_start _ hM (y := bI (¬ (0 ≤ walk ∧ walk ≤ 2))) (wh := 1) (bI_01 _) (by omega)) (ci := 10) rfl hM.o rfl ml_RX8_149 im_yX8_start se_RX8_yX8_start in_RX8 co_yX8_start hd_X8_start rfl ⟨by omega, by omega⟩ rfl (Nat.le_of_ble_eq_true rfl) ⟨by omega, by omega⟩ dX8_part_6 (fun v6 w6 hp6 => ?_)
  obtain ⟨t6, rfl, ht6, hM6, hK6⟩ := hp6
  have hy6 : (bI (¬ (0 ≤ walk ∧ walk ≤ 2))) = 0 ∨ (bI (¬ (0 ≤ walk ∧ walk ≤ 2))) = 1 := (bI_01 _)
  refine g_if_ne (tgt := 34) C dX8_part_9 (by decide) (bI_r _) (fun h9 => ?_) (fun h9 => ?_)
  · refine g_iconst C dX8_part_34 ?_
    refine g_goto (tgt := 44) C dX8_part_35 (by decide) ?_
    exact g_ireturn C hQ dX8_part_44 (by omega) (by omega) (by
      first
      | exact ⟨t, _, rfl, hM7.ex hx, hK67.tr (Keep.ex hx), Or.inr (Or.inr ⟨hwk, by omega, by omega, r, hr, rfl⟩)⟩
      | exact ⟨t, 0, rfl, hM7, hK67, Or.inr (Or.inl ⟨hwk, by have := bI_1 h31; omega, by have := bI_1 h31; omega, rfl⟩)⟩
      | exact ⟨t6, 0, rfl, hM6, hK6, Or.inl ⟨bI_1 h9, by omega, rfl⟩⟩)
  · refine g_aload_n C dX8_part_12 rfl ?_
    refine g_iload_n C dX8_part_13 rfl ?_
    refine g_iconst C dX8_part_14 ?_
    refine g_iconst C dX8_part_15 ?_
    refine g_callS C (c_X8_isIn _ (v := what) (a := 0) (b := 5) h_what (by omega) (by omega)) ml_RX8_49 sm_yX8_isIn in_RX8 co_yX8_isIn hd_X8_isIn rfl ⟨by omega, by omega⟩ rfl (Nat.le_of_ble_eq_true rfl) ⟨by omega, by omega⟩ dX8_part_16 (fun v16 w16 hp16 => ?_)
    obtain ⟨rfl, hw16⟩ := hp16
    subst w16
    have J27 : ∀ y : Int, (y = 0 ∧ (0 ≤ what ∧ what ≤ 5) ∨ y = 1 ∧ ¬ (0 ≤ what ∧ what ≤ 5)) → G E X 3 27 [some (.ref m), some (iI walk), some (iI what)] [iI y, .ref m] w6 0 0 := by
      intro y hy
      have hwk : 0 ≤ walk ∧ walk ≤ 2 := Classical.not_not.mp (bI_0 (Classical.not_not.mp h9))
      refine g_iconst C dX8_part_27 ?_
      refine g_callV C (c_X8_refuse _ hM6 (y := y) (wh := 2) (by omega) (by omega) (by omega)) (ci := 10) rfl hM6.o rfl ml_RX8_45 im_yX8_refuse se_RX8_yX8_refuse in_RX8 co_yX8_refuse hd_X8_refuse rfl ⟨by omega, by omega⟩ rfl (Nat.le_of_ble_eq_true rfl) ⟨by omega, by omega⟩ dX8_part_28 (fun v28 w28 hp28 => ?_)
      obtain ⟨t, rfl, ht, hM7, hK7⟩ := hp28
      have hy7 : (y) = 0 ∨ (y) = 1 := (by omega)
      have hK67 := hK6.tr hK7
      refine g_if_eq (tgt := 38) C dX8_part_31 (by decide) (bI_r _) (fun h31 => ?_) (fun h31 => ?_)
      · have htz : ¬ (0 < t) := bI_0 h31
        have hs := hS walk.toNat (by omega)
        have hb := hB walk.toNat (by omega)
        obtain ⟨r, hr⟩ := RT_ex hb
        refine g_eq (L' := [some (.ref m), some (iI ((walk.toNat : Nat) : Int)), some (iI what)]) (by rw [show ((walk.toNat : Nat) : Int) = walk by omega]) rfl ?_
        refine g_aload_n C dX8_part_38 rfl ?_
        refine g_iload_n C dX8_part_39 rfl ?_
        refine g_iload_n C dX8_part_40 rfl ?_
        refine g_callV C (c_X8_partOf _ hM7 (i := walk.toNat) (what := what) (by omega) (by omega) hb hr hs) (ci := 10) rfl hM7.o rfl ml_RX8_162 im_yX8_partOf se_RX8_yX8_partOf in_RX8 co_yX8_partOf hd_X8_partOf rfl ⟨by omega, by omega⟩ rfl (Nat.le_of_ble_eq_true rfl) ⟨by omega, by omega⟩ dX8_part_41 (fun v41 w41 hp41 => ?_)
        obtain ⟨rfl, hx⟩ := hp41
        exact g_ireturn C hQ dX8_part_44 (by omega) (by omega) (by
          first
          | exact ⟨t, _, rfl, hM7.ex hx, hK67.tr (Keep.ex hx), Or.inr (Or.inr ⟨hwk, by omega, by omega, r, hr, rfl⟩)⟩
          | exact ⟨t, 0, rfl, hM7, hK67, Or.inr (Or.inl ⟨hwk, by have := bI_1 h31; omega, by have := bI_1 h31; omega, rfl⟩)⟩
          | exact ⟨t6, 0, rfl, hM6, hK6, Or.inl ⟨bI_1 h9, by omega, rfl⟩⟩)
      · refine g_iconst C dX8_part_34 ?_
        refine g_goto (tgt := 44) C dX8_part_35 (by decide) ?_
        exact g_ireturn C hQ dX8_part_44 (by omega) (by omega) (by
          first
          | exact ⟨t, _, rfl, hM7.ex hx, hK67.tr (Keep.ex hx), Or.inr (Or.inr ⟨hwk, by omega, by omega, r, hr, rfl⟩)⟩
          | exact ⟨t, 0, rfl, hM7, hK67, Or.inr (Or.inl ⟨hwk, by have := bI_1 h31; omega, by have := bI_1 h31; omega, rfl⟩)⟩
          | exact ⟨t6, 0, rfl, hM6, hK6, Or.inl ⟨bI_1 h9, by omega, rfl⟩⟩)
    refine g_if_ne (tgt := 26) C dX8_part_19 (by decide) (bI_r _) (fun h19 => ?_) (fun h19 => ?_)
    · refine g_iconst C dX8_part_26 ?_
      exact J27 _ (by first | exact Or.inl ⟨rfl, bI_1 h19⟩ | exact Or.inr ⟨rfl, bI_0 (Classical.not_not.mp h19)⟩)
    · refine g_iconst C dX8_part_22 ?_
      refine g_goto (tgt := 27) C dX8_part_23 (by decide) ?_
      exact J27 _ (by first | exact Or.inl ⟨rfl, bI_1 h19⟩ | exact Or.inr ⟨rfl, bI_0 (Classical.not_not.mp h19)⟩)
