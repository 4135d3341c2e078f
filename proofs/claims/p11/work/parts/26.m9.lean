set_option maxHeartbeats 4000000 in
set_option maxRecDepth 100000 in
theorem c_X8_at (l : Launch) {E : GE} {w : Wd} {τ : Nat → Nat} {m : Nat} {A : MA} {th : Int} {ba st pb le ri : Nat → Int} {sp : Nat → Nat → Int} {ct : Nat → Int} (hM : MSx τ w m A th ba st pb le ri sp ct) {i : Nat} {r : Int} (hi : i < 3) (hb : GB (ba i)) (hr : RT (ba i) r) (hs : 0 ≤ st i ∧ st i ≤ 24) : Sp E l yX8_at cX8_at 2 (some (.array (.array .int))) 2 (10) (48) [.ref m, iI (i : Int)] w (fun r1 w' => ∃ q : Nat, r1 = some (.ref q) ∧ R4 w.1 w' q (pq (ba i) r 1 r (st i).toNat).1 (pq (ba i) r 0 1 (st i).toNat).1 (pq (ba i) r 1 r (st i).toNat).2 (pq (ba i) r 0 1 (st i).toNat).2 ∧ Ex w w' ∧ w.1 ≤ q) := by
  refine sp_intro [some (.ref m), some (iI (i : Int))] rfl (Nat.le_of_ble_eq_true rfl) pn_X8 ?_
  intro X C hRm hl hnm hQ
  obtain ⟨hRf, hRl, hRc, hRs⟩ := hRm
  refine g_wf (fun hwf => ?_)
  refine g_aload_n C dX8_at_0 rfl ?_
  refine g_get (ci := 10) C rfl inTX8 1 (by decide) fl_RX8_9 rfl hM.o rfl dX8_at_1 ?_
  refine g_iload_n C dX8_at_4 rfl ?_
  refine g_ialoadN (i) C hM.b (by omega) (by omega) dX8_at_5 ?_
  refine g_aload_n C dX8_at_6 rfl ?_
  refine g_get (ci := 10) C rfl inTX8 2 (by decide) fl_RX8_13 rfl hM.o rfl dX8_at_7 ?_
  refine g_iload_n C dX8_at_10 rfl ?_
  refine g_ialoadN (i) C hM.s (by omega) (by omega) dX8_at_11 ?_
  rw [show st i = (((st i).toNat : Nat) : Int) by omega]
  refine g_callS C (c_X8_walked _ (b := ba i) (r := r) (K := (st i).toNat) hb hr (by omega)) ml_RX8_134 sm_yX8_walked in_RX8 co_yX8_walked hd_X8_walked rfl ⟨by omega, by omega⟩ rfl (Nat.le_of_ble_eq_true rfl) ⟨by omega, by omega⟩ dX8_at_12 (fun v12 w12 hp12 => ?_)
  obtain ⟨q12, rfl, hR12, hf12, hq12⟩ := hp12
  exact g_areturn C (Or.inr ⟨_, rfl⟩) hQ (Or.inr ⟨_, rfl⟩) dX8_at_15 (by omega) (by omega) ⟨q12, rfl, hR12, hf12.ex hwf, hq12⟩
set_option maxHeartbeats 4000000 in
set_option maxRecDepth 100000 in
theorem c_X8_open (l : Launch) {E : GE} {w : Wd} {walk b : Int} (h_walk : -2147483648 ≤ walk ∧ walk < 2147483648) (h_b : -2147483648 ≤ b ∧ b < 2147483648) {τ : Nat → Nat} {m : Nat} {A : MA} {th : Int} {ba st pb le ri : Nat → Int} {sp : Nat → Nat → Int} {ct : Nat → Int} (hM : MSx τ w m A th ba st pb le ri sp ct) : Sp E l yX8_open cX8_open 3 (some .int) 2 (0) (0) [.ref m, iI walk, iI b] w (fun r w' => ∃ (t : Int) (ba' st' ct' : Nat → Int) (ans : Int), r = some (iI ans) ∧ MSx τ w' m A (t) (ba') (st') (pb) (le) (ri) (sp) (ct') ∧ Keep τ w w' ∧ (¬ (0 ≤ walk ∧ walk ≤ 2) ∧ t = 1 ∧ ans = 0 ∧ ba' = ba ∧ st' = st ∧ ct' = ct ∨ (0 ≤ walk ∧ walk ≤ 2) ∧ ¬ GB b ∧ t = 2 ∧ ans = 0 ∧ ba' = ba ∧ st' = st ∧ ct' = ct ∨ (0 ≤ walk ∧ walk ≤ 2) ∧ GB b ∧ t = 0 ∧ RT b ans ∧ ba' = iup ba walk.toNat b ∧ st' = iup st walk.toNat 0 ∧ ct' = iup ct 0 (ct 0 + 1))) := by
  refine sp_intro [some (.ref m), some (iI walk), some (iI b)] rfl (Nat.le_of_ble_eq_true rfl) pn_X8 ?_
  intro X C hRm hl hnm hQ
  obtain ⟨hRf, hRl, hRc, hRs⟩ := hRm
  refine g_wf (fun hwf => ?_)
  refine g_aload_n C dX8_open_0 rfl ?_
  refine g_iload_n C dX8_open_1 rfl ?_
  refine g_callS C (c_X8_isNo _ (v := walk) h_walk) ml_RX8_145 sm_yX8_isNo in_RX8 co_yX8_isNo hd_X8_isNo rfl ⟨by omega, by omega⟩ rfl (Nat.le_of_ble_eq_true rfl) ⟨by omega, by omega⟩ dX8_open_2 (fun v2 w2 hp2 => ?_)
  obtain ⟨rfl, hw2⟩ := hp2
  subst w2
  refine g_iconst C dX8_open_5 ?_
  refine g_callV C (c_X8_start _ hM (wh := 1) (bI_01 _) (by omega)) (ci := 10) rfl hM.o rfl ml_RX8_149 im_yX8_start se_RX8_yX8_start in_RX8 co_yX8_start hd_X8_start rfl ⟨by omega, by omega⟩ rfl (Nat.le_of_ble_eq_true rfl) ⟨by omega, by omega⟩ dX8_open_6 (fun v6 w6 hp6 => ?_)
  obtain ⟨t6, rfl, ht6, hM6, hK6⟩ := hp6
  refine g_if_ne (tgt := 24) C dX8_open_9 (by decide) (by rcases bI_01 (¬ (0 ≤ walk ∧ walk ≤ 2)) with q | q <;> omega) (fun h9 => ?_) (fun h9 => ?_)
  · refine g_iconst C dX8_open_24 ?_
    exact g_ireturn C hQ dX8_open_25 (Nat.le_refl _) (Nat.le_refl _) (by
      first
      | exact ⟨t, ba, st, ct, 0, rfl, hM18, hK6.tr hK18, Or.inr (Or.inl ⟨hwk, by rcases hy with q | q; exact absurd (bI_1 h21) (by omega); exact q.2, by have := bI_1 h21; omega, rfl, rfl, rfl, rfl⟩)⟩
      | exact ⟨t6, ba, st, ct, 0, rfl, hM6, hK6, Or.inl ⟨bI_1 h9, by omega, rfl, rfl, rfl, rfl⟩⟩)
  · refine g_aload_n C dX8_open_12 rfl ?_
    refine g_iload_n C dX8_open_13 rfl ?_
    refine g_callS C (c_X8_isNoBase _ (v := b) h_b) ml_RX8_152 sm_yX8_isNoBase in_RX8 co_yX8_isNoBase hd_X8_isNoBase rfl ⟨by omega, by omega⟩ rfl (Nat.le_of_ble_eq_true rfl) ⟨by omega, by omega⟩ dX8_open_14 (fun v14 w14 hp14 => ?_)
    obtain ⟨⟨y, rfl, hy⟩, hw14⟩ := hp14
    subst w14
    refine g_iconst C dX8_open_17 ?_
    refine g_callV C (c_X8_refuse _ hM6 (y := y) (wh := 2) (by rcases ht6 with q | q <;> omega) (by rcases hy with q | q <;> omega) (by omega)) (ci := 10) rfl hM6.o rfl ml_RX8_45 im_yX8_refuse se_RX8_yX8_refuse in_RX8 co_yX8_refuse hd_X8_refuse rfl ⟨by omega, by omega⟩ rfl (Nat.le_of_ble_eq_true rfl) ⟨by omega, by omega⟩ dX8_open_18 (fun v18 w18 hp18 => ?_)
    obtain ⟨t, rfl, ht, hM18, hK18⟩ := hp18
    have hz : t6 = 0 := by rcases ht6 with q | q <;> omega
    have hwk : 0 ≤ walk ∧ walk ≤ 2 := Classical.not_not.mp (bI_0 (Classical.not_not.mp h9))
    refine g_if_eq (tgt := 26) C dX8_open_21 (by decide) (by rcases bI_01 (0 < t) with q | q <;> omega) (fun h21 => ?_) (fun h21 => ?_)
    · have htz : ¬ (0 < t) := bI_0 h21
      have hg : GB b := by rcases hy with q | q; exact q.2; omega
      have ht0 : t = 0 := by omega
      refine g_aload_n C dX8_open_26 rfl ?_
      refine g_get (ci := 10) C rfl inTX8 1 (by decide) fl_RX8_9 rfl hM18.o rfl dX8_open_27 ?_
      refine g_iload_n C dX8_open_30 rfl ?_
      refine g_iload_n C dX8_open_31 rfl ?_
      refine g_iastoreN (walk.toNat) C hM18.b (by omega) (by omega) dX8_open_32 ?_
      refine g_aload_n C dX8_open_33 rfl ?_
      refine g_get (ci := 10) C rfl inTX8 2 (by decide) fl_RX8_13 rfl (hM18.setB _).o rfl dX8_open_34 ?_
      refine g_iload_n C dX8_open_37 rfl ?_
      refine g_iconst C dX8_open_38 ?_
      refine g_iastoreN (walk.toNat) C (hM18.setB _).s (by omega) (by omega) dX8_open_39 ?_
      refine g_aload_n C dX8_open_40 rfl ?_
      refine g_iconst C dX8_open_41 ?_
      refine g_iload_n C dX8_open_42 rfl ?_
      refine g_callS C (c_X8_root _ (b := b) (by have := hg.1; have := hg.2.1; omega)) ml_RX8_130 sm_yX8_root in_RX8 co_yX8_root hd_X8_root rfl ⟨by omega, by omega⟩ rfl (Nat.le_of_ble_eq_true rfl) ⟨by omega, by omega⟩ dX8_open_43 (fun v43 w43 hp43 => ?_)
      obtain ⟨⟨rr, rfl, q1, q2, q3⟩, hw43⟩ := hp43
      subst w43
      refine g_callV C (c_X8_done _ ((hM18.setB (iup ba walk.toNat b)).setS (iup st walk.toNat 0)) (kd := 0) (to := rr) (by omega)) (ci := 10) rfl ((hM18.setB _).setS _).o rfl ml_RX8_155 im_yX8_done se_RX8_yX8_done in_RX8 co_yX8_done hd_X8_done rfl ⟨by omega, by omega⟩ rfl (Nat.le_of_ble_eq_true rfl) ⟨by omega, by omega⟩ dX8_open_46 (fun v46 w46 hp46 => ?_)
      obtain ⟨rfl, hM46, hK46⟩ := hp46
      exact g_ireturn C hQ dX8_open_49 (Nat.le_refl _) (Nat.le_refl _) ⟨t, _, _, _, rr, rfl, hM46, ((hK6.tr hK18).tr ((Keep.set _ (by have := hM18.tg; omega)).tr (Keep.set _ (by have := hM18.tg; omega)))).tr hK46, Or.inr (Or.inr ⟨hwk, hg, by omega, ⟨q1, q2, q3⟩, rfl, rfl, rfl⟩)⟩
    · refine g_iconst C dX8_open_24 ?_
      exact g_ireturn C hQ dX8_open_25 (Nat.le_refl _) (Nat.le_refl _) (by
        first
        | exact ⟨t, ba, st, ct, 0, rfl, hM18, hK6.tr hK18, Or.inr (Or.inl ⟨hwk, by rcases hy with q | q; exact absurd (bI_1 h21) (by omega); exact q.2, by have := bI_1 h21; omega, rfl, rfl, rfl, rfl⟩)⟩
        | exact ⟨t6, ba, st, ct, 0, rfl, hM6, hK6, Or.inl ⟨bI_1 h9, by omega, rfl, rfl, rfl, rfl⟩⟩)
