theorem g_astore_nN {E X own cc nL ret pc L st w k n} {q : Fin 4} (C : CX E X own cc nL ret) (d : decode cc pc = .ok (.astore_n q, 1)) (hn : (q : Nat) < nL) (ho : ok1 L q = true) (kk : G E X nL (pc + 1) (s1 L q .null) st w k n) : G E X nL pc L (.null :: st) w k n :=
  fun H locs ls h1 h2 h3 => lv_astore_nN C.ex C.co d rfl h3.has hn rfl (fun ls' h' => kk H locs ls' h1 h2 (gL.st1 ho h'))
theorem g_astoreNl {E X own cc nL ret pc L st w k n} {q : Nat} (C : CX E X own cc nL ret) (d : decode cc pc = .ok (.astore q, 2)) (hn : q < nL) (ho : ok1 L q = true) (kk : G E X nL (pc + 2) (s1 L q .null) st w k n) : G E X nL pc L (.null :: st) w k n :=
  fun H locs ls h1 h2 h3 => lv_astoreN C.ex C.co d h3.has hn rfl (fun ls' h' => kk H locs ls' h1 h2 (gL.st1 ho h'))
theorem g_ifnonnull {E X own cc nL ret pc L st w k n} {x : Nat} {off : Int} {tgt : Nat} (C : CX E X own cc nL ret) (d : decode cc pc = .ok (.ifnonnull off, 3)) (ht : (pc : Int) + off = (tgt : Int)) (kk : G E X nL tgt L st w k n) : G E X nL pc L (.ref x :: st) w k n :=
  fun H locs ls h1 h2 h3 => lv_ifnonnull C.ex C.co d ht (kk H locs ls h1 h2 h3)
theorem g_ifnull {E X own cc nL ret pc L st w k n} {x : Nat} {off : Int} (C : CX E X own cc nL ret) (d : decode cc pc = .ok (.ifnull off, 3)) (kk : G E X nL (pc + 3) L st w k n) : G E X nL pc L (.ref x :: st) w k n :=
  fun H locs ls h1 h2 h3 => lv_ifnull C.ex C.co d (kk H locs ls h1 h2 h3)
theorem g_ifnullN {E X own cc nL ret pc L st w k n} {off : Int} {tgt : Nat} (C : CX E X own cc nL ret) (d : decode cc pc = .ok (.ifnull off, 3)) (ht : (pc : Int) + off = (tgt : Int)) (kk : G E X nL tgt L st w k n) : G E X nL pc L (.null :: st) w k n :=
  fun H locs ls h1 h2 h3 => lv_ifnullN C.ex C.co d ht (kk H locs ls h1 h2 h3)
theorem g_ifnonnullN {E X own cc nL ret pc L st w k n} {off : Int} (C : CX E X own cc nL ret) (d : decode cc pc = .ok (.ifnonnull off, 3)) (kk : G E X nL (pc + 3) L st w k n) : G E X nL pc L (.null :: st) w k n :=
  fun H locs ls h1 h2 h3 => lv_ifnonnullN C.ex C.co d (kk H locs ls h1 h2 h3)
set_option maxHeartbeats 4000000 in
set_option maxRecDepth 100000 in
theorem c_X8_take (l : Launch) {E : GE} {w : Wd} {v into : Int} (h_v : -2147483648 ≤ v ∧ v < 2147483648) (h_into : -2147483648 ≤ into ∧ into < 2147483648) {τ : Nat → Nat} {m : Nat} {A : MA} {th : Int} {ba st pb le ri : Nat → Int} {sp : Nat → Nat → Int} {ct : Nat → Int} (hM : MSx τ w m A th ba st pb le ri sp ct) (hP : HPp pb le ri) (hB : ∀ i, i < 3 → GB (ba i)) (hS : ∀ i, i < 3 → 0 ≤ st i ∧ st i ≤ 24) : Sp E l yX8_take cX8_take 4 (some .int) 4 (10) (48) [.ref m, iI v, iI into] w (fun r w' => ∃ (τ' : Nat → Nat) (A' : MA) (t : Int) (pb' le' ri' ct' : Nat → Int) (ans : Int), (∀ a, a < w.1 → τ' a = τ a) ∧ r = some (iI ans) ∧ MSx τ' w' m A' (t) (ba) (st) (pb') (le') (ri') (sp) (ct') ∧ Keep τ w w' ∧ (¬ ((0 ≤ v ∧ v ≤ 2) ∧ (0 ≤ into ∧ into ≤ 2)) ∧ t = 1 ∧ ans = 0 ∧ pb' = pb ∧ le' = le ∧ ri' = ri ∧ ct' = ct ∨ ((0 ≤ v ∧ v ≤ 2) ∧ (0 ≤ into ∧ into ≤ 2)) ∧ t = 0 ∧ ∃ r, RT (ba v.toNat) r ∧ ((LGN ≤ aB (pq (ba v.toNat) r 1 r (st v.toNat).toNat).1 ∨ LGN ≤ aB (pq (ba v.toNat) r 0 1 (st v.toNat).toNat).1) ∧ ans = -9 ∧ pb' = pb ∧ le' = le ∧ ri' = ri ∧ ct' = iup ct 3 (ct 3 + 1) ∨ ¬ (LGN ≤ aB (pq (ba v.toNat) r 1 r (st v.toNat).toNat).1 ∨ LGN ≤ aB (pq (ba v.toNat) r 0 1 (st v.toNat).toNat).1) ∧ ans = bI (¬ (pb into.toNat = (ba v.toNat) ∧ le into.toNat = (pq (ba v.toNat) r 1 r (st v.toNat).toNat).1 ∧ ri into.toNat = (pq (ba v.toNat) r 0 1 (st v.toNat).toNat).1)) ∧ pb' = iup pb into.toNat (ba v.toNat) ∧ le' = iup le into.toNat (pq (ba v.toNat) r 1 r (st v.toNat).toNat).1 ∧ ri' = iup ri into.toNat (pq (ba v.toNat) r 0 1 (st v.toNat).toNat).1 ∧ ct' = iup ct 1 (ct 1 + 1)))) := by
  refine sp_intro [some (.ref m), some (iI v), some (iI into), none] rfl (Nat.le_of_ble_eq_true rfl) pn_X8 ?_
  intro X C hRm hl hnm hQ
  obtain ⟨hRf, hRl, hRc, hRs⟩ := hRm
  refine g_wf (fun hwf => ?_)
  refine g_aload_n C dX8_take_0 rfl ?_
  refine g_iload_n C dX8_take_1 rfl ?_
  refine g_callS C (c_X8_isNo _ (v := v) h_v) ml_RX8_145 sm_yX8_isNo in_RX8 co_yX8_isNo hd_X8_isNo rfl ⟨by omega, by omega⟩ rfl (Nat.le_of_ble_eq_true rfl) ⟨by omega, by omega⟩ dX8_take_2 (fun v2 w2 hp2 => ?_)
  obtain ⟨rfl, hw2⟩ := hp2
  subst w2
  have J20 : ∀ y : Int, (y = 0 ∧ (0 ≤ v ∧ v ≤ 2) ∧ (0 ≤ into ∧ into ≤ 2) ∨ y = 1 ∧ ¬ ((0 ≤ v ∧ v ≤ 2) ∧ (0 ≤ into ∧ into ≤ 2))) → G E X 4 20 [some (.ref m), some (iI v), some (iI into), none] [iI y, .ref m] w 0 0 := by
    intro y hy
    refine g_iconst C dX8_take_20 ?_
    refine g_callV C (c_X8_start _ hM (y := y) (wh := 1) (by omega) (by omega)) (ci := 10) rfl hM.o rfl ml_RX8_149 im_yX8_start se_RX8_yX8_start in_RX8 co_yX8_start hd_X8_start rfl ⟨by omega, by omega⟩ rfl (Nat.le_of_ble_eq_true rfl) ⟨by omega, by omega⟩ dX8_take_21 (fun v21 w21 hp21 => ?_)
    obtain ⟨t6, rfl, ht6, hM6, hK6⟩ := hp21
    have hy6 : (y) = 0 ∨ (y) = 1 := (by omega)
    refine g_if_eq (tgt := 29) C dX8_take_24 (by decide) (by omega) (fun h24 => ?_) (fun h24 => ?_)
    · have hin : ((0 ≤ v ∧ v ≤ 2) ∧ (0 ≤ into ∧ into ≤ 2)) := by omega
      obtain ⟨V, rfl⟩ := Int.eq_ofNat_of_zero_le hin.1.1
      obtain ⟨I, rfl⟩ := Int.eq_ofNat_of_zero_le hin.2.1
      have hg := hB V (by omega)
      obtain ⟨r, hr⟩ := RT_ex hg
      refine g_wf (fun hwf6 => ?_)
      have p2 := (hP I (by omega)).1.i
      have hwk6 := hK6.1
      refine g_aload_n C dX8_take_29 rfl ?_
      refine g_iload_n C dX8_take_30 rfl ?_
      refine g_callV C (c_X8_at _ hM6 (i := V) (r := r) (by omega) hg hr (hS V (by omega))) (ci := 10) rfl hM6.o rfl ml_RX8_167 im_yX8_at se_RX8_yX8_at in_RX8 co_yX8_at hd_X8_at rfl ⟨by omega, by omega⟩ rfl (Nat.le_of_ble_eq_true rfl) ⟨by omega, by omega⟩ dX8_take_31 (fun v31 w31 hp31 => ?_)
      obtain ⟨q, rfl, hR, x1, hq⟩ := hp31
      obtain ⟨R, a0, a1, a2, a3, hR0, k0, k1, k2, k3, l0, l1, l2, l3, lo0, lo1, lo2, lo3⟩ := hR
      obtain ⟨n0, f0, e0, b0, d0⟩ := id l0
      obtain ⟨n1, f1, e1, b1, d1⟩ := id l1
      have hM7 := hM6.ex x1
      have hM8 := (hM6.tag (τ' := rtag τ w21.1) hwf6 (fun a ha => rtag_lo ha)).ex x1
      have hK7 := hK6.tr (Keep.ex x1)
      refine g_astore_n C dX8_take_34 (by decide) rfl ?_
      refine g_aload_n C dX8_take_35 rfl ?_
      refine g_iconst C dX8_take_36 ?_
      refine g_aaloadN (0) C rfl rfl hR0 (by omega) (by omega) k0 dX8_take_37 ?_
      refine g_callS C (c_X8_isLong _ e0 ⟨b0.n1, by omega⟩ b0.d) ml_RX8_236 sm_yX8_isLong in_RX8 co_yX8_isLong hd_X8_isLong rfl ⟨by omega, by omega⟩ rfl (Nat.le_of_ble_eq_true rfl) ⟨by omega, by omega⟩ dX8_take_38 (fun v38 w38 hp38 => ?_)
      obtain ⟨rfl, hw38⟩ := hp38
      subst w38
      rw [b0.abs]
      refine g_if_ne (tgt := 53) C dX8_take_41 (by decide) (bI_r _) (fun h41 => ?_) (fun h41 => ?_)
      · refine g_aload_n C dX8_take_53 rfl ?_
        refine g_callV C (c_X8_cannot _ hM7) (ci := 10) rfl hM7.o rfl ml_RX8_158 im_yX8_cannot se_RX8_yX8_cannot in_RX8 co_yX8_cannot hd_X8_cannot rfl ⟨by omega, by omega⟩ rfl (Nat.le_of_ble_eq_true rfl) ⟨by omega, by omega⟩ dX8_take_54 (fun v54 w54 hp54 => ?_)
        obtain ⟨rfl, hM9, hK9⟩ := hp54
        refine g_goto (tgt := 77) C dX8_take_57 (by decide) ?_
        exact g_ireturn C hQ dX8_take_77 (by omega) (by omega) (by
          first
          | exact ⟨_, _, t6, _, _, _, _, _, fun a ha => rtag_lo (by omega), rfl, hM9, hK7.trT hK9 hwf (fun a ha => rtag_lo (by omega)), Or.inr ⟨hin, by omega, r, hr, Or.inr ⟨fun q => q.elim (bI_0 (Classical.not_not.mp h41)) (bI_0 h50), rfl, rfl, rfl, rfl, rfl⟩⟩⟩
          | exact ⟨τ, A, t6, _, _, _, _, _, (fun _ _ => rfl), rfl, hM9, hK7.tr hK9, Or.inr ⟨hin, by omega, r, hr, Or.inl ⟨by first | exact Or.inl (bI_1 h41) | exact Or.inr (bI_1 h50), rfl, rfl, rfl, rfl, rfl⟩⟩⟩)
      · refine g_aload_n C dX8_take_44 rfl ?_
        refine g_iconst C dX8_take_45 ?_
        refine g_aaloadN (1) C rfl rfl hR0 (by omega) (by omega) k1 dX8_take_46 ?_
        refine g_callS C (c_X8_isLong _ e1 ⟨b1.n1, by omega⟩ b1.d) ml_RX8_236 sm_yX8_isLong in_RX8 co_yX8_isLong hd_X8_isLong rfl ⟨by omega, by omega⟩ rfl (Nat.le_of_ble_eq_true rfl) ⟨by omega, by omega⟩ dX8_take_47 (fun v47 w47 hp47 => ?_)
        obtain ⟨rfl, hw47⟩ := hp47
        subst w47
        rw [b1.abs]
        refine g_if_eq (tgt := 60) C dX8_take_50 (by decide) (bI_r _) (fun h50 => ?_) (fun h50 => ?_)
        · refine g_aload_n C dX8_take_60 rfl ?_
          refine g_iload_n C dX8_take_61 rfl ?_
          refine g_aload_n C dX8_take_62 rfl ?_
          refine g_get (ci := 10) C rfl inTX8 1 (by decide) fl_RX8_9 rfl hM8.o rfl dX8_take_63 ?_
          refine g_iload_n C dX8_take_66 rfl ?_
          refine g_ialoadN (V) C hM8.b (by omega) (by omega) dX8_take_67 ?_
          refine g_aload_n C dX8_take_68 rfl ?_
          refine g_iconst C dX8_take_69 ?_
          refine g_aaloadN (0) C rfl rfl hR0 (by omega) (by omega) k0 dX8_take_70 ?_
          refine g_aload_n C dX8_take_71 rfl ?_
          refine g_iconst C dX8_take_72 ?_
          refine g_aaloadN (1) C rfl rfl hR0 (by omega) (by omega) k1 dX8_take_73 ?_
          refine g_callV C (c_X8_become _ hM8 (i := I) (bz := ba V) (by omega) p2 hg.i (rtag_hi lo0) (rtag_hi lo1) (l0.short (bI_0 (Classical.not_not.mp h41))) (l1.short (bI_0 h50))) (ci := 10) rfl hM8.o rfl ml_RX8_232 im_yX8_become se_RX8_yX8_become in_RX8 co_yX8_become hd_X8_become rfl ⟨by omega, by omega⟩ rfl (Nat.le_of_ble_eq_true rfl) ⟨by omega, by omega⟩ dX8_take_74 (fun v74 w74 hp74 => ?_)
          obtain ⟨rfl, hM9, hK9⟩ := hp74
          exact g_ireturn C hQ dX8_take_77 (by omega) (by omega) (by
            first
            | exact ⟨_, _, t6, _, _, _, _, _, fun a ha => rtag_lo (by omega), rfl, hM9, hK7.trT hK9 hwf (fun a ha => rtag_lo (by omega)), Or.inr ⟨hin, by omega, r, hr, Or.inr ⟨fun q => q.elim (bI_0 (Classical.not_not.mp h41)) (bI_0 h50), rfl, rfl, rfl, rfl, rfl⟩⟩⟩
            | exact ⟨τ, A, t6, _, _, _, _, _, (fun _ _ => rfl), rfl, hM9, hK7.tr hK9, Or.inr ⟨hin, by omega, r, hr, Or.inl ⟨by first | exact Or.inl (bI_1 h41) | exact Or.inr (bI_1 h50), rfl, rfl, rfl, rfl, rfl⟩⟩⟩)
        · refine g_aload_n C dX8_take_53 rfl ?_
          refine g_callV C (c_X8_cannot _ hM7) (ci := 10) rfl hM7.o rfl ml_RX8_158 im_yX8_cannot se_RX8_yX8_cannot in_RX8 co_yX8_cannot hd_X8_cannot rfl ⟨by omega, by omega⟩ rfl (Nat.le_of_ble_eq_true rfl) ⟨by omega, by omega⟩ dX8_take_54 (fun v54 w54 hp54 => ?_)
          obtain ⟨rfl, hM9, hK9⟩ := hp54
          refine g_goto (tgt := 77) C dX8_take_57 (by decide) ?_
          exact g_ireturn C hQ dX8_take_77 (by omega) (by omega) (by
            first
            | exact ⟨_, _, t6, _, _, _, _, _, fun a ha => rtag_lo (by omega), rfl, hM9, hK7.trT hK9 hwf (fun a ha => rtag_lo (by omega)), Or.inr ⟨hin, by omega, r, hr, Or.inr ⟨fun q => q.elim (bI_0 (Classical.not_not.mp h41)) (bI_0 h50), rfl, rfl, rfl, rfl, rfl⟩⟩⟩
            | exact ⟨τ, A, t6, _, _, _, _, _, (fun _ _ => rfl), rfl, hM9, hK7.tr hK9, Or.inr ⟨hin, by omega, r, hr, Or.inl ⟨by first | exact Or.inl (bI_1 h41) | exact Or.inr (bI_1 h50), rfl, rfl, rfl, rfl, rfl⟩⟩⟩)
    · refine g_iconst C dX8_take_27 ?_
      exact g_ireturn C hQ dX8_take_28 (by omega) (by omega) ⟨τ, A, t6, _, _, _, _, _, (fun _ _ => rfl), rfl, hM6, hK6, Or.inl ⟨by omega, by omega, rfl, rfl, rfl, rfl, rfl⟩⟩
  refine g_if_ne (tgt := 15) C dX8_take_5 (by decide) (bI_r _) (fun h5 => ?_) (fun h5 => ?_)
  · refine g_iconst C dX8_take_15 ?_
    refine g_goto (tgt := 20) C dX8_take_16 (by decide) ?_
    exact J20 _ (by first | (have := bI_1 h5; exact Or.inr ⟨rfl, by omega⟩) | (have := bI_1 h12; exact Or.inr ⟨rfl, by omega⟩) | (have := bI_0 (Classical.not_not.mp h5); have := bI_0 h12; exact Or.inl ⟨rfl, by omega, by omega⟩))
  · refine g_iload_n C dX8_take_8 rfl ?_
    refine g_callS C (c_X8_isNo _ (v := into) h_into) ml_RX8_145 sm_yX8_isNo in_RX8 co_yX8_isNo hd_X8_isNo rfl ⟨by omega, by omega⟩ rfl (Nat.le_of_ble_eq_true rfl) ⟨by omega, by omega⟩ dX8_take_9 (fun v9 w9 hp9 => ?_)
    obtain ⟨rfl, hw9⟩ := hp9
    subst w9
    refine g_if_eq (tgt := 19) C dX8_take_12 (by decide) (bI_r _) (fun h12 => ?_) (fun h12 => ?_)
    · refine g_iconst C dX8_take_19 ?_
      exact J20 _ (by first | (have := bI_1 h5; exact Or.inr ⟨rfl, by omega⟩) | (have := bI_1 h12; exact Or.inr ⟨rfl, by omega⟩) | (have := bI_0 (Classical.not_not.mp h5); have := bI_0 h12; exact Or.inl ⟨rfl, by omega, by omega⟩))
    · refine g_iconst C dX8_take_15 ?_
      refine g_goto (tgt := 20) C dX8_take_16 (by decide) ?_
      exact J20 _ (by first | (have := bI_1 h5; exact Or.inr ⟨rfl, by omega⟩) | (have := bI_1 h12; exact Or.inr ⟨rfl, by omega⟩) | (have := bI_0 (Classical.not_not.mp h5); have := bI_0 h12; exact Or.inl ⟨rfl, by omega, by omega⟩))
set_option maxHeartbeats 4000000 in
set_option maxRecDepth 100000 in
theorem c_X8_compose (l : Launch) {E : GE} {w : Wd} {v o into : Int} (h_v : -2147483648 ≤ v ∧ v < 2147483648) (h_o : -2147483648 ≤ o ∧ o < 2147483648) (h_into : -2147483648 ≤ into ∧ into < 2147483648) {τ : Nat → Nat} {m : Nat} {A : MA} {th : Int} {ba st pb le ri : Nat → Int} {sp : Nat → Nat → Int} {ct : Nat → Int} (hM : MSx τ w m A th ba st pb le ri sp ct) (hP : HPp pb le ri) : Sp E l yX8_compose cX8_compose 5 (some .int) 4 (17) (142) [.ref m, iI v, iI o, iI into] w (fun r w' => ∃ (τ' : Nat → Nat) (A' : MA) (t : Int) (pb' le' ri' ct' : Nat → Int) (ans : Int), (∀ a, a < w.1 → τ' a = τ a) ∧ r = some (iI ans) ∧ MSx τ' w' m A' (t) (ba) (st) (pb') (le') (ri') (sp) (ct') ∧ Keep τ w w' ∧ (¬ ((0 ≤ v ∧ v ≤ 2) ∧ (0 ≤ o ∧ o ≤ 2) ∧ (0 ≤ into ∧ into ≤ 2)) ∧ t = 1 ∧ ans = 0 ∧ pb' = pb ∧ le' = le ∧ ri' = ri ∧ ct' = ct ∨ ((0 ≤ v ∧ v ≤ 2) ∧ (0 ≤ o ∧ o ≤ 2) ∧ (0 ≤ into ∧ into ≤ 2)) ∧ t = 0 ∧ pb v.toNat ≠ pb o.toNat ∧ ans = -9 ∧ pb' = pb ∧ le' = le ∧ ri' = ri ∧ ct' = iup ct 3 (ct 3 + 1) ∨ ((0 ≤ v ∧ v ≤ 2) ∧ (0 ≤ o ∧ o ≤ 2) ∧ (0 ≤ into ∧ into ≤ 2)) ∧ t = 0 ∧ pb v.toNat = pb o.toNat ∧ ((LGN ≤ aB (le v.toNat * le o.toNat + pb v.toNat * (ri v.toNat * ri o.toNat)) ∨ LGN ≤ aB (le v.toNat * ri o.toNat + ri v.toNat * le o.toNat)) ∧ ans = -9 ∧ pb' = pb ∧ le' = le ∧ ri' = ri ∧ ct' = iup ct 3 (ct 3 + 1) ∨ ¬ (LGN ≤ aB (le v.toNat * le o.toNat + pb v.toNat * (ri v.toNat * ri o.toNat)) ∨ LGN ≤ aB (le v.toNat * ri o.toNat + ri v.toNat * le o.toNat)) ∧ ans = bI (¬ (pb into.toNat = (pb v.toNat) ∧ le into.toNat = (le v.toNat * le o.toNat + pb v.toNat * (ri v.toNat * ri o.toNat)) ∧ ri into.toNat = (le v.toNat * ri o.toNat + ri v.toNat * le o.toNat))) ∧ pb' = iup pb into.toNat (pb v.toNat) ∧ le' = iup le into.toNat (le v.toNat * le o.toNat + pb v.toNat * (ri v.toNat * ri o.toNat)) ∧ ri' = iup ri into.toNat (le v.toNat * ri o.toNat + ri v.toNat * le o.toNat) ∧ ct' = iup ct 1 (ct 1 + 1)))) := by
  refine sp_intro [some (.ref m), some (iI v), some (iI o), some (iI into), none] rfl (Nat.le_of_ble_eq_true rfl) pn_X8 ?_
  intro X C hRm hl hnm hQ
  obtain ⟨hRf, hRl, hRc, hRs⟩ := hRm
  refine g_wf (fun hwf => ?_)
  refine g_aload_n C dX8_compose_0 rfl ?_
  refine g_iload_n C dX8_compose_1 rfl ?_
  refine g_callS C (c_X8_isNo _ (v := v) h_v) ml_RX8_145 sm_yX8_isNo in_RX8 co_yX8_isNo hd_X8_isNo rfl ⟨by omega, by omega⟩ rfl (Nat.le_of_ble_eq_true rfl) ⟨by omega, by omega⟩ dX8_compose_2 (fun v2 w2 hp2 => ?_)
  obtain ⟨rfl, hw2⟩ := hp2
  subst w2
  have J27 : ∀ y : Int, (y = 0 ∧ ((0 ≤ v ∧ v ≤ 2) ∧ (0 ≤ o ∧ o ≤ 2) ∧ (0 ≤ into ∧ into ≤ 2)) ∨ y = 1 ∧ ¬ ((0 ≤ v ∧ v ≤ 2) ∧ (0 ≤ o ∧ o ≤ 2) ∧ (0 ≤ into ∧ into ≤ 2))) → G E X 5 27 [some (.ref m), some (iI v), some (iI o), some (iI into), none] [iI y, .ref m] w 0 0 := by
    intro y hy
    refine g_iconst C dX8_compose_27 ?_
    refine g_callV C (c_X8_start _ hM (y := y) (wh := 1) (by omega) (by omega)) (ci := 10) rfl hM.o rfl ml_RX8_149 im_yX8_start se_RX8_yX8_start in_RX8 co_yX8_start hd_X8_start rfl ⟨by omega, by omega⟩ rfl (Nat.le_of_ble_eq_true rfl) ⟨by omega, by omega⟩ dX8_compose_28 (fun v28 w28 hp28 => ?_)
    obtain ⟨t6, rfl, ht6, hM6, hK6⟩ := hp28
    have hy6 : (y) = 0 ∨ (y) = 1 := (by omega)
    refine g_if_eq (tgt := 36) C dX8_compose_31 (by decide) (by omega) (fun h31 => ?_) (fun h31 => ?_)
    · have hin : ((0 ≤ v ∧ v ≤ 2) ∧ (0 ≤ o ∧ o ≤ 2) ∧ (0 ≤ into ∧ into ≤ 2)) := by omega
      obtain ⟨V, rfl⟩ := Int.eq_ofNat_of_zero_le hin.1.1
      obtain ⟨O, rfl⟩ := Int.eq_ofNat_of_zero_le hin.2.1.1
      obtain ⟨I, rfl⟩ := Int.eq_ofNat_of_zero_le hin.2.2.1
      have g1 := (hP V (by omega)).1
      have g2 := (hP O (by omega)).1
      have g11 := g1.1
      have g12 := g1.2.1
      refine g_wf (fun hwf6 => ?_)
      have p2 := (hP I (by omega)).1.i
      have hwk6 := hK6.1
      obtain ⟨q1, hq1, tq1, r1⟩ := hM6.L (i := V) (by omega)
      obtain ⟨q2, hq2, tq2, r2⟩ := hM6.R (i := V) (by omega)
      obtain ⟨q3, hq3, tq3, r3⟩ := hM6.L (i := O) (by omega)
      obtain ⟨q4, hq4, tq4, r4⟩ := hM6.R (i := O) (by omega)
      refine g_aload_n C dX8_compose_36 rfl ?_
      refine g_get (ci := 10) C rfl inTX8 3 (by decide) fl_RX8_16 rfl hM6.o rfl dX8_compose_37 ?_
      refine g_iload_n C dX8_compose_40 rfl ?_
      refine g_ialoadN (V) C hM6.p (by omega) (by omega) dX8_compose_41 ?_
      refine g_aload_n C dX8_compose_42 rfl ?_
      refine g_get (ci := 10) C rfl inTX8 3 (by decide) fl_RX8_16 rfl hM6.o rfl dX8_compose_43 ?_
      refine g_iload_n C dX8_compose_46 rfl ?_
      refine g_ialoadN (O) C hM6.p (by omega) (by omega) dX8_compose_47 ?_
      refine g_icmp_eq (tgt := 56) C dX8_compose_48 (by decide) g1.i g2.i (fun h48 => ?_) (fun h48 => ?_)
      · have h48k := h48
        refine g_aload_n C dX8_compose_56 rfl ?_
        refine g_get (ci := 10) C rfl inTX8 3 (by decide) fl_RX8_16 rfl hM6.o rfl dX8_compose_57 ?_
        refine g_iload_n C dX8_compose_60 rfl ?_
        refine g_ialoadN (V) C hM6.p (by omega) (by omega) dX8_compose_61 ?_
        refine g_aload_n C dX8_compose_62 rfl ?_
        refine g_get (ci := 10) C rfl inTX8 4 (by decide) fl_RX8_24 rfl hM6.o rfl dX8_compose_63 ?_
        refine g_iload_n C dX8_compose_66 rfl ?_
        refine g_aaloadN (V) C rfl rfl hM6.l (by omega) (by omega) hq1 dX8_compose_67 ?_
        refine g_aload_n C dX8_compose_68 rfl ?_
        refine g_get (ci := 10) C rfl inTX8 5 (by decide) fl_RX8_28 rfl hM6.o rfl dX8_compose_69 ?_
        refine g_iload_n C dX8_compose_72 rfl ?_
        refine g_aaloadN (V) C rfl rfl hM6.r (by omega) (by omega) hq2 dX8_compose_73 ?_
        refine g_aload_n C dX8_compose_74 rfl ?_
        refine g_get (ci := 10) C rfl inTX8 4 (by decide) fl_RX8_24 rfl hM6.o rfl dX8_compose_75 ?_
        refine g_iload_n C dX8_compose_78 rfl ?_
        refine g_aaloadN (O) C rfl rfl hM6.l (by omega) (by omega) hq3 dX8_compose_79 ?_
        refine g_aload_n C dX8_compose_80 rfl ?_
        refine g_get (ci := 10) C rfl inTX8 5 (by decide) fl_RX8_28 rfl hM6.o rfl dX8_compose_81 ?_
        refine g_iload_n C dX8_compose_84 rfl ?_
        refine g_aaloadN (O) C rfl rfl hM6.r (by omega) (by omega) hq4 dX8_compose_85 ?_
        refine g_callS C (c_X8_product _ (c1 := 4) (by omega) r1 r2 r3 r4 (by omega)) ml_RX8_239 sm_yX8_product in_RX8 co_yX8_product hd_X8_product rfl ⟨by omega, by omega⟩ rfl (Nat.le_of_ble_eq_true rfl) ⟨by omega, by omega⟩ dX8_compose_86 (fun v86 w86 hp86 => ?_)
        obtain ⟨q, R, a0, a1, rfl, hR0, k0, k1, l0, l1, lo0, lo1, x1⟩ := hp86
        obtain ⟨n0, f0, e0, b0, d0⟩ := id l0
        obtain ⟨n1, f1, e1, b1, d1⟩ := id l1
        have hM7 := hM6.ex x1
        have hM8 := (hM6.tag (τ' := rtag τ w28.1) hwf6 (fun a ha => rtag_lo ha)).ex x1
        have hK7 := hK6.tr (Keep.ex x1)
        refine g_astore C dX8_compose_89 (by decide) rfl ?_
        refine g_aload C dX8_compose_91 rfl ?_
        refine g_iconst C dX8_compose_93 ?_
        refine g_aaloadN (0) C rfl rfl hR0 (by omega) (by omega) k0 dX8_compose_94 ?_
        refine g_callS C (c_X8_isLong _ e0 ⟨b0.n1, by omega⟩ b0.d) ml_RX8_236 sm_yX8_isLong in_RX8 co_yX8_isLong hd_X8_isLong rfl ⟨by omega, by omega⟩ rfl (Nat.le_of_ble_eq_true rfl) ⟨by omega, by omega⟩ dX8_compose_95 (fun v95 w95 hp95 => ?_)
        obtain ⟨rfl, hw95⟩ := hp95
        subst w95
        rw [b0.abs]
        refine g_if_ne (tgt := 111) C dX8_compose_98 (by decide) (bI_r _) (fun h98 => ?_) (fun h98 => ?_)
        · refine g_aload_n C dX8_compose_111 rfl ?_
          refine g_callV C (c_X8_cannot _ hM7) (ci := 10) rfl hM7.o rfl ml_RX8_158 im_yX8_cannot se_RX8_yX8_cannot in_RX8 co_yX8_cannot hd_X8_cannot rfl ⟨by omega, by omega⟩ rfl (Nat.le_of_ble_eq_true rfl) ⟨by omega, by omega⟩ dX8_compose_112 (fun v112 w112 hp112 => ?_)
          obtain ⟨rfl, hM9, hK9⟩ := hp112
          refine g_goto (tgt := 137) C dX8_compose_115 (by decide) ?_
          exact g_ireturn C hQ dX8_compose_137 (by omega) (by omega) (by
            have h48' : pb V = pb O := by first | exact h48 | exact Classical.not_not.mp h48
            first
            | exact ⟨_, _, t6, _, _, _, _, _, fun a ha => rtag_lo (by omega), rfl, hM9, hK7.trT hK9 hwf (fun a ha => rtag_lo (by omega)), Or.inr (Or.inr ⟨hin, by omega, h48', Or.inr ⟨fun q => q.elim (bI_0 (Classical.not_not.mp h98)) (bI_0 h108), rfl, rfl, rfl, rfl, rfl⟩⟩)⟩
            | exact ⟨τ, A, t6, _, _, _, _, _, (fun _ _ => rfl), rfl, hM9, hK7.tr hK9, Or.inr (Or.inr ⟨hin, by omega, h48', Or.inl ⟨by first | exact Or.inl (bI_1 h98) | exact Or.inr (bI_1 h108), rfl, rfl, rfl, rfl, rfl⟩⟩)⟩)
        · refine g_aload C dX8_compose_101 rfl ?_
          refine g_iconst C dX8_compose_103 ?_
          refine g_aaloadN (1) C rfl rfl hR0 (by omega) (by omega) k1 dX8_compose_104 ?_
          refine g_callS C (c_X8_isLong _ e1 ⟨b1.n1, by omega⟩ b1.d) ml_RX8_236 sm_yX8_isLong in_RX8 co_yX8_isLong hd_X8_isLong rfl ⟨by omega, by omega⟩ rfl (Nat.le_of_ble_eq_true rfl) ⟨by omega, by omega⟩ dX8_compose_105 (fun v105 w105 hp105 => ?_)
          obtain ⟨rfl, hw105⟩ := hp105
          subst w105
          rw [b1.abs]
          refine g_if_eq (tgt := 118) C dX8_compose_108 (by decide) (bI_r _) (fun h108 => ?_) (fun h108 => ?_)
          · refine g_aload_n C dX8_compose_118 rfl ?_
            refine g_iload_n C dX8_compose_119 rfl ?_
            refine g_aload_n C dX8_compose_120 rfl ?_
            refine g_get (ci := 10) C rfl inTX8 3 (by decide) fl_RX8_16 rfl hM8.o rfl dX8_compose_121 ?_
            refine g_iload_n C dX8_compose_124 rfl ?_
            refine g_ialoadN (V) C hM8.p (by omega) (by omega) dX8_compose_125 ?_
            refine g_aload C dX8_compose_126 rfl ?_
            refine g_iconst C dX8_compose_128 ?_
            refine g_aaloadN (0) C rfl rfl hR0 (by omega) (by omega) k0 dX8_compose_129 ?_
            refine g_aload C dX8_compose_130 rfl ?_
            refine g_iconst C dX8_compose_132 ?_
            refine g_aaloadN (1) C rfl rfl hR0 (by omega) (by omega) k1 dX8_compose_133 ?_
            refine g_callV C (c_X8_become _ hM8 (i := I) (bz := pb V) (by omega) p2 g1.i (rtag_hi lo0) (rtag_hi lo1) (l0.short (bI_0 (Classical.not_not.mp h98))) (l1.short (bI_0 h108))) (ci := 10) rfl hM8.o rfl ml_RX8_232 im_yX8_become se_RX8_yX8_become in_RX8 co_yX8_become hd_X8_become rfl ⟨by omega, by omega⟩ rfl (Nat.le_of_ble_eq_true rfl) ⟨by omega, by omega⟩ dX8_compose_134 (fun v134 w134 hp134 => ?_)
            obtain ⟨rfl, hM9, hK9⟩ := hp134
            exact g_ireturn C hQ dX8_compose_137 (by omega) (by omega) (by
              have h48' : pb V = pb O := by first | exact h48 | exact Classical.not_not.mp h48
              first
              | exact ⟨_, _, t6, _, _, _, _, _, fun a ha => rtag_lo (by omega), rfl, hM9, hK7.trT hK9 hwf (fun a ha => rtag_lo (by omega)), Or.inr (Or.inr ⟨hin, by omega, h48', Or.inr ⟨fun q => q.elim (bI_0 (Classical.not_not.mp h98)) (bI_0 h108), rfl, rfl, rfl, rfl, rfl⟩⟩)⟩
              | exact ⟨τ, A, t6, _, _, _, _, _, (fun _ _ => rfl), rfl, hM9, hK7.tr hK9, Or.inr (Or.inr ⟨hin, by omega, h48', Or.inl ⟨by first | exact Or.inl (bI_1 h98) | exact Or.inr (bI_1 h108), rfl, rfl, rfl, rfl, rfl⟩⟩)⟩)
          · refine g_aload_n C dX8_compose_111 rfl ?_
            refine g_callV C (c_X8_cannot _ hM7) (ci := 10) rfl hM7.o rfl ml_RX8_158 im_yX8_cannot se_RX8_yX8_cannot in_RX8 co_yX8_cannot hd_X8_cannot rfl ⟨by omega, by omega⟩ rfl (Nat.le_of_ble_eq_true rfl) ⟨by omega, by omega⟩ dX8_compose_112 (fun v112 w112 hp112 => ?_)
            obtain ⟨rfl, hM9, hK9⟩ := hp112
            refine g_goto (tgt := 137) C dX8_compose_115 (by decide) ?_
            exact g_ireturn C hQ dX8_compose_137 (by omega) (by omega) (by
              have h48' : pb V = pb O := by first | exact h48 | exact Classical.not_not.mp h48
              first
              | exact ⟨_, _, t6, _, _, _, _, _, fun a ha => rtag_lo (by omega), rfl, hM9, hK7.trT hK9 hwf (fun a ha => rtag_lo (by omega)), Or.inr (Or.inr ⟨hin, by omega, h48', Or.inr ⟨fun q => q.elim (bI_0 (Classical.not_not.mp h98)) (bI_0 h108), rfl, rfl, rfl, rfl, rfl⟩⟩)⟩
              | exact ⟨τ, A, t6, _, _, _, _, _, (fun _ _ => rfl), rfl, hM9, hK7.tr hK9, Or.inr (Or.inr ⟨hin, by omega, h48', Or.inl ⟨by first | exact Or.inl (bI_1 h98) | exact Or.inr (bI_1 h108), rfl, rfl, rfl, rfl, rfl⟩⟩)⟩)
      · refine g_aload_n C dX8_compose_51 rfl ?_
        refine g_callV C (c_X8_cannot _ hM6) (ci := 10) rfl hM6.o rfl ml_RX8_158 im_yX8_cannot se_RX8_yX8_cannot in_RX8 co_yX8_cannot hd_X8_cannot rfl ⟨by omega, by omega⟩ rfl (Nat.le_of_ble_eq_true rfl) ⟨by omega, by omega⟩ dX8_compose_52 (fun v52 w52 hp52 => ?_)
        obtain ⟨rfl, hM9, hK9⟩ := hp52
        exact g_ireturn C hQ dX8_compose_55 (by omega) (by omega) ⟨τ, A, t6, _, _, _, _, _, (fun _ _ => rfl), rfl, hM9, hK6.tr hK9, Or.inr (Or.inl ⟨hin, by omega, by first | exact h48 | (intro q; exact h48 q), rfl, rfl, rfl, rfl, rfl⟩)⟩
    · refine g_iconst C dX8_compose_34 ?_
      exact g_ireturn C hQ dX8_compose_35 (by omega) (by omega) ⟨τ, A, t6, _, _, _, _, _, (fun _ _ => rfl), rfl, hM6, hK6, Or.inl ⟨by omega, by omega, rfl, rfl, rfl, rfl, rfl⟩⟩
  refine g_if_ne (tgt := 22) C dX8_compose_5 (by decide) (bI_r _) (fun h5 => ?_) (fun h5 => ?_)
  · refine g_iconst C dX8_compose_22 ?_
    refine g_goto (tgt := 27) C dX8_compose_23 (by decide) ?_
    exact J27 _ (by
      first
      | (have := bI_0 (Classical.not_not.mp h5); have := bI_0 (Classical.not_not.mp h12); have := bI_0 h19; exact Or.inl ⟨rfl, by omega, by omega, by omega⟩)
      | (have := bI_1 h5; exact Or.inr ⟨rfl, by omega⟩)
      | (have := bI_1 h12; exact Or.inr ⟨rfl, by omega⟩)
      | (have := bI_1 h19; exact Or.inr ⟨rfl, by omega⟩))
  · refine g_iload_n C dX8_compose_8 rfl ?_
    refine g_callS C (c_X8_isNo _ (v := o) h_o) ml_RX8_145 sm_yX8_isNo in_RX8 co_yX8_isNo hd_X8_isNo rfl ⟨by omega, by omega⟩ rfl (Nat.le_of_ble_eq_true rfl) ⟨by omega, by omega⟩ dX8_compose_9 (fun v9 w9 hp9 => ?_)
    obtain ⟨rfl, hw9⟩ := hp9
    subst w9
    refine g_if_ne (tgt := 22) C dX8_compose_12 (by decide) (bI_r _) (fun h12 => ?_) (fun h12 => ?_)
    · refine g_iconst C dX8_compose_22 ?_
      refine g_goto (tgt := 27) C dX8_compose_23 (by decide) ?_
      exact J27 _ (by
        first
        | (have := bI_0 (Classical.not_not.mp h5); have := bI_0 (Classical.not_not.mp h12); have := bI_0 h19; exact Or.inl ⟨rfl, by omega, by omega, by omega⟩)
        | (have := bI_1 h5; exact Or.inr ⟨rfl, by omega⟩)
        | (have := bI_1 h12; exact Or.inr ⟨rfl, by omega⟩)
        | (have := bI_1 h19; exact Or.inr ⟨rfl, by omega⟩))
    · refine g_iload_n C dX8_compose_15 rfl ?_
      refine g_callS C (c_X8_isNo _ (v := into) h_into) ml_RX8_145 sm_yX8_isNo in_RX8 co_yX8_isNo hd_X8_isNo rfl ⟨by omega, by omega⟩ rfl (Nat.le_of_ble_eq_true rfl) ⟨by omega, by omega⟩ dX8_compose_16 (fun v16 w16 hp16 => ?_)
      obtain ⟨rfl, hw16⟩ := hp16
      subst w16
      refine g_if_eq (tgt := 26) C dX8_compose_19 (by decide) (bI_r _) (fun h19 => ?_) (fun h19 => ?_)
      · refine g_iconst C dX8_compose_26 ?_
        exact J27 _ (by
          first
          | (have := bI_0 (Classical.not_not.mp h5); have := bI_0 (Classical.not_not.mp h12); have := bI_0 h19; exact Or.inl ⟨rfl, by omega, by omega, by omega⟩)
          | (have := bI_1 h5; exact Or.inr ⟨rfl, by omega⟩)
          | (have := bI_1 h12; exact Or.inr ⟨rfl, by omega⟩)
          | (have := bI_1 h19; exact Or.inr ⟨rfl, by omega⟩))
      · refine g_iconst C dX8_compose_22 ?_
        refine g_goto (tgt := 27) C dX8_compose_23 (by decide) ?_
        exact J27 _ (by
          first
          | (have := bI_0 (Classical.not_not.mp h5); have := bI_0 (Classical.not_not.mp h12); have := bI_0 h19; exact Or.inl ⟨rfl, by omega, by omega, by omega⟩)
          | (have := bI_1 h5; exact Or.inr ⟨rfl, by omega⟩)
          | (have := bI_1 h12; exact Or.inr ⟨rfl, by omega⟩)
          | (have := bI_1 h19; exact Or.inr ⟨rfl, by omega⟩))
