/-- POWER by POWER -/
def pw2 (b x y : Int) : Nat → Int × Int
  | 0 => (1, 0)
  | k + 1 => ((pw2 b x y k).1 * x + b * ((pw2 b x y k).2 * y), (pw2 b x y k).1 * y + (pw2 b x y k).2 * x)
set_option maxHeartbeats 4000000 in
set_option maxRecDepth 100000 in
theorem c_X8_power (l : Launch) {E : GE} {w : Wd} {v e : Int} (h_v : -2147483648 ≤ v ∧ v < 2147483648) (h_e : -2147483648 ≤ e ∧ e < 2147483648) {τ : Nat → Nat} {m : Nat} {A : MA} {th : Int} {ba st pb le ri : Nat → Int} {sp : Nat → Nat → Int} {ct : Nat → Int} (hM : MSx τ w m A th ba st pb le ri sp ct) (hP : HPp pb le ri) : Sp E l yX8_power cX8_power 5 (some .int) 4 (90) (3248) [.ref m, iI v, iI e] w (fun r w' => ∃ (τ' : Nat → Nat) (A' : MA) (t : Int) (pb' le' ri' ct' : Nat → Int) (ans : Int), (∀ a, a < w.1 → τ' a = τ a) ∧ r = some (iI ans) ∧ MSx τ' w' m A' (t) (ba) (st) (pb') (le') (ri') (sp) (ct') ∧ Keep τ w w' ∧ (¬ (0 ≤ v ∧ v ≤ 2) ∧ t = 1 ∧ ans = 0 ∧ pb' = pb ∧ le' = le ∧ ri' = ri ∧ ct' = ct ∨ (0 ≤ v ∧ v ≤ 2) ∧ ¬ (0 ≤ e ∧ e ≤ 5) ∧ t = 2 ∧ ans = 0 ∧ pb' = pb ∧ le' = le ∧ ri' = ri ∧ ct' = ct ∨ (0 ≤ v ∧ v ≤ 2) ∧ (0 ≤ e ∧ e ≤ 5) ∧ t = 0 ∧ ((LGN ≤ aB (pw2 (pb v.toNat) (le v.toNat) (ri v.toNat) e.toNat).1 ∨ LGN ≤ aB (pw2 (pb v.toNat) (le v.toNat) (ri v.toNat) e.toNat).2) ∧ ans = -9 ∧ pb' = pb ∧ le' = le ∧ ri' = ri ∧ ct' = iup ct 3 (ct 3 + 1) ∨ ¬ (LGN ≤ aB (pw2 (pb v.toNat) (le v.toNat) (ri v.toNat) e.toNat).1 ∨ LGN ≤ aB (pw2 (pb v.toNat) (le v.toNat) (ri v.toNat) e.toNat).2) ∧ ans = bI (¬ (pb v.toNat = (pb v.toNat) ∧ le v.toNat = (pw2 (pb v.toNat) (le v.toNat) (ri v.toNat) e.toNat).1 ∧ ri v.toNat = (pw2 (pb v.toNat) (le v.toNat) (ri v.toNat) e.toNat).2)) ∧ pb' = iup pb v.toNat (pb v.toNat) ∧ le' = iup le v.toNat (pw2 (pb v.toNat) (le v.toNat) (ri v.toNat) e.toNat).1 ∧ ri' = iup ri v.toNat (pw2 (pb v.toNat) (le v.toNat) (ri v.toNat) e.toNat).2 ∧ ct' = iup ct 1 (ct 1 + 1)))) := by
  refine sp_intro [some (.ref m), some (iI v), some (iI e), none, none] rfl (Nat.le_of_ble_eq_true rfl) pn_X8 ?_
  intro X C hRm hl hnm hQ
  obtain ⟨hRf, hRl, hRc, hRs⟩ := hRm
  refine g_wf (fun hwf => ?_)
  refine g_aload_n C dX8_power_0 rfl ?_
  refine g_iload_n C dX8_power_1 rfl ?_
  refine g_callS C (c_X8_isNo _ (v := v) h_v) ml_RX8_145 sm_yX8_isNo in_RX8 co_yX8_isNo hd_X8_isNo rfl ⟨by omega, by omega⟩ rfl (Nat.le_of_ble_eq_true rfl) ⟨by omega, by omega⟩ dX8_power_2 (fun v2 w2 hp2 => ?_)
  obtain ⟨rfl, hw2⟩ := hp2
  subst w2
  refine g_iconst C dX8_power_5 ?_
  refine g_callV C (c_X8_start _ hM (y := bI (¬ (0 ≤ v ∧ v ≤ 2))) (wh := 1) (bI_01 _) (by omega)) (ci := 10) rfl hM.o rfl ml_RX8_149 im_yX8_start se_RX8_yX8_start in_RX8 co_yX8_start hd_X8_start rfl ⟨by omega, by omega⟩ rfl (Nat.le_of_ble_eq_true rfl) ⟨by omega, by omega⟩ dX8_power_6 (fun v6 w6 hp6 => ?_)
  obtain ⟨t6, rfl, ht6, hM6, hK6⟩ := hp6
  have hy6 : (bI (¬ (0 ≤ v ∧ v ≤ 2))) = 0 ∨ (bI (¬ (0 ≤ v ∧ v ≤ 2))) = 1 := (bI_01 _)
  refine g_if_ne (tgt := 34) C dX8_power_9 (by decide) (bI_r _) (fun h9 => ?_) (fun h9 => ?_)
  · refine g_iconst C dX8_power_34 ?_
    exact g_ireturn C hQ dX8_power_35 (by omega) (by omega) (by
      first
      | exact ⟨τ, A, t, _, _, _, _, _, (fun _ _ => rfl), rfl, hM7, hK67, Or.inr (Or.inl ⟨hwk, by have := bI_1 h31; omega, by have := bI_1 h31; omega, rfl, rfl, rfl, rfl, rfl⟩)⟩
      | exact ⟨τ, A, t6, _, _, _, _, _, (fun _ _ => rfl), rfl, hM6, hK6, Or.inl ⟨bI_1 h9, by omega, rfl, rfl, rfl, rfl, rfl⟩⟩)
  · refine g_aload_n C dX8_power_12 rfl ?_
    refine g_iload_n C dX8_power_13 rfl ?_
    refine g_iconst C dX8_power_14 ?_
    refine g_iconst C dX8_power_15 ?_
    refine g_callS C (c_X8_isIn _ (v := e) (a := 0) (b := 5) h_e (by omega) (by omega)) ml_RX8_49 sm_yX8_isIn in_RX8 co_yX8_isIn hd_X8_isIn rfl ⟨by omega, by omega⟩ rfl (Nat.le_of_ble_eq_true rfl) ⟨by omega, by omega⟩ dX8_power_16 (fun v16 w16 hp16 => ?_)
    obtain ⟨rfl, hw16⟩ := hp16
    subst w16
    have J27 : ∀ y : Int, (y = 0 ∧ (0 ≤ e ∧ e ≤ 5) ∨ y = 1 ∧ ¬ (0 ≤ e ∧ e ≤ 5)) → G E X 5 27 [some (.ref m), some (iI v), some (iI e), none, none] [iI y, .ref m] w6 0 0 := by
      intro y hy
      have hwk : 0 ≤ v ∧ v ≤ 2 := Classical.not_not.mp (bI_0 (Classical.not_not.mp h9))
      refine g_iconst C dX8_power_27 ?_
      refine g_callV C (c_X8_refuse _ hM6 (y := y) (wh := 2) (by omega) (by omega) (by omega)) (ci := 10) rfl hM6.o rfl ml_RX8_45 im_yX8_refuse se_RX8_yX8_refuse in_RX8 co_yX8_refuse hd_X8_refuse rfl ⟨by omega, by omega⟩ rfl (Nat.le_of_ble_eq_true rfl) ⟨by omega, by omega⟩ dX8_power_28 (fun v28 w28 hp28 => ?_)
      obtain ⟨t, rfl, ht, hM7, hK7⟩ := hp28
      have hy7 : (y) = 0 ∨ (y) = 1 := (by omega)
      have hK67 := hK6.tr hK7
      refine g_if_eq (tgt := 36) C dX8_power_31 (by decide) (bI_r _) (fun h31 => ?_) (fun h31 => ?_)
      · have htz : ¬ (0 < t) := bI_0 h31
        have he : 0 ≤ e ∧ e ≤ 5 := by omega
        obtain ⟨V, rfl⟩ := Int.eq_ofNat_of_zero_le hwk.1
        obtain ⟨N, rfl⟩ := Int.eq_ofNat_of_zero_le he.1
        have g1 := (hP V (by omega)).1
        have g11 := g1.1
        have g12 := g1.2.1
        refine g_wf (fun hwf7 => ?_)
        have hwk7 := hK67.1
        obtain ⟨q1, hq1, tq1, r1⟩ := hM7.L (i := V) (by omega)
        obtain ⟨q2, hq2, tq2, r2⟩ := hM7.R (i := V) (by omega)
        have y0 := Ex.push hwf7 (true, eR 2 2 (fun _ => none))
        have hr0 : (wpush w28 (true, eR 2 2 (fun _ => none))).2 w28.1 = some (true, eR 2 2 (fun _ => none)) := wpush_s
        have z0 : (wpush w28 (true, eR 2 2 (fun _ => none))).1 = w28.1 + 1 := rfl
        refine g_iconst C dX8_power_36 ?_
        refine g_anewI C kl_RX8_19 (N := 2) rfl (by omega) (by omega) dX8_power_37 ?_
        refine g_dup C dX8_power_40 rfl ?_
        refine g_iconst C dX8_power_41 ?_
        refine g_lconst (z := 1) C dX8_power_42 (by decide) ?_
        refine g_callS C (c_X8_of _ (v := 1) (by omega)) ml_RX8_20 sm_yX8_of in_RX8 co_yX8_of hd_X8_of rfl ⟨by omega, by omega⟩ rfl (Nat.le_of_ble_eq_true rfl) ⟨by omega, by omega⟩ dX8_power_43 (fun v43 w43 hp43 => ?_)
        obtain ⟨m1, f1, rfl, e1, b1, c1, s1, x1⟩ := hp43
        have x01 := y0.tr x1
        refine g_aastoreI C 0 (x1.2 _ _ hr0) e1 rfl (by omega) dX8_power_46 ?_
        have x46 := x01.setnew hwf7 (Nat.le_refl _) (true, eR 2 2 (rup (fun _ => none) 0 (some ((wpush w28 (true, eR 2 2 (fun _ => none))).1 + 1))))
        have s46 : (wset w43 w28.1 (true, eR 2 2 (rup (fun _ => none) 0 (some ((wpush w28 (true, eR 2 2 (fun _ => none))).1 + 1))))).2 w28.1 = some (true, eR 2 2 (rup (fun _ => none) 0 (some ((wpush w28 (true, eR 2 2 (fun _ => none))).1 + 1)))) := wset_s
        have a46 : RowAt (wset w43 w28.1 (true, eR 2 2 (rup (fun _ => none) 0 (some ((wpush w28 (true, eR 2 2 (fun _ => none))).1 + 1))))) ((wpush w28 (true, eR 2 2 (fun _ => none))).1 + 1) 1 4 := (RowAt.of e1 b1 c1).keep (wset_n (by omega))
        have z46 : (wset w43 w28.1 (true, eR 2 2 (rup (fun _ => none) 0 (some ((wpush w28 (true, eR 2 2 (fun _ => none))).1 + 1))))).1 = w28.1 + 3 := by show w43.1 = _; omega
        generalize (wset w43 w28.1 (true, eR 2 2 (rup (fun _ => none) 0 (some ((wpush w28 (true, eR 2 2 (fun _ => none))).1 + 1))))) = u1 at x46 s46 a46 z46 ⊢
        refine g_dup C dX8_power_47 rfl ?_
        refine g_iconst C dX8_power_48 ?_
        refine g_lconst (z := 0) C dX8_power_49 (by decide) ?_
        refine g_callS C (c_X8_of _ (v := 0) (by omega)) ml_RX8_20 sm_yX8_of in_RX8 co_yX8_of hd_X8_of rfl ⟨by omega, by omega⟩ rfl (Nat.le_of_ble_eq_true rfl) ⟨by omega, by omega⟩ dX8_power_50 (fun v50 w50 hp50 => ?_)
        obtain ⟨m2, f2, rfl, e2, b2, c2, s2, x2⟩ := hp50
        refine g_aastoreI C 1 (x2.2 _ _ s46) e2 rfl (by omega) dX8_power_53 ?_
        have x54 := (x46.tr x2).setnew hwf7 (Nat.le_refl _) (true, eR 2 2 (rup (rup (fun _ => none) 0 (some ((wpush w28 (true, eR 2 2 (fun _ => none))).1 + 1))) 1 (some (u1.1 + 1))))
        refine g_astore_n C dX8_power_54 (by decide) rfl ?_
        refine g_iconst C dX8_power_55 ?_
        refine g_istore C dX8_power_56 (by decide) rfl ?_
        refine g_loop (σ := Nat × Wd × Nat) (fun q => q.1 ≤ N ∧ Ex w28 q.2.1 ∧ ∃ (R : Nat → Option Nat) (a0 a1 : Nat), q.2.1.2 q.2.2 = some (true, eR 2 2 R) ∧ R 0 = some a0 ∧ R 1 = some a1 ∧ RowAt q.2.1 a0 (pw2 (pb V) (le V) (ri V) q.1).1 (4 + 9 * q.1) ∧ RowAt q.2.1 a1 (pw2 (pb V) (le V) (ri V) q.1).2 (4 + 9 * q.1) ∧ w28.1 ≤ a0 ∧ w28.1 ≤ a1) (fun q => G E X 5 58 [some (.ref m), some (iI (V : Int)), some (iI (N : Int)), some (.ref q.2.2), some (iI (q.1 : Int))] [] q.2.1 (5 + 17 * q.1) (18 + 646 * q.1)) (fun q => N - q.1) ?_ (0, _, w28.1) ⟨by dsimp only; omega, x54, _, _, _, wset_s, by rw [rup_n (by omega), rup_s], rup_s, (a46.ex x2).keep (wset_n (by omega)), (RowAt.of e2 b2 c2).keep (wset_n (by omega)), by omega, by omega⟩
        rintro ⟨j, u, q⟩ hq ih
        obtain ⟨hj, xu, R, a0, a1, hR0, k0, k1, l0, l1, lo0, lo1⟩ := hq
        dsimp only at hj xu hR0 k0 k1 l0 l1 lo0 lo1 ⊢
        refine g_wf (fun hwfu => ?_)
        have hMu := hM7.ex xu
        refine g_iload C dX8_power_58 rfl ?_
        refine g_iload_n C dX8_power_60 rfl ?_
        refine g_icmp_ge (tgt := 98) C dX8_power_61 (by decide) (by omega) (by omega) (fun h61 => ?_) (fun h61 => ?_)
        · have ejN : j = N := by omega
          subst ejN
          obtain ⟨n0, f0, e0, b0, d0⟩ := id l0
          obtain ⟨n1, f1', e1', b1', d1⟩ := id l1
          have hM8 := (hM7.tag (τ' := rtag τ w28.1) hwf7 (fun a ha => rtag_lo ha)).ex xu
          have hKu := hK67.tr (Keep.ex xu)
          refine g_aload_n C dX8_power_98 rfl ?_
          refine g_iconst C dX8_power_99 ?_
          refine g_aaloadN (0) C rfl rfl hR0 (by omega) (by omega) k0 dX8_power_100 ?_
          refine g_callS C (c_X8_isLong _ e0 ⟨b0.n1, by omega⟩ b0.d) ml_RX8_236 sm_yX8_isLong in_RX8 co_yX8_isLong hd_X8_isLong rfl ⟨by omega, by omega⟩ rfl (Nat.le_of_ble_eq_true rfl) ⟨by omega, by omega⟩ dX8_power_101 (fun v101 w101 hp101 => ?_)
          obtain ⟨rfl, hw101⟩ := hp101
          subst w101
          rw [b0.abs]
          refine g_if_ne (tgt := 116) C dX8_power_104 (by decide) (bI_r _) (fun h104 => ?_) (fun h104 => ?_)
          · refine g_aload_n C dX8_power_116 rfl ?_
            refine g_callV C (c_X8_cannot _ hMu) (ci := 10) rfl hMu.o rfl ml_RX8_158 im_yX8_cannot se_RX8_yX8_cannot in_RX8 co_yX8_cannot hd_X8_cannot rfl ⟨by omega, by omega⟩ rfl (Nat.le_of_ble_eq_true rfl) ⟨by omega, by omega⟩ dX8_power_117 (fun v117 w117 hp117 => ?_)
            obtain ⟨rfl, hM9, hK9⟩ := hp117
            refine g_goto (tgt := 140) C dX8_power_120 (by decide) ?_
            exact g_ireturn C hQ dX8_power_140 (by omega) (by omega) (by
              first
              | exact ⟨_, _, t, _, _, _, _, _, fun a ha => rtag_lo (by omega), rfl, hM9, hKu.trT hK9 hwf (fun a ha => rtag_lo (by omega)), Or.inr (Or.inr ⟨hwk, he, by omega, Or.inr ⟨fun q => q.elim (bI_0 (Classical.not_not.mp h104)) (bI_0 h113), rfl, rfl, rfl, rfl, rfl⟩⟩)⟩
              | exact ⟨τ, A, t, _, _, _, _, _, (fun _ _ => rfl), rfl, hM9, hKu.tr hK9, Or.inr (Or.inr ⟨hwk, he, by omega, Or.inl ⟨by first | exact Or.inl (bI_1 h104) | exact Or.inr (bI_1 h113), rfl, rfl, rfl, rfl, rfl⟩⟩)⟩)
          · refine g_aload_n C dX8_power_107 rfl ?_
            refine g_iconst C dX8_power_108 ?_
            refine g_aaloadN (1) C rfl rfl hR0 (by omega) (by omega) k1 dX8_power_109 ?_
            refine g_callS C (c_X8_isLong _ e1' ⟨b1'.n1, by omega⟩ b1'.d) ml_RX8_236 sm_yX8_isLong in_RX8 co_yX8_isLong hd_X8_isLong rfl ⟨by omega, by omega⟩ rfl (Nat.le_of_ble_eq_true rfl) ⟨by omega, by omega⟩ dX8_power_110 (fun v110 w110 hp110 => ?_)
            obtain ⟨rfl, hw110⟩ := hp110
            subst w110
            rw [b1'.abs]
            refine g_if_eq (tgt := 123) C dX8_power_113 (by decide) (bI_r _) (fun h113 => ?_) (fun h113 => ?_)
            · refine g_aload_n C dX8_power_123 rfl ?_
              refine g_iload_n C dX8_power_124 rfl ?_
              refine g_aload_n C dX8_power_125 rfl ?_
              refine g_get (ci := 10) C rfl inTX8 3 (by decide) fl_RX8_16 rfl hM8.o rfl dX8_power_126 ?_
              refine g_iload_n C dX8_power_129 rfl ?_
              refine g_ialoadN (V) C hM8.p (by omega) (by omega) dX8_power_130 ?_
              refine g_aload_n C dX8_power_131 rfl ?_
              refine g_iconst C dX8_power_132 ?_
              refine g_aaloadN (0) C rfl rfl hR0 (by omega) (by omega) k0 dX8_power_133 ?_
              refine g_aload_n C dX8_power_134 rfl ?_
              refine g_iconst C dX8_power_135 ?_
              refine g_aaloadN (1) C rfl rfl hR0 (by omega) (by omega) k1 dX8_power_136 ?_
              refine g_callV C (c_X8_become _ hM8 (i := V) (bz := pb V) (by omega) g1.i g1.i (rtag_hi lo0) (rtag_hi lo1) (l0.short (bI_0 (Classical.not_not.mp h104))) (l1.short (bI_0 h113))) (ci := 10) rfl hM8.o rfl ml_RX8_232 im_yX8_become se_RX8_yX8_become in_RX8 co_yX8_become hd_X8_become rfl ⟨by omega, by omega⟩ rfl (Nat.le_of_ble_eq_true rfl) ⟨by omega, by omega⟩ dX8_power_137 (fun v137 w137 hp137 => ?_)
              obtain ⟨rfl, hM9, hK9⟩ := hp137
              exact g_ireturn C hQ dX8_power_140 (by omega) (by omega) (by
                first
                | exact ⟨_, _, t, _, _, _, _, _, fun a ha => rtag_lo (by omega), rfl, hM9, hKu.trT hK9 hwf (fun a ha => rtag_lo (by omega)), Or.inr (Or.inr ⟨hwk, he, by omega, Or.inr ⟨fun q => q.elim (bI_0 (Classical.not_not.mp h104)) (bI_0 h113), rfl, rfl, rfl, rfl, rfl⟩⟩)⟩
                | exact ⟨τ, A, t, _, _, _, _, _, (fun _ _ => rfl), rfl, hM9, hKu.tr hK9, Or.inr (Or.inr ⟨hwk, he, by omega, Or.inl ⟨by first | exact Or.inl (bI_1 h104) | exact Or.inr (bI_1 h113), rfl, rfl, rfl, rfl, rfl⟩⟩)⟩)
            · refine g_aload_n C dX8_power_116 rfl ?_
              refine g_callV C (c_X8_cannot _ hMu) (ci := 10) rfl hMu.o rfl ml_RX8_158 im_yX8_cannot se_RX8_yX8_cannot in_RX8 co_yX8_cannot hd_X8_cannot rfl ⟨by omega, by omega⟩ rfl (Nat.le_of_ble_eq_true rfl) ⟨by omega, by omega⟩ dX8_power_117 (fun v117 w117 hp117 => ?_)
              obtain ⟨rfl, hM9, hK9⟩ := hp117
              refine g_goto (tgt := 140) C dX8_power_120 (by decide) ?_
              exact g_ireturn C hQ dX8_power_140 (by omega) (by omega) (by
                first
                | exact ⟨_, _, t, _, _, _, _, _, fun a ha => rtag_lo (by omega), rfl, hM9, hKu.trT hK9 hwf (fun a ha => rtag_lo (by omega)), Or.inr (Or.inr ⟨hwk, he, by omega, Or.inr ⟨fun q => q.elim (bI_0 (Classical.not_not.mp h104)) (bI_0 h113), rfl, rfl, rfl, rfl, rfl⟩⟩)⟩
                | exact ⟨τ, A, t, _, _, _, _, _, (fun _ _ => rfl), rfl, hM9, hKu.tr hK9, Or.inr (Or.inr ⟨hwk, he, by omega, Or.inl ⟨by first | exact Or.inl (bI_1 h104) | exact Or.inr (bI_1 h113), rfl, rfl, rfl, rfl, rfl⟩⟩)⟩)
        · refine g_aload_n C dX8_power_64 rfl ?_
          refine g_get (ci := 10) C rfl inTX8 3 (by decide) fl_RX8_16 rfl hMu.o rfl dX8_power_65 ?_
          refine g_iload_n C dX8_power_68 rfl ?_
          refine g_ialoadN (V) C hMu.p (by omega) (by omega) dX8_power_69 ?_
          refine g_aload_n C dX8_power_70 rfl ?_
          refine g_iconst C dX8_power_71 ?_
          refine g_aaloadN (0) C rfl rfl hR0 (by omega) (by omega) k0 dX8_power_72 ?_
          refine g_aload_n C dX8_power_73 rfl ?_
          refine g_iconst C dX8_power_74 ?_
          refine g_aaloadN (1) C rfl rfl hR0 (by omega) (by omega) k1 dX8_power_75 ?_
          refine g_aload_n C dX8_power_76 rfl ?_
          refine g_get (ci := 10) C rfl inTX8 4 (by decide) fl_RX8_24 rfl hMu.o rfl dX8_power_77 ?_
          refine g_iload_n C dX8_power_80 rfl ?_
          refine g_aaloadN (V) C rfl rfl hMu.l (by omega) (by omega) hq1 dX8_power_81 ?_
          refine g_aload_n C dX8_power_82 rfl ?_
          refine g_get (ci := 10) C rfl inTX8 5 (by decide) fl_RX8_28 rfl hMu.o rfl dX8_power_83 ?_
          refine g_iload_n C dX8_power_86 rfl ?_
          refine g_aaloadN (V) C rfl rfl hMu.r (by omega) (by omega) hq2 dX8_power_87 ?_
          refine g_callS C (c_X8_product _ (c1 := 4 + 9 * j) (by omega) l0 l1 (r1.ex xu) (r2.ex xu) (by omega)) ml_RX8_239 sm_yX8_product in_RX8 co_yX8_product hd_X8_product rfl ⟨by omega, by omega⟩ rfl (Nat.le_of_ble_eq_true rfl) ⟨by omega, by omega⟩ dX8_power_88 (fun v88 w88 hp88 => ?_)
          obtain ⟨q', R', a0', a1', rfl, hR0', k0', k1', l0', l1', lo0', lo1', x1'⟩ := hp88
          have xu1 := xu.1
          refine g_astore_n C dX8_power_91 (by decide) rfl ?_
          refine g_iinc C dX8_power_92 rfl (by decide) rfl ?_
          refine g_goto (tgt := 58) C dX8_power_95 (by decide) ?_
          refine g_widen (k' := 5 + 17 * (j + 1)) (n' := 18 + 646 * (j + 1)) (by omega) (by omega) ?_
          exact ih (j + 1, w88, q') ⟨by dsimp only; omega, xu.tr x1', R', a0', a1', hR0', k0', k1', l0'.le (by dsimp only; omega), l1'.le (by dsimp only; omega), by omega, by omega⟩ (by dsimp only; omega)
      · refine g_iconst C dX8_power_34 ?_
        exact g_ireturn C hQ dX8_power_35 (by omega) (by omega) (by
          first
          | exact ⟨τ, A, t, _, _, _, _, _, (fun _ _ => rfl), rfl, hM7, hK67, Or.inr (Or.inl ⟨hwk, by have := bI_1 h31; omega, by have := bI_1 h31; omega, rfl, rfl, rfl, rfl, rfl⟩)⟩
          | exact ⟨τ, A, t6, _, _, _, _, _, (fun _ _ => rfl), rfl, hM6, hK6, Or.inl ⟨bI_1 h9, by omega, rfl, rfl, rfl, rfl, rfl⟩⟩)
    refine g_if_ne (tgt := 26) C dX8_power_19 (by decide) (bI_r _) (fun h19 => ?_) (fun h19 => ?_)
    · refine g_iconst C dX8_power_26 ?_
      exact J27 _ (by first | exact Or.inl ⟨rfl, bI_1 h19⟩ | exact Or.inr ⟨rfl, bI_0 (Classical.not_not.mp h19)⟩)
    · refine g_iconst C dX8_power_22 ?_
      refine g_goto (tgt := 27) C dX8_power_23 (by decide) ?_
      exact J27 _ (by first | exact Or.inl ⟨rfl, bI_1 h19⟩ | exact Or.inr ⟨rfl, bI_0 (Classical.not_not.mp h19)⟩)
