/-- POWER by POWER -/
def pw2 (b x y : Int) : Nat → Int × Int
  | 0 => (1, 0)
  | k + 1 => ((pw2 b x y k).1 * x + b * ((pw2 b x y k).2 * y), (pw2 b x y k).1 * y + (pw2 b x y k).2 * x)
set_option maxHeartbeats 4000000 in
set_option maxRecDepth 100000 in
theorem c_X8_power (l : Launch) {E : GE} {w : Wd} {v e : Int} (h_v : -2147483648 ≤ v ∧ v < 2147483648) (h_e : -2147483648 ≤ e ∧ e < 2147483648) {τ : Nat → Nat} {m : Nat} {A : MA} {th : Int} {ba st pb le ri : Nat → Int} {sp : Nat → Nat → Int} {ct : Nat → Int} (hM : MSx τ w m A th ba st pb le ri sp ct) (hP : HPp pb le ri) : Sp E l yX8_power cX8_power 5 (some .int) 4 (90) (3248) [.ref m, iI v, iI e] w (fun r w' => ∃ (τ' : Nat → Nat) (A' : MA) (t : Int) (pb' le' ri' ct' : Nat → Int) (ans : Int), (∀ a, a < w.1 → τ' a = τ a) ∧ r = some (iI ans) ∧ MSx τ' w' m A' (t) (ba) (st) (pb') (le') (ri') (sp) (ct') ∧ Keep τ w w' ∧ (¬ (0 ≤ v ∧ v ≤ 2) ∧ t = 1 ∧ ans = 0 ∧ pb' = pb ∧ le' = le ∧ ri' = ri ∧ ct' = ct ∨ (0 ≤ v ∧ v ≤ 2) ∧ ¬ (0 ≤ e ∧ e ≤ 5) ∧ t = 2 ∧ ans = 0 ∧ pb' = pb ∧ le' = le ∧ ri' = ri ∧ ct' = ct ∨ (0 ≤ v ∧ v ≤ 2) ∧ (0 ≤ e ∧ e ≤ 5) ∧ t = 0 ∧ ((LGN ≤ aB (pw2 (pb v.toNat) (le v.toNat) (ri v.toNat) e.toNat).1 ∨ LGN ≤ aB (pw2 (pb v.toNat) (le v.toNat) (ri v.toNat) e.toNat).2) ∧ ans = -9 ∧ pb' = pb ∧ le' = le ∧ ri' = ri ∧ ct' = iup ct 3 (ct 3 + 1) ∨ ¬ (LGN ≤ aB (pw2 (pb v.toNat) (le v.toNat) (ri v.toNat) e.toNat).1 ∨ LGN ≤ aB (pw2 (pb v.toNat) (le v.toNat) (ri v.toNat) e.toNat).2) ∧ ans = bI (¬ (pb v.toNat = (pb v.toNat) ∧ le v.toNat = (pw2 (pb v.toNat) (le v.toNat) (ri v.toNat) e.toNat).1 ∧ ri v.toNat = (pw2 (pb v.toNat) (le v.toNat) (ri v.toNat) e.toNat).2)) ∧ pb' = iup pb v.toNat (pb v.toNat) ∧ le' = iup le v.toNat (pw2 (pb v.toNat) (le v.toNat) (ri v.toNat) e.toNat).1 ∧ ri' = iup ri v.toNat (pw2 (pb v.toNat) (le v.toNat) (ri v.toNat) e.toNat).2 ∧ ct' = iup ct 1 (ct 1 + 1)))) := by
  refine sp_intro [some (.ref m), some (iI v), some (iI e), none, none] rfl (Nat.le_of_ble_eq_true rfl) pn_X8 ?_
  intro X C hRm hl hnm hQ
  obtain ⟨hRf, hRl, hRc, hRs⟩ := hRm
  refine g_wf (fun hwf => ?_)
  refine g_aload_n C dX8_power_0 rfl ?_
  refine g_iload_n C dX8_power_1 rfl ?_
  refine g_callS C (c_X8_isNo _ (v := v) h_v) ml_RX8_145 sm_yX8_isNo in_RX8 co_yX8_isNo hd_X8_isNo rfl ⟨by omega, by omega⟩ rfl (Nat.le_of_ble_eq_true rfl) ⟨by omega, by omega⟩ dX8_power_2 (fun v2 w2 hp2 => ?_)
  obtain ⟨rfl, hw2⟩ := hp2
  subst w2
  refine g_iconst C dX8_power_5 ?_
  refine g_callV C (c_X8_start _ hM (y := bI (¬ (0 ≤ v ∧ v ≤ 2))) (wh := 1) (bI_01 _) (by omega)) (ci := 10) rfl hM.o rfl ml_RX8_149 im_yX8_start se_RX8_yX8_start in_RX8 co_yX8_start hd_X8_start rfl ⟨by omega, by omega⟩ rfl (Nat.le_of_ble_eq_true rfl) ⟨by omega, by omega⟩ dX8_power_6 (fun v6 w6 hp6 => ?_)
  obtain ⟨t6, rfl, ht6, hM6, hK6⟩ := hp6
  have hy6 : (bI (¬ (0 ≤ v ∧ v ≤ 2))) = 0 ∨ (bI (¬ (0 ≤ v ∧ v ≤ 2))) = 1 := (bI_01 _)
  refine g_if_ne (tgt := 34) C dX8_power_9 (by decide) (bI_r _) (fun h9 => ?_) (fun h9 => ?_)
  · refine g_iconst C dX8_power_34 ?_
    exact g_ireturn C hQ dX8_power_35 (by omega) (by omega) (by
      first
      | exact ⟨τ, A, t, _, _, _, _, _, (fun _ _ => rfl), rfl, hM7, hK67, Or.inr (Or.inl ⟨hwk, by have := bI_1 h31; omega, by have := bI_1 h31; omega, rfl, rfl, rfl, rfl, rfl⟩)⟩
      | exact ⟨τ, A, t6, _, _, _, _, _, (fun _ _ => rfl), rfl, hM6, hK6, Or.inl ⟨bI_1 h9, by omega, rfl, rfl, rfl, rfl, rfl⟩⟩)
  · refine g_aload_n C dX8_power_12 rfl ?_
    refine g_iload_n C dX8_power_13 rfl ?_
    refine g_iconst C dX8_power_14 ?_
    refine g_iconst C dX8_power_15 ?_
    refine g_callS C (c_X8_isIn _ (v := e) (a := 0) (b := 5) h_e (by omega) (by omega)) ml_RX8_49 sm_yX8_isIn in_RX8 co_yX8_isIn hd_X8_isIn rfl ⟨by omega, by omega⟩ rfl (Nat.le_of_ble_eq_true rfl) ⟨by omega, by omega⟩ dX8_power_16 (fun v16 w16 hp16 => ?_)
    obtain ⟨rfl, hw16⟩ := hp16
    subst w16
    have J27 : ∀ y : Int, (y = 0 ∧ (0 ≤ e ∧ e ≤ 5) ∨ y = 1 ∧ ¬ (0 ≤ e ∧ e ≤ 5)) → G E X 5 27 [some (.ref m), some (iI v), some (iI e), none, none] [iI y, .ref m] w6 0 0 := by
      intro y hy
      have hwk : 0 ≤ v ∧ v ≤ 2 := Classical.not_not.mp (bI_0 (Classical.not_not.mp h9))
      refine g_iconst C dX8_power_27 ?_
      refine g_callV C (c_X8_refuse _ hM6 (y := y) (wh := 2) (by omega) (by omega) (by omega)) (ci := 10) rfl hM6.o rfl ml_RX8_45 im_yX8_refuse se_RX8_yX8_refuse in_RX8 co_yX8_refuse hd_X8_refuse rfl ⟨by omega, by omega⟩ rfl (Nat.le_of_ble_eq_true rfl) ⟨by omega, by omega⟩ dX8_power_28 (fun v28 w28 hp28 => ?_)
      obtain ⟨t, rfl, ht, hM7, hK7⟩ := hp28
      have hy7 : (y) = 0 ∨ (y) = 1 := (by omega)
      have hK67 := hK6.tr hK7
      refine g_if_eq (tgt := 36) C dX8_power_31 (by decide) (bI_r _) (fun h31 => ?_) (fun h31 => ?_)
      · have htz : ¬ (0 < t) := bI_0 h31
        have he : 0 ≤ e ∧ e ≤ 5 := by omega
        obtain ⟨V, rfl⟩ := Int.eq_ofNat_of_zero_le hwk.1
        obtain ⟨N, rfl⟩ := Int.eq_ofNat_of_zero_le he.1
        have g1 := (hP V (by omega)).1
        have g11 := g1.1
        have g12 := g1.2.1
        refine g_wf (fun hwf7 => ?_)
        have hwk7 := hK67.1
        obtain ⟨q1, hq1, tq1, r1⟩ := hM7.L (i := V) (by omega)
        obtain ⟨q2, hq2, tq2, r2⟩ := hM7.R (i := V) (by omega)
        have y0 := Ex.push hwf7 (true, eR 2 2 (fun _ => none))
        have hr0 : (wpush w28 (true, eR 2 2 (fun _ => none))).2 w28.1 = some (true, eR 2 2 (fun _ => none)) := wpush_s
        have z0 : (wpush w28 (true, eR 2 2 (fun _ => none))).1 = w28.1 + 1 := rfl
        refine g_iconst C dX8_power_36 ?_
        refine g_anewI C kl_RX8_19 (N := 2) rfl (by omega) (by omega) dX8_power_37 ?_
        refine g_dup C dX8_power_40 rfl ?_
        refine g_iconst C dX8_power_41 ?_
        refine g_lconst (z := 1) C dX8_power_42 (by decide) ?_
        refine g_callS C (c_X8_of _ (v := 1) (by omega)) ml_RX8_20 sm_yX8_of in_RX8 co_yX8_of hd_X8_of rfl ⟨by omega, by omega⟩ rfl (Nat.le_of_ble_eq_true rfl) ⟨by omega, by omega⟩ dX8_power_43 (fun v43 w43 hp43 => ?_)
        obtain ⟨m1, f1, rfl, e1, b1, c1, s1, x1⟩ := hp43
        have x01 := y0.tr x1
        refine g_aastoreI C 0 (x1.2 _ _ hr0) e1 rfl (by omega) dX8_power_46 ?_
        have x46 := x01.setnew hwf7 (Nat.le_refl _) (true, eR 2 2 (rup (fun _ => none) 0 (some ((wpush w28 (true, eR 2 2 (fun _ => none))).1 + 1))))
        have s46 : (wset w43 w28.1 (true, eR 2 2 (rup (fun _ => none) 0 (some ((wpush w28 (true, eR 2 2 (fun _ => none))).1 + 1))))).2 w28.1 = some (true, eR 2 2 (rup (fun _ => none) 0 (some ((wpush w28 (true, eR 2 2 (fun _ => none))).1 + 1)))) := wset_s
        have a46 : RowAt (wset w43 w28.1 (true, eR 2 2 (rup (fun _ => none) 0 (some ((wpush w28 (true, eR 2 2 (fun _ => none))).1 + 1))))) ((wpush w28 (true, eR 2 2 (fun _ => none))).1 + 1) 1 4 := (RowAt.of e1 b1 c1).keep (wset_n (by omega))
        have z46 : (wset w43 w28.1 (true, eR 2 2 (rup (fun _ => none) 0 (some ((wpush w28 (true, eR 2 2 (fun _ => none))).1 + 1))))).1 = w28.1 + 3 := by show w43.1 = _; omega
        generalize (wset w43 w28.1 (true, eR 2 2 (rup (fun _ => none) 0 (some ((wpush w28 (true, eR 2 2 (fun _ => none))).1 + 1))))) = u1 at x46 s46 a46 z46 ⊢
        refine g_dup C dX8_power_47 rfl ?_
        refine g_iconst C dX8_power_48 ?_
        refine g_lconst (z := 0) C dX8_power_49 (by decide) ?_
        refine g_callS C (c_X8_of _ (v := 0) (by omega)) ml_RX8_20 sm_yX8_of in_RX8 co_yX8_of hd_X8_of rfl ⟨by omega, by omega⟩ rfl (Nat.le_of_ble_eq_true rfl) ⟨by omega, by omega⟩ dX8_power_50 (fun v50 w50 hp50 => ?_)
        obtain ⟨m2, f2, rfl, e2, b2, c2, s2, x2⟩ := hp50
        refine g_aastoreI C 1 (x2.2 _ _ s46) e2 rfl (by omega) dX8_power_53 ?_
        have x54 := (x46.tr x2).setnew hwf7 (Nat.le_refl _) (true, eR 2 2 (rup (rup (fun _ => none) 0 (some ((wpush w28 (true, eR 2 2 (fun _ => none))).1 + 1))) 1 (some (u1.1 + 1))))
        refine g_astore_n C dX8_power_54 (by decide) rfl ?_
        refine g_iconst C dX8_power_55 ?_
        refine g_istore C dX8_power_56 (by decide) rfl ?_
        refine g_loop (σ := Nat × Wd × Nat) (fun q => q.1 ≤ N ∧ Ex w28 q.2.1 ∧ ∃ (R : Nat → Option Nat) (a0 a1 : Nat), q.2.1.2 q.2.2 = some (true, eR 2 2 R) ∧ R 0 = some a0 ∧ R 1 = some a1 ∧ RowAt q.2.1 a0 (pw2 (pb V) (le V) (ri V) q.1).1 (4 + 9 * q.1) ∧ RowAt q.2.1 a1 (pw2 (pb V) (le V) (ri V) q.1).2 (4 + 9 * q.1) ∧ w28.1 ≤ a0 ∧ w28.1 ≤ a1) (fun q => G E X 5 58 [some (.ref m), some (iI (V : Int)), some (iI (N : Int)), some (.ref q.2.2), some (iI (q.1 : Int))] [] q.2.1 (5 + 17 * q.1) (18 + 646 * q.1)) (fun q => N - q.1) ?_ (0, _, w28.1) ⟨by dsimp only; omega, x54, _, _, _, wset_s, by rw [rup_n (by omega), rup_s], rup_s, (a46.ex x2).keep (wset_n (by omega)), (RowAt.of e2 b2 c2).keep (wset_n (by omega)), by omega, by omega⟩
        rintro ⟨j, u, q⟩ hq ih
        obtain ⟨hj, xu, R, a0, a1, hR0, k0, k1, l0, l1, lo0, lo1⟩ := hq
        dsimp only at hj xu hR0 k0 k1 l0 l1 lo0 lo1 ⊢
        refine g_wf (fun hwfu => ?_)
        have hMu := hM7.ex xu
        refine g_iload C dX8_power_58 rfl ?_
        refine g_iload_n C dX8_power_60 rfl ?_
        refine g_icmp_ge (tgt := 98) C dX8_power_61 (by decide) (by omega) (by omega) (fun h61 => ?_) (fun h61 => ?_)
        · have ejN : j = N := by omega
          subst ejN
          obtain ⟨n0, f0, e0, b0, d0⟩ := id l0
          obtain ⟨n1, f1', e1', b1', d1⟩ := id l1
          have hM8 := (hM7.tag (τ' := rtag τ w28.1) hwf7 (fun a ha => rtag_lo ha)).ex xu
          have hKu := hK67.tr (Keep.ex xu)
          refine g_aload_n C dX8_power_98 rfl ?_
          refine g_iconst C dX8_power_99 ?_
          refine g_aaloadN (0) C rfl rfl hR0 (by omega) (by omega) k0 dX8_power_100 ?_
          refine g_callS C (c_X8_isLong _ e0 ⟨b0.n1, by omega⟩ b0.d) ml_RX8_236 sm_yX8_isLong in_RX8 co_yX8_isLong hd_X8_isLong rfl ⟨by omega, by omega⟩ rfl (Nat.le_of_ble_eq_true rfl) ⟨by omega, by omega⟩ dX8_power_101 (fun v101 w101 hp101 => ?_)
          obtain ⟨rfl, hw101⟩ := hp101
          subst w101
          rw [b0.abs]
          refine g_if_ne (tgt := 116) C dX8_power_104 (by decide) (bI_r _) (fun h104 => ?_) (fun h104 => ?_)
          · refine g_aload_n C dX8_power_116 rfl ?_
            refine g_callV C (c_X8_cannot _ hMu) (ci := 10) rfl hMu.o rfl ml_RX8_158 im_yX8_cannot se_RX8_yX8_cannot in_RX8 co_yX8_cannot hd_X8_cannot rfl ⟨by omega, by omega⟩ rfl (Nat.le_of_ble_eq_true rfl) ⟨by omega, by omega⟩ dX8_power_117 (fun v117 w117 hp117 => ?_)
            obtain ⟨rfl, hM9, hK9⟩ := hp117
            refine g_goto (tgt := 140) C dX8_power_120 (by decide) ?_
            exact g_ireturn C hQ dX8_power_140 (by omega) (by omega) (by
              first
              | exact ⟨_, _, t, _, _, _, _, _, fun a ha => rtag_lo (by omega), rfl, hM9, hKu.trT hK9 hwf (fun a ha => rtag_lo (by omega)), Or.inr (Or.inr ⟨hwk, he, by omega, Or.inr ⟨fun q => q.elim (bI_0 (Classical.not_not.mp h104)) (bI_0 h113), rfl, rfl, rfl, rfl, rfl⟩⟩)⟩
              | exact ⟨τ, A, t, _, _, _, _, _, (fun _ _ => rfl), rfl, hM9, hKu.tr hK9, Or.inr (Or.inr ⟨hwk, he, by omega, Or.inl ⟨by first | exact Or.inl (bI_1 h104) | exact Or.inr (bI_1 h113), rfl, rfl, rfl, rfl, rfl⟩⟩)⟩)
          · refine g_aload_n C dX8_power_107 rfl ?_
            refine g_iconst C dX8_power_108 ?_
            refine g_aaloadN (1) C rfl rfl hR0 (by omega) (by omega) k1 dX8_power_109 ?_
            refine g_callS C (c_X8_isLong _ e1' ⟨b1'.n1, by omega⟩ b1'.d) ml_RX8_236 sm_yX8_isLong in_RX8 co_yX8_isLong hd_X8_isLong rfl ⟨by omega, by omega⟩ rfl (Nat.le_of_ble_eq_true rfl) ⟨by omega, by omega⟩ dX8_power_110 (fun v110 w110 hp110 => ?_)
            obtain ⟨rfl, hw110⟩ := hp110
            subst w110
            rw [b1'.abs]
            refine g_if_eq (tgt := 123) C dX8_power_113 (by decide) (bI_r _) (fun h113 => ?_) (fun h113 => ?_)
            · refine g_aload_n C dX8_power_123 rfl ?_
              refine g_iload_n C dX8_power_124 rfl ?_
              refine g_aload_n C dX8_power_125 rfl ?_
              refine g_get (ci := 10) C rfl inTX8 3 (by decide) fl_RX8_16 rfl hM8.o rfl dX8_power_126 ?_
              refine g_iload_n C dX8_power_129 rfl ?_
              refine g_ialoadN (V) C hM8.p (by omega) (by omega) dX8_power_130 ?_
              refine g_aload_n C dX8_power_131 rfl ?_
              refine g_iconst C dX8_power_132 ?_
              refine g_aaloadN (0) C rfl rfl hR0 (by omega) (by omega) k0 dX8_power_133 ?_
              refine g_aload_n C dX8_power_134 rfl ?_
              refine g_iconst C dX8_power_135 ?_
              refine g_aaloadN (1) C rfl rfl hR0 (by omega) (by omega) k1 dX8_power_136 ?_
              refine g_callV C (c_X8_become _ hM8 (i := V) (bz := pb V) (by omega) g1.i g1.i (rtag_hi lo0) (rtag_hi lo1) (l0.short (bI_0 (Classical.not_not.mp h104))) (l1.short (bI_0 h113))) (ci := 10) rfl hM8.o rfl ml_RX8_232 im_yX8_become se_RX8_yX8_become in_RX8 co_yX8_become hd_X8_become rfl ⟨by omega, by omega⟩ rfl (Nat.le_of_ble_eq_true rfl) ⟨by omega, by omega⟩ dX8_power_137 (fun v137 w137 hp137 => ?_)
              obtain ⟨rfl, hM9, hK9⟩ := hp137
              exact g_ireturn C hQ dX8_power_140 (by omega) (by omega) (by
                first
                | exact ⟨_, _, t, _, _, _, _, _, fun a ha => rtag_lo (by omega), rfl, hM9, hKu.trT hK9 hwf (fun a ha => rtag_lo (by omega)), Or.inr (Or.inr ⟨hwk, he, by omega, Or.inr ⟨fun q => q.elim (bI_0 (Classical.not_not.mp h104)) (bI_0 h113), rfl, rfl, rfl, rfl, rfl⟩⟩)⟩
                | exact ⟨τ, A, t, _, _, _, _, _, (fun _ _ => rfl), rfl, hM9, hKu.tr hK9, Or.inr (Or.inr ⟨hwk, he, by omega, Or.inl ⟨by first | exact Or.inl (bI_1 h104) | exact Or.inr (bI_1 h113), rfl, rfl, rfl, rfl, rfl⟩⟩)⟩)
            · refine g_aload_n C dX8_power_116 rfl ?_
              refine g_callV C (c_X8_cannot _ hMu) (ci := 10) rfl hMu.o rfl ml_RX8_158 im_yX8_cannot se_RX8_yX8_cannot in_RX8 co_yX8_cannot hd_X8_cannot rfl ⟨by omega, by omega⟩ rfl (Nat.le_of_ble_eq_true rfl) ⟨by omega, by omega⟩ dX8_power_117 (fun v117 w117 hp117 => ?_)
              obtain ⟨rfl, hM9, hK9⟩ := hp117
              refine g_goto (tgt := 140) C dX8_power_120 (by decide) ?_
              exact g_ireturn C hQ dX8_power_140 (by omega) (by omega) (by
                first
                | exact ⟨_, _, t, _, _, _, _, _, fun a ha => rtag_lo (by omega), rfl, hM9, hKu.trT hK9 hwf (fun a ha => rtag_lo (by omega)), Or.inr (Or.inr ⟨hwk, he, by omega, Or.inr ⟨fun q => q.elim (bI_0 (Classical.not_not.mp h104)) (bI_0 h113), rfl, rfl, rfl, rfl, rfl⟩⟩)⟩
                | exact ⟨τ, A, t, _, _, _, _, _, (fun _ _ => rfl), rfl, hM9, hKu.tr hK9, Or.inr (Or.inr ⟨hwk, he, by omega, Or.inl ⟨by first | exact Or.inl (bI_1 h104) | exact Or.inr (bI_1 h113), rfl, rfl, rfl, rfl, rfl⟩⟩)⟩)
        · refine g_aload_n C dX8_power_64 rfl ?_
          refine g_get (ci := 10) C rfl inTX8 3 (by decide) fl_RX8_16 rfl hMu.o rfl dX8_power_65 ?_
          refine g_iload_n C dX8_power_68 rfl ?_
          refine g_ialoadN (V) C hMu.p (by omega) (by omega) dX8_power_69 ?_
          refine g_aload_n C dX8_power_70 rfl ?_
          refine g_iconst C dX8_power_71 ?_
          refine g_aaloadN (0) C rfl rfl hR0 (by omega) (by omega) k0 dX8_power_72 ?_
          refine g_aload_n C dX8_power_73 rfl ?_
          refine g_iconst C dX8_power_74 ?_
          refine g_aaloadN (1) C rfl rfl hR0 (by omega) (by omega) k1 dX8_power_75 ?_
          refine g_aload_n C dX8_power_76 rfl ?_
          refine g_get (ci := 10) C rfl inTX8 4 (by decide) fl_RX8_24 rfl hMu.o rfl dX8_power_77 ?_
          refine g_iload_n C dX8_power_80 rfl ?_
          refine g_aaloadN (V) C rfl rfl hMu.l (by omega) (by omega) hq1 dX8_power_81 ?_
          refine g_aload_n C dX8_power_82 rfl ?_
          refine g_get (ci := 10) C rfl inTX8 5 (by decide) fl_RX8_28 rfl hMu.o rfl dX8_power_83 ?_
          refine g_iload_n C dX8_power_86 rfl ?_
          refine g_aaloadN (V) C rfl rfl hMu.r (by omega) (by omega) hq2 dX8_power_87 ?_
          refine g_callS C (c_X8_product _ (c1 := 4 + 9 * j) (by omega) l0 l1 (r1.ex xu) (r2.ex xu) (by omega)) ml_RX8_239 sm_yX8_product in_RX8 co_yX8_product hd_X8_product rfl ⟨by omega, by omega⟩ rfl (Nat.le_of_ble_eq_true rfl) ⟨by omega, by omega⟩ dX8_power_88 (fun v88 w88 hp88 => ?_)
          obtain ⟨q', R', a0', a1', rfl, hR0', k0', k1', l0', l1', lo0', lo1', x1'⟩ := hp88
          have xu1 := xu.1
          refine g_astore_n C dX8_power_91 (by decide) rfl ?_
          refine g_iinc C dX8_power_92 rfl (by decide) rfl ?_
          refine g_goto (tgt := 58) C dX8_power_95 (by decide) ?_
          refine g_widen (k' := 5 + 17 * (j + 1)) (n' := 18 + 646 * (j + 1)) (by omega) (by omega) ?_
          exact ih (j + 1, w88, q') ⟨by dsimp only; omega, xu.tr x1', R', a0', a1', hR0', k0', k1', l0'.le (by dsimp only; omega), l1'.le (by dsimp only; omega), by omega, by omega⟩ (by dsimp only; omega)
      · refine g_iconst C dX8_power_34 ?_
        exact g_ireturn C hQ dX8_power_35 (by omega) (by omega) (by
          first
          | exact ⟨τ, A, t, _, _, _, _, _, (fun _ _ => rfl), rfl, hM7, hK67, Or.inr (Or.inl ⟨hwk, by have := bI_1 h31; omega, by have := bI_1 h31; omega, rfl, rfl, rfl, rfl, rfl⟩)⟩
          | exact ⟨τ, A, t6, _, _, _, _, _, (fun _ _ => rfl), rfl, hM6, hK6, Or.inl ⟨bI_1 h9, by omega, rfl, rfl, rfl, rfl, rfl⟩⟩)
    refine g_if_ne (tgt := 26) C dX8_power_19 (by decide) (bI_r _) (fun h19 => ?_) (fun h19 => ?_)
    · refine g_iconst C dX8_power_26 ?_
      exact J27 _ (by first | exact Or.inl ⟨rfl, bI_1 h19⟩ | exact Or.inr ⟨rfl, bI_0 (Classical.not_not.mp h19)⟩)
    · refine g_iconst C dX8_power_22 ?_
      refine g_goto (tgt := 27) C dX8_power_23 (by decide) ?_
      exact J27 _ (by first | exact Or.inl ⟨rfl, bI_1 h19⟩ | exact Or.inr ⟨rfl, bI_0 (Classical.not_not.mp h19)⟩)
set_option maxHeartbeats 4000000 in
set_option maxRecDepth 100000 in
theorem c_X8_walkBits (l : Launch) {E : GE} {w : Wd} {v z what : Int} (h_v : -2147483648 ≤ v ∧ v < 2147483648) (h_what : -2147483648 ≤ what ∧ what < 2147483648) (hz : z = 0 ∨ z = 1) {τ : Nat → Nat} {m : Nat} {A : MA} {th : Int} {ba st pb le ri : Nat → Int} {sp : Nat → Nat → Int} {ct : Nat → Int} (hM : MSx τ w m A th ba st pb le ri sp ct) (hB : ∀ i, i < 3 → GB (ba i)) (hS : ∀ i, i < 3 → 0 ≤ st i ∧ st i ≤ 24) : Sp E l yX8_walkBits cX8_walkBits 4 (some .int) 4 (10) (48) [.ref m, iI v, iI z, iI what] w (fun r' w' => ∃ (t ans : Int), r' = some (iI ans) ∧ MSx τ w' m A (t) (ba) (st) (pb) (le) (ri) (sp) (ct) ∧ Keep τ w w' ∧ (¬ (0 ≤ v ∧ v ≤ 2) ∧ t = 1 ∧ ans = 0 ∨ (0 ≤ v ∧ v ≤ 2) ∧ ¬ (0 ≤ what ∧ what ≤ 2) ∧ t = 2 ∧ ans = 0 ∨ (0 ≤ v ∧ v ≤ 2) ∧ (0 ≤ what ∧ what ≤ 2) ∧ t = 0 ∧ ∃ r, RT (ba v.toNat) r ∧ ans = bitV (if z = 1 then (pq (ba v.toNat) r 1 r (st v.toNat).toNat).1 else (pq (ba v.toNat) r 0 1 (st v.toNat).toNat).1) what)) := by
  refine sp_intro [some (.ref m), some (iI v), some (iI z), some (iI what)] rfl (Nat.le_of_ble_eq_true rfl) pn_X8 ?_
  intro X C hRm hl hnm hQ
  obtain ⟨hRf, hRl, hRc, hRs⟩ := hRm
  refine g_wf (fun hwf => ?_)
  refine g_aload_n C dX8_walkBits_0 rfl ?_
  refine g_iload_n C dX8_walkBits_1 rfl ?_
  refine g_callS C (c_X8_isNo _ (v := v) h_v) ml_RX8_145 sm_yX8_isNo in_RX8 co_yX8_isNo hd_X8_isNo rfl ⟨by omega, by omega⟩ rfl (Nat.le_of_ble_eq_true rfl) ⟨by omega, by omega⟩ dX8_walkBits_2 (fun v2 w2 hp2 => ?_)
  obtain ⟨rfl, hw2⟩ := hp2
  subst w2
  refine g_iconst C dX8_walkBits_5 ?_
  refine g_callV C (c_X8_start _ hM (y := bI (¬ (0 ≤ v ∧ v ≤ 2))) (wh := 1) (bI_01 _) (by omega)) (ci := 10) rfl hM.o rfl ml_RX8_149 im_yX8_start se_RX8_yX8_start in_RX8 co_yX8_start hd_X8_start rfl ⟨by omega, by omega⟩ rfl (Nat.le_of_ble_eq_true rfl) ⟨by omega, by omega⟩ dX8_walkBits_6 (fun v6 w6 hp6 => ?_)
  obtain ⟨t6, rfl, ht6, hM6, hK6⟩ := hp6
  have hy6 : (bI (¬ (0 ≤ v ∧ v ≤ 2))) = 0 ∨ (bI (¬ (0 ≤ v ∧ v ≤ 2))) = 1 := (bI_01 _)
  refine g_if_ne (tgt := 34) C dX8_walkBits_9 (by decide) (bI_r _) (fun h9 => ?_) (fun h9 => ?_)
  · refine g_iconst C dX8_walkBits_34 ?_
    exact g_ireturn C hQ dX8_walkBits_35 (by omega) (by omega) (by
      first
      | exact ⟨t, 0, rfl, hM7, hK67, Or.inr (Or.inl ⟨hwk, by have := bI_1 h31; omega, by have := bI_1 h31; omega, rfl⟩)⟩
      | exact ⟨t6, 0, rfl, hM6, hK6, Or.inl ⟨bI_1 h9, by omega, rfl⟩⟩)
  · refine g_aload_n C dX8_walkBits_12 rfl ?_
    refine g_iload_n C dX8_walkBits_13 rfl ?_
    refine g_iconst C dX8_walkBits_14 ?_
    refine g_iconst C dX8_walkBits_15 ?_
    refine g_callS C (c_X8_isIn _ (v := what) (a := 0) (b := 2) h_what (by omega) (by omega)) ml_RX8_49 sm_yX8_isIn in_RX8 co_yX8_isIn hd_X8_isIn rfl ⟨by omega, by omega⟩ rfl (Nat.le_of_ble_eq_true rfl) ⟨by omega, by omega⟩ dX8_walkBits_16 (fun v16 w16 hp16 => ?_)
    obtain ⟨rfl, hw16⟩ := hp16
    subst w16
    have J27 : ∀ y : Int, (y = 0 ∧ (0 ≤ what ∧ what ≤ 2) ∨ y = 1 ∧ ¬ (0 ≤ what ∧ what ≤ 2)) → G E X 4 27 [some (.ref m), some (iI v), some (iI z), some (iI what)] [iI y, .ref m] w6 0 0 := by
      intro y hy
      have hwk : 0 ≤ v ∧ v ≤ 2 := Classical.not_not.mp (bI_0 (Classical.not_not.mp h9))
      refine g_iconst C dX8_walkBits_27 ?_
      refine g_callV C (c_X8_refuse _ hM6 (y := y) (wh := 2) (by omega) (by omega) (by omega)) (ci := 10) rfl hM6.o rfl ml_RX8_45 im_yX8_refuse se_RX8_yX8_refuse in_RX8 co_yX8_refuse hd_X8_refuse rfl ⟨by omega, by omega⟩ rfl (Nat.le_of_ble_eq_true rfl) ⟨by omega, by omega⟩ dX8_walkBits_28 (fun v28 w28 hp28 => ?_)
      obtain ⟨t, rfl, ht, hM7, hK7⟩ := hp28
      have hy7 : (y) = 0 ∨ (y) = 1 := (by omega)
      have hK67 := hK6.tr hK7
      refine g_if_eq (tgt := 36) C dX8_walkBits_31 (by decide) (bI_r _) (fun h31 => ?_) (fun h31 => ?_)
      · have htz : ¬ (0 < t) := bI_0 h31
        obtain ⟨V, rfl⟩ := Int.eq_ofNat_of_zero_le hwk.1
        have hg := hB V (by omega)
        obtain ⟨r, hr⟩ := RT_ex hg
        refine g_aload_n C dX8_walkBits_36 rfl ?_
        refine g_iload_n C dX8_walkBits_37 rfl ?_
        refine g_callV C (c_X8_at _ hM7 (i := V) (r := r) (by omega) hg hr (hS V (by omega))) (ci := 10) rfl hM7.o rfl ml_RX8_167 im_yX8_at se_RX8_yX8_at in_RX8 co_yX8_at hd_X8_at rfl ⟨by omega, by omega⟩ rfl (Nat.le_of_ble_eq_true rfl) ⟨by omega, by omega⟩ dX8_walkBits_38 (fun v38 w38 hp38 => ?_)
        obtain ⟨q, rfl, hR, x1, hq⟩ := hp38
        obtain ⟨R, a0, a1, a2, a3, hR0, k0, k1, k2, k3, l0, l1, l2, l3, lo0, lo1, lo2, lo3⟩ := hR
        have hM8 := hM7.ex x1
        have hK7 := hK67.tr (Keep.ex x1)
        refine g_iload_n C dX8_walkBits_41 rfl ?_
        have J50 : ∀ (x : Int) (i a : Nat) (c : Int), x = i → i < 4 → R i = some a → RowAt w38 a c 5 → c = (if z = 1 then (pq (ba V) r 1 r (st V).toNat).1 else (pq (ba V) r 0 1 (st V).toNat).1) → G E X 4 50 [some (.ref m), some (iI (V : Int)), some (iI z), some (iI what)] [iI x, .ref q] w38 10 48 := by
          intro x i a c hx hi hRi lc hc
          obtain ⟨n1, f1, e1, b1, d1⟩ := lc
          refine g_aaloadN (i) C rfl rfl hR0 (by omega) (by omega) hRi dX8_walkBits_50 ?_
          refine g_iload_n C dX8_walkBits_51 rfl ?_
          refine g_callS C (c_X8_bits _ e1 ⟨b1.n1, by omega⟩ b1.d (what := what) (by omega)) ml_RX8_121 sm_yX8_bits in_RX8 co_yX8_bits hd_X8_bits rfl ⟨by omega, by omega⟩ rfl (Nat.le_of_ble_eq_true rfl) ⟨by omega, by omega⟩ dX8_walkBits_52 (fun v52 w52 hp52 => ?_)
          obtain ⟨rfl, hw52⟩ := hp52
          subst w52
          exact g_ireturn C hQ dX8_walkBits_55 (by omega) (by omega) ⟨t, _, rfl, hM8, hK7, Or.inr (Or.inr ⟨hwk, by omega, by omega, r, hr, by rw [bitV_of b1 d1, hc]; rfl⟩)⟩
        refine g_if_eq (tgt := 49) C dX8_walkBits_42 (by decide) (by omega) (fun h42 => ?_) (fun h42 => ?_)
        · refine g_iconst C dX8_walkBits_49 ?_
          first | exact J50 _ 0 a0 _ rfl (by omega) k0 l0 (by rw [if_pos (by omega)]) | exact J50 _ 1 a1 _ rfl (by omega) k1 l1 (by rw [if_neg (by omega)])
        · refine g_iconst C dX8_walkBits_45 ?_
          refine g_goto (tgt := 50) C dX8_walkBits_46 (by decide) ?_
          first | exact J50 _ 0 a0 _ rfl (by omega) k0 l0 (by rw [if_pos (by omega)]) | exact J50 _ 1 a1 _ rfl (by omega) k1 l1 (by rw [if_neg (by omega)])
      · refine g_iconst C dX8_walkBits_34 ?_
        exact g_ireturn C hQ dX8_walkBits_35 (by omega) (by omega) (by
          first
          | exact ⟨t, 0, rfl, hM7, hK67, Or.inr (Or.inl ⟨hwk, by have := bI_1 h31; omega, by have := bI_1 h31; omega, rfl⟩)⟩
          | exact ⟨t6, 0, rfl, hM6, hK6, Or.inl ⟨bI_1 h9, by omega, rfl⟩⟩)
    refine g_if_ne (tgt := 26) C dX8_walkBits_19 (by decide) (bI_r _) (fun h19 => ?_) (fun h19 => ?_)
    · refine g_iconst C dX8_walkBits_26 ?_
      exact J27 _ (by first | exact Or.inl ⟨rfl, bI_1 h19⟩ | exact Or.inr ⟨rfl, bI_0 (Classical.not_not.mp h19)⟩)
    · refine g_iconst C dX8_walkBits_22 ?_
      refine g_goto (tgt := 27) C dX8_walkBits_23 (by decide) ?_
      exact J27 _ (by first | exact Or.inl ⟨rfl, bI_1 h19⟩ | exact Or.inr ⟨rfl, bI_0 (Classical.not_not.mp h19)⟩)
set_option maxHeartbeats 4000000 in
set_option maxRecDepth 100000 in
theorem c_X8_bit (l : Launch) {E : GE} {w : Wd} {v z pl : Int} (h_v : -2147483648 ≤ v ∧ v < 2147483648) (h_pl : -2147483648 ≤ pl ∧ pl < 2147483648) (hz : z = 0 ∨ z = 1) {τ : Nat → Nat} {m : Nat} {A : MA} {th : Int} {ba st pb le ri : Nat → Int} {sp : Nat → Nat → Int} {ct : Nat → Int} (hM : MSx τ w m A th ba st pb le ri sp ct) (hB : ∀ i, i < 3 → GB (ba i)) (hS : ∀ i, i < 3 → 0 ≤ st i ∧ st i ≤ 24) : Sp E l yX8_bit cX8_bit 4 (some .boolean) 4 (10) (48) [.ref m, iI v, iI z, iI pl] w (fun r' w' => ∃ (t ans : Int), r' = some (iI ans) ∧ MSx τ w' m A (t) (ba) (st) (pb) (le) (ri) (sp) (ct) ∧ Keep τ w w' ∧ (¬ (0 ≤ v ∧ v ≤ 2) ∧ t = 1 ∧ ans = 0 ∨ (0 ≤ v ∧ v ≤ 2) ∧ ¬ (0 ≤ pl ∧ pl ≤ 119) ∧ t = 2 ∧ ans = 0 ∨ (0 ≤ v ∧ v ≤ 2) ∧ (0 ≤ pl ∧ pl ≤ 119) ∧ t = 0 ∧ ∃ r, RT (ba v.toNat) r ∧ ans = bI (bt (aB (if z = 1 then (pq (ba v.toNat) r 1 r (st v.toNat).toNat).1 else (pq (ba v.toNat) r 0 1 (st v.toNat).toNat).1)) pl.toNat = 1))) := by
  refine sp_intro [some (.ref m), some (iI v), some (iI z), some (iI pl)] rfl (Nat.le_of_ble_eq_true rfl) pn_X8 ?_
  intro X C hRm hl hnm hQ
  obtain ⟨hRf, hRl, hRc, hRs⟩ := hRm
  refine g_wf (fun hwf => ?_)
  refine g_aload_n C dX8_bit_0 rfl ?_
  refine g_iload_n C dX8_bit_1 rfl ?_
  refine g_callS C (c_X8_isNo _ (v := v) h_v) ml_RX8_145 sm_yX8_isNo in_RX8 co_yX8_isNo hd_X8_isNo rfl ⟨by omega, by omega⟩ rfl (Nat.le_of_ble_eq_true rfl) ⟨by omega, by omega⟩ dX8_bit_2 (fun v2 w2 hp2 => ?_)
  obtain ⟨rfl, hw2⟩ := hp2
  subst w2
  refine g_iconst C dX8_bit_5 ?_
  refine g_callV C (c_X8_start _ hM (y := bI (¬ (0 ≤ v ∧ v ≤ 2))) (wh := 1) (bI_01 _) (by omega)) (ci := 10) rfl hM.o rfl ml_RX8_149 im_yX8_start se_RX8_yX8_start in_RX8 co_yX8_start hd_X8_start rfl ⟨by omega, by omega⟩ rfl (Nat.le_of_ble_eq_true rfl) ⟨by omega, by omega⟩ dX8_bit_6 (fun v6 w6 hp6 => ?_)
  obtain ⟨t6, rfl, ht6, hM6, hK6⟩ := hp6
  have hy6 : (bI (¬ (0 ≤ v ∧ v ≤ 2))) = 0 ∨ (bI (¬ (0 ≤ v ∧ v ≤ 2))) = 1 := (bI_01 _)
  refine g_if_ne (tgt := 35) C dX8_bit_9 (by decide) (bI_r _) (fun h9 => ?_) (fun h9 => ?_)
  · refine g_iconst C dX8_bit_35 ?_
    exact g_zreturn C hQ dX8_bit_36 rfl (by omega) (by omega) (by
      first
      | exact ⟨t, 0, rfl, hM7, hK67, Or.inr (Or.inl ⟨hwk, by have := bI_1 h32; omega, by have := bI_1 h32; omega, rfl⟩)⟩
      | exact ⟨t6, 0, rfl, hM6, hK6, Or.inl ⟨bI_1 h9, by omega, rfl⟩⟩)
  · refine g_aload_n C dX8_bit_12 rfl ?_
    refine g_iload_n C dX8_bit_13 rfl ?_
    refine g_iconst C dX8_bit_14 ?_
    refine g_bipush C dX8_bit_15 (by decide) ?_
    refine g_callS C (c_X8_isIn _ (v := pl) (a := 0) (b := 119) h_pl (by omega) (by omega)) ml_RX8_49 sm_yX8_isIn in_RX8 co_yX8_isIn hd_X8_isIn rfl ⟨by omega, by omega⟩ rfl (Nat.le_of_ble_eq_true rfl) ⟨by omega, by omega⟩ dX8_bit_17 (fun v17 w17 hp17 => ?_)
    obtain ⟨rfl, hw17⟩ := hp17
    subst w17
    have J28 : ∀ y : Int, (y = 0 ∧ (0 ≤ pl ∧ pl ≤ 119) ∨ y = 1 ∧ ¬ (0 ≤ pl ∧ pl ≤ 119)) → G E X 4 28 [some (.ref m), some (iI v), some (iI z), some (iI pl)] [iI y, .ref m] w6 0 0 := by
      intro y hy
      have hwk : 0 ≤ v ∧ v ≤ 2 := Classical.not_not.mp (bI_0 (Classical.not_not.mp h9))
      refine g_iconst C dX8_bit_28 ?_
      refine g_callV C (c_X8_refuse _ hM6 (y := y) (wh := 2) (by omega) (by omega) (by omega)) (ci := 10) rfl hM6.o rfl ml_RX8_45 im_yX8_refuse se_RX8_yX8_refuse in_RX8 co_yX8_refuse hd_X8_refuse rfl ⟨by omega, by omega⟩ rfl (Nat.le_of_ble_eq_true rfl) ⟨by omega, by omega⟩ dX8_bit_29 (fun v29 w29 hp29 => ?_)
      obtain ⟨t, rfl, ht, hM7, hK7⟩ := hp29
      have hy7 : (y) = 0 ∨ (y) = 1 := (by omega)
      have hK67 := hK6.tr hK7
      refine g_if_eq (tgt := 37) C dX8_bit_32 (by decide) (bI_r _) (fun h32 => ?_) (fun h32 => ?_)
      · have htz : ¬ (0 < t) := bI_0 h32
        obtain ⟨V, rfl⟩ := Int.eq_ofNat_of_zero_le hwk.1
        have hg := hB V (by omega)
        obtain ⟨r, hr⟩ := RT_ex hg
        refine g_aload_n C dX8_bit_37 rfl ?_
        refine g_iload_n C dX8_bit_38 rfl ?_
        refine g_callV C (c_X8_at _ hM7 (i := V) (r := r) (by omega) hg hr (hS V (by omega))) (ci := 10) rfl hM7.o rfl ml_RX8_167 im_yX8_at se_RX8_yX8_at in_RX8 co_yX8_at hd_X8_at rfl ⟨by omega, by omega⟩ rfl (Nat.le_of_ble_eq_true rfl) ⟨by omega, by omega⟩ dX8_bit_39 (fun v39 w39 hp39 => ?_)
        obtain ⟨q, rfl, hR, x1, hq⟩ := hp39
        obtain ⟨R, a0, a1, a2, a3, hR0, k0, k1, k2, k3, l0, l1, l2, l3, lo0, lo1, lo2, lo3⟩ := hR
        have hM8 := hM7.ex x1
        have hK7 := hK67.tr (Keep.ex x1)
        refine g_iload_n C dX8_bit_42 rfl ?_
        have J51 : ∀ (x : Int) (i a : Nat) (c : Int), x = i → i < 4 → R i = some a → RowAt w39 a c 5 → c = (if z = 1 then (pq (ba V) r 1 r (st V).toNat).1 else (pq (ba V) r 0 1 (st V).toNat).1) → G E X 4 51 [some (.ref m), some (iI (V : Int)), some (iI z), some (iI pl)] [iI x, .ref q] w39 10 48 := by
          intro x i a c hx hi hRi lc hc
          obtain ⟨n1, f1, e1, b1, d1⟩ := lc
          refine g_aaloadN (i) C rfl rfl hR0 (by omega) (by omega) hRi dX8_bit_51 ?_
          refine g_iload_n C dX8_bit_52 rfl ?_
          refine g_callS C (c_X8_isDigit _ e1 ⟨b1.n1, by omega⟩ b1.d (pl := pl) (by omega)) ml_RX8_117 sm_yX8_isDigit in_RX8 co_yX8_isDigit hd_X8_isDigit rfl ⟨by omega, by omega⟩ rfl (Nat.le_of_ble_eq_true rfl) ⟨by omega, by omega⟩ dX8_bit_53 (fun v53 w53 hp53 => ?_)
          obtain ⟨rfl, hw53⟩ := hp53
          subst w53
          exact g_zreturn C hQ dX8_bit_56 narB (by omega) (by omega) ⟨t, _, rfl, hM8, hK7, Or.inr (Or.inr ⟨hwk, by omega, by omega, r, hr, by rw [b1.abs, hc]; rfl⟩)⟩
        refine g_if_eq (tgt := 50) C dX8_bit_43 (by decide) (by omega) (fun h43 => ?_) (fun h43 => ?_)
        · refine g_iconst C dX8_bit_50 ?_
          first | exact J51 _ 0 a0 _ rfl (by omega) k0 l0 (by rw [if_pos (by omega)]) | exact J51 _ 1 a1 _ rfl (by omega) k1 l1 (by rw [if_neg (by omega)])
        · refine g_iconst C dX8_bit_46 ?_
          refine g_goto (tgt := 51) C dX8_bit_47 (by decide) ?_
          first | exact J51 _ 0 a0 _ rfl (by omega) k0 l0 (by rw [if_pos (by omega)]) | exact J51 _ 1 a1 _ rfl (by omega) k1 l1 (by rw [if_neg (by omega)])
      · refine g_iconst C dX8_bit_35 ?_
        exact g_zreturn C hQ dX8_bit_36 rfl (by omega) (by omega) (by
          first
          | exact ⟨t, 0, rfl, hM7, hK67, Or.inr (Or.inl ⟨hwk, by have := bI_1 h32; omega, by have := bI_1 h32; omega, rfl⟩)⟩
          | exact ⟨t6, 0, rfl, hM6, hK6, Or.inl ⟨bI_1 h9, by omega, rfl⟩⟩)
    refine g_if_ne (tgt := 27) C dX8_bit_20 (by decide) (bI_r _) (fun h20 => ?_) (fun h20 => ?_)
    · refine g_iconst C dX8_bit_27 ?_
      exact J28 _ (by first | exact Or.inl ⟨rfl, bI_1 h20⟩ | exact Or.inr ⟨rfl, bI_0 (Classical.not_not.mp h20)⟩)
    · refine g_iconst C dX8_bit_23 ?_
      refine g_goto (tgt := 28) C dX8_bit_24 (by decide) ?_
      exact J28 _ (by first | exact Or.inl ⟨rfl, bI_1 h20⟩ | exact Or.inr ⟨rfl, bI_0 (Classical.not_not.mp h20)⟩)
set_option maxHeartbeats 4000000 in
set_option maxRecDepth 100000 in
theorem c_X8_isRead (l : Launch) {E : GE} {w : Wd} {v x : Int} (h_v : -2147483648 ≤ v ∧ v < 2147483648) (h_x : -2147483648 ≤ x ∧ x < 2147483648) {τ : Nat → Nat} {m : Nat} {A : MA} {th : Int} {ba st pb le ri : Nat → Int} {sp : Nat → Nat → Int} {ct : Nat → Int} (hM : MSx τ w m A th ba st pb le ri sp ct) : Sp E l yX8_isRead cX8_isRead 3 (some .boolean) 2 (0) (0) [.ref m, iI v, iI x] w (fun r w' => ∃ (t ans : Int), r = some (iI ans) ∧ MSx τ w' m A (t) (ba) (st) (pb) (le) (ri) (sp) (ct) ∧ Keep τ w w' ∧ (¬ (0 ≤ v ∧ v ≤ 2) ∧ t = 1 ∧ ans = 0 ∨ (0 ≤ v ∧ v ≤ 2) ∧ ¬ (x = 0 ∨ (2 ≤ x ∧ x ≤ 16)) ∧ t = 2 ∧ ans = 0 ∨ (0 ≤ v ∧ v ≤ 2) ∧ (x = 0 ∨ (2 ≤ x ∧ x ≤ 16)) ∧ t = 0 ∧ ans = 1)) := by
  refine sp_intro [some (.ref m), some (iI v), some (iI x)] rfl (Nat.le_of_ble_eq_true rfl) pn_X8 ?_
  intro X C hRm hl hnm hQ
  obtain ⟨hRf, hRl, hRc, hRs⟩ := hRm
  refine g_wf (fun hwf => ?_)
  refine g_aload_n C dX8_isRead_0 rfl ?_
  refine g_iload_n C dX8_isRead_1 rfl ?_
  refine g_callS C (c_X8_isNo _ (v := v) h_v) ml_RX8_145 sm_yX8_isNo in_RX8 co_yX8_isNo hd_X8_isNo rfl ⟨by omega, by omega⟩ rfl (Nat.le_of_ble_eq_true rfl) ⟨by omega, by omega⟩ dX8_isRead_2 (fun v2 w2 hp2 => ?_)
  obtain ⟨rfl, hw2⟩ := hp2
  subst w2
  refine g_iconst C dX8_isRead_5 ?_
  refine g_callV C (c_X8_start _ hM (y := bI (¬ (0 ≤ v ∧ v ≤ 2))) (wh := 1) (bI_01 _) (by omega)) (ci := 10) rfl hM.o rfl ml_RX8_149 im_yX8_start se_RX8_yX8_start in_RX8 co_yX8_start hd_X8_start rfl ⟨by omega, by omega⟩ rfl (Nat.le_of_ble_eq_true rfl) ⟨by omega, by omega⟩ dX8_isRead_6 (fun v6 w6 hp6 => ?_)
  obtain ⟨t6, rfl, ht6, hM6, hK6⟩ := hp6
  have hy6 : (bI (¬ (0 ≤ v ∧ v ≤ 2))) = 0 ∨ (bI (¬ (0 ≤ v ∧ v ≤ 2))) = 1 := (bI_01 _)
  refine g_if_ne (tgt := 43) C dX8_isRead_9 (by decide) (bI_r _) (fun h9 => ?_) (fun h9 => ?_)
  · refine g_iconst C dX8_isRead_43 ?_
    exact g_zreturn C hQ dX8_isRead_44 (nar01 (by omega)) (Nat.le_refl _) (Nat.le_refl _) (by
      first
      | exact ⟨t, 1, rfl, hM7, hK67, Or.inr (Or.inr ⟨hwk, by have := bI_0 (Classical.not_not.mp h36); omega, by have := bI_0 (Classical.not_not.mp h36); omega, rfl⟩)⟩
      | exact ⟨t, 0, rfl, hM7, hK67, Or.inr (Or.inl ⟨hwk, by have := bI_1 h36; omega, by have := bI_1 h36; omega, rfl⟩)⟩
      | exact ⟨t6, 0, rfl, hM6, hK6, Or.inl ⟨bI_1 h9, by omega, rfl⟩⟩)
  · refine g_aload_n C dX8_isRead_12 rfl ?_
    refine g_iload_n C dX8_isRead_13 rfl ?_
    have J32 : ∀ y : Int, (y = 0 ∧ (x = 0 ∨ (2 ≤ x ∧ x ≤ 16)) ∨ y = 1 ∧ ¬ (x = 0 ∨ (2 ≤ x ∧ x ≤ 16))) → G E X 3 32 [some (.ref m), some (iI v), some (iI x)] [iI y, .ref m] w6 0 0 := by
      intro y hy
      have hwk : 0 ≤ v ∧ v ≤ 2 := Classical.not_not.mp (bI_0 (Classical.not_not.mp h9))
      refine g_iconst C dX8_isRead_32 ?_
      refine g_callV C (c_X8_refuse _ hM6 (y := y) (wh := 2) (by omega) (by omega) (by omega)) (ci := 10) rfl hM6.o rfl ml_RX8_45 im_yX8_refuse se_RX8_yX8_refuse in_RX8 co_yX8_refuse hd_X8_refuse rfl ⟨by omega, by omega⟩ rfl (Nat.le_of_ble_eq_true rfl) ⟨by omega, by omega⟩ dX8_isRead_33 (fun v33 w33 hp33 => ?_)
      obtain ⟨t, rfl, ht, hM7, hK7⟩ := hp33
      have hy7 : (y) = 0 ∨ (y) = 1 := (by omega)
      have hK67 := hK6.tr hK7
      refine g_if_ne (tgt := 43) C dX8_isRead_36 (by decide) (bI_r _) (fun h36 => ?_) (fun h36 => ?_)
      · refine g_iconst C dX8_isRead_43 ?_
        exact g_zreturn C hQ dX8_isRead_44 (nar01 (by omega)) (Nat.le_refl _) (Nat.le_refl _) (by
          first
          | exact ⟨t, 1, rfl, hM7, hK67, Or.inr (Or.inr ⟨hwk, by have := bI_0 (Classical.not_not.mp h36); omega, by have := bI_0 (Classical.not_not.mp h36); omega, rfl⟩)⟩
          | exact ⟨t, 0, rfl, hM7, hK67, Or.inr (Or.inl ⟨hwk, by have := bI_1 h36; omega, by have := bI_1 h36; omega, rfl⟩)⟩
          | exact ⟨t6, 0, rfl, hM6, hK6, Or.inl ⟨bI_1 h9, by omega, rfl⟩⟩)
      · refine g_iconst C dX8_isRead_39 ?_
        refine g_goto (tgt := 44) C dX8_isRead_40 (by decide) ?_
        exact g_zreturn C hQ dX8_isRead_44 (nar01 (by omega)) (Nat.le_refl _) (Nat.le_refl _) (by
          first
          | exact ⟨t, 1, rfl, hM7, hK67, Or.inr (Or.inr ⟨hwk, by have := bI_0 (Classical.not_not.mp h36); omega, by have := bI_0 (Classical.not_not.mp h36); omega, rfl⟩)⟩
          | exact ⟨t, 0, rfl, hM7, hK67, Or.inr (Or.inl ⟨hwk, by have := bI_1 h36; omega, by have := bI_1 h36; omega, rfl⟩)⟩
          | exact ⟨t6, 0, rfl, hM6, hK6, Or.inl ⟨bI_1 h9, by omega, rfl⟩⟩)
    refine g_if_eq (tgt := 31) C dX8_isRead_14 (by decide) h_x (fun h14 => ?_) (fun h14 => ?_)
    · refine g_iconst C dX8_isRead_31 ?_
      exact J32 _ (by first | exact Or.inl ⟨rfl, Or.inl h14⟩ | exact Or.inl ⟨rfl, Or.inr (bI_1 h24)⟩ | exact Or.inr ⟨rfl, fun q => q.elim h14 (bI_0 (Classical.not_not.mp h24))⟩)
    · refine g_iload_n C dX8_isRead_17 rfl ?_
      refine g_iconst C dX8_isRead_18 ?_
      refine g_bipush C dX8_isRead_19 (by decide) ?_
      refine g_callS C (c_X8_isIn _ (v := x) (a := 2) (b := 16) h_x (by omega) (by omega)) ml_RX8_49 sm_yX8_isIn in_RX8 co_yX8_isIn hd_X8_isIn rfl ⟨by omega, by omega⟩ rfl (Nat.le_of_ble_eq_true rfl) ⟨by omega, by omega⟩ dX8_isRead_21 (fun v21 w21 hp21 => ?_)
      obtain ⟨rfl, hw21⟩ := hp21
      subst w21
      refine g_if_ne (tgt := 31) C dX8_isRead_24 (by decide) (bI_r _) (fun h24 => ?_) (fun h24 => ?_)
      · refine g_iconst C dX8_isRead_31 ?_
        exact J32 _ (by first | exact Or.inl ⟨rfl, Or.inl h14⟩ | exact Or.inl ⟨rfl, Or.inr (bI_1 h24)⟩ | exact Or.inr ⟨rfl, fun q => q.elim h14 (bI_0 (Classical.not_not.mp h24))⟩)
      · refine g_iconst C dX8_isRead_27 ?_
        refine g_goto (tgt := 32) C dX8_isRead_28 (by decide) ?_
        exact J32 _ (by first | exact Or.inl ⟨rfl, Or.inl h14⟩ | exact Or.inl ⟨rfl, Or.inr (bI_1 h24)⟩ | exact Or.inr ⟨rfl, fun q => q.elim h14 (bI_0 (Classical.not_not.mp h24))⟩)
set_option maxHeartbeats 4000000 in
set_option maxRecDepth 100000 in
theorem c_X8_wide (l : Launch) {E : GE} {w : Wd} {a n W : Nat} {b : Bool} {f : Nat → Int} (ha : w.2 a = some (b, eI n f)) (hn : n ≤ W) (hW : W ≤ 200) : Sp E l yX8_wide cX8_wide 4 (some (.array .int)) 0 (1) (W) [.ref a, iI (W : Int)] w (fun r w' => ∃ g : Nat → Int, r = some (.ref w.1) ∧ w' = wpush w (true, eI W g) ∧ ∀ i, i < W → g i = ext f n i) := by
  refine sp_intro [some (.ref a), some (iI (W : Int)), none, none] rfl (Nat.le_of_ble_eq_true rfl) pn_X8 ?_
  intro X C hRm hl hnm hQ
  obtain ⟨hRf, hRl, hRc, hRs⟩ := hRm
  refine g_wf (fun hwf => ?_)
  have hne : a ≠ w.1 := Nat.ne_of_lt (hwf a _ ha)
  refine g_iload_n C dX8_wide_0 rfl ?_
  refine g_newI C gw_arrayClass_int (N := W) rfl (by omega) (by omega) dX8_wide_1 ?_
  refine g_astore_n C dX8_wide_3 (by decide) rfl ?_
  refine g_iconst C dX8_wide_4 ?_
  refine g_istore_n C dX8_wide_5 (by decide) rfl ?_
  refine g_loop (σ := Nat × (Nat → Int)) (fun q => q.1 ≤ n ∧ (∀ i, i < q.1 → q.2 i = f i) ∧ ∀ i, q.1 ≤ i → q.2 i = 0) (fun q => G E X 4 6 [some (.ref a), some (iI (W : Int)), some (.ref w.1), some (iI (q.1 : Int))] [] (wpush w (true, eI W q.2)) 1 (0 + W)) (fun q => n - q.1) ?_ (0, fun _ => 0) ⟨by dsimp only; omega, fun i hi => absurd hi (Nat.not_lt_zero i), fun i _ => rfl⟩
  rintro ⟨j, g⟩ hq ih
  obtain ⟨hj, h1, h2⟩ := hq
  dsimp only at hj h1 h2 ⊢
  have hpa : (wpush w (true, eI W g)).2 a = some (b, eI n f) := by rw [wpush_n hne]; exact ha
  refine g_iload_n C dX8_wide_6 rfl ?_
  refine g_aload_n C dX8_wide_7 rfl ?_
  refine g_alen C hpa (Or.inl ⟨_, rfl⟩) dX8_wide_8 ?_
  refine g_icmp_ge (tgt := 24) C dX8_wide_9 (by decide) (by omega) (by omega) (fun h9 => ?_) (fun h9 => ?_)
  · refine g_aload_n C dX8_wide_24 rfl ?_
    exact g_areturn C (Or.inr ⟨_, rfl⟩) hQ (Or.inr ⟨_, rfl⟩) dX8_wide_25 (by omega) (by omega) ⟨g, rfl, rfl, fun i hi => by
      have ejn : j = n := by omega
      by_cases q : i < n
      · rw [h1 i (by omega), ext_lo q]
      · rw [h2 i (by omega), ext_hi q]⟩
  · refine g_aload_n C dX8_wide_12 rfl ?_
    refine g_iload_n C dX8_wide_13 rfl ?_
    refine g_aload_n C dX8_wide_14 rfl ?_
    refine g_iload_n C dX8_wide_15 rfl ?_
    refine g_ialoadN (j) C hpa (by omega) (by omega) dX8_wide_16 ?_
    refine g_iastoreN (j) C wpush_s (by omega) (by omega) dX8_wide_17 ?_
    rw [wset_push]
    refine g_iinc C dX8_wide_18 rfl (by decide) rfl ?_
    refine g_goto (tgt := 6) C dX8_wide_21 (by decide) ?_
    exact ih (j + 1, iup g j (f j)) ⟨by dsimp only; omega, fun i hi => by
      dsimp only at hi ⊢
      by_cases q : i = j
      · rw [q, iup_s]
      · rw [iup_n q]; exact h1 i (by omega), fun i hi => by
      dsimp only at hi ⊢
      rw [iup_n (by omega)]; exact h2 i (by omega)⟩ (by dsimp only; omega)
theorem aB_pos {d : Int} (h : d ≠ 0) : 0 < aB d := by unfold aB; split <;> omega
theorem aB_mul {y d : Int} : aB (y * d) = aB y * aB d := by
  unfold aB
  rcases Int.lt_trichotomy y 0 with a | a | a <;> rcases Int.lt_trichotomy d 0 with c | c | c
  · rw [if_neg (by have := Int.mul_pos_of_neg_of_neg a c; omega), if_pos a, if_pos c, Int.neg_mul_neg]
  · rw [c, Int.mul_zero]; simp
  · rw [if_pos (Int.mul_neg_of_neg_of_pos a c), if_pos a, if_neg (by omega), Int.neg_mul]
  · rw [a]; simp
  · rw [a]; simp
  · rw [a]; simp
  · rw [if_pos (Int.mul_neg_of_pos_of_neg a c), if_neg (by omega), if_pos c, Int.mul_neg]
  · rw [c, Int.mul_zero]; simp
  · rw [if_neg (by have := Int.mul_pos a c; omega), if_neg (by omega), if_neg (by omega)]
set_option maxHeartbeats 4000000 in
set_option maxRecDepth 100000 in
theorem c_X8_parted (l : Launch) {E : GE} {w : Wd} {a : Nat} {z d : Int} (ra : RowAt w a z 4) (hd0 : d ≠ 0) (hd : -99 ≤ d ∧ d ≤ 99) : Sp E l yX8_parted cX8_parted 3 (some (.array .int)) 1 (2) (8) [.ref a, iI d] w (fun r w' => (r = some .null ∧ aB z % aB d ≠ 0 ∧ Ex w w') ∨ ∃ (q : Nat) (y : Int), r = some (.ref q) ∧ RowAt w' q y 4 ∧ y * d = z ∧ aB z % aB d = 0 ∧ w.1 ≤ q ∧ Ex w w') := by
  refine sp_intro [some (.ref a), some (iI d), none] rfl (Nat.le_of_ble_eq_true rfl) pn_X8 ?_
  intro X C hRm hl hnm hQ
  obtain ⟨hRf, hRl, hRc, hRs⟩ := hRm
  refine g_wf (fun hwf => ?_)
  obtain ⟨n, f, e0, b0, d0⟩ := id ra
  have h1 := b0.n1
  have sg := b0.s
  have hm := b0.m
  have hab := b0.abs
  have hdp := aB_pos hd0
  have hda : aB d ≤ 99 := by unfold aB; split <;> omega
  refine g_aload_n C dX8_parted_0 rfl ?_
  refine g_cloneI C e0 ml_RX8_59 (by omega) (by omega) (Nat.le_of_ble_eq_true rfl) (by omega) dX8_parted_1 ?_
  refine g_castI C wpush_s kl_RX8_19 dX8_parted_4 ?_
  refine g_astore_n C dX8_parted_7 (by decide) rfl ?_
  refine g_aload_n C dX8_parted_8 rfl ?_
  refine g_iload_n C dX8_parted_9 rfl ?_
  refine g_abs C ml_RX8_196 (by omega) (by omega) (by omega) (Nat.le_of_ble_eq_true rfl) (by omega) dX8_parted_10 ?_
  rw [show (if 0 ≤ d then d else 0 - d) = aB d by unfold aB; split <;> split <;> omega]
  refine g_callS C (c_X8_divide _ (d := aB d) wpush_s ⟨h1, by omega⟩ b0.d ⟨hdp, by omega⟩) ml_RX8_95 sm_yX8_divide in_RX8 co_yX8_divide hd_X8_divide rfl ⟨by omega, by omega⟩ rfl (Nat.le_of_ble_eq_true rfl) ⟨by omega, by omega⟩ dX8_parted_13 (fun v13 w13 hp13 => ?_)
  obtain ⟨x, g, rfl, rfl, hdg, hg0, hx0, hx1, hxe⟩ := hp13
  rw [wset_push]
  rw [hab] at hxe
  have hem : aB z % aB d = x := by
    rw [← hxe, Int.add_comm, Int.mul_comm, Int.add_mul_emod_self_left]
    exact Int.emod_eq_of_lt hx0 hx1
  refine g_if_le (tgt := 23) C dX8_parted_16 (by decide) (by omega) (fun h16 => ?_) (fun h16 => ?_)
  · have hx00 : x = 0 := by omega
    have J37 : ∀ s : Int, (d < 0 ∧ s = - f 0 ∨ 0 < d ∧ s = f 0) → G E X 3 37 [some (.ref a), some (iI d), some (.ref w.1)] [iI s] (wpush w (true, eI n g)) (0 + 1) (0 + n) := by
      intro s hs
      refine g_aload_n C dX8_parted_37 rfl ?_
      refine g_callS C (c_X8_cut _ (c := 4) (s := s) (f := g) wpush_s h1 (by omega) (by omega) hdg (by rcases sg with q | q | q; (rcases hs with r | r; exact Or.inl (by omega); exact Or.inr (Or.inl (by omega))); (refine Or.inr (Or.inr ⟨by omega, ?_⟩); rw [q.2.2]; rfl); (rcases hs with r | r; exact Or.inr (Or.inl (by omega)); exact Or.inl (by omega)))) ml_RX8_55 sm_yX8_cut in_RX8 co_yX8_cut hd_X8_cut rfl ⟨by omega, by omega⟩ rfl (Nat.le_of_ble_eq_true rfl) ⟨by omega, by omega⟩ dX8_parted_38 (fun v38 w38 hp38 => ?_)
      obtain ⟨m9, h9, rfl, rfl, hb9, hm9⟩ := hp38
      exact g_areturn C (Or.inr ⟨_, rfl⟩) hQ (by first | exact Or.inl rfl | exact Or.inr ⟨_, rfl⟩) dX8_parted_41 (by omega) (by omega) (by
        first
        | exact Or.inl ⟨rfl, by omega, Ex.push hwf _⟩
        | exact Or.inr ⟨_, s * mg g n, rfl, RowAt.of wpush_s hb9 (by omega), by
            rw [hx00, Int.add_zero] at hxe
            rw [hm, hab, ← hxe]
            unfold aB
            rcases hs with r | r
            · rw [if_pos r.1, r.2]; grind
            · rw [if_neg (by omega), r.2]; grind, by omega, by show w.1 ≤ w.1 + 1; omega, (Ex.push hwf _).tr (Ex.push (hwf.push _) _)⟩)
    refine g_iload_n C dX8_parted_23 rfl ?_
    refine g_if_ge (tgt := 34) C dX8_parted_24 (by decide) (by omega) (fun h24 => ?_) (fun h24 => ?_)
    · refine g_aload_n C dX8_parted_34 rfl ?_
      refine g_iconst C dX8_parted_35 ?_
      refine g_ialoadN (0) C (by rw [wpush_n (Nat.ne_of_lt (hwf a _ e0))]; exact e0) (by omega) (by omega) dX8_parted_36 ?_
      exact J37 _ (by omega)
    · refine g_aload_n C dX8_parted_27 rfl ?_
      refine g_iconst C dX8_parted_28 ?_
      refine g_ialoadN (0) C (by rw [wpush_n (Nat.ne_of_lt (hwf a _ e0))]; exact e0) (by omega) (by omega) dX8_parted_29 ?_
      refine g_ineg C dX8_parted_30 ?_
      refine g_goto (tgt := 37) C dX8_parted_31 (by decide) ?_
      exact J37 _ (by omega)
  · refine g_null C dX8_parted_19 ?_
    refine g_goto (tgt := 41) C dX8_parted_20 (by decide) ?_
    exact g_areturn C (Or.inr ⟨_, rfl⟩) hQ (by first | exact Or.inl rfl | exact Or.inr ⟨_, rfl⟩) dX8_parted_41 (by omega) (by omega) (by
      first
      | exact Or.inl ⟨rfl, by omega, Ex.push hwf _⟩
      | exact Or.inr ⟨_, s * mg g n, rfl, RowAt.of wpush_s hb9 (by omega), by
          rw [hx00, Int.add_zero] at hxe
          rw [hm, hab, ← hxe]
          unfold aB
          rcases hs with r | r
          · rw [if_pos r.1, r.2]; grind
          · rw [if_neg (by omega), r.2]; grind, by omega, by show w.1 ≤ w.1 + 1; omega, (Ex.push hwf _).tr (Ex.push (hwf.push _) _)⟩)
set_option maxHeartbeats 4000000 in
set_option maxRecDepth 100000 in
theorem c_X8_divideBy (l : Launch) {E : GE} {w : Wd} {v d : Int} (h_v : -2147483648 ≤ v ∧ v < 2147483648) (h_d : -2147483648 ≤ d ∧ d < 2147483648) {τ : Nat → Nat} {m : Nat} {A : MA} {th : Int} {ba st pb le ri : Nat → Int} {sp : Nat → Nat → Int} {ct : Nat → Int} (hM : MSx τ w m A th ba st pb le ri sp ct) (hP : HPp pb le ri) : Sp E l yX8_divideBy cX8_divideBy 5 (some .int) 4 (4) (16) [.ref m, iI v, iI d] w (fun r w' => ∃ (τ' : Nat → Nat) (A' : MA) (t : Int) (pb' le' ri' ct' : Nat → Int) (ans : Int), (∀ a, a < w.1 → τ' a = τ a) ∧ r = some (iI ans) ∧ MSx τ' w' m A' (t) (ba) (st) (pb') (le') (ri') (sp) (ct') ∧ Keep τ w w' ∧ (¬ (0 ≤ v ∧ v ≤ 2) ∧ t = 1 ∧ ans = 0 ∧ pb' = pb ∧ le' = le ∧ ri' = ri ∧ ct' = ct ∨ (0 ≤ v ∧ v ≤ 2) ∧ ¬ (-99 ≤ d ∧ d ≤ 99) ∧ t = 2 ∧ ans = 0 ∧ pb' = pb ∧ le' = le ∧ ri' = ri ∧ ct' = ct ∨ (0 ≤ v ∧ v ≤ 2) ∧ (-99 ≤ d ∧ d ≤ 99) ∧ t = 0 ∧ ((d = 0 ∨ aB (le v.toNat) % aB d ≠ 0 ∨ aB (ri v.toNat) % aB d ≠ 0) ∧ ans = -9 ∧ pb' = pb ∧ le' = le ∧ ri' = ri ∧ ct' = iup ct 3 (ct 3 + 1) ∨ ¬ (d = 0 ∨ aB (le v.toNat) % aB d ≠ 0 ∨ aB (ri v.toNat) % aB d ≠ 0) ∧ ∃ x y : Int, x * d = le v.toNat ∧ y * d = ri v.toNat ∧ ans = bI (¬ (pb v.toNat = (pb v.toNat) ∧ le v.toNat = x ∧ ri v.toNat = y)) ∧ pb' = iup pb v.toNat (pb v.toNat) ∧ le' = iup le v.toNat x ∧ ri' = iup ri v.toNat y ∧ ct' = iup ct 1 (ct 1 + 1)))) := by
  refine sp_intro [some (.ref m), some (iI v), some (iI d), none, none] rfl (Nat.le_of_ble_eq_true rfl) pn_X8 ?_
  intro X C hRm hl hnm hQ
  obtain ⟨hRf, hRl, hRc, hRs⟩ := hRm
  refine g_wf (fun hwf => ?_)
  refine g_aload_n C dX8_divideBy_0 rfl ?_
  refine g_iload_n C dX8_divideBy_1 rfl ?_
  refine g_callS C (c_X8_isNo _ (v := v) h_v) ml_RX8_145 sm_yX8_isNo in_RX8 co_yX8_isNo hd_X8_isNo rfl ⟨by omega, by omega⟩ rfl (Nat.le_of_ble_eq_true rfl) ⟨by omega, by omega⟩ dX8_divideBy_2 (fun v2 w2 hp2 => ?_)
  obtain ⟨rfl, hw2⟩ := hp2
  subst w2
  refine g_iconst C dX8_divideBy_5 ?_
  refine g_callV C (c_X8_start _ hM (y := bI (¬ (0 ≤ v ∧ v ≤ 2))) (wh := 1) (bI_01 _) (by omega)) (ci := 10) rfl hM.o rfl ml_RX8_149 im_yX8_start se_RX8_yX8_start in_RX8 co_yX8_start hd_X8_start rfl ⟨by omega, by omega⟩ rfl (Nat.le_of_ble_eq_true rfl) ⟨by omega, by omega⟩ dX8_divideBy_6 (fun v6 w6 hp6 => ?_)
  obtain ⟨t6, rfl, ht6, hM6, hK6⟩ := hp6
  have hy6 : (bI (¬ (0 ≤ v ∧ v ≤ 2))) = 0 ∨ (bI (¬ (0 ≤ v ∧ v ≤ 2))) = 1 := (bI_01 _)
  refine g_if_ne (tgt := 36) C dX8_divideBy_9 (by decide) (bI_r _) (fun h9 => ?_) (fun h9 => ?_)
  · refine g_iconst C dX8_divideBy_36 ?_
    exact g_ireturn C hQ dX8_divideBy_37 (by omega) (by omega) (by
      first
      | exact ⟨τ, A, t, _, _, _, _, _, (fun _ _ => rfl), rfl, hM7, hK67, Or.inr (Or.inl ⟨hwk, by have := bI_1 h33; omega, by have := bI_1 h33; omega, rfl, rfl, rfl, rfl, rfl⟩)⟩
      | exact ⟨τ, A, t6, _, _, _, _, _, (fun _ _ => rfl), rfl, hM6, hK6, Or.inl ⟨bI_1 h9, by omega, rfl, rfl, rfl, rfl, rfl⟩⟩)
  · refine g_aload_n C dX8_divideBy_12 rfl ?_
    refine g_iload_n C dX8_divideBy_13 rfl ?_
    refine g_bipush C dX8_divideBy_14 (by decide) ?_
    refine g_bipush C dX8_divideBy_16 (by decide) ?_
    refine g_callS C (c_X8_isIn _ (v := d) (a := (-99)) (b := 99) h_d (by omega) (by omega)) ml_RX8_49 sm_yX8_isIn in_RX8 co_yX8_isIn hd_X8_isIn rfl ⟨by omega, by omega⟩ rfl (Nat.le_of_ble_eq_true rfl) ⟨by omega, by omega⟩ dX8_divideBy_18 (fun v18 w18 hp18 => ?_)
    obtain ⟨rfl, hw18⟩ := hp18
    subst w18
    have J29 : ∀ y : Int, (y = 0 ∧ (-99 ≤ d ∧ d ≤ 99) ∨ y = 1 ∧ ¬ (-99 ≤ d ∧ d ≤ 99)) → G E X 5 29 [some (.ref m), some (iI v), some (iI d), none, none] [iI y, .ref m] w6 0 0 := by
      intro y hy
      have hwk : 0 ≤ v ∧ v ≤ 2 := Classical.not_not.mp (bI_0 (Classical.not_not.mp h9))
      refine g_iconst C dX8_divideBy_29 ?_
      refine g_callV C (c_X8_refuse _ hM6 (y := y) (wh := 2) (by omega) (by omega) (by omega)) (ci := 10) rfl hM6.o rfl ml_RX8_45 im_yX8_refuse se_RX8_yX8_refuse in_RX8 co_yX8_refuse hd_X8_refuse rfl ⟨by omega, by omega⟩ rfl (Nat.le_of_ble_eq_true rfl) ⟨by omega, by omega⟩ dX8_divideBy_30 (fun v30 w30 hp30 => ?_)
      obtain ⟨t, rfl, ht, hM7, hK7⟩ := hp30
      have hy7 : (y) = 0 ∨ (y) = 1 := (by omega)
      have hK67 := hK6.tr hK7
      refine g_if_eq (tgt := 38) C dX8_divideBy_33 (by decide) (bI_r _) (fun h33 => ?_) (fun h33 => ?_)
      · have htz : ¬ (0 < t) := bI_0 h33
        have he : -99 ≤ d ∧ d ≤ 99 := by omega
        obtain ⟨V, rfl⟩ := Int.eq_ofNat_of_zero_le hwk.1
        have g1 := (hP V (by omega)).1
        refine g_wf (fun hwf7 => ?_)
        have hwk7 := hK67.1
        obtain ⟨q1, hq1, tq1, r1⟩ := hM7.L (i := V) (by omega)
        obtain ⟨q2, hq2, tq2, r2⟩ := hM7.R (i := V) (by omega)
        have J86 : ∀ u : Wd, Ex w30 u → (d = 0 ∨ aB (le V) % aB d ≠ 0 ∨ aB (ri V) % aB d ≠ 0) → G E X 5 86 [some (.ref m), some (iI (V : Int)), some (iI d), none, none] [] u 4 16 := by
          intro u xu hno
          have hMu := hM7.ex xu
          have hKu := hK67.tr (Keep.ex xu)
          refine g_aload_n C dX8_divideBy_86 rfl ?_
          refine g_callV C (c_X8_cannot _ hMu) (ci := 10) rfl hMu.o rfl ml_RX8_158 im_yX8_cannot se_RX8_yX8_cannot in_RX8 co_yX8_cannot hd_X8_cannot rfl ⟨by omega, by omega⟩ rfl (Nat.le_of_ble_eq_true rfl) ⟨by omega, by omega⟩ dX8_divideBy_87 (fun v87 w87 hp87 => ?_)
          obtain ⟨rfl, hM9, hK9⟩ := hp87
          refine g_goto (tgt := 107) C dX8_divideBy_90 (by decide) ?_
          exact g_ireturn C hQ dX8_divideBy_107 (by omega) (by omega) (by
            first
            | exact ⟨_, _, t, _, _, _, _, _, fun a ha => rtag_lo (by omega), rfl, hM9, hKu.trT hK9 hwf (fun a ha => rtag_lo (by omega)), Or.inr (Or.inr ⟨hwk, he, by omega, Or.inr ⟨fun q => by rcases q with q | q | q; exact hd0 q; exact q m1; exact q m2, x, y, ex, ey, rfl, rfl, rfl, rfl, rfl⟩⟩)⟩
            | exact ⟨τ, A, t, _, _, _, _, _, (fun _ _ => rfl), rfl, hM9, hKu.tr hK9, Or.inr (Or.inr ⟨hwk, he, by omega, Or.inl ⟨hno, rfl, rfl, rfl, rfl, rfl⟩⟩)⟩)
        have J93 : ∀ (u : Wd) (a b : Nat) (x y : Int), Ex w30 u → d ≠ 0 → aB (le V) % aB d = 0 → aB (ri V) % aB d = 0 → RowAt u a x 4 → RowAt u b y 4 → x * d = le V → y * d = ri V → w30.1 ≤ a → w30.1 ≤ b → G E X 5 93 [some (.ref m), some (iI (V : Int)), some (iI d), some (.ref a), some (.ref b)] [] u 4 16 := by
          intro u a b x y xu hd0 m1 m2 ra rb ex ey la lb
          have hMu := (hM7.tag (τ' := rtag τ w30.1) hwf7 (fun a ha => rtag_lo ha)).ex xu
          have hKu := hK67.tr (Keep.ex xu)
          refine g_aload_n C dX8_divideBy_93 rfl ?_
          refine g_iload_n C dX8_divideBy_94 rfl ?_
          refine g_aload_n C dX8_divideBy_95 rfl ?_
          refine g_get (ci := 10) C rfl inTX8 3 (by decide) fl_RX8_16 rfl hMu.o rfl dX8_divideBy_96 ?_
          refine g_iload_n C dX8_divideBy_99 rfl ?_
          refine g_ialoadN (V) C hMu.p (by omega) (by omega) dX8_divideBy_100 ?_
          refine g_aload_n C dX8_divideBy_101 rfl ?_
          refine g_aload C dX8_divideBy_102 rfl ?_
          refine g_callV C (c_X8_become _ hMu (i := V) (bz := pb V) (by omega) g1.i g1.i (rtag_hi la) (rtag_hi lb) ra rb) (ci := 10) rfl hMu.o rfl ml_RX8_232 im_yX8_become se_RX8_yX8_become in_RX8 co_yX8_become hd_X8_become rfl ⟨by omega, by omega⟩ rfl (Nat.le_of_ble_eq_true rfl) ⟨by omega, by omega⟩ dX8_divideBy_104 (fun v104 w104 hp104 => ?_)
          obtain ⟨rfl, hM9, hK9⟩ := hp104
          exact g_ireturn C hQ dX8_divideBy_107 (by omega) (by omega) (by
            first
            | exact ⟨_, _, t, _, _, _, _, _, fun a ha => rtag_lo (by omega), rfl, hM9, hKu.trT hK9 hwf (fun a ha => rtag_lo (by omega)), Or.inr (Or.inr ⟨hwk, he, by omega, Or.inr ⟨fun q => by rcases q with q | q | q; exact hd0 q; exact q m1; exact q m2, x, y, ex, ey, rfl, rfl, rfl, rfl, rfl⟩⟩)⟩
            | exact ⟨τ, A, t, _, _, _, _, _, (fun _ _ => rfl), rfl, hM9, hKu.tr hK9, Or.inr (Or.inr ⟨hwk, he, by omega, Or.inl ⟨hno, rfl, rfl, rfl, rfl, rfl⟩⟩)⟩)
        have J57n : ∀ u : Wd, Ex w30 u → (d = 0 ∨ aB (le V) % aB d ≠ 0) → G E X 5 57 [some (.ref m), some (iI (V : Int)), some (iI d), some .null, none] [] u 2 8 := by
          intro u xu hno
          have hMu := hM7.ex xu
          have A1 : ∀ u' : Wd, Ex w30 u' → G E X 5 75 [some (.ref m), some (iI (V : Int)), some (iI d), some .null, none] [.null] u' 4 16 := fun u' xu' => g_astoreNl C dX8_divideBy_75 (by decide) rfl (g_aload_nN C dX8_divideBy_77 rfl (g_ifnullN C dX8_divideBy_78 (by decide) (g_drop 3 (g_drop 4 (J86 u' xu' (by omega))))))
          have A2 : ∀ (u' : Wd) (q : Nat), Ex w30 u' → G E X 5 75 [some (.ref m), some (iI (V : Int)), some (iI d), some .null, none] [.ref q] u' 4 16 := fun u' q xu' => g_astore C dX8_divideBy_75 (by decide) rfl (g_aload_nN C dX8_divideBy_77 rfl (g_ifnullN C dX8_divideBy_78 (by decide) (g_drop 3 (g_drop 4 (J86 u' xu' (by omega))))))
          refine g_iload_n C dX8_divideBy_57 rfl ?_
          refine g_if_ne (tgt := 65) C dX8_divideBy_58 (by decide) (by omega) (fun h58 => ?_) (fun h58 => ?_)
          · refine g_aload_n C dX8_divideBy_65 rfl ?_
            refine g_get (ci := 10) C rfl inTX8 5 (by decide) fl_RX8_28 rfl hMu.o rfl dX8_divideBy_66 ?_
            refine g_iload_n C dX8_divideBy_69 rfl ?_
            refine g_aaloadN (V) C rfl rfl hMu.r (by omega) (by omega) hq2 dX8_divideBy_70 ?_
            refine g_iload_n C dX8_divideBy_71 rfl ?_
            refine g_callS C (c_X8_parted _ (d := d) (r2.ex xu) (by omega) he) ml_RX8_243 sm_yX8_parted in_RX8 co_yX8_parted hd_X8_parted rfl ⟨by omega, by omega⟩ rfl (Nat.le_of_ble_eq_true rfl) ⟨by omega, by omega⟩ dX8_divideBy_72 (fun v72 w72 hp72 => ?_)
            first
            | exact g_widen (by omega) (by omega) (A1 _ xu)
            | omega
            | (rcases hp72 with ⟨rfl, hn, xx⟩ | ⟨q, y, rfl, rq, hy, hm, lq, xx⟩
               · first | exact A1 _ (xu.tr xx) | exact A1 _ (xu.tr xx) hn
               · first | exact A2 _ q (xu.tr xx) | exact A2 _ q y xx (xu.tr xx) rq hy hm (by have := xu.1; omega))
          · refine g_null C dX8_divideBy_61 ?_
            refine g_goto (tgt := 75) C dX8_divideBy_62 (by decide) ?_
            first
            | exact g_widen (by omega) (by omega) (A1 _ xu)
            | omega
            | (rcases hp72 with ⟨rfl, hn, xx⟩ | ⟨q, y, rfl, rq, hy, hm, lq, xx⟩
               · first | exact A1 _ (xu.tr xx) | exact A1 _ (xu.tr xx) hn
               · first | exact A2 _ q (xu.tr xx) | exact A2 _ q y xx (xu.tr xx) rq hy hm (by have := xu.1; omega))
        have J57r : ∀ (u : Wd) (a : Nat) (x : Int), Ex w30 u → d ≠ 0 → aB (le V) % aB d = 0 → RowAt u a x 4 → x * d = le V → w30.1 ≤ a → G E X 5 57 [some (.ref m), some (iI (V : Int)), some (iI d), some (.ref a), none] [] u 2 8 := by
          intro u a x xu hd0 m1 ra ex la
          have hMu := hM7.ex xu
          have A1 : ∀ u' : Wd, Ex w30 u' → aB (ri V) % aB d ≠ 0 → G E X 5 75 [some (.ref m), some (iI (V : Int)), some (iI d), some (.ref a), none] [.null] u' 4 16 := fun u' xu' hn => g_astoreNl C dX8_divideBy_75 (by decide) rfl (g_aload_n C dX8_divideBy_77 rfl (g_ifnull C dX8_divideBy_78 (g_aloadN C dX8_divideBy_81 rfl (g_ifnonnullN C dX8_divideBy_83 (g_drop 3 (g_drop 4 (J86 u' xu' (Or.inr (Or.inr hn)))))))))
          have A2 : ∀ (u' : Wd) (q : Nat) (y : Int), Ex u u' → Ex w30 u' → RowAt u' q y 4 → y * d = ri V → aB (ri V) % aB d = 0 → w30.1 ≤ q → G E X 5 75 [some (.ref m), some (iI (V : Int)), some (iI d), some (.ref a), none] [.ref q] u' 4 16 := fun u' q y xuu xu' rq ey m2 lq => g_astore C dX8_divideBy_75 (by decide) rfl (g_aload_n C dX8_divideBy_77 rfl (g_ifnull C dX8_divideBy_78 (g_aload C dX8_divideBy_81 rfl (g_ifnonnull C dX8_divideBy_83 (by decide) (J93 u' a q x y xu' hd0 m1 m2 (ra.ex xuu) rq ex ey la lq)))))
          refine g_iload_n C dX8_divideBy_57 rfl ?_
          refine g_if_ne (tgt := 65) C dX8_divideBy_58 (by decide) (by omega) (fun h58 => ?_) (fun h58 => ?_)
          · refine g_aload_n C dX8_divideBy_65 rfl ?_
            refine g_get (ci := 10) C rfl inTX8 5 (by decide) fl_RX8_28 rfl hMu.o rfl dX8_divideBy_66 ?_
            refine g_iload_n C dX8_divideBy_69 rfl ?_
            refine g_aaloadN (V) C rfl rfl hMu.r (by omega) (by omega) hq2 dX8_divideBy_70 ?_
            refine g_iload_n C dX8_divideBy_71 rfl ?_
            refine g_callS C (c_X8_parted _ (d := d) (r2.ex xu) (by omega) he) ml_RX8_243 sm_yX8_parted in_RX8 co_yX8_parted hd_X8_parted rfl ⟨by omega, by omega⟩ rfl (Nat.le_of_ble_eq_true rfl) ⟨by omega, by omega⟩ dX8_divideBy_72 (fun v72 w72 hp72 => ?_)
            first
            | exact g_widen (by omega) (by omega) (A1 _ xu)
            | omega
            | (rcases hp72 with ⟨rfl, hn, xx⟩ | ⟨q, y, rfl, rq, hy, hm, lq, xx⟩
               · first | exact A1 _ (xu.tr xx) | exact A1 _ (xu.tr xx) hn
               · first | exact A2 _ q (xu.tr xx) | exact A2 _ q y xx (xu.tr xx) rq hy hm (by have := xu.1; omega))
          · refine g_null C dX8_divideBy_61 ?_
            refine g_goto (tgt := 75) C dX8_divideBy_62 (by decide) ?_
            first
            | exact g_widen (by omega) (by omega) (A1 _ xu)
            | omega
            | (rcases hp72 with ⟨rfl, hn, xx⟩ | ⟨q, y, rfl, rq, hy, hm, lq, xx⟩
               · first | exact A1 _ (xu.tr xx) | exact A1 _ (xu.tr xx) hn
               · first | exact A2 _ q (xu.tr xx) | exact A2 _ q y xx (xu.tr xx) rq hy hm (by have := xu.1; omega))
        refine g_iload_n C dX8_divideBy_38 rfl ?_
        refine g_if_ne (tgt := 46) C dX8_divideBy_39 (by decide) (by omega) (fun h39 => ?_) (fun h39 => ?_)
        · refine g_aload_n C dX8_divideBy_46 rfl ?_
          refine g_get (ci := 10) C rfl inTX8 4 (by decide) fl_RX8_24 rfl hM7.o rfl dX8_divideBy_47 ?_
          refine g_iload_n C dX8_divideBy_50 rfl ?_
          refine g_aaloadN (V) C rfl rfl hM7.l (by omega) (by omega) hq1 dX8_divideBy_51 ?_
          refine g_iload_n C dX8_divideBy_52 rfl ?_
          refine g_callS C (c_X8_parted _ (d := d) r1 (by omega) he) ml_RX8_243 sm_yX8_parted in_RX8 co_yX8_parted hd_X8_parted rfl ⟨by omega, by omega⟩ rfl (Nat.le_of_ble_eq_true rfl) ⟨by omega, by omega⟩ dX8_divideBy_53 (fun v53 w53 hp53 => ?_)
          first
          | exact g_astore_nN C dX8_divideBy_56 (by decide) rfl (g_widen (by omega) (by omega) (J57n _ (Ex.rf _) (Or.inl (by omega))))
          | (rcases hp53 with ⟨rfl, hn, xx⟩ | ⟨q, y, rfl, rq, hy, hm, lq, xx⟩
             · exact g_astore_nN C dX8_divideBy_56 (by decide) rfl (J57n _ xx (Or.inr hn))
             · exact g_astore_n C dX8_divideBy_56 (by decide) rfl (J57r _ q y xx (by omega) hm rq hy lq))
        · refine g_null C dX8_divideBy_42 ?_
          refine g_goto (tgt := 56) C dX8_divideBy_43 (by decide) ?_
          first
          | exact g_astore_nN C dX8_divideBy_56 (by decide) rfl (g_widen (by omega) (by omega) (J57n _ (Ex.rf _) (Or.inl (by omega))))
          | (rcases hp53 with ⟨rfl, hn, xx⟩ | ⟨q, y, rfl, rq, hy, hm, lq, xx⟩
             · exact g_astore_nN C dX8_divideBy_56 (by decide) rfl (J57n _ xx (Or.inr hn))
             · exact g_astore_n C dX8_divideBy_56 (by decide) rfl (J57r _ q y xx (by omega) hm rq hy lq))
      · refine g_iconst C dX8_divideBy_36 ?_
        exact g_ireturn C hQ dX8_divideBy_37 (by omega) (by omega) (by
          first
          | exact ⟨τ, A, t, _, _, _, _, _, (fun _ _ => rfl), rfl, hM7, hK67, Or.inr (Or.inl ⟨hwk, by have := bI_1 h33; omega, by have := bI_1 h33; omega, rfl, rfl, rfl, rfl, rfl⟩)⟩
          | exact ⟨τ, A, t6, _, _, _, _, _, (fun _ _ => rfl), rfl, hM6, hK6, Or.inl ⟨bI_1 h9, by omega, rfl, rfl, rfl, rfl, rfl⟩⟩)
    refine g_if_ne (tgt := 28) C dX8_divideBy_21 (by decide) (bI_r _) (fun h21 => ?_) (fun h21 => ?_)
    · refine g_iconst C dX8_divideBy_28 ?_
      exact J29 _ (by first | exact Or.inl ⟨rfl, bI_1 h21⟩ | exact Or.inr ⟨rfl, bI_0 (Classical.not_not.mp h21)⟩)
    · refine g_iconst C dX8_divideBy_24 ?_
      refine g_goto (tgt := 29) C dX8_divideBy_25 (by decide) ?_
      exact J29 _ (by first | exact Or.inl ⟨rfl, bI_1 h21⟩ | exact Or.inr ⟨rfl, bI_0 (Classical.not_not.mp h21)⟩)
def cop (z1 z2 : Int) : Prop := ∀ d : Int, 0 < d → d ∣ z1 → d ∣ z2 → d = 1
def dv (X Y z1 z2 : Int) : Prop := ∀ d : Int, d ∣ X → d ∣ Y → d ∣ z1 ∧ d ∣ z2
theorem dv.half {X X' Y z1 z2 : Int} (h : dv X Y z1 z2) (e : X' * 2 = X) : dv X' Y z1 z2 := fun d a b => h d (by rw [← e]; exact Int.dvd_mul_of_dvd_left a) b
theorem dv.half2 {X Y Y' z1 z2 : Int} (h : dv X Y z1 z2) (e : Y' * 2 = Y) : dv X Y' z1 z2 := fun d a b => h d a (by rw [← e]; exact Int.dvd_mul_of_dvd_left b)
theorem dv.sub {X Y z1 z2 : Int} (h : dv X Y z1 z2) : dv (X - Y) Y z1 z2 := fun d a b => h d (by have := Int.dvd_add a b; rwa [Int.sub_add_cancel] at this) b
theorem dv.swap {X Y z1 z2 : Int} (h : dv X Y z1 z2) : dv Y X z1 z2 := fun d a b => h d b a
theorem dv.sub2 {X Y z1 z2 : Int} (h : dv X Y z1 z2) : dv (X - Y) Y z1 z2 := h.sub
theorem mg_par {f : Nat → Int} {n : Nat} (hn : 2 ≤ n) : mg f n % 2 = f 1 % 2 := by
  obtain ⟨b, hb⟩ : ∃ b, n - 1 = 1 + b := ⟨n - 2, by omega⟩
  unfold mg
  rw [hb, nv_split 1 b, Int.pow_one, nv_succ]
  show (nv B30 (mgf f) 0 + mgf f 0 * B30 ^ 0 + B30 * nv B30 (fun i => mgf f (1 + i)) b) % 2 = f 1 % 2
  generalize nv B30 (fun i => mgf f (1 + i)) b = y
  show (0 + f 1 * B30 ^ 0 + B30 * y) % 2 = _
  rw [Int.pow_zero, show B30 = 1073741824 from rfl]
  omega
theorem loB_neg {v : Int} : ∀ {p : Nat}, loB v p < 0 → v % 2 ^ p = 0
  | 0, _ => by rw [Int.pow_zero]; omega
  | p + 1, h => by
    rcases Int.lt_or_le (loB v p) 0 with q | q
    · rcases bt_01 v p with c | c
      · rw [md_succ, loB_neg q, c]; omega
      · rw [loB_s1 c q] at h; omega
    · rw [loB_s2 q] at h; omega
theorem loB_even {v : Int} : ∀ {p : Nat}, 0 < loB v p → v % 2 = 0
  | 0, h => by unfold loB at h; omega
  | p + 1, h => by
    rcases Int.lt_or_le (loB v p) 0 with q | q
    · have := loB_neg q
      rcases Nat.eq_zero_or_pos p with e | e
      · subst e
        rcases bt_01 v 0 with c | c
        · unfold bt at c; rw [Int.pow_zero] at c; omega
        · rw [loB_s1 c q] at h; omega
      · obtain ⟨k, rfl⟩ : ∃ k, p = k + 1 := ⟨p - 1, by omega⟩
        have h2 : (2 : Int) ∣ v := Int.dvd_trans ⟨2 ^ k, by rw [Int.pow_succ, Int.mul_comm]⟩ (Int.dvd_of_emod_eq_zero this)
        omega
    · rw [loB_s2 q] at h
      exact loB_even h
theorem loB_pos {v : Int} {p : Nat} (h0 : 0 < v) (h1 : v < 2 ^ p) : 0 ≤ loB v p := by
  rcases Int.lt_or_le (loB v p) 0 with q | q
  · have := loB_neg q
    rw [Int.emod_eq_of_lt (by omega) h1] at this
    omega
  · exact q
theorem mg_lt2 {f : Nat → Int} {n : Nat} (h : DG f n) : mg f n < 2 ^ (30 * (n - 1)) := by
  rw [← B30_pow]; exact mg_lt h
set_option maxHeartbeats 4000000 in
set_option maxRecDepth 100000 in
theorem c_X8_lastG (l : Launch) {E : GE} {w : Wd} {a n : Nat} {b : Bool} {f : Nat → Int} (ha : w.2 a = some (b, eI n f)) (n1 : 1 ≤ n) (hd : DG f n) (hs : f 0 = 1) (hn : n ≤ 200) : Sp E l yX8_last cX8_last 4 (some .long) 0 (0) (0) [.ref a] w (fun r w' => r = some (jJ (mg f n)) ∧ w' = w) := by
  refine sp_intro [some (.ref a), none, none, none] rfl (Nat.le_of_ble_eq_true rfl) pn_X8 ?_
  intro X C hRm hl hnm hQ
  obtain ⟨hRf, hRl, hRc, hRs⟩ := hRm
  refine g_wf (fun hwf => ?_)
  have hm1 : mg f n = f 0 * mg f n := by rw [hs, Int.one_mul]
  generalize hz : mg f n = z at hm1
  refine g_lconst (z := 0) C dX8_last_0 (by decide) ?_
  refine g_lstore_n C dX8_last_1 (by decide) rfl ?_
  refine g_iconst C dX8_last_2 ?_
  refine g_istore_n C dX8_last_3 (by decide) rfl ?_
  refine g_loop (σ := Nat) (fun p => p + 1 ≤ n ∧ p ≤ 3) (fun p => G E X 4 4 [some (.ref a), some (jJ (nv B30 (mgf f) p)), none, some (iI ((p + 1 : Nat) : Int))] [] w 0 0) (fun p => n - p) ?_ 0 ⟨by omega, by omega⟩
  rintro p ⟨hp1, hp3⟩ ih
  refine g_iload_n C dX8_last_4 rfl ?_
  refine g_aload_n C dX8_last_5 rfl ?_
  refine g_alen C ha (Or.inl ⟨_, rfl⟩) dX8_last_6 ?_
  refine g_icmp_ge (tgt := 35) C dX8_last_7 (by decide) (by omega) (by omega) (fun h7 => ?_) (fun h7 => ?_)
  · have he : jJ (f 0 * nv B30 (mgf f) p) = jJ z := by
      rw [hm1, ← hz]
      rcases Nat.lt_or_ge (p + 1) n with q | q
      · have ep : p = 3 := by omega
        subst ep
        obtain ⟨b, hb⟩ : ∃ b, n - 1 = 3 + b := ⟨n - 4, by omega⟩
        unfold mg
        rw [hb, nv_split 3 b, show f 0 * (nv B30 (mgf f) 3 + B30 ^ 3 * nv B30 (fun i => mgf f (3 + i)) b) = f 0 * nv B30 (mgf f) 3 + 18446744073709551616 * (f 0 * 67108864 * nv B30 (fun i => mgf f (3 + i)) b) by rw [show B30 ^ 3 = 18446744073709551616 * 67108864 by decide]; grind, jJ_mod]
      · unfold mg
        rw [show n - 1 = p by omega]
    refine g_aload_n C dX8_last_35 rfl ?_
    refine g_iconst C dX8_last_36 ?_
    refine g_ialoadN (0) C ha (by omega) (by omega) dX8_last_37 ?_
    refine g_i2l C dX8_last_38 (by omega) ?_
    refine g_lload_n C dX8_last_39 rfl ?_
    refine g_lmul C dX8_last_40 ?_
    exact g_lreturn C hQ dX8_last_41 (Nat.le_refl _) (Nat.le_refl _) ⟨by rw [he, hz], rfl⟩
  · refine g_iload_n C dX8_last_10 rfl ?_
    refine g_iconst C dX8_last_11 ?_
    refine g_icmp_ge (tgt := 35) C dX8_last_12 (by decide) (by omega) (by omega) (fun h12 => ?_) (fun h12 => ?_)
    · have he : jJ (f 0 * nv B30 (mgf f) p) = jJ z := by
        rw [hm1, ← hz]
        rcases Nat.lt_or_ge (p + 1) n with q | q
        · have ep : p = 3 := by omega
          subst ep
          obtain ⟨b, hb⟩ : ∃ b, n - 1 = 3 + b := ⟨n - 4, by omega⟩
          unfold mg
          rw [hb, nv_split 3 b, show f 0 * (nv B30 (mgf f) 3 + B30 ^ 3 * nv B30 (fun i => mgf f (3 + i)) b) = f 0 * nv B30 (mgf f) 3 + 18446744073709551616 * (f 0 * 67108864 * nv B30 (fun i => mgf f (3 + i)) b) by rw [show B30 ^ 3 = 18446744073709551616 * 67108864 by decide]; grind, jJ_mod]
        · unfold mg
          rw [show n - 1 = p by omega]
      refine g_aload_n C dX8_last_35 rfl ?_
      refine g_iconst C dX8_last_36 ?_
      refine g_ialoadN (0) C ha (by omega) (by omega) dX8_last_37 ?_
      refine g_i2l C dX8_last_38 (by omega) ?_
      refine g_lload_n C dX8_last_39 rfl ?_
      refine g_lmul C dX8_last_40 ?_
      exact g_lreturn C hQ dX8_last_41 (Nat.le_refl _) (Nat.le_refl _) ⟨by rw [he, hz], rfl⟩
    · have hfk := hd (p + 1) (by omega) (by omega)
      refine g_lload_n C dX8_last_15 rfl ?_
      refine g_aload_n C dX8_last_16 rfl ?_
      refine g_iload_n C dX8_last_17 rfl ?_
      refine g_ialoadN (p + 1) C ha (by omega) (by omega) dX8_last_18 ?_
      refine g_i2l C dX8_last_19 (by omega) ?_
      refine g_bipush C dX8_last_20 (by decide) ?_
      refine g_iload_n C dX8_last_22 rfl ?_
      refine g_iconst C dX8_last_23 ?_
      refine g_isub C dX8_last_24 ?_
      refine g_imul C dX8_last_25 ?_
      refine g_lshl (z := f (p + 1) * 2 ^ (30 * p)) C dX8_last_26 (by have e : p = 0 ∨ p = 1 ∨ p = 2 := (by omega); rcases e with rfl | rfl | rfl <;> exact j_shl _ (by omega) (by decide)) ?_
      refine g_ladd C dX8_last_27 ?_
      refine g_lstore_n C dX8_last_28 (by decide) rfl ?_
      refine g_iinc C dX8_last_29 rfl (by decide) rfl ?_
      refine g_goto (tgt := 4) C dX8_last_32 (by decide) ?_
      rw [show nv B30 (mgf f) p + f (p + 1) * 2 ^ (30 * p) = nv B30 (mgf f) (p + 1) by rw [nv_succ, B30_pow]; rfl]
      exact ih (p + 1) ⟨by omega, by omega⟩ (by omega)
set_option maxHeartbeats 4000000 in
set_option maxRecDepth 100000 in
theorem c_X8_divisor (l : Launch) {E : GE} {w : Wd} {a1 a2 : Nat} {z1 z2 : Int} (r1 : RowAt w a1 z1 5) (r2 : RowAt w a2 z2 5) (h1 : 0 < z1) (h2 : 0 < z2) : Sp E l yX8_divisor cX8_divisor 9 (some .int) 2 (2) (10) [.ref a1, .ref a2] w (fun r w' => ∃ ans : Int, r = some (iI ans) ∧ (-2147483648 ≤ ans ∧ ans < 2147483648) ∧ (cop z1 z2 → ans = 1) ∧ Fr w w') := by
  refine sp_intro [some (.ref a1), some (.ref a2), none, none, none, none, none, none, none] rfl (Nat.le_of_ble_eq_true rfl) pn_X8 ?_
  intro X C hRm hl hnm hQ
  obtain ⟨hRf, hRl, hRc, hRs⟩ := hRm
  refine g_wf (fun hwf => ?_)
  obtain ⟨n1, f1, e1, b1, d1⟩ := id r1
  obtain ⟨n2, f2, e2, b2, d2⟩ := id r2
  have l1 := b1.n1
  have l2 := b2.n1
  have s1 := b1.s
  have s2 := b2.s
  have m1 := b1.m
  have m2 := b2.m
  have q1 : f1 0 = 1 ∧ 2 ≤ n1 := by omega
  rw [q1.1, Int.one_mul] at m1
  have g1 : f1 0 = 1 ∧ mg f1 n1 = z1 ∧ 2 ≤ n1 := ⟨q1.1, m1.symm, q1.2⟩
  have q2 : f2 0 = 1 ∧ 2 ≤ n2 := by omega
  rw [q2.1, Int.one_mul] at m2
  have g2 : f2 0 = 1 ∧ mg f2 n2 = z2 ∧ 2 ≤ n2 := ⟨q2.1, m2.symm, q2.2⟩
  obtain ⟨g1a, g1b, g1c⟩ := g1
  obtain ⟨g2a, g2b, g2c⟩ := g2
  have t1 := loB_r (mg f1 n1) (30 * (n1 - 1))
  have t2 := loB_r (mg f2 n2) (30 * (n2 - 1))
  have t1p := loB_pos (v := mg f1 n1) (by omega) (mg_lt2 b1.d)
  have t2p := loB_pos (v := mg f2 n2) (by omega) (mg_lt2 b2.d)
  have tev : cop z1 z2 → ¬ (0 < loB (mg f1 n1) (30 * (n1 - 1)) ∧ 0 < loB (mg f2 n2) (30 * (n2 - 1))) := by
    rintro hc ⟨c1, c2⟩
    have c1 := loB_even c1
    have c2 := loB_even c2
    rw [g1b] at c1; rw [g2b] at c2
    have := hc 2 (by omega) (by omega) (by omega)
    omega
  obtain ⟨W, hW, hW1, hW2, hW3⟩ : ∃ W : Nat, (if (n1 : Int) < (n2 : Int) then (n2 : Int) else (n1 : Int)) = (W : Int) ∧ n1 ≤ W ∧ n2 ≤ W ∧ W ≤ 5 := by
    by_cases c : (n1 : Int) < (n2 : Int)
    · exact ⟨n2, by rw [if_pos c], by omega, by omega, by omega⟩
    · exact ⟨n1, by rw [if_neg c], by omega, by omega, by omega⟩
  refine g_aload_n C dX8_divisor_0 rfl ?_
  refine g_iconst C dX8_divisor_1 ?_
  refine g_callS C (c_X8_bits _ e1 ⟨l1, by omega⟩ b1.d (what := 2) (by omega)) ml_RX8_121 sm_yX8_bits in_RX8 co_yX8_bits hd_X8_bits rfl ⟨by omega, by omega⟩ rfl (Nat.le_of_ble_eq_true rfl) ⟨by omega, by omega⟩ dX8_divisor_2 (fun v2 w2 hp2 => ?_)
  obtain ⟨rfl, hw2⟩ := hp2
  subst w2
  rw [if_neg (by decide), if_neg (by decide)]
  show G E X 9 5 _ [iI (loB (mg f1 n1) (30 * (n1 - 1)))] w 0 0
  refine g_aload_n C dX8_divisor_5 rfl ?_
  refine g_iconst C dX8_divisor_6 ?_
  refine g_callS C (c_X8_bits _ e2 ⟨l2, by omega⟩ b2.d (what := 2) (by omega)) ml_RX8_121 sm_yX8_bits in_RX8 co_yX8_bits hd_X8_bits rfl ⟨by omega, by omega⟩ rfl (Nat.le_of_ble_eq_true rfl) ⟨by omega, by omega⟩ dX8_divisor_7 (fun v7 w7 hp7 => ?_)
  obtain ⟨rfl, hw7⟩ := hp7
  subst w7
  rw [if_neg (by decide), if_neg (by decide)]
  show G E X 9 10 _ [iI (loB (mg f2 n2) (30 * (n2 - 1))), iI (loB (mg f1 n1) (30 * (n1 - 1)))] w 0 0
  refine g_min C ml_RX8_175 (by omega) (by omega) (by omega) (by omega) (Nat.le_of_ble_eq_true rfl) (by omega) dX8_divisor_10 ?_
  obtain ⟨tw, htw, htr⟩ : ∃ tw : Int, (if loB (mg f2 n2) (30 * (n2 - 1)) < loB (mg f1 n1) (30 * (n1 - 1)) then loB (mg f2 n2) (30 * (n2 - 1)) else loB (mg f1 n1) (30 * (n1 - 1))) = tw ∧ (cop z1 z2 → tw = 0) := ⟨_, rfl, fun hc => by have := tev hc; split <;> omega⟩
  rw [htw]
  refine g_istore_n C dX8_divisor_13 (by decide) rfl ?_
  refine g_aload_n C dX8_divisor_14 rfl ?_
  refine g_aload_n C dX8_divisor_15 rfl ?_
  refine g_alen C e1 (Or.inl ⟨_, rfl⟩) dX8_divisor_16 ?_
  refine g_aload_n C dX8_divisor_17 rfl ?_
  refine g_alen C e2 (Or.inl ⟨_, rfl⟩) dX8_divisor_18 ?_
  refine g_max C ml_RX8_71 (by omega) (by omega) (by omega) (by omega) (Nat.le_of_ble_eq_true rfl) (by omega) dX8_divisor_19 ?_
  rw [hW]
  refine g_callS C (c_X8_wide _ (W := W) e1 hW1 (by omega)) ml_RX8_178 sm_yX8_wide in_RX8 co_yX8_wide hd_X8_wide rfl ⟨by omega, by omega⟩ rfl (Nat.le_of_ble_eq_true rfl) ⟨by omega, by omega⟩ dX8_divisor_22 (fun v22 w22 hp22 => ?_)
  obtain ⟨x1, rfl, rfl, hx1⟩ := hp22
  refine g_astore_n C dX8_divisor_25 (by decide) rfl ?_
  refine g_aload_n C dX8_divisor_26 rfl ?_
  refine g_aload_n C dX8_divisor_27 rfl ?_
  refine g_alen C wpush_s (Or.inl ⟨_, rfl⟩) dX8_divisor_28 ?_
  have e2b : (wpush w (true, eI W x1)).2 a2 = some (true, eI n2 f2) := by rw [wpush_n (Nat.ne_of_lt (hwf a2 _ e2))]; exact e2
  refine g_callS C (c_X8_wide _ (W := W) e2b hW2 (by omega)) ml_RX8_178 sm_yX8_wide in_RX8 co_yX8_wide hd_X8_wide rfl ⟨by omega, by omega⟩ rfl (Nat.le_of_ble_eq_true rfl) ⟨by omega, by omega⟩ dX8_divisor_29 (fun v29 w29 hp29 => ?_)
  obtain ⟨y1, rfl, rfl, hy1⟩ := hp29
  refine g_astore C dX8_divisor_32 (by decide) rfl ?_
  have hxe : mg x1 W = z1 := by rw [mg_eq (f := x1) (g := ext f1 n1) (fun i h1 h2 => hx1 i h2), ext_mg (by omega) hW1]; exact g1b
  have hye : mg y1 W = z2 := by rw [mg_eq (f := y1) (g := ext f2 n2) (fun i h1 h2 => hy1 i h2), ext_mg (by omega) hW2]; exact g2b
  have hxd : DG x1 W := fun i h1 h2 => by rw [hx1 i h2]; exact ext_dg b1.d W i h1 h2
  have hyd : DG y1 W := fun i h1 h2 => by rw [hy1 i h2]; exact ext_dg b2.d W i h1 h2
  refine g_widen (k' := 2) (n' := W + W) (by omega) (by omega) ?_
  refine g_loop (σ := Wd × Nat × Nat × (Nat → Int) × (Nat → Int)) (fun s => s.1.2 s.2.1 = some (true, eI W s.2.2.2.1) ∧ s.1.2 s.2.2.1 = some (true, eI W s.2.2.2.2) ∧ s.2.1 ≠ s.2.2.1 ∧ Fr w s.1 ∧ w.1 ≤ s.2.1 ∧ w.1 ≤ s.2.2.1 ∧ DG s.2.2.2.1 W ∧ DG s.2.2.2.2 W ∧ s.2.2.2.1 0 = 1 ∧ s.2.2.2.2 0 = 1 ∧ 0 < mg s.2.2.2.2 W ∧ dv (mg s.2.2.2.1 W) (mg s.2.2.2.2 W) z1 z2)
    (fun s => G E X 9 34 [some (.ref a1), some (.ref a2), some (iI tw), some (.ref s.2.1), some (.ref s.2.2.1), none, none, none, none] [] s.1 2 (W + W)) (fun s => (mg s.2.2.2.1 W + mg s.2.2.2.2 W).toNat) ?_ (wpush (wpush w (true, eI W x1)) (true, eI W y1), w.1, w.1 + 1, x1, y1)
    ⟨by show (wpush (wpush w _) _).2 w.1 = _; rw [wpush_n (by show w.1 ≠ w.1 + 1; omega)]; exact wpush_s, wpush_s, by show w.1 ≠ w.1 + 1; omega, ((Fr.rf w).push _).push _, Nat.le_refl _, Nat.le_succ _, hxd, hyd, by show x1 0 = 1; rw [hx1 0 (by omega), ext_lo (by omega)]; exact g1a, by show y1 0 = 1; rw [hy1 0 (by omega), ext_lo (by omega)]; exact g2a, by show 0 < mg y1 W; omega, by show dv (mg x1 W) (mg y1 W) z1 z2; rw [hxe, hye]; exact fun d a b => ⟨a, b⟩⟩
  rintro ⟨u, p, q, fx, fy⟩ hq ih
  obtain ⟨hp, hqq, hpq, hfr, hlp, hlq, hdx, hdy, hx0, hy0, hYp, hdv⟩ := hq
  dsimp only at hp hqq hpq hfr hlp hlq hdx hdy hx0 hy0 hYp hdv ⊢
  have hX0 := mg_nonneg hdx
  clear hxe hye hxd hyd hx1 hy1
  refine g_aload_n C dX8_divisor_34 rfl ?_
  refine g_callS C (c_X8_isNone _ hp ⟨by omega, by omega⟩ hdx) ml_RX8_89 sm_yX8_isNone in_RX8 co_yX8_isNone hd_X8_isNone rfl ⟨by omega, by omega⟩ rfl (Nat.le_of_ble_eq_true rfl) ⟨by omega, by omega⟩ dX8_divisor_35 (fun v35 w35 hp35 => ?_)
  obtain ⟨⟨y35, rfl, hy35⟩, hw35⟩ := hp35
  subst w35
  refine g_if_ne (tgt := 157) C dX8_divisor_38 (by decide) (by omega) (fun h38 => ?_) (fun h38 => ?_)
  · refine g_aload C dX8_divisor_157 rfl ?_
    refine g_callS C (c_X8_lastG _ hqq (by omega) hdy hy0 (by omega)) ml_RX8_181 sm_yX8_last in_RX8 co_yX8_last hd_X8_last rfl ⟨by omega, by omega⟩ rfl (Nat.le_of_ble_eq_true rfl) ⟨by omega, by omega⟩ dX8_divisor_159 (fun v159 w159 hp159 => ?_)
    obtain ⟨rfl, hw159⟩ := hp159
    subst w159
    refine g_l2i C dX8_divisor_162 ?_
    refine g_iload_n C dX8_divisor_163 rfl ?_
    refine g_ishl (z := (Int32.ofInt (mg fy W) <<< (Int32.ofInt tw &&& 31)).toInt) C dX8_divisor_164 (i_of _) ?_
    exact g_ireturn C hQ dX8_divisor_165 (by omega) (by omega) ⟨_, rfl, i_rng _, fun hc => by
      have hX : mg fx W = 0 := by omega
      rw [hX] at hdv
      obtain ⟨k1, k2⟩ := hdv (mg fy W) ⟨0, by omega⟩ (Int.dvd_refl _)
      rw [hc _ hYp k1 k2, htr hc]
      decide, hfr⟩
  · have hXp : 0 < mg fx W := by omega
    refine g_loop (σ := Wd × (Nat → Int)) (fun s => s.1.2 p = some (true, eI W s.2) ∧ s.1.2 q = some (true, eI W fy) ∧ Fr w s.1 ∧ DG s.2 W ∧ s.2 0 = 1 ∧ 0 < mg s.2 W ∧ mg s.2 W ≤ mg fx W ∧ dv (mg s.2 W) (mg fy W) z1 z2)
      (fun s => G E X 9 41 [some (.ref a1), some (.ref a2), some (iI tw), some (.ref p), some (.ref q), none, none, none, none] [] s.1 2 (W + W)) (fun s => (mg s.2 W).toNat) ?_ (u, fx) ⟨hp, hqq, hfr, hdx, hx0, hXp, Int.le_refl _, hdv⟩
    clear hp hqq hfr hdv hx0
    rintro ⟨u1, gx⟩ hq ih1
    obtain ⟨hp, hqq, hfr, hgx, hx0, hgp, hgl, hdv⟩ := hq
    dsimp only at hp hqq hfr hgx hx0 hgp hgl hdv ⊢
    have hpar := mg_par (f := gx) (n := W) (by omega)
    have hgx1 := hgx 1 (by omega) (by omega)
    refine g_aload_n C dX8_divisor_41 rfl ?_
    refine g_iconst C dX8_divisor_42 ?_
    refine g_ialoadN (1) C hp (by omega) (by omega) dX8_divisor_43 ?_
    refine g_iconst C dX8_divisor_44 ?_
    refine g_iremN C dX8_divisor_45 (by omega) (by omega) ?_
    refine g_if_ne (tgt := 58) C dX8_divisor_46 (by decide) (by omega) (fun h46 => ?_) (fun h46 => ?_)
    · refine g_loop (σ := Wd × (Nat → Int)) (fun s => s.1.2 p = some (true, eI W gx) ∧ s.1.2 q = some (true, eI W s.2) ∧ Fr w s.1 ∧ DG s.2 W ∧ s.2 0 = 1 ∧ 0 < mg s.2 W ∧ mg s.2 W ≤ mg fy W ∧ dv (mg gx W) (mg s.2 W) z1 z2)
        (fun s => G E X 9 58 [some (.ref a1), some (.ref a2), some (iI tw), some (.ref p), some (.ref q), none, none, none, none] [] s.1 2 (W + W)) (fun s => (mg s.2 W).toNat) ?_ (u1, fy) ⟨hp, hqq, hfr, hdy, hy0, hYp, Int.le_refl _, hdv⟩
      clear hp hqq hfr hdv hy0
      rintro ⟨u2, gy⟩ hq ih2
      obtain ⟨hp, hqq, hfr, hgy, hy0, hgyp, hgyl, hdv⟩ := hq
      dsimp only at hp hqq hfr hgy hy0 hgyp hgyl hdv ⊢
      have hpar2 := mg_par (f := gy) (n := W) (by omega)
      have hgy1 := hgy 1 (by omega) (by omega)
      refine g_aload C dX8_divisor_58 rfl ?_
      refine g_iconst C dX8_divisor_60 ?_
      refine g_ialoadN (1) C hqq (by omega) (by omega) dX8_divisor_61 ?_
      refine g_iconst C dX8_divisor_62 ?_
      refine g_iremN C dX8_divisor_63 (by omega) (by omega) ?_
      refine g_if_ne (tgt := 77) C dX8_divisor_64 (by decide) (by omega) (fun h64 => ?_) (fun h64 => ?_)
      · have J96 : ∀ (p q : Nat) (gx gy : Nat → Int), u2.2 p = some (true, eI W gx) → u2.2 q = some (true, eI W gy) → p ≠ q → w.1 ≤ p → w.1 ≤ q → DG gx W → DG gy W → gx 0 = 1 → gy 0 = 1 → 0 < mg gy W → mg gy W ≤ mg gx W → mg gx W + mg gy W ≤ mg fx W + mg fy W → dv (mg gx W) (mg gy W) z1 z2 → G E X 9 96 [some (.ref a1), some (.ref a2), some (iI tw), some (.ref p), some (.ref q), none, none, none, none] [] u2 2 (W + W) := by
          clear hp hqq hpq hlp hlq hgx hgy hx0 hy0 hgyp hdv ih1 ih2 hpar hpar2 hgx1 hgy1 hgl hgyl hgp
          intro p q gx gy hp hqq hpq hlp hlq hgx hgy hx0 hy0 hgyp hle hsum hdv
          refine g_iconst C dX8_divisor_96 ?_
          refine g_istore C dX8_divisor_97 (by decide) rfl ?_
          refine g_iconst C dX8_divisor_99 ?_
          refine g_istore C dX8_divisor_100 (by decide) rfl ?_
          suffices hh : G E X 9 102 [some (.ref a1), some (.ref a2), some (iI tw), some (.ref p), some (.ref q), none, some (iI 0), some (iI 1), none] [] (wset u2 p (true, eI W gx)) 2 (W + W) by rw [wset_id hp] at hh; exact hh
          refine g_loop (σ := Nat × Int × (Nat → Int)) (fun s => s.1 + 1 ≤ W ∧ (s.2.1 = 0 ∨ s.2.1 = 1) ∧ DG s.2.2 (s.1 + 1) ∧ (∀ i, s.1 + 1 ≤ i → s.2.2 i = gx i) ∧ s.2.2 0 = 1 ∧ nv B30 (mgf s.2.2) s.1 = nv B30 (mgf gx) s.1 - nv B30 (mgf gy) s.1 + s.2.1 * B30 ^ s.1)
            (fun s => G E X 9 102 [some (.ref a1), some (.ref a2), some (iI tw), some (.ref p), some (.ref q), none, some (iI s.2.1), some (iI ((s.1 + 1 : Nat) : Int)), none] [] (wset u2 p (true, eI W s.2.2)) 2 (W + W)) (fun s => W - s.1) ?_ (0, 0, gx) ⟨by dsimp only; omega, Or.inl rfl, fun i h1 h2 => absurd h2 (by dsimp only; omega), fun i _ => rfl, hx0, rfl⟩
          rintro ⟨j, l, h⟩ hq ih3
          obtain ⟨hk1, hl, hdh, hhi, hh0, hv⟩ := hq
          dsimp only at hk1 hl hdh hhi hh0 hv ⊢
          have hpa : (wset u2 p (true, eI W h)).2 p = some (true, eI W h) := wset_s
          have hpa2 : (wset u2 p (true, eI W h)).2 q = some (true, eI W gy) := by rw [wset_n (Ne.symm hpq)]; exact hqq
          refine g_iload C dX8_divisor_102 rfl ?_
          refine g_aload_n C dX8_divisor_104 rfl ?_
          refine g_alen C hpa (Or.inl ⟨_, rfl⟩) dX8_divisor_105 ?_
          refine g_icmp_ge (tgt := 154) C dX8_divisor_106 (by decide) (by omega) (by omega) (fun h106 => ?_) (fun h106 => ?_)
          · refine g_goto (tgt := 34) C dX8_divisor_154 (by decide) ?_
            have ej : j + 1 = W := by omega
            have en : W - 1 = j := by omega
            have e1 : mg h W = mg gx W - mg gy W + l * B30 ^ j := by
              unfold mg
              rw [en]; exact hv
            have e2 := mg_lt (f := h) (n := W) (by rw [← ej]; exact hdh)
            rw [en] at e2
            have el : l = 0 := by
              rcases hl with c | c
              · exact c
              · rw [c, Int.one_mul] at e1; omega
            rw [el, Int.zero_mul, Int.add_zero] at e1
            refine g_drop 6 (g_drop 7 ?_)
            exact ih (wset u2 p (true, eI W h), p, q, h, gy) ⟨hpa, hpa2, hpq, hfr.set hlp _, hlp, hlq, by rw [← ej]; exact hdh, hgy, hh0, hy0, hgyp, by dsimp only; rw [e1]; exact hdv.sub⟩ (by dsimp only; omega)
          · have hfk := hgx (j + 1) (by omega) (by omega)
            have hgk := hgy (j + 1) (by omega) (by omega)
            refine g_aload_n C dX8_divisor_109 rfl ?_
            refine g_iload C dX8_divisor_110 rfl ?_
            refine g_ialoadN (j + 1) C hpa (by omega) (by omega) dX8_divisor_112 ?_
            rw [hhi (j + 1) (Nat.le_refl _)]
            refine g_aload C dX8_divisor_113 rfl ?_
            refine g_iload C dX8_divisor_115 rfl ?_
            refine g_ialoadN (j + 1) C hpa2 (by omega) (by omega) dX8_divisor_117 ?_
            refine g_isub C dX8_divisor_118 ?_
            refine g_iload C dX8_divisor_119 rfl ?_
            refine g_isub C dX8_divisor_121 ?_
            refine g_istore C dX8_divisor_122 (by decide) rfl ?_
            have J134 : ∀ l2 : Int, (l2 = 0 ∧ 0 ≤ gx (j + 1) - gy (j + 1) - l ∨ l2 = 1 ∧ gx (j + 1) - gy (j + 1) - l < 0) → G E X 9 134 [some (.ref a1), some (.ref a2), some (iI tw), some (.ref p), some (.ref q), none, some (iI l), some (iI ((j + 1 : Nat) : Int)), some (iI (gx (j + 1) - gy (j + 1) - l))] [iI l2] (wset u2 p (true, eI W h)) 2 (W + W) := by
              intro l2 hl2
              refine g_istore C dX8_divisor_134 (by decide) rfl ?_
              refine g_aload_n C dX8_divisor_136 rfl ?_
              refine g_iload C dX8_divisor_137 rfl ?_
              refine g_iload C dX8_divisor_139 rfl ?_
              refine g_iload C dX8_divisor_141 rfl ?_
              refine g_bipush C dX8_divisor_143 (by decide) ?_
              refine g_ishl (z := l2 * 1073741824) C dX8_divisor_145 (i_shl30 (by omega)) ?_
              refine g_iadd C dX8_divisor_146 ?_
              refine g_iastoreN (j + 1) C hpa (by omega) (by omega) dX8_divisor_147 ?_
              rw [wset_set]
              refine g_iinc C dX8_divisor_148 rfl (by decide) rfl ?_
              refine g_goto (tgt := 102) C dX8_divisor_151 (by decide) ?_
              refine g_drop 8 ?_
              exact ih3 (j + 1, l2, iup h (j + 1) (gx (j + 1) - gy (j + 1) - l + l2 * 1073741824)) ⟨by dsimp only; omega, by dsimp only; omega, fun i h1 h2 => by
                dsimp only at h2 ⊢
                by_cases c : i = j + 1
                · rw [c, iup_s]; omega
                · rw [iup_n c]; exact hdh i h1 (by omega), fun i hi => by
                dsimp only at hi ⊢
                rw [iup_n (by omega)]; exact hhi i (by omega), by dsimp only; rw [iup_n (by omega)]; exact hh0, by
                show nv B30 (mgf (iup h (j + 1) _)) (j + 1) = _
                rw [mgf_iup]
                exact sub_step hv (by show _ = gx (j + 1) - l - gy (j + 1) + l2 * B30; rw [show B30 = 1073741824 from rfl]; omega)⟩ (by dsimp only; omega)
            refine g_iload C dX8_divisor_124 rfl ?_
            refine g_if_ge (tgt := 133) C dX8_divisor_126 (by decide) (by omega) (fun h126 => ?_) (fun h126 => ?_)
            · refine g_iconst C dX8_divisor_133 ?_
              exact J134 _ (by omega)
            · refine g_iconst C dX8_divisor_129 ?_
              refine g_goto (tgt := 134) C dX8_divisor_130 (by decide) ?_
              exact J134 _ (by omega)
        refine g_aload_n C dX8_divisor_77 rfl ?_
        refine g_astore C dX8_divisor_78 (by decide) rfl ?_
        refine g_aload_n C dX8_divisor_80 rfl ?_
        refine g_aload C dX8_divisor_81 rfl ?_
        refine g_callS C (c_X8_bySize _ hp hqq ⟨by omega, by omega⟩ ⟨by omega, by omega⟩ hgx hgy (fun h => absurd h (Nat.lt_irrefl _)) (fun h => absurd h (Nat.lt_irrefl _))) ml_RX8_63 sm_yX8_bySize in_RX8 co_yX8_bySize hd_X8_bySize rfl ⟨by omega, by omega⟩ rfl (Nat.le_of_ble_eq_true rfl) ⟨by omega, by omega⟩ dX8_divisor_83 (fun v83 w83 hp83 => ?_)
        obtain ⟨⟨d83, rfl, hdr, hd83⟩, hw83⟩ := hp83
        subst w83
        refine g_if_ge (tgt := 96) C dX8_divisor_86 (by decide) (by omega) (fun h86 => ?_) (fun h86 => ?_)
        · refine g_drop 5 ?_
          first
          | exact J96 p q gx gy hp hqq hpq hlp hlq hgx hgy hx0 hy0 hgyp (by omega) (by omega) hdv
          | exact J96 q p gy gx hqq hp (Ne.symm hpq) hlq hlp hgy hgx hy0 hx0 hgp (by omega) (by omega) hdv.swap
        · refine g_aload C dX8_divisor_89 rfl ?_
          refine g_astore_n C dX8_divisor_91 (by decide) rfl ?_
          refine g_aload C dX8_divisor_92 rfl ?_
          refine g_astore C dX8_divisor_94 (by decide) rfl ?_
          refine g_drop 5 ?_
          first
          | exact J96 p q gx gy hp hqq hpq hlp hlq hgx hgy hx0 hy0 hgyp (by omega) (by omega) hdv
          | exact J96 q p gy gx hqq hp (Ne.symm hpq) hlq hlp hgy hgx hy0 hx0 hgp (by omega) (by omega) hdv.swap
      · refine g_aload C dX8_divisor_67 rfl ?_
        refine g_iconst C dX8_divisor_69 ?_
        refine g_callS C (c_X8_divide _ hqq ⟨by omega, by omega⟩ hgy (d := 2) (by omega)) ml_RX8_95 sm_yX8_divide in_RX8 co_yX8_divide hd_X8_divide rfl ⟨by omega, by omega⟩ rfl (Nat.le_of_ble_eq_true rfl) ⟨by omega, by omega⟩ dX8_divisor_70 (fun v70 w70 hp70 => ?_)
        obtain ⟨r70, h70, rfl, rfl, hd70, h700, hr0, hr1, hr2⟩ := hp70
        refine g_pop C dX8_divisor_73 rfl ?_
        refine g_goto (tgt := 58) C dX8_divisor_74 (by decide) ?_
        refine ih2 (wset u2 q (true, eI W h70), h70) ⟨by show (wset u2 q (true, eI W h70)).2 p = _; rw [wset_n hpq]; exact hp, wset_s, hfr.set hlq _, hd70, by show h70 0 = 1; rw [h700]; exact hy0, by dsimp only; omega, by dsimp only; omega, (show dv (mg gx W) (mg h70 W) z1 z2 from hdv.half2 (by omega))⟩ (by dsimp only; omega)
    · refine g_aload_n C dX8_divisor_49 rfl ?_
      refine g_iconst C dX8_divisor_50 ?_
      refine g_callS C (c_X8_divide _ hp ⟨by omega, by omega⟩ hgx (d := 2) (by omega)) ml_RX8_95 sm_yX8_divide in_RX8 co_yX8_divide hd_X8_divide rfl ⟨by omega, by omega⟩ rfl (Nat.le_of_ble_eq_true rfl) ⟨by omega, by omega⟩ dX8_divisor_51 (fun v51 w51 hp51 => ?_)
      obtain ⟨r51, h51, rfl, rfl, hd51, h510, hr0, hr1, hr2⟩ := hp51
      refine g_pop C dX8_divisor_54 rfl ?_
      refine g_goto (tgt := 41) C dX8_divisor_55 (by decide) ?_
      refine ih1 (wset u1 p (true, eI W h51), h51) ⟨wset_s, by show (wset u1 p (true, eI W h51)).2 q = _; rw [wset_n (Ne.symm hpq)]; exact hqq, hfr.set hlp _, hd51, by show h51 0 = 1; rw [h510]; exact hx0, by dsimp only; omega, by dsimp only; omega, (show dv (mg h51 W) (mg fy W) z1 z2 from hdv.half (by omega))⟩ (by dsimp only; omega)
/-! what holds of a walk at each step: CROSS, NORM, signs; checked for every base -/
def wkG (b r : Int) (k : Nat) (c : Int × Int × Int) (p q : Int × Int) : Bool :=
  decide (p.1 * q.2 - p.2 * q.1 = if k % 2 = 1 then 1 else -1) && decide (p.1 * p.1 - b * (q.1 * q.1) = if k % 2 = 1 then (cfN b r c).2.1 else -(cfN b r c).2.1) && decide (0 < p.1) && decide (0 < q.1) && decide (p.1 ≤ 10 * q.1)
def wkAll (b r : Int) : Nat → Nat → Int × Int × Int → Int × Int → Int × Int → Bool
  | 0, k, c, p, q => wkG b r k c p q
  | n + 1, k, c, p, q => wkG b r k c p q && wkAll b r n (k + 1) (cfN b r c) ((cfN b r c).2.2 * p.1 + p.2, p.1) ((cfN b r c).2.2 * q.1 + q.2, q.1)
theorem wkAll_at {b r : Int} : ∀ {n k j : Nat}, wkAll b r n j (cf b r j) (pq b r 1 r j) (pq b r 0 1 j) = true → k ≤ n → wkG b r (j + k) (cf b r (j + k)) (pq b r 1 r (j + k)) (pq b r 0 1 (j + k)) = true
  | 0, k, j, h, hk => by
    rw [show k = 0 by omega]; exact h
  | n + 1, k, j, h, hk => by
    simp only [wkAll, Bool.and_eq_true] at h
    rcases Nat.eq_zero_or_pos k with q | q
    · rw [q]; exact h.1
    · have := wkAll_at (n := n) (k := k - 1) (j := j + 1) h.2 (by omega)
      rw [show j + 1 + (k - 1) = j + k by omega] at this
      exact this
theorem wk_chk : ((List.range 10).all fun r => (List.range (2 * r)).all fun t => wkAll ((r * r + 1 + t : Nat) : Int) (r : Int) 25 0 (0, 1, (r : Int)) ((r : Int), 1) (1, 0)) = true := by decide +kernel
theorem wk_good {b r : Int} (hb : GB b) (hr : RT b r) {k : Nat} (hk : k ≤ 25) : (pq b r 1 r k).1 * (pq b r 0 1 k).2 - (pq b r 1 r k).2 * (pq b r 0 1 k).1 = (if k % 2 = 1 then 1 else -1) ∧ (pq b r 1 r k).1 * (pq b r 1 r k).1 - b * ((pq b r 0 1 k).1 * (pq b r 0 1 k).1) = (if k % 2 = 1 then (cf b r (k + 1)).2.1 else -(cf b r (k + 1)).2.1) ∧ 0 < (pq b r 1 r k).1 ∧ 0 < (pq b r 0 1 k).1 ∧ (pq b r 1 r k).1 ≤ 10 * (pq b r 0 1 k).1 := by
  have h := all_bases (P := fun b r => wkAll b r 25 0 (0, 1, r) (r, 1) (1, 0)) wk_chk hb hr
  have := wkAll_at (n := 25) (k := k) (j := 0) h hk
  rw [Nat.zero_add] at this
  simp only [wkG, Bool.and_eq_true, decide_eq_true_eq] at this
  obtain ⟨⟨⟨⟨h1, h2⟩, h3⟩, h4⟩, h5⟩ := this
  exact ⟨h1, h2, h3, h4, h5⟩
/-- what test() tells -/
def tstV (b r : Int) (k : Nat) (what : Int) : Int := if what = 0 then 1 else if what = 1 then (if k % 2 = 1 then 1 else -1) else (if k % 2 = 1 then (cf b r (k + 1)).2.1 else -(cf b r (k + 1)).2.1)
theorem wk_cop {b r : Int} (hb : GB b) (hr : RT b r) {k : Nat} (hk : k ≤ 25) {d : Int} (h0 : 0 < d) (h1 : d ∣ (pq b r 1 r k).1) (h2 : d ∣ (pq b r 0 1 k).1) : d = 1 := by
  have h := (wk_good hb hr hk).1
  have a1 : d ∣ (pq b r 1 r k).1 * (pq b r 0 1 k).2 := Int.dvd_mul_of_dvd_left h1
  have a2 : d ∣ (pq b r 1 r k).2 * (pq b r 0 1 k).1 := Int.dvd_mul_of_dvd_right h2
  have a3 := Int.dvd_sub a1 a2
  rw [h] at a3
  have a4 : d ∣ 1 := by
    split at a3
    · exact a3
    · exact Int.dvd_neg.mp a3
  exact Int.eq_one_of_dvd_one (by omega) a4
theorem tst_abs {b r : Int} (hb : GB b) (hr : RT b r) {k : Nat} (hk : k ≤ 25) : (if 0 ≤ tstV b r k 2 then tstV b r k 2 else 0 - tstV b r k 2) = (cf b r (k + 1)).2.1 := by
  have := cf_good hb hr (k := k + 1) (by omega)
  have e : tstV b r k 2 = (if k % 2 = 1 then (cf b r (k + 1)).2.1 else -(cf b r (k + 1)).2.1) := by
    unfold tstV
    rw [if_neg (show ¬ (2 : Int) = 0 by decide), if_neg (show ¬ (2 : Int) = 1 by decide)]
  rw [e]
  by_cases c : k % 2 = 1
  · rw [if_pos c, if_pos (by omega)]
  · rw [if_neg c]
    split <;> omega
theorem tst_r {b r : Int} (hb : GB b) (hr : RT b r) {k : Nat} (hk : k ≤ 25) (what : Int) : -18 ≤ tstV b r k what ∧ tstV b r k what ≤ 18 := by
  have := cf_good hb hr (k := k + 1) (by omega)
  have := RT_le hb hr
  unfold tstV
  split
  · omega
  · split
    · split <;> omega
    · split <;> omega
def nearO (b r t : Int) (k : Nat) : Int := t * (cf b r (k + 1)).2.1 * (pq b r 0 1 (k + 1)).1 - (pq b r 1 r k).1
def nearP (b r t : Int) (k : Nat) : Prop := nearO b r t k < 0 ∨ nearO b r t k * nearO b r t k < b * ((pq b r 0 1 k).1 * (pq b r 0 1 k).1)
/-- what is left at each place of a division -/
def lfD (P Q : Int) : Nat → Int
  | 0 => P
  | k + 1 => 10 * (lfD P Q k % Q)
theorem lfD_r {P Q : Int} (hP : 0 ≤ P) (hPQ : P ≤ 10 * Q) (hQ : 0 < Q) : ∀ k : Nat, 0 ≤ lfD P Q k ∧ lfD P Q k ≤ 10 * Q
  | 0 => ⟨hP, hPQ⟩
  | k + 1 => by
    have h1 := Int.emod_nonneg (lfD P Q k) (b := Q) (by omega)
    have h2 := Int.emod_lt_of_pos (lfD P Q k) hQ
    show 0 ≤ 10 * (lfD P Q k % Q) ∧ 10 * (lfD P Q k % Q) ≤ 10 * Q
    omega
theorem pq_cap {b r x0 x1 : Int} (hb : GB b) (hr : RT b r) (h0 : 0 ≤ x0 ∧ x0 ≤ 1) (h1 : 0 ≤ x1 ∧ x1 ≤ 9) {k : Nat} (hk : k ≤ 25) : 0 ≤ (pq b r x0 x1 k).1 ∧ (pq b r x0 x1 k).1 ≤ 1768453418076865701195582595329481 := by
  obtain ⟨h1, h2, -⟩ := pq_r hb hr h0 h1 (k := k) (by omega)
  refine ⟨h1, Int.le_trans h2 ?_⟩
  have e : (19 : Int) ^ 26 = 19 ^ (k + 1) * 19 ^ (25 - k) := by rw [← Int.pow_add]; congr 1; omega
  have p1 : (0 : Int) < 19 ^ (k + 1) := Int.pow_pos (by decide)
  have p2 : (1 : Int) ≤ 19 ^ (25 - k) := Int.pow_pos (n := 19) (by decide)
  have := Int.mul_le_mul_of_nonneg_left p2 (Int.le_of_lt p1)
  rw [← e] at this
  have e2 : (19 : Int) ^ 26 = 1768453418076865701195582595329481 := by decide +kernel
  omega
set_option maxHeartbeats 4000000 in
set_option maxRecDepth 100000 in
theorem c_X8_tested (l : Launch) {E : GE} {w : Wd} {b r what : Int} {K q lo : Nat} (hb : GB b) (hr : RT b r) (hK : K ≤ 25) (hR : R4 lo w q (pq b r 1 r K).1 (pq b r 0 1 K).1 (pq b r 1 r K).2 (pq b r 0 1 K).2) (hw : 0 ≤ what ∧ what ≤ 2) : Sp E l yX8_tested cX8_tested 3 (some .int) 5 (11) (124) [iI b, .ref q, iI what] w (fun r1 w' => r1 = some (iI (tstV b r K what)) ∧ Ex w w') := by
  refine sp_intro [some (iI b), some (.ref q), some (iI what)] rfl (Nat.le_of_ble_eq_true rfl) pn_X8 ?_
  intro X C hRm hl hnm hQ
  obtain ⟨hRf, hRl, hRc, hRs⟩ := hRm
  refine g_wf (fun hwf => ?_)
  obtain ⟨R, a0, a1, a2, a3, hR0, k0, k1, k2, k3, l0, l1, l2, l3, lo0, lo1, lo2, lo3⟩ := id hR
  obtain ⟨n0, f0, e0, b0, d0⟩ := id l0
  obtain ⟨n1, f1, e1, b1, d1⟩ := id l1
  obtain ⟨n2, f2, e2, b2, d2⟩ := id l2
  obtain ⟨n3, f3, e3, b3, d3⟩ := id l3
  obtain ⟨wk1, wk2, wk3, wk4, wk5⟩ := wk_good hb hr hK
  have hb1 := hb.1
  have hb2 := hb.2.1
  refine g_iload_n C dX8_tested_0 rfl ?_
  refine g_if_ne (tgt := 14) C dX8_tested_1 (by decide) (by omega) (fun h1 => ?_) (fun h1 => ?_)
  · have J53 : ∀ (qq mm : Nat) (g : Nat → Int) (z : Int) (u : Wd), u.2 qq = some (true, eI mm g) → BN g mm z → mm ≤ 25 → Ex w u → z = tstV b r K what → G E X 3 53 [some (iI b), some (.ref q), some (iI what)] [.ref qq] u 11 124 := by
      intro qq mm g z u hqq hbb hmm xu hz
      refine g_callS C (c_X8_last _ hqq hbb (by omega)) ml_RX8_181 sm_yX8_last in_RX8 co_yX8_last hd_X8_last rfl ⟨by omega, by omega⟩ rfl (Nat.le_of_ble_eq_true rfl) ⟨by omega, by omega⟩ dX8_tested_53 (fun v53 w53 hp53 => ?_)
      obtain ⟨rfl, hw53⟩ := hp53
      subst w53
      refine g_l2i C dX8_tested_56 ?_
      exact g_ireturn C hQ dX8_tested_57 (by omega) (by omega) ⟨by rw [hz], xu⟩
    refine g_iload_n C dX8_tested_14 rfl ?_
    refine g_iconst C dX8_tested_15 ?_
    refine g_icmp_ne (tgt := 43) C dX8_tested_16 (by decide) (by omega) (by omega) (fun h16 => ?_) (fun h16 => ?_)
    · refine g_iload_n C dX8_tested_43 rfl ?_
      refine g_aload_n C dX8_tested_44 rfl ?_
      refine g_iconst C dX8_tested_45 ?_
      refine g_aaloadN (0) C rfl rfl hR0 (by omega) (by omega) k0 dX8_tested_46 ?_
      refine g_aload_n C dX8_tested_47 rfl ?_
      refine g_iconst C dX8_tested_48 ?_
      refine g_aaloadN (1) C rfl rfl hR0 (by omega) (by omega) k1 dX8_tested_49 ?_
      refine g_callS C (c_X8_norm _ (c := 5) e0 e1 b0 b1 (by omega) (by omega) (by omega) (by omega)) ml_RX8_188 sm_yX8_norm in_RX8 co_yX8_norm hd_X8_norm rfl ⟨by omega, by omega⟩ rfl (Nat.le_of_ble_eq_true rfl) ⟨by omega, by omega⟩ dX8_tested_50 (fun v50 w50 hp50 => ?_)
      obtain ⟨q50, m50, g50, rfl, h50, hb50, hm50, hx50, hq50⟩ := hp50
      first
      | exact g_widen (by omega) (by omega) (J53 q37 m37 g37 _ _ h37 hb37 (by omega) ((hx25.tr hx34).tr hx37) (by unfold tstV; rw [if_neg (by omega), if_pos (by omega)]; exact wk1))
      | exact g_widen (by omega) (by omega) (J53 q50 m50 g50 _ _ h50 hb50 (by omega) hx50 (by unfold tstV; rw [if_neg (by omega), if_neg (by omega)]; exact wk2))
    · refine g_aload_n C dX8_tested_19 rfl ?_
      refine g_iconst C dX8_tested_20 ?_
      refine g_aaloadN (0) C rfl rfl hR0 (by omega) (by omega) k0 dX8_tested_21 ?_
      refine g_aload_n C dX8_tested_22 rfl ?_
      refine g_iconst C dX8_tested_23 ?_
      refine g_aaloadN (3) C rfl rfl hR0 (by omega) (by omega) k3 dX8_tested_24 ?_
      refine g_callS C (c_X8_times _ (c := 10) e0 e3 b0 b3 (by omega) (by omega)) ml_RX8_124 sm_yX8_times in_RX8 co_yX8_times hd_X8_times rfl ⟨by omega, by omega⟩ rfl (Nat.le_of_ble_eq_true rfl) ⟨by omega, by omega⟩ dX8_tested_25 (fun v25 w25 hp25 => ?_)
      obtain ⟨q25, m25, g25, rfl, h25, hb25, hm25, hx25, hq25⟩ := hp25
      refine g_aload_n C dX8_tested_28 rfl ?_
      refine g_iconst C dX8_tested_29 ?_
      refine g_aaloadN (2) C rfl rfl (hx25.2 _ _ hR0) (by omega) (by omega) k2 dX8_tested_30 ?_
      refine g_aload_n C dX8_tested_31 rfl ?_
      refine g_iconst C dX8_tested_32 ?_
      refine g_aaloadN (1) C rfl rfl (hx25.2 _ _ hR0) (by omega) (by omega) k1 dX8_tested_33 ?_
      refine g_callS C (c_X8_times _ (c := 10) (hx25.2 _ _ e2) (hx25.2 _ _ e1) b2 b1 (by omega) (by omega)) ml_RX8_124 sm_yX8_times in_RX8 co_yX8_times hd_X8_times rfl ⟨by omega, by omega⟩ rfl (Nat.le_of_ble_eq_true rfl) ⟨by omega, by omega⟩ dX8_tested_34 (fun v34 w34 hp34 => ?_)
      obtain ⟨q34, m34, g34, rfl, h34, hb34, hm34, hx34, hq34⟩ := hp34
      refine g_callS C (c_X8_minus _ (c := 10) (hx34.2 _ _ h25) h34 hb25 hb34 hm25 hm34 (by omega)) ml_RX8_127 sm_yX8_minus in_RX8 co_yX8_minus hd_X8_minus rfl ⟨by omega, by omega⟩ rfl (Nat.le_of_ble_eq_true rfl) ⟨by omega, by omega⟩ dX8_tested_37 (fun v37 w37 hp37 => ?_)
      obtain ⟨q37, m37, g37, rfl, h37, hb37, hm37, hx37, hq37⟩ := hp37
      refine g_goto (tgt := 53) C dX8_tested_40 (by decide) ?_
      first
      | exact g_widen (by omega) (by omega) (J53 q37 m37 g37 _ _ h37 hb37 (by omega) ((hx25.tr hx34).tr hx37) (by unfold tstV; rw [if_neg (by omega), if_pos (by omega)]; exact wk1))
      | exact g_widen (by omega) (by omega) (J53 q50 m50 g50 _ _ h50 hb50 (by omega) hx50 (by unfold tstV; rw [if_neg (by omega), if_neg (by omega)]; exact wk2))
  · refine g_aload_n C dX8_tested_4 rfl ?_
    refine g_iconst C dX8_tested_5 ?_
    refine g_aaloadN (0) C rfl rfl hR0 (by omega) (by omega) k0 dX8_tested_6 ?_
    refine g_aload_n C dX8_tested_7 rfl ?_
    refine g_iconst C dX8_tested_8 ?_
    refine g_aaloadN (1) C rfl rfl hR0 (by omega) (by omega) k1 dX8_tested_9 ?_
    refine g_callS C (c_X8_divisor _ l0 l1 wk3 wk4) ml_RX8_185 sm_yX8_divisor in_RX8 co_yX8_divisor hd_X8_divisor rfl ⟨by omega, by omega⟩ rfl (Nat.le_of_ble_eq_true rfl) ⟨by omega, by omega⟩ dX8_tested_10 (fun v10 w10 hp10 => ?_)
    obtain ⟨a10, rfl, r10, hc10, fr10⟩ := hp10
    have := hc10 (fun d h0 h1 h2 => wk_cop hb hr hK h0 h1 h2)
    subst this
    exact g_ireturn C hQ dX8_tested_13 (by omega) (by omega) ⟨by unfold tstV; rw [if_pos (by omega)], fr10.ex hwf⟩
set_option maxHeartbeats 4000000 in
set_option maxRecDepth 100000 in
theorem c_X8_test (l : Launch) {E : GE} {w : Wd} {v what : Int} (h_v : -2147483648 ≤ v ∧ v < 2147483648) (h_what : -2147483648 ≤ what ∧ what < 2147483648) {τ : Nat → Nat} {m : Nat} {A : MA} {th : Int} {ba st pb le ri : Nat → Int} {sp : Nat → Nat → Int} {ct : Nat → Int} (hM : MSx τ w m A th ba st pb le ri sp ct) (hB : ∀ i, i < 3 → GB (ba i)) (hS : ∀ i, i < 3 → 0 ≤ st i ∧ st i ≤ 24) : Sp E l yX8_test cX8_test 3 (some .int) 6 (21) (172) [.ref m, iI v, iI what] w (fun r' w' => ∃ (t ans : Int), r' = some (iI ans) ∧ MSx τ w' m A (t) (ba) (st) (pb) (le) (ri) (sp) (ct) ∧ Keep τ w w' ∧ (¬ (0 ≤ v ∧ v ≤ 2) ∧ t = 1 ∧ ans = 0 ∨ (0 ≤ v ∧ v ≤ 2) ∧ ¬ (0 ≤ what ∧ what ≤ 2) ∧ t = 2 ∧ ans = 0 ∨ (0 ≤ v ∧ v ≤ 2) ∧ (0 ≤ what ∧ what ≤ 2) ∧ t = 0 ∧ ∃ r, RT (ba v.toNat) r ∧ ans = tstV (ba v.toNat) r (st v.toNat).toNat what)) := by
  refine sp_intro [some (.ref m), some (iI v), some (iI what)] rfl (Nat.le_of_ble_eq_true rfl) pn_X8 ?_
  intro X C hRm hl hnm hQ
  obtain ⟨hRf, hRl, hRc, hRs⟩ := hRm
  refine g_wf (fun hwf => ?_)
  refine g_aload_n C dX8_test_0 rfl ?_
  refine g_iload_n C dX8_test_1 rfl ?_
  refine g_callS C (c_X8_isNo _ (v := v) h_v) ml_RX8_145 sm_yX8_isNo in_RX8 co_yX8_isNo hd_X8_isNo rfl ⟨by omega, by omega⟩ rfl (Nat.le_of_ble_eq_true rfl) ⟨by omega, by omega⟩ dX8_test_2 (fun v2 w2 hp2 => ?_)
  obtain ⟨rfl, hw2⟩ := hp2
  subst w2
  refine g_iconst C dX8_test_5 ?_
  refine g_callV C (c_X8_start _ hM (y := bI (¬ (0 ≤ v ∧ v ≤ 2))) (wh := 1) (bI_01 _) (by omega)) (ci := 10) rfl hM.o rfl ml_RX8_149 im_yX8_start se_RX8_yX8_start in_RX8 co_yX8_start hd_X8_start rfl ⟨by omega, by omega⟩ rfl (Nat.le_of_ble_eq_true rfl) ⟨by omega, by omega⟩ dX8_test_6 (fun v6 w6 hp6 => ?_)
  obtain ⟨t6, rfl, ht6, hM6, hK6⟩ := hp6
  have hy6 : (bI (¬ (0 ≤ v ∧ v ≤ 2))) = 0 ∨ (bI (¬ (0 ≤ v ∧ v ≤ 2))) = 1 := (bI_01 _)
  refine g_if_ne (tgt := 34) C dX8_test_9 (by decide) (bI_r _) (fun h9 => ?_) (fun h9 => ?_)
  · refine g_iconst C dX8_test_34 ?_
    refine g_goto (tgt := 53) C dX8_test_35 (by decide) ?_
    exact g_ireturn C hQ dX8_test_53 (by omega) (by omega) (by
      first
      | exact ⟨t, _, rfl, hM7.ex (x1.tr x2), hK67.tr (Keep.ex (x1.tr x2)), Or.inr (Or.inr ⟨hwk, by omega, by omega, r, hr, rfl⟩)⟩
      | exact ⟨t, _, rfl, hM7, hK67, Or.inr (Or.inl ⟨hwk, by have := bI_1 h31; omega, by have := bI_1 h31; omega, rfl⟩)⟩
      | exact ⟨t6, _, rfl, hM6, hK6, Or.inl ⟨bI_1 h9, by omega, rfl⟩⟩)
  · refine g_aload_n C dX8_test_12 rfl ?_
    refine g_iload_n C dX8_test_13 rfl ?_
    refine g_iconst C dX8_test_14 ?_
    refine g_iconst C dX8_test_15 ?_
    refine g_callS C (c_X8_isIn _ (v := what) (a := 0) (b := 2) h_what (by omega) (by omega)) ml_RX8_49 sm_yX8_isIn in_RX8 co_yX8_isIn hd_X8_isIn rfl ⟨by omega, by omega⟩ rfl (Nat.le_of_ble_eq_true rfl) ⟨by omega, by omega⟩ dX8_test_16 (fun v16 w16 hp16 => ?_)
    obtain ⟨rfl, hw16⟩ := hp16
    subst w16
    have J27 : ∀ y : Int, (y = 0 ∧ (0 ≤ what ∧ what ≤ 2) ∨ y = 1 ∧ ¬ (0 ≤ what ∧ what ≤ 2)) → G E X 3 27 [some (.ref m), some (iI v), some (iI what)] [iI y, .ref m] w6 0 0 := by
      intro y hy
      have hwk : 0 ≤ v ∧ v ≤ 2 := Classical.not_not.mp (bI_0 (Classical.not_not.mp h9))
      refine g_iconst C dX8_test_27 ?_
      refine g_callV C (c_X8_refuse _ hM6 (y := y) (wh := 2) (by omega) (by omega) (by omega)) (ci := 10) rfl hM6.o rfl ml_RX8_45 im_yX8_refuse se_RX8_yX8_refuse in_RX8 co_yX8_refuse hd_X8_refuse rfl ⟨by omega, by omega⟩ rfl (Nat.le_of_ble_eq_true rfl) ⟨by omega, by omega⟩ dX8_test_28 (fun v28 w28 hp28 => ?_)
      obtain ⟨t, rfl, ht, hM7, hK7⟩ := hp28
      have hy7 : (y) = 0 ∨ (y) = 1 := (by omega)
      have hK67 := hK6.tr hK7
      refine g_if_eq (tgt := 38) C dX8_test_31 (by decide) (bI_r _) (fun h31 => ?_) (fun h31 => ?_)
      · have htz : ¬ (0 < t) := bI_0 h31
        obtain ⟨V, rfl⟩ := Int.eq_ofNat_of_zero_le hwk.1
        have hg := hB V (by omega)
        obtain ⟨r, hr⟩ := RT_ex hg
        have hsv := hS V (by omega)
        refine g_aload_n C dX8_test_38 rfl ?_
        refine g_get (ci := 10) C rfl inTX8 1 (by decide) fl_RX8_9 rfl hM7.o rfl dX8_test_39 ?_
        refine g_iload_n C dX8_test_42 rfl ?_
        refine g_ialoadN (V) C hM7.b (by omega) (by omega) dX8_test_43 ?_
        refine g_aload_n C dX8_test_44 rfl ?_
        refine g_iload_n C dX8_test_45 rfl ?_
        refine g_callV C (c_X8_at _ hM7 (i := V) (r := r) (by omega) hg hr hsv) (ci := 10) rfl hM7.o rfl ml_RX8_167 im_yX8_at se_RX8_yX8_at in_RX8 co_yX8_at hd_X8_at rfl ⟨by omega, by omega⟩ rfl (Nat.le_of_ble_eq_true rfl) ⟨by omega, by omega⟩ dX8_test_46 (fun v46 w46 hp46 => ?_)
        obtain ⟨q, rfl, hR, x1, hq⟩ := hp46
        refine g_iload_n C dX8_test_49 rfl ?_
        refine g_callS C (c_X8_tested _ (what := what) hg hr (by omega) hR (by omega)) ml_RX8_192 sm_yX8_tested in_RX8 co_yX8_tested hd_X8_tested rfl ⟨by omega, by omega⟩ rfl (Nat.le_of_ble_eq_true rfl) ⟨by omega, by omega⟩ dX8_test_50 (fun v50 w50 hp50 => ?_)
        obtain ⟨rfl, x2⟩ := hp50
        exact g_ireturn C hQ dX8_test_53 (by omega) (by omega) (by
          first
          | exact ⟨t, _, rfl, hM7.ex (x1.tr x2), hK67.tr (Keep.ex (x1.tr x2)), Or.inr (Or.inr ⟨hwk, by omega, by omega, r, hr, rfl⟩)⟩
          | exact ⟨t, _, rfl, hM7, hK67, Or.inr (Or.inl ⟨hwk, by have := bI_1 h31; omega, by have := bI_1 h31; omega, rfl⟩)⟩
          | exact ⟨t6, _, rfl, hM6, hK6, Or.inl ⟨bI_1 h9, by omega, rfl⟩⟩)
      · refine g_iconst C dX8_test_34 ?_
        refine g_goto (tgt := 53) C dX8_test_35 (by decide) ?_
        exact g_ireturn C hQ dX8_test_53 (by omega) (by omega) (by
          first
          | exact ⟨t, _, rfl, hM7.ex (x1.tr x2), hK67.tr (Keep.ex (x1.tr x2)), Or.inr (Or.inr ⟨hwk, by omega, by omega, r, hr, rfl⟩)⟩
          | exact ⟨t, _, rfl, hM7, hK67, Or.inr (Or.inl ⟨hwk, by have := bI_1 h31; omega, by have := bI_1 h31; omega, rfl⟩)⟩
          | exact ⟨t6, _, rfl, hM6, hK6, Or.inl ⟨bI_1 h9, by omega, rfl⟩⟩)
    refine g_if_ne (tgt := 26) C dX8_test_19 (by decide) (bI_r _) (fun h19 => ?_) (fun h19 => ?_)
    · refine g_iconst C dX8_test_26 ?_
      exact J27 _ (by first | exact Or.inl ⟨rfl, bI_1 h19⟩ | exact Or.inr ⟨rfl, bI_0 (Classical.not_not.mp h19)⟩)
    · refine g_iconst C dX8_test_22 ?_
      refine g_goto (tgt := 27) C dX8_test_23 (by decide) ?_
      exact J27 _ (by first | exact Or.inl ⟨rfl, bI_1 h19⟩ | exact Or.inr ⟨rfl, bI_0 (Classical.not_not.mp h19)⟩)
set_option maxHeartbeats 4000000 in
set_option maxRecDepth 100000 in
theorem c_X8_isNear (l : Launch) {E : GE} {w : Wd} {v x : Int} (h_v : -2147483648 ≤ v ∧ v < 2147483648) (h_x : -2147483648 ≤ x ∧ x < 2147483648) {τ : Nat → Nat} {m : Nat} {A : MA} {th : Int} {ba st pb le ri : Nat → Int} {sp : Nat → Nat → Int} {ct : Nat → Int} (hM : MSx τ w m A th ba st pb le ri sp ct) (hB : ∀ i, i < 3 → GB (ba i)) (hS : ∀ i, i < 3 → 0 ≤ st i ∧ st i ≤ 24) : Sp E l yX8_isNear cX8_isNear 6 (some .boolean) 6 (46) (380) [.ref m, iI v, iI x] w (fun r' w' => ∃ (t ans : Int), r' = some (iI ans) ∧ MSx τ w' m A (t) (ba) (st) (pb) (le) (ri) (sp) (ct) ∧ Keep τ w w' ∧ (¬ (0 ≤ v ∧ v ≤ 2) ∧ t = 1 ∧ ans = 0 ∨ (0 ≤ v ∧ v ≤ 2) ∧ ¬ (1 ≤ x ∧ x ≤ 3) ∧ t = 2 ∧ ans = 0 ∨ (0 ≤ v ∧ v ≤ 2) ∧ (1 ≤ x ∧ x ≤ 3) ∧ t = 0 ∧ ∃ r, RT (ba v.toNat) r ∧ (ans = 1 ∧ nearP (ba v.toNat) r x (st v.toNat).toNat ∨ ans = 0 ∧ ¬ nearP (ba v.toNat) r x (st v.toNat).toNat))) := by
  refine sp_intro [some (.ref m), some (iI v), some (iI x), none, none, none] rfl (Nat.le_of_ble_eq_true rfl) pn_X8 ?_
  intro X C hRm hl hnm hQ
  obtain ⟨hRf, hRl, hRc, hRs⟩ := hRm
  refine g_wf (fun hwf => ?_)
  refine g_aload_n C dX8_isNear_0 rfl ?_
  refine g_iload_n C dX8_isNear_1 rfl ?_
  refine g_callS C (c_X8_isNo _ (v := v) h_v) ml_RX8_145 sm_yX8_isNo in_RX8 co_yX8_isNo hd_X8_isNo rfl ⟨by omega, by omega⟩ rfl (Nat.le_of_ble_eq_true rfl) ⟨by omega, by omega⟩ dX8_isNear_2 (fun v2 w2 hp2 => ?_)
  obtain ⟨rfl, hw2⟩ := hp2
  subst w2
  refine g_iconst C dX8_isNear_5 ?_
  refine g_callV C (c_X8_start _ hM (y := bI (¬ (0 ≤ v ∧ v ≤ 2))) (wh := 1) (bI_01 _) (by omega)) (ci := 10) rfl hM.o rfl ml_RX8_149 im_yX8_start se_RX8_yX8_start in_RX8 co_yX8_start hd_X8_start rfl ⟨by omega, by omega⟩ rfl (Nat.le_of_ble_eq_true rfl) ⟨by omega, by omega⟩ dX8_isNear_6 (fun v6 w6 hp6 => ?_)
  obtain ⟨t6, rfl, ht6, hM6, hK6⟩ := hp6
  have hy6 : (bI (¬ (0 ≤ v ∧ v ≤ 2))) = 0 ∨ (bI (¬ (0 ≤ v ∧ v ≤ 2))) = 1 := (bI_01 _)
  refine g_if_ne (tgt := 34) C dX8_isNear_9 (by decide) (bI_r _) (fun h9 => ?_) (fun h9 => ?_)
  · refine g_iconst C dX8_isNear_34 ?_
    exact g_zreturn C hQ dX8_isNear_35 (nar01 (by omega)) (by omega) (by omega) (by
      first
      | exact ⟨t, _, rfl, hM7, hK67, Or.inr (Or.inl ⟨hwk, by have := bI_1 h31; omega, by have := bI_1 h31; omega, rfl⟩)⟩
      | exact ⟨t6, _, rfl, hM6, hK6, Or.inl ⟨bI_1 h9, by omega, rfl⟩⟩)
  · refine g_aload_n C dX8_isNear_12 rfl ?_
    refine g_iload_n C dX8_isNear_13 rfl ?_
    refine g_iconst C dX8_isNear_14 ?_
    refine g_iconst C dX8_isNear_15 ?_
    refine g_callS C (c_X8_isIn _ (v := x) (a := 1) (b := 3) h_x (by omega) (by omega)) ml_RX8_49 sm_yX8_isIn in_RX8 co_yX8_isIn hd_X8_isIn rfl ⟨by omega, by omega⟩ rfl (Nat.le_of_ble_eq_true rfl) ⟨by omega, by omega⟩ dX8_isNear_16 (fun v16 w16 hp16 => ?_)
    obtain ⟨rfl, hw16⟩ := hp16
    subst w16
    have J27 : ∀ y : Int, (y = 0 ∧ (1 ≤ x ∧ x ≤ 3) ∨ y = 1 ∧ ¬ (1 ≤ x ∧ x ≤ 3)) → G E X 6 27 [some (.ref m), some (iI v), some (iI x), none, none, none] [iI y, .ref m] w6 0 0 := by
      intro y hy
      have hwk : 0 ≤ v ∧ v ≤ 2 := Classical.not_not.mp (bI_0 (Classical.not_not.mp h9))
      refine g_iconst C dX8_isNear_27 ?_
      refine g_callV C (c_X8_refuse _ hM6 (y := y) (wh := 2) (by omega) (by omega) (by omega)) (ci := 10) rfl hM6.o rfl ml_RX8_45 im_yX8_refuse se_RX8_yX8_refuse in_RX8 co_yX8_refuse hd_X8_refuse rfl ⟨by omega, by omega⟩ rfl (Nat.le_of_ble_eq_true rfl) ⟨by omega, by omega⟩ dX8_isNear_28 (fun v28 w28 hp28 => ?_)
      obtain ⟨t, rfl, ht, hM7, hK7⟩ := hp28
      have hy7 : (y) = 0 ∨ (y) = 1 := (by omega)
      have hK67 := hK6.tr hK7
      refine g_if_eq (tgt := 36) C dX8_isNear_31 (by decide) (bI_r _) (fun h31 => ?_) (fun h31 => ?_)
      · have htz : ¬ (0 < t) := bI_0 h31
        have hx13 : 1 ≤ x ∧ x ≤ 3 := by omega
        have ht0 : t = 0 := by omega
        obtain ⟨V, rfl⟩ := Int.eq_ofNat_of_zero_le hwk.1
        have hg := hB V (by omega)
        obtain ⟨r, hr⟩ := RT_ex hg
        have hsv := hS V (by omega)
        have hg1 := hg.1
        have hg2 := hg.2.1
        have hta := tst_abs hg hr (k := (st V).toNat) (by omega)
        have htr := tst_r hg hr (k := (st V).toNat) (by omega) 2
        have hcg := cf_good hg hr (k := (st V).toNat + 1) (by omega)
        have hr9 := RT_le hg hr
        refine g_aload_n C dX8_isNear_36 rfl ?_
        refine g_iload_n C dX8_isNear_37 rfl ?_
        refine g_callV C (c_X8_at _ hM7 (i := V) (r := r) (by omega) hg hr hsv) (ci := 10) rfl hM7.o rfl ml_RX8_167 im_yX8_at se_RX8_yX8_at in_RX8 co_yX8_at hd_X8_at rfl ⟨by omega, by omega⟩ rfl (Nat.le_of_ble_eq_true rfl) ⟨by omega, by omega⟩ dX8_isNear_38 (fun v38 w38 hp38 => ?_)
        obtain ⟨q, rfl, hR, x1, hq⟩ := hp38
        have hM8 := hM7.ex x1
        refine g_astore_n C dX8_isNear_41 (by decide) rfl ?_
        refine g_aload_n C dX8_isNear_42 rfl ?_
        refine g_get (ci := 10) C rfl inTX8 1 (by decide) fl_RX8_9 rfl hM8.o rfl dX8_isNear_43 ?_
        refine g_iload_n C dX8_isNear_46 rfl ?_
        refine g_ialoadN (V) C hM8.b (by omega) (by omega) dX8_isNear_47 ?_
        refine g_aload_n C dX8_isNear_48 rfl ?_
        refine g_iconst C dX8_isNear_49 ?_
        refine g_callS C (c_X8_tested _ (what := 2) hg hr (by omega) hR (by omega)) ml_RX8_192 sm_yX8_tested in_RX8 co_yX8_tested hd_X8_tested rfl ⟨by omega, by omega⟩ rfl (Nat.le_of_ble_eq_true rfl) ⟨by omega, by omega⟩ dX8_isNear_50 (fun v50 w50 hp50 => ?_)
        obtain ⟨rfl, x2⟩ := hp50
        refine g_abs C ml_RX8_196 (by omega) (by omega) (by omega) (Nat.le_of_ble_eq_true rfl) (by omega) dX8_isNear_53 ?_
        rw [hta]
        refine g_istore C dX8_isNear_56 (by decide) rfl ?_
        refine g_iload_n C dX8_isNear_58 rfl ?_
        refine g_iload C dX8_isNear_59 rfl ?_
        refine g_imul C dX8_isNear_61 ?_
        have hxd : 0 ≤ x * (cf (ba V) r ((st V).toNat + 1)).2.1 := Int.mul_nonneg (by omega) (by omega)
        have hxd2 : x * (cf (ba V) r ((st V).toNat + 1)).2.1 ≤ 3 * 18 := Int.mul_le_mul (by omega) (by omega) (by omega) (by omega)
        refine g_i2l C dX8_isNear_62 (by omega) ?_
        refine g_callS C (c_X8_of _ (v := x * (cf (ba V) r ((st V).toNat + 1)).2.1) (by omega)) ml_RX8_20 sm_yX8_of in_RX8 co_yX8_of hd_X8_of rfl ⟨by omega, by omega⟩ rfl (Nat.le_of_ble_eq_true rfl) ⟨by omega, by omega⟩ dX8_isNear_63 (fun v63 w63 hp63 => ?_)
        obtain ⟨m63, k63, rfl, h63, hb63, hm63, s63, x3⟩ := hp63
        have y3 := x2.tr x3
        have hM9 := hM8.ex y3
        refine g_aload_n C dX8_isNear_66 rfl ?_
        refine g_get (ci := 10) C rfl inTX8 1 (by decide) fl_RX8_9 rfl hM9.o rfl dX8_isNear_67 ?_
        refine g_iload_n C dX8_isNear_70 rfl ?_
        refine g_ialoadN (V) C hM9.b (by omega) (by omega) dX8_isNear_71 ?_
        refine g_aload_n C dX8_isNear_72 rfl ?_
        refine g_get (ci := 10) C rfl inTX8 2 (by decide) fl_RX8_13 rfl hM9.o rfl dX8_isNear_73 ?_
        refine g_iload_n C dX8_isNear_76 rfl ?_
        refine g_ialoadN (V) C hM9.s (by omega) (by omega) dX8_isNear_77 ?_
        refine g_iconst C dX8_isNear_78 ?_
        refine g_iadd C dX8_isNear_79 ?_
        rw [show st V + 1 = (((st V).toNat + 1 : Nat) : Int) by omega]
        refine g_wf (fun hwf80 => ?_)
        refine g_callS C (c_X8_walked _ (K := (st V).toNat + 1) hg hr (by omega)) ml_RX8_134 sm_yX8_walked in_RX8 co_yX8_walked hd_X8_walked rfl ⟨by omega, by omega⟩ rfl (Nat.le_of_ble_eq_true rfl) ⟨by omega, by omega⟩ dX8_isNear_80 (fun v80 w80 hp80 => ?_)
        obtain ⟨q80, rfl, hR80, x4, hq80⟩ := hp80
        have x4 := x4.ex hwf80
        obtain ⟨R2, c0, c1, c2, c3, hR2, j0, j1, j2, j3, i0, i1, i2, i3, -⟩ := id hR80
        obtain ⟨n1, f1, e1, b1, d1⟩ := id i1
        obtain ⟨R, a0, a1, a2, a3, hR0, k0, k1, k2, k3, l0, l1, l2, l3, -⟩ := id hR
        obtain ⟨nP, fP, eP, bP, dP⟩ := id l0
        obtain ⟨nQ, fQ, eQ, bQ, dQ⟩ := id l1
        have y4 := y3.tr x4
        refine g_iconst C dX8_isNear_83 ?_
        refine g_aaloadN (1) C rfl rfl hR2 (by omega) (by omega) j1 dX8_isNear_84 ?_
        refine g_callS C (c_X8_times _ (c := 9) (x4.2 _ _ h63) e1 hb63 b1 (by omega) (by omega)) ml_RX8_124 sm_yX8_times in_RX8 co_yX8_times hd_X8_times rfl ⟨by omega, by omega⟩ rfl (Nat.le_of_ble_eq_true rfl) ⟨by omega, by omega⟩ dX8_isNear_85 (fun v85 w85 hp85 => ?_)
        obtain ⟨q85, m85, g85, rfl, h85, hb85, hm85, x5, hq85⟩ := hp85
        have y5 := y4.tr x5
        refine g_aload_n C dX8_isNear_88 rfl ?_
        refine g_iconst C dX8_isNear_89 ?_
        refine g_aaloadN (0) C rfl rfl (y5.2 _ _ hR0) (by omega) (by omega) k0 dX8_isNear_90 ?_
        refine g_callS C (c_X8_minus _ (c := 9) h85 (y5.2 _ _ eP) hb85 bP (by omega) (by omega) (by omega)) ml_RX8_127 sm_yX8_minus in_RX8 co_yX8_minus hd_X8_minus rfl ⟨by omega, by omega⟩ rfl (Nat.le_of_ble_eq_true rfl) ⟨by omega, by omega⟩ dX8_isNear_91 (fun v91 w91 hp91 => ?_)
        obtain ⟨q91, m91, g91, rfl, h91, hb91, hm91, x6, hq91⟩ := hp91
        have y6 := y5.tr x6
        have hn91 := hb91.n1
        have hs91 := hb91.s
        have hv91 := hb91.m
        have hp91 := mg_nonneg hb91.d
        have hM10 := hM8.ex y6
        refine g_astore C dX8_isNear_94 (by decide) rfl ?_
        have hO : x * (cf (ba V) r ((st V).toNat + 1)).2.1 * (pq (ba V) r 0 1 ((st V).toNat + 1)).1 - (pq (ba V) r 1 r (st V).toNat).1 = nearO (ba V) r x (st V).toNat := rfl
        rw [hO] at hb91 hv91
        refine g_aload C dX8_isNear_96 rfl ?_
        refine g_iconst C dX8_isNear_98 ?_
        refine g_ialoadN (0) C h91 (by omega) (by omega) dX8_isNear_99 ?_
        refine g_if_lt (tgt := 138) C dX8_isNear_100 (by decide) (by omega) (fun h100 => ?_) (fun h100 => ?_)
        · refine g_iconst C dX8_isNear_138 ?_
          refine g_goto (tgt := 143) C dX8_isNear_139 (by decide) ?_
          exact g_zreturn C hQ dX8_isNear_143 (nar01 (by omega)) (by omega) (by omega) (by
            simp only [Int.toNat_natCast]
            first
            | exact ⟨t, _, rfl, hM12, hK67.tr (Keep.ex (x1.tr (y7.tr y10))), Or.inr (Or.inr ⟨hwk, hx13, ht0, r, hr, by
                first
                | exact Or.inl ⟨rfl, Or.inr (by omega)⟩
                | exact Or.inr ⟨rfl, fun q => q.elim (fun q => by omega) (fun q => by omega)⟩⟩)⟩
            | exact ⟨t, _, rfl, hM10, hK67.tr (Keep.ex (x1.tr y6)), Or.inr (Or.inr ⟨hwk, hx13, ht0, r, hr, Or.inl ⟨rfl, Or.inl (by
                omega)⟩⟩)⟩)
        · refine g_aload C dX8_isNear_103 rfl ?_
          refine g_aload C dX8_isNear_105 rfl ?_
          refine g_callS C (c_X8_times _ (c := 20) h91 h91 hb91 hb91 (by omega) (by omega)) ml_RX8_124 sm_yX8_times in_RX8 co_yX8_times hd_X8_times rfl ⟨by omega, by omega⟩ rfl (Nat.le_of_ble_eq_true rfl) ⟨by omega, by omega⟩ dX8_isNear_107 (fun v107 w107 hp107 => ?_)
          obtain ⟨q107, m107, g107, rfl, h107, hb107, hm107, x7, hq107⟩ := hp107
          have y7 := y6.tr x7
          have hM11 := hM8.ex y7
          refine g_aload_n C dX8_isNear_110 rfl ?_
          refine g_get (ci := 10) C rfl inTX8 1 (by decide) fl_RX8_9 rfl hM11.o rfl dX8_isNear_111 ?_
          refine g_iload_n C dX8_isNear_114 rfl ?_
          refine g_ialoadN (V) C hM11.b (by omega) (by omega) dX8_isNear_115 ?_
          refine g_i2l C dX8_isNear_116 (by omega) ?_
          refine g_callS C (c_X8_of _ (v := ba V) (by omega)) ml_RX8_20 sm_yX8_of in_RX8 co_yX8_of hd_X8_of rfl ⟨by omega, by omega⟩ rfl (Nat.le_of_ble_eq_true rfl) ⟨by omega, by omega⟩ dX8_isNear_117 (fun v117 w117 hp117 => ?_)
          obtain ⟨m117, k117, rfl, h117, hb117, hm117, s117, x8⟩ := hp117
          have y8 := y7.tr x8
          refine g_aload_n C dX8_isNear_120 rfl ?_
          refine g_iconst C dX8_isNear_121 ?_
          refine g_aaloadN (1) C rfl rfl (y8.2 _ _ hR0) (by omega) (by omega) k1 dX8_isNear_122 ?_
          refine g_aload_n C dX8_isNear_123 rfl ?_
          refine g_iconst C dX8_isNear_124 ?_
          refine g_aaloadN (1) C rfl rfl (y8.2 _ _ hR0) (by omega) (by omega) k1 dX8_isNear_125 ?_
          refine g_callS C (c_X8_times _ (c := 10) (y8.2 _ _ eQ) (y8.2 _ _ eQ) bQ bQ (by omega) (by omega)) ml_RX8_124 sm_yX8_times in_RX8 co_yX8_times hd_X8_times rfl ⟨by omega, by omega⟩ rfl (Nat.le_of_ble_eq_true rfl) ⟨by omega, by omega⟩ dX8_isNear_126 (fun v126 w126 hp126 => ?_)
          obtain ⟨q126, m126, g126, rfl, h126, hb126, hm126, x9, hq126⟩ := hp126
          refine g_callS C (c_X8_times _ (c := 14) (x9.2 _ _ h117) h126 hb117 hb126 (by omega) (by omega)) ml_RX8_124 sm_yX8_times in_RX8 co_yX8_times hd_X8_times rfl ⟨by omega, by omega⟩ rfl (Nat.le_of_ble_eq_true rfl) ⟨by omega, by omega⟩ dX8_isNear_129 (fun v129 w129 hp129 => ?_)
          obtain ⟨q129, m129, g129, rfl, h129, hb129, hm129, x10, hq129⟩ := hp129
          have y10 := (x8.tr x9).tr x10
          refine g_callS C (c_X8_side _ (y10.2 _ _ h107) h129 hb107 hb129 (by omega) (by omega)) ml_RX8_199 sm_yX8_side in_RX8 co_yX8_side hd_X8_side rfl ⟨by omega, by omega⟩ rfl (Nat.le_of_ble_eq_true rfl) ⟨by omega, by omega⟩ dX8_isNear_132 (fun v132 w132 hp132 => ?_)
          obtain ⟨⟨d132, rfl, hd132⟩, hw132⟩ := hp132
          subst w132
          have hM12 := hM8.ex (y7.tr y10)
          refine g_if_ge (tgt := 142) C dX8_isNear_135 (by decide) (by omega) (fun h135 => ?_) (fun h135 => ?_)
          · refine g_iconst C dX8_isNear_142 ?_
            exact g_zreturn C hQ dX8_isNear_143 (nar01 (by omega)) (by omega) (by omega) (by
              simp only [Int.toNat_natCast]
              first
              | exact ⟨t, _, rfl, hM12, hK67.tr (Keep.ex (x1.tr (y7.tr y10))), Or.inr (Or.inr ⟨hwk, hx13, ht0, r, hr, by
                  first
                  | exact Or.inl ⟨rfl, Or.inr (by omega)⟩
                  | exact Or.inr ⟨rfl, fun q => q.elim (fun q => by omega) (fun q => by omega)⟩⟩)⟩
              | exact ⟨t, _, rfl, hM10, hK67.tr (Keep.ex (x1.tr y6)), Or.inr (Or.inr ⟨hwk, hx13, ht0, r, hr, Or.inl ⟨rfl, Or.inl (by
                  omega)⟩⟩)⟩)
          · refine g_iconst C dX8_isNear_138 ?_
            refine g_goto (tgt := 143) C dX8_isNear_139 (by decide) ?_
            exact g_zreturn C hQ dX8_isNear_143 (nar01 (by omega)) (by omega) (by omega) (by
              simp only [Int.toNat_natCast]
              first
              | exact ⟨t, _, rfl, hM12, hK67.tr (Keep.ex (x1.tr (y7.tr y10))), Or.inr (Or.inr ⟨hwk, hx13, ht0, r, hr, by
                  first
                  | exact Or.inl ⟨rfl, Or.inr (by omega)⟩
                  | exact Or.inr ⟨rfl, fun q => q.elim (fun q => by omega) (fun q => by omega)⟩⟩)⟩
              | exact ⟨t, _, rfl, hM10, hK67.tr (Keep.ex (x1.tr y6)), Or.inr (Or.inr ⟨hwk, hx13, ht0, r, hr, Or.inl ⟨rfl, Or.inl (by
                  omega)⟩⟩)⟩)
      · refine g_iconst C dX8_isNear_34 ?_
        exact g_zreturn C hQ dX8_isNear_35 (nar01 (by omega)) (by omega) (by omega) (by
          first
          | exact ⟨t, _, rfl, hM7, hK67, Or.inr (Or.inl ⟨hwk, by have := bI_1 h31; omega, by have := bI_1 h31; omega, rfl⟩)⟩
          | exact ⟨t6, _, rfl, hM6, hK6, Or.inl ⟨bI_1 h9, by omega, rfl⟩⟩)
    refine g_if_ne (tgt := 26) C dX8_isNear_19 (by decide) (bI_r _) (fun h19 => ?_) (fun h19 => ?_)
    · refine g_iconst C dX8_isNear_26 ?_
      exact J27 _ (by first | exact Or.inl ⟨rfl, bI_1 h19⟩ | exact Or.inr ⟨rfl, bI_0 (Classical.not_not.mp h19)⟩)
    · refine g_iconst C dX8_isNear_22 ?_
      refine g_goto (tgt := 27) C dX8_isNear_23 (by decide) ?_
      exact J27 _ (by first | exact Or.inl ⟨rfl, bI_1 h19⟩ | exact Or.inr ⟨rfl, bI_0 (Classical.not_not.mp h19)⟩)
/-- a digit of the EXACT root at a place behind the first -/
def rpD (b : Int) (j : Nat) (x : Int) : Prop := ∃ S S' : Int, RT (b * 100 ^ j) S ∧ (j = 0 ∧ S' = 0 ∨ ∃ i, j = i + 1 ∧ RT (b * 100 ^ i) S') ∧ x = S - 10 * S'
theorem rpD_uniq {b x y : Int} {j : Nat} (h : rpD b j x) (g : rpD b j y) : x = y := by
  obtain ⟨S, S', h1, h2, rfl⟩ := h
  obtain ⟨T, T', g1, g2, rfl⟩ := g
  have e1 := RT_uniq h1 g1
  have e2 : S' = T' := by
    rcases h2 with ⟨a, c⟩ | ⟨i, a, c⟩ <;> rcases g2 with ⟨a', c'⟩ | ⟨i', a', c'⟩
    · omega
    · omega
    · omega
    · have : i = i' := by omega
      subst this
      exact RT_uniq c c'
  rw [e1, e2]
theorem sq_lt_of {S T : Int} (hT : 0 ≤ T) (h : S * S < T * T) : S < T := by
  rcases Int.lt_or_le S T with q | q
  · exact q
  · have := Int.mul_le_mul q q hT (Int.le_trans hT q)
    omega
theorem RowAt.wset {w : Wd} {a b cap : Nat} {z : Int} (h : RowAt w a z cap) (hb : a ≠ b) (e : WdE) : RowAt (wset w b e) a z cap := by
  obtain ⟨n, f, h1, h2, h3⟩ := h
  exact ⟨n, f, by rw [wset_n hb]; exact h1, h2, h3⟩
theorem cap5 {f : Nat → Int} {n : Nat} {z : Int} (h : BN f n z) (h0 : 0 ≤ z) (h1 : z ≤ 17684534180768657011955825953294810) : n ≤ 5 := by
  have := h.cap (k := 4) (by rw [show B30 ^ 4 = 1329227995784915872903807060280344576 by decide +kernel]; omega)
  omega
set_option maxHeartbeats 4000000 in
set_option maxRecDepth 100000 in
theorem c_X8_places (l : Launch) {E : GE} {w : Wd} {τ : Nat → Nat} {m : Nat} {A : MA} {th : Int} {ba st pb le ri : Nat → Int} {sp : Nat → Nat → Int} {ct : Nat → Int} (hM : MSx τ w m A th ba st pb le ri sp ct) {i : Nat} {r : Int} (hi : i < 3) (hb : GB (ba i)) (hr : RT (ba i) r) (hs : 0 ≤ st i ∧ st i ≤ 24) : Sp E l yX8_places cX8_places 6 (some (.array .int)) 3 (419) (2207) [.ref m, iI (i : Int)] w (fun r1 w' => ∃ (q : Nat) (f : Nat → Int), r1 = some (.ref q) ∧ w'.2 q = some (true, eI 17 f) ∧ (∀ j, j < 17 → f j = lfD (pq (ba i) r 1 r (st i).toNat).1 (pq (ba i) r 0 1 (st i).toNat).1 j / (pq (ba i) r 0 1 (st i).toNat).1) ∧ (∀ j, j < 17 → 0 ≤ f j ∧ f j ≤ 10) ∧ Ex w w') := by
  refine sp_intro [some (.ref m), some (iI (i : Int)), none, none, none, none] rfl (Nat.le_of_ble_eq_true rfl) pn_X8 ?_
  intro X C hRm hl hnm hQ
  obtain ⟨hRf, hRl, hRc, hRs⟩ := hRm
  refine g_wf (fun hwf => ?_)
  obtain ⟨wk1, wk2, wk3, wk4, wk5⟩ := wk_good hb hr (k := (st i).toNat) (by omega)
  have hr9 := RT_le hb hr
  obtain ⟨-, hPc⟩ := pq_cap (x0 := 1) (x1 := r) hb hr (by omega) (by omega) (k := (st i).toNat) (by omega)
  obtain ⟨-, hQc⟩ := pq_cap (x0 := 0) (x1 := 1) hb hr (by omega) (by omega) (k := (st i).toNat) (by omega)
  refine g_aload_n C dX8_places_0 rfl ?_
  refine g_iload_n C dX8_places_1 rfl ?_
  refine g_callV C (c_X8_at _ hM (i := i) (r := r) hi hb hr hs) (ci := 10) rfl hM.o rfl ml_RX8_167 im_yX8_at se_RX8_yX8_at in_RX8 co_yX8_at hd_X8_at rfl ⟨by omega, by omega⟩ rfl (Nat.le_of_ble_eq_true rfl) ⟨by omega, by omega⟩ dX8_places_2 (fun v2 w2 hp2 => ?_)
  obtain ⟨q, rfl, hR, x1, hq⟩ := hp2
  obtain ⟨R, a0, a1, a2, a3, hR0, k0, k1, k2, k3, l0, l1, l2, l3, lo0, lo1, lo2, lo3⟩ := id hR
  generalize hP : (pq (ba i) r 1 r (st i).toNat).1 = P at *
  generalize hQ : (pq (ba i) r 0 1 (st i).toNat).1 = Q at *
  have hrm := lfD_r (P := P) (Q := Q) (by omega) wk5 wk4
  obtain ⟨nQ, fQ, eQ, bQ, dQ⟩ := id l1
  refine g_wf (fun hwf2 => ?_)
  refine g_astore_n C dX8_places_5 (by decide) rfl ?_
  refine g_aload_n C dX8_places_6 rfl ?_
  refine g_iconst C dX8_places_7 ?_
  refine g_aaloadN (0) C rfl rfl hR0 (by omega) (by omega) k0 dX8_places_8 ?_
  refine g_astore_n C dX8_places_9 (by decide) rfl ?_
  refine g_bipush C dX8_places_10 (by decide) ?_
  refine g_newI C gw_arrayClass_int (N := 17) rfl (by omega) (by omega) dX8_places_12 ?_
  refine g_astore C dX8_places_14 (by decide) rfl ?_
  refine g_iconst C dX8_places_16 ?_
  refine g_istore C dX8_places_17 (by decide) rfl ?_
  refine g_loop (σ := Wd × Nat × Nat × (Nat → Int) × Int) (fun s => s.2.1 ≤ 17 ∧ Ex w2 s.1 ∧ w2.1 < s.1.1 ∧ s.1.2 w2.1 = some (true, eI 17 s.2.2.2.1) ∧ RowAt s.1 s.2.2.1 s.2.2.2.2 5 ∧ s.2.2.1 ≠ w2.1 ∧ (s.2.1 = 0 ∧ s.2.2.2.2 = P ∨ ∃ j, s.2.1 = j + 1 ∧ s.2.2.2.2 = lfD P Q j % Q) ∧ (∀ i, i < s.2.1 → s.2.2.2.1 i = lfD P Q i / Q) ∧ (∀ i, s.2.1 ≤ i → s.2.2.2.1 i = 0))
    (fun s => G E X 6 19 [some (.ref m), some (iI (i : Int)), some (.ref q), some (.ref s.2.2.1), some (.ref w2.1), some (iI (s.2.1 : Int))] [] s.1 (11 + 24 * s.2.1) (65 + 126 * s.2.1)) (fun s => 17 - s.2.1) ?_ (wpush w2 (true, eI 17 (fun _ => 0)), 0, a0, fun _ => 0, P)
    ⟨by dsimp only; omega, Ex.push hwf2 _, Nat.lt_succ_self _, wpush_s, l0.ex (Ex.push hwf2 _), (by obtain ⟨n, f, e, -⟩ := l0; exact Nat.ne_of_lt (hwf2 _ _ e)), Or.inl ⟨rfl, rfl⟩, fun i hi => absurd hi (Nat.not_lt_zero i), fun i _ => rfl⟩
  rintro ⟨u, j, a, f, z⟩ hs' ih
  obtain ⟨hj, xu, hgt, hf, ra, hne, hz, hlo, hhi⟩ := hs'
  dsimp only at hj xu hgt hf ra hne hz hlo hhi ⊢
  refine g_iload C dX8_places_19 rfl ?_
  refine g_bipush C dX8_places_21 (by decide) ?_
  refine g_icmp_ge (tgt := 78) C dX8_places_23 (by decide) (by omega) (by omega) (fun h23 => ?_) (fun h23 => ?_)
  · refine g_aload C dX8_places_78 rfl ?_
    exact g_areturn C (Or.inr ⟨_, rfl⟩) hQ (Or.inr ⟨_, rfl⟩) dX8_places_80 (by omega) (by omega) ⟨w2.1, f, rfl, hf, fun jj hjj => hlo jj (by omega), fun jj hjj => by
      rw [hlo jj (by omega)]
      have := hrm jj
      exact ⟨Int.ediv_nonneg this.1 (by omega), by
        have := Int.ediv_le_ediv wk4 this.2
        rw [Int.mul_ediv_cancel _ (by omega)] at this
        exact this⟩, x1.tr xu⟩
  · have J42 : ∀ (u : Wd) (a : Nat), Ex w2 u → w2.1 < u.1 → u.2 w2.1 = some (true, eI 17 f) → RowAt u a (lfD P Q j) 5 → a ≠ w2.1 → G E X 6 42 [some (.ref m), some (iI (i : Int)), some (.ref q), some (.ref a), some (.ref w2.1), some (iI (j : Int))] [] u (15 + 24 * j) (91 + 126 * j) := by
      clear hf xu hgt ra hne
      intro u a xu hgt hf ra hne
      refine g_loop (σ := Wd × Nat × (Nat → Int) × Nat) (fun s => Ex w2 s.1 ∧ w2.1 < s.1.1 ∧ s.1.2 w2.1 = some (true, eI 17 s.2.2.1) ∧ RowAt s.1 s.2.1 (lfD P Q j - s.2.2.2 * Q) 5 ∧ s.2.1 ≠ w2.1 ∧ 0 ≤ lfD P Q j - s.2.2.2 * Q ∧ s.2.2.1 j = s.2.2.2 ∧ (∀ i, i < j → s.2.2.1 i = lfD P Q i / Q) ∧ (∀ i, j < i → s.2.2.1 i = 0))
        (fun s => G E X 6 42 [some (.ref m), some (iI (i : Int)), some (.ref q), some (.ref s.2.1), some (.ref w2.1), some (iI (j : Int))] [] s.1 (15 + 24 * j + 2 * s.2.2.2) (91 + 126 * j + 10 * s.2.2.2)) (fun s => (lfD P Q j - s.2.2.2 * Q).toNat) ?_ (u, a, f, 0)
        ⟨xu, hgt, hf, (by rw [show lfD P Q j - ((0 : Nat) : Int) * Q = lfD P Q j by simp]; exact ra), hne, (by rw [show lfD P Q j - ((0 : Nat) : Int) * Q = lfD P Q j by simp]; exact (hrm j).1), (by show f j = ((0 : Nat) : Int); rw [hhi j (Nat.le_refl _)]; rfl), hlo, fun i hi => hhi i (by omega)⟩
      clear hf xu hgt ra hne hlo hhi
      rintro ⟨u, a, f, c⟩ hs' ih2
      obtain ⟨xu, hgt, hf, ra, hne, h0, hc, hlo, hhi⟩ := hs'
      dsimp only at xu hgt hf ra hne h0 hc hlo hhi ⊢
      have hcc : (c : Int) ≤ 10 := by
        rcases Int.lt_or_le 10 (c : Int) with q | q
        · have := Int.mul_le_mul_of_nonneg_right (show (11 : Int) ≤ c by omega) (show 0 ≤ Q by omega)
          have := hrm j
          omega
        · exact q
      obtain ⟨na, fa, ea, bna, da⟩ := id ra
      have hrmj := hrm j
      refine g_aload_n C dX8_places_42 rfl ?_
      refine g_aload_n C dX8_places_43 rfl ?_
      refine g_iconst C dX8_places_44 ?_
      refine g_aaloadN (1) C rfl rfl (xu.2 _ _ hR0) (by omega) (by omega) k1 dX8_places_45 ?_
      refine g_callS C (c_X8_side _ ea (xu.2 _ _ eQ) bna bQ (by omega) (by omega)) ml_RX8_199 sm_yX8_side in_RX8 co_yX8_side hd_X8_side rfl ⟨by omega, by omega⟩ rfl (Nat.le_of_ble_eq_true rfl) ⟨by omega, by omega⟩ dX8_places_46 (fun v46 w46 hp46 => ?_)
      obtain ⟨⟨d46, rfl, hd46⟩, hw46⟩ := hp46
      subst w46
      refine g_if_lt (tgt := 72) C dX8_places_49 (by decide) (by omega) (fun h49 => ?_) (fun h49 => ?_)
      · refine g_iinc C dX8_places_72 rfl (by decide) rfl ?_
        refine g_goto (tgt := 19) C dX8_places_75 (by decide) ?_
        have ed : lfD P Q j % Q = lfD P Q j - (c : Int) * Q ∧ lfD P Q j / Q = c := by
          have e1 := Int.emod_add_mul_ediv (lfD P Q j) Q
          have e2 : lfD P Q j - (c : Int) * Q < Q := by omega
          have e3 : (lfD P Q j - (c : Int) * Q + Q * (c : Int)) / Q = (lfD P Q j - (c : Int) * Q) / Q + c := Int.add_mul_ediv_left _ _ (by omega)
          rw [Int.ediv_eq_zero_of_lt h0 e2, show lfD P Q j - (c : Int) * Q + Q * (c : Int) = lfD P Q j by grind] at e3
          refine ⟨?_, by omega⟩
          rw [show lfD P Q j / Q = c by omega, Int.mul_comm Q] at e1
          omega
        refine g_widen (k' := 11 + 24 * (j + 1)) (n' := 65 + 126 * (j + 1)) (by omega) (by omega) ?_
        exact ih (u, j + 1, a, f, lfD P Q j - (c : Int) * Q) ⟨by dsimp only; omega, xu, hgt, hf, ra, hne, Or.inr ⟨j, rfl, ed.1.symm⟩, fun i hi => by
          dsimp only at hi ⊢
          by_cases q : i = j
          · rw [q, hc, ed.2]
          · exact hlo i (by omega), fun i hi => hhi i (by dsimp only at hi; omega)⟩ (by dsimp only; omega)
      · refine g_aload_n C dX8_places_52 rfl ?_
        refine g_aload_n C dX8_places_53 rfl ?_
        refine g_iconst C dX8_places_54 ?_
        refine g_aaloadN (1) C rfl rfl (xu.2 _ _ hR0) (by omega) (by omega) k1 dX8_places_55 ?_
        have hcc2 : (c : Int) + 1 ≤ 10 := by
          rcases Int.lt_or_le 10 ((c : Int) + 1) with q | q
          · have e8 := Int.mul_le_mul_of_nonneg_right (show (11 : Int) ≤ (c : Int) + 1 by omega) (show 0 ≤ Q by omega)
            rw [Int.add_mul, Int.one_mul] at e8
            omega
          · exact q
        have hsQ := bQ.s
        have hsa := bna.s
        have hmQ := bQ.m
        have hma := bna.m
        have hQ1 : fQ 0 = 1 := by omega
        have ha1 : fa 0 = 1 := by omega
        rw [hQ1, Int.one_mul] at hmQ
        rw [ha1, Int.one_mul] at hma
        have hnQ := bQ.n1
        have e56 : lfD P Q j - (c : Int) * Q - Q = lfD P Q j - ((c + 1 : Nat) : Int) * Q := by rw [show ((c + 1 : Nat) : Int) = (c : Int) + 1 by omega]; grind
        refine g_callS C (c_X8_less _ (c := 5) ea (xu.2 _ _ eQ) bna bQ.d ⟨hnQ, bna.len bQ (by omega)⟩ (by omega) (by omega) (by omega)) ml_RX8_67 sm_yX8_less in_RX8 co_yX8_less hd_X8_less rfl ⟨by omega, by omega⟩ rfl (Nat.le_of_ble_eq_true rfl) ⟨by omega, by omega⟩ dX8_places_56 (fun v56 w56 hp56 => ?_)
        obtain ⟨q56, h56, rfl, e56', b56, l56, x56⟩ := hp56
        rw [ha1, Int.one_mul, ← hma, ← hmQ, e56] at b56
        have hlt := x56.1
        have hf' := x56.2 _ _ hf
        refine g_astore_n C dX8_places_59 (by decide) rfl ?_
        refine g_aload C dX8_places_60 rfl ?_
        refine g_iload C dX8_places_62 rfl ?_
        refine g_dup2 C dX8_places_64 rfl rfl ?_
        refine g_ialoadN (j) C hf' (by omega) (by omega) dX8_places_65 ?_
        rw [hc]
        refine g_iconst C dX8_places_66 ?_
        refine g_iadd C dX8_places_67 ?_
        refine g_iastoreN (j) C hf' (by omega) (by omega) dX8_places_68 ?_
        refine g_goto (tgt := 42) C dX8_places_69 (by decide) ?_
        first
        | exact g_widen (by omega) (by omega) (J42 u a xu hgt hf (by rcases hz with ⟨q, rfl⟩ | ⟨j', q, -⟩; (rw [q]; exact ra); omega) hne)
        | exact g_widen (by omega) (by omega) (J42 _ q38 (xu.tr (x34.tr x38)) (by omega) ((x34.tr x38).2 _ _ hf) (by
            rcases hz with ⟨q, rfl⟩ | ⟨j', q, hz⟩
            · omega
            · have e : 10 * z = lfD P Q j := by rw [q, hz]; rfl
              rw [e] at hb38
              have := hrm j
              exact ⟨m38, g38, h38, hb38, cap5 hb38 (by omega) (by omega)⟩) (by rcases hq38 with q | q; omega; simp at q))
        | (rw [show ((c : Int) + 1) = ((c + 1 : Nat) : Int) by omega]
           refine g_widen (k' := 15 + 24 * j + 2 * (c + 1)) (n' := 91 + 126 * j + 10 * (c + 1)) (by omega) (by omega) ?_
           exact ih2 (wset w56 w2.1 (true, eI 17 (iup f j ((c + 1 : Nat) : Int))), u.1 + 1, iup f j ((c + 1 : Nat) : Int), c + 1) ⟨(xu.tr x56).setnew hwf2 (Nat.le_refl _) _, by show w2.1 < w56.1; omega, wset_s, RowAt.wset ⟨q56, h56, e56', b56, by omega⟩ (by omega) _, by show u.1 + 1 ≠ w2.1; omega, by
               dsimp only
               rw [← e56]; omega, iup_s, fun i hi => by dsimp only; rw [iup_n (by omega)]; exact hlo i hi, fun i hi => by dsimp only; rw [iup_n (by omega)]; exact hhi i hi⟩ (by dsimp only; rw [← e56]; omega))
    refine g_iload C dX8_places_26 rfl ?_
    refine g_if_le (tgt := 42) C dX8_places_28 (by decide) (by omega) (fun h28 => ?_) (fun h28 => ?_)
    · first
      | exact g_widen (by omega) (by omega) (J42 u a xu hgt hf (by rcases hz with ⟨q, rfl⟩ | ⟨j', q, -⟩; (rw [q]; exact ra); omega) hne)
      | exact g_widen (by omega) (by omega) (J42 _ q38 (xu.tr (x34.tr x38)) (by omega) ((x34.tr x38).2 _ _ hf) (by
          rcases hz with ⟨q, rfl⟩ | ⟨j', q, hz⟩
          · omega
          · have e : 10 * z = lfD P Q j := by rw [q, hz]; rfl
            rw [e] at hb38
            have := hrm j
            exact ⟨m38, g38, h38, hb38, cap5 hb38 (by omega) (by omega)⟩) (by rcases hq38 with q | q; omega; simp at q))
      | (rw [show ((c : Int) + 1) = ((c + 1 : Nat) : Int) by omega]
         refine g_widen (k' := 15 + 24 * j + 2 * (c + 1)) (n' := 91 + 126 * j + 10 * (c + 1)) (by omega) (by omega) ?_
         exact ih2 (wset w56 w2.1 (true, eI 17 (iup f j ((c + 1 : Nat) : Int))), u.1 + 1, iup f j ((c + 1 : Nat) : Int), c + 1) ⟨(xu.tr x56).setnew hwf2 (Nat.le_refl _) _, by show w2.1 < w56.1; omega, wset_s, RowAt.wset ⟨q56, h56, e56', b56, by omega⟩ (by omega) _, by show u.1 + 1 ≠ w2.1; omega, by
             dsimp only
             rw [← e56]; omega, iup_s, fun i hi => by dsimp only; rw [iup_n (by omega)]; exact hlo i hi, fun i hi => by dsimp only; rw [iup_n (by omega)]; exact hhi i hi⟩ (by dsimp only; rw [← e56]; omega))
    · refine g_ldc2 (z := 10) C kj_RX8_202 (by decide) dX8_places_31 ?_
      refine g_callS C (c_X8_of _ (v := 10) (by omega)) ml_RX8_20 sm_yX8_of in_RX8 co_yX8_of hd_X8_of rfl ⟨by omega, by omega⟩ rfl (Nat.le_of_ble_eq_true rfl) ⟨by omega, by omega⟩ dX8_places_34 (fun v34 w34 hp34 => ?_)
      obtain ⟨m34, k34, rfl, h34, hb34, hm34, s34, x34⟩ := hp34
      obtain ⟨na, fa, ea, bna, da⟩ := id ra
      refine g_aload_n C dX8_places_37 rfl ?_
      refine g_callS C (c_X8_times _ (c := 9) h34 (x34.2 _ _ ea) hb34 bna (by omega) (by omega)) ml_RX8_124 sm_yX8_times in_RX8 co_yX8_times hd_X8_times rfl ⟨by omega, by omega⟩ rfl (Nat.le_of_ble_eq_true rfl) ⟨by omega, by omega⟩ dX8_places_38 (fun v38 w38 hp38 => ?_)
      obtain ⟨q38, m38, g38, rfl, h38, hb38, hm38, x38, hq38⟩ := hp38
      have g38g := x34.1
      have g38h := x38.1
      refine g_astore_n C dX8_places_41 (by decide) rfl ?_
      first
      | exact g_widen (by omega) (by omega) (J42 u a xu hgt hf (by rcases hz with ⟨q, rfl⟩ | ⟨j', q, -⟩; (rw [q]; exact ra); omega) hne)
      | exact g_widen (by omega) (by omega) (J42 _ q38 (xu.tr (x34.tr x38)) (by omega) ((x34.tr x38).2 _ _ hf) (by
          rcases hz with ⟨q, rfl⟩ | ⟨j', q, hz⟩
          · omega
          · have e : 10 * z = lfD P Q j := by rw [q, hz]; rfl
            rw [e] at hb38
            have := hrm j
            exact ⟨m38, g38, h38, hb38, cap5 hb38 (by omega) (by omega)⟩) (by rcases hq38 with q | q; omega; simp at q))
      | (rw [show ((c : Int) + 1) = ((c + 1 : Nat) : Int) by omega]
         refine g_widen (k' := 15 + 24 * j + 2 * (c + 1)) (n' := 91 + 126 * j + 10 * (c + 1)) (by omega) (by omega) ?_
         exact ih2 (wset w56 w2.1 (true, eI 17 (iup f j ((c + 1 : Nat) : Int))), u.1 + 1, iup f j ((c + 1 : Nat) : Int), c + 1) ⟨(xu.tr x56).setnew hwf2 (Nat.le_refl _) _, by show w2.1 < w56.1; omega, wset_s, RowAt.wset ⟨q56, h56, e56', b56, by omega⟩ (by omega) _, by show u.1 + 1 ≠ w2.1; omega, by
             dsimp only
             rw [← e56]; omega, iup_s, fun i hi => by dsimp only; rw [iup_n (by omega)]; exact hlo i hi, fun i hi => by dsimp only; rw [iup_n (by omega)]; exact hhi i hi⟩ (by dsimp only; rw [← e56]; omega))
set_option maxHeartbeats 4000000 in
set_option maxRecDepth 100000 in
theorem c_X8_rootPlaces (l : Launch) {E : GE} {w : Wd} {b : Int} (hb : 1 ≤ b ∧ b ≤ 99) : Sp E l yX8_rootPlaces cX8_rootPlaces 8 (some (.array .int)) 0 (1) (17) [iI b] w (fun r1 w' => ∃ f : Nat → Int, r1 = some (.ref w.1) ∧ w' = wpush w (true, eI 17 f) ∧ ∀ j, j < 17 → rpD b j (f j) ∧ 0 ≤ f j ∧ f j ≤ 9) := by
  refine sp_intro [some (iI b), none, none, none, none, none, none, none] rfl (Nat.le_of_ble_eq_true rfl) pn_X8 ?_
  intro X C hRm hl hnm hQ
  obtain ⟨hRf, hRl, hRc, hRs⟩ := hRm
  refine g_wf (fun hwf => ?_)
  refine g_bipush C dX8_rootPlaces_0 (by decide) ?_
  refine g_newI C gw_arrayClass_int (N := 17) rfl (by omega) (by omega) dX8_rootPlaces_2 ?_
  refine g_astore_n C dX8_rootPlaces_4 (by decide) rfl ?_
  refine g_lconst (z := 0) C dX8_rootPlaces_5 (by decide) ?_
  refine g_lstore_n C dX8_rootPlaces_6 (by decide) rfl ?_
  refine g_iload_n C dX8_rootPlaces_7 rfl ?_
  refine g_i2l C dX8_rootPlaces_8 (by omega) ?_
  refine g_lstore C dX8_rootPlaces_9 (by decide) rfl ?_
  refine g_iconst C dX8_rootPlaces_11 ?_
  refine g_istore C dX8_rootPlaces_12 (by decide) rfl ?_
  refine g_loop (σ := Nat × Int × Int × (Nat → Int)) (fun s => s.1 ≤ 17 ∧ (s.1 = 0 ∧ s.2.1 = 0 ∨ ∃ i, s.1 = i + 1 ∧ RT (b * 100 ^ i) s.2.1) ∧ s.2.2.1 = b * 100 ^ s.1 - 100 * (s.2.1 * s.2.1) ∧ ∀ i, i < s.1 → rpD b i (s.2.2.2 i) ∧ 0 ≤ s.2.2.2 i ∧ s.2.2.2 i ≤ 9)
    (fun s => G E X 8 14 [some (iI b), some (.ref w.1), some (jJ s.2.1), none, some (jJ s.2.2.1), none, some (iI (s.1 : Int)), none] [] (wpush w (true, eI 17 s.2.2.2)) 1 17) (fun s => 17 - s.1) ?_ (0, 0, b, fun _ => 0) ⟨by dsimp only; omega, Or.inl ⟨rfl, rfl⟩, by dsimp only; rw [Int.pow_zero]; omega, fun i hi => absurd hi (Nat.not_lt_zero i)⟩
  rintro ⟨k, S, left, f⟩ hq ih
  obtain ⟨hk, hS, hl, hf⟩ := hq
  dsimp only at hk hS hl hf ⊢
  refine g_iload C dX8_rootPlaces_14 rfl ?_
  refine g_bipush C dX8_rootPlaces_16 (by decide) ?_
  refine g_icmp_ge (tgt := 97) C dX8_rootPlaces_18 (by decide) (by omega) (by omega) (fun h18 => ?_) (fun h18 => ?_)
  · refine g_aload_n C dX8_rootPlaces_97 rfl ?_
    exact g_areturn C (Or.inr ⟨_, rfl⟩) hQ (Or.inr ⟨_, rfl⟩) dX8_rootPlaces_98 (by omega) (by omega) ⟨f, rfl, rfl, fun j hj => hf j (by omega)⟩
  · obtain ⟨N, hN, hN0, hN1⟩ : ∃ N : Int, N = b * 100 ^ k ∧ 0 ≤ N ∧ (k ≤ 16 → N ≤ 9900000000000000000000000000000000) := by
      refine ⟨_, rfl, Int.mul_nonneg (by omega) (Int.le_of_lt (Int.pow_pos (by decide))), fun q => ?_⟩
      have e : (100 : Int) ^ 16 = 100 ^ k * 100 ^ (16 - k) := by rw [← Int.pow_add]; congr 1; omega
      have p1 : (0 : Int) < 100 ^ k := Int.pow_pos (by decide)
      have p2 : (0 : Int) < 100 ^ (16 - k) := Int.pow_pos (by decide)
      have e2 : (100 : Int) ^ 16 = 100000000000000000000000000000000 := by decide +kernel
      have h3 := Int.mul_le_mul_of_nonneg_left (show (1 : Int) ≤ 100 ^ (16 - k) by omega) (Int.le_of_lt p1)
      rw [← e, e2] at h3
      have h4 := Int.mul_le_mul hb.2 (show (100 : Int) ^ k ≤ 100000000000000000000000000000000 by omega) (Int.le_of_lt p1) (by omega)
      omega
    have hSS : 0 ≤ S ∧ 100 * (S * S) ≤ N ∧ N < 100 * ((S + 1) * (S + 1)) := by
      rcases hS with ⟨q, rfl⟩ | ⟨i, q, h1, h2, h3⟩
      · rw [q, Int.pow_zero] at hN
        refine ⟨by omega, by omega, by omega⟩
      · rw [q, Int.pow_succ, ← Int.mul_assoc] at hN
        generalize S * S = s2 at *
        generalize (S + 1) * (S + 1) = s3 at *
        omega
    rw [← hN] at hl
    obtain ⟨hS0, hSl, hSh⟩ := hSS
    refine g_iconst C dX8_rootPlaces_21 ?_
    refine g_istore C dX8_rootPlaces_22 (by decide) rfl ?_
    have hk16 : k ≤ 16 := by omega
    have hN2 := hN1 hk16
    have hSb : S < 10000000000000000 := sq_lt_of (by omega) (by generalize S * S = s2 at *; omega)
    have eq3 : (S + 1) * (S + 1) = S * S + 2 * S + 1 := by grind
    have hlb : 0 ≤ left ∧ left < 3000000000000000000 := by generalize S * S = s2 at *; generalize (S + 1) * (S + 1) = s3 at *; omega
    refine g_loop (σ := Int) (fun d => 0 ≤ d ∧ d ≤ 9 ∧ (20 * S + d) * d ≤ left) (fun d => G E X 8 24 [some (iI b), some (.ref w.1), some (jJ S), none, some (jJ left), none, some (iI (k : Int)), some (iI d)] [] (wpush w (true, eI 17 f)) 1 17) (fun d => (9 - d).toNat) ?_ 0 ⟨by omega, by omega, by omega⟩
    rintro d ⟨hd0, hd9, hdl⟩ ih2
    have e1 : (20 * S + d + 1) * (d + 1) = 20 * (S * (d + 1)) + (d + 1) * (d + 1) := by grind
    have e2 : 0 ≤ S * (d + 1) := Int.mul_nonneg hS0 (by omega)
    have e3 : S * (d + 1) ≤ 10000000000000000 * 10 := Int.mul_le_mul (by omega) (by omega) (by omega) (by omega)
    have e4 : (d + 1) * (d + 1) ≤ 10 * 10 := Int.mul_le_mul (by omega) (by omega) (by omega) (by omega)
    have e5 : 0 ≤ (d + 1) * (d + 1) := Int.mul_nonneg (by omega) (by omega)
    have e6 : (10 * S + d) * (10 * S + d) = 100 * (S * S) + (20 * S + d) * d := by grind
    have e7 : (10 * S + d + 1) * (10 * S + d + 1) = 100 * (S * S) + (20 * S + d + 1) * (d + 1) := by grind
    refine g_ldc2 (z := 20) C kj_RX8_213 (by decide) dX8_rootPlaces_24 ?_
    refine g_lload_n C dX8_rootPlaces_27 rfl ?_
    refine g_lmul C dX8_rootPlaces_28 ?_
    refine g_iload C dX8_rootPlaces_29 rfl ?_
    refine g_i2l C dX8_rootPlaces_31 (by omega) ?_
    refine g_ladd C dX8_rootPlaces_32 ?_
    refine g_lconst (z := 1) C dX8_rootPlaces_33 (by decide) ?_
    refine g_ladd C dX8_rootPlaces_34 ?_
    refine g_iload C dX8_rootPlaces_35 rfl ?_
    refine g_iconst C dX8_rootPlaces_37 ?_
    refine g_iadd C dX8_rootPlaces_38 ?_
    refine g_i2l C dX8_rootPlaces_39 (by omega) ?_
    refine g_lmul C dX8_rootPlaces_40 ?_
    refine g_lload C dX8_rootPlaces_41 rfl ?_
    refine g_lcmp C dX8_rootPlaces_43 (by generalize (20 * S + d + 1) * (d + 1) = x9 at *; omega) (by omega) (fun c43 hc43 => ?_)
    refine g_if_gt (tgt := 53) C dX8_rootPlaces_44 (by decide) (by omega) (fun h44 => ?_) (fun h44 => ?_)
    · refine g_ldc2 (z := 100) C kj_RX8_215 (by decide) dX8_rootPlaces_53 ?_
      refine g_lload C dX8_rootPlaces_56 rfl ?_
      refine g_ldc2 (z := 20) C kj_RX8_213 (by decide) dX8_rootPlaces_58 ?_
      refine g_lload_n C dX8_rootPlaces_61 rfl ?_
      refine g_lmul C dX8_rootPlaces_62 ?_
      refine g_iload C dX8_rootPlaces_63 rfl ?_
      refine g_i2l C dX8_rootPlaces_65 (by omega) ?_
      refine g_ladd C dX8_rootPlaces_66 ?_
      refine g_iload C dX8_rootPlaces_67 rfl ?_
      refine g_i2l C dX8_rootPlaces_69 (by omega) ?_
      refine g_lmul C dX8_rootPlaces_70 ?_
      refine g_lsub C dX8_rootPlaces_71 ?_
      refine g_lmul C dX8_rootPlaces_72 ?_
      refine g_lstore C dX8_rootPlaces_73 (by decide) rfl ?_
      refine g_ldc2 (z := 10) C kj_RX8_202 (by decide) dX8_rootPlaces_75 ?_
      refine g_lload_n C dX8_rootPlaces_78 rfl ?_
      refine g_lmul C dX8_rootPlaces_79 ?_
      refine g_iload C dX8_rootPlaces_80 rfl ?_
      refine g_i2l C dX8_rootPlaces_82 (by omega) ?_
      refine g_ladd C dX8_rootPlaces_83 ?_
      refine g_lstore_n C dX8_rootPlaces_84 (by decide) rfl ?_
      refine g_aload_n C dX8_rootPlaces_85 rfl ?_
      refine g_iload C dX8_rootPlaces_86 rfl ?_
      refine g_iload C dX8_rootPlaces_88 rfl ?_
      refine g_iastoreN (k) C wpush_s (by omega) (by omega) dX8_rootPlaces_90 ?_
      rw [wset_push]
      refine g_iinc C dX8_rootPlaces_91 rfl (by decide) rfl ?_
      refine g_goto (tgt := 14) C dX8_rootPlaces_94 (by decide) ?_
      have hRT : RT (b * 100 ^ k) (10 * S + d) := by
        rw [← hN]
        exact ⟨by omega, by rw [e6]; omega, by rw [e7]; omega⟩
      refine g_drop 7 ?_
      exact ih (k + 1, 10 * S + d, 100 * (left - (20 * S + d) * d), iup f k d) ⟨by dsimp only; omega, Or.inr ⟨k, rfl, hRT⟩, by
        dsimp only
        rw [e6, Int.pow_succ, ← Int.mul_assoc, ← hN, hl]
        generalize S * S = s2 at *
        generalize (20 * S + d) * d = s3 at *
        omega, fun i hi => by
        dsimp only at hi ⊢
        by_cases q : i = k
        · rw [q, iup_s]
          refine ⟨⟨10 * S + d, S, hRT, hS, by omega⟩, hd0, hd9⟩
        · rw [iup_n q]; exact hf i (by omega)⟩ (by dsimp only; omega)
    · refine g_iinc C dX8_rootPlaces_47 rfl (by decide) rfl ?_
      refine g_goto (tgt := 24) C dX8_rootPlaces_50 (by decide) ?_
      exact ih2 (d + 1) ⟨by omega, by
        rcases Int.lt_or_le d 9 with q | q
        · omega
        · have : d = 9 := by omega
          subst this
          have e8 : (20 * S + 9 + 1) * (9 + 1) = 200 * S + 100 := by omega
          rw [e8] at hc43
          omega, by rw [show 20 * S + (d + 1) = 20 * S + d + 1 by omega]; omega⟩ (by
        rcases Int.lt_or_le d 9 with q | q
        · omega
        · have : d = 9 := by omega
          subst this
          have e8 : (20 * S + 9 + 1) * (9 + 1) = 200 * S + 100 := by omega
          rw [e8] at hc43
          omega)
set_option maxHeartbeats 4000000 in
set_option maxRecDepth 100000 in
theorem c_X8_alike (l : Launch) {E : GE} {w : Wd} {v : Int} (h_v : -2147483648 ≤ v ∧ v < 2147483648) {τ : Nat → Nat} {m : Nat} {A : MA} {th : Int} {ba st pb le ri : Nat → Int} {sp : Nat → Nat → Int} {ct : Nat → Int} (hM : MSx τ w m A th ba st pb le ri sp ct) (hB : ∀ i, i < 3 → GB (ba i)) (hS : ∀ i, i < 3 → 0 ≤ st i ∧ st i ≤ 24) : Sp E l yX8_alike cX8_alike 5 (some .int) 4 (420) (2224) [.ref m, iI v] w (fun r' w' => ∃ (t ans : Int), r' = some (iI ans) ∧ MSx τ w' m A (t) (ba) (st) (pb) (le) (ri) (sp) (ct) ∧ Keep τ w w' ∧ (¬ (0 ≤ v ∧ v ≤ 2) ∧ t = 1 ∧ ans = 0 ∨ (0 ≤ v ∧ v ≤ 2) ∧ t = 0 ∧ ∃ r, RT (ba v.toNat) r ∧ ∃ n : Nat, n ≤ 17 ∧ ans = n - 1 ∧ (∀ i, i < n → rpD (ba v.toNat) i (lfD (pq (ba v.toNat) r 1 r (st v.toNat).toNat).1 (pq (ba v.toNat) r 0 1 (st v.toNat).toNat).1 i / (pq (ba v.toNat) r 0 1 (st v.toNat).toNat).1)) ∧ (n < 17 → ¬ rpD (ba v.toNat) n (lfD (pq (ba v.toNat) r 1 r (st v.toNat).toNat).1 (pq (ba v.toNat) r 0 1 (st v.toNat).toNat).1 n / (pq (ba v.toNat) r 0 1 (st v.toNat).toNat).1)))) := by
  refine sp_intro [some (.ref m), some (iI v), none, none, none] rfl (Nat.le_of_ble_eq_true rfl) pn_X8 ?_
  intro X C hRm hl hnm hQ
  obtain ⟨hRf, hRl, hRc, hRs⟩ := hRm
  refine g_wf (fun hwf => ?_)
  refine g_aload_n C dX8_alike_0 rfl ?_
  refine g_iload_n C dX8_alike_1 rfl ?_
  refine g_callS C (c_X8_isNo _ (v := v) h_v) ml_RX8_145 sm_yX8_isNo in_RX8 co_yX8_isNo hd_X8_isNo rfl ⟨by omega, by omega⟩ rfl (Nat.le_of_ble_eq_true rfl) ⟨by omega, by omega⟩ dX8_alike_2 (fun v2 w2 hp2 => ?_)
  obtain ⟨rfl, hw2⟩ := hp2
  subst w2
  refine g_iconst C dX8_alike_5 ?_
  refine g_callV C (c_X8_start _ hM (y := bI (¬ (0 ≤ v ∧ v ≤ 2))) (wh := 1) (bI_01 _) (by omega)) (ci := 10) rfl hM.o rfl ml_RX8_149 im_yX8_start se_RX8_yX8_start in_RX8 co_yX8_start hd_X8_start rfl ⟨by omega, by omega⟩ rfl (Nat.le_of_ble_eq_true rfl) ⟨by omega, by omega⟩ dX8_alike_6 (fun v6 w6 hp6 => ?_)
  obtain ⟨t6, rfl, ht6, hM6, hK6⟩ := hp6
  have hy6 : (bI (¬ (0 ≤ v ∧ v ≤ 2))) = 0 ∨ (bI (¬ (0 ≤ v ∧ v ≤ 2))) = 1 := (bI_01 _)
  refine g_if_eq (tgt := 14) C dX8_alike_9 (by decide) (bI_r _) (fun h9 => ?_) (fun h9 => ?_)
  · have hwk : 0 ≤ v ∧ v ≤ 2 := Classical.not_not.mp (bI_0 (by omega))
    obtain ⟨V, rfl⟩ := Int.eq_ofNat_of_zero_le hwk.1
    have hg := hB V (by omega)
    obtain ⟨r, hr⟩ := RT_ex hg
    have hsv := hS V (by omega)
    have hg1 := hg.1
    have hg2 := hg.2.1
    refine g_aload_n C dX8_alike_14 rfl ?_
    refine g_iload_n C dX8_alike_15 rfl ?_
    refine g_callV C (c_X8_places _ hM6 (i := V) (r := r) (by omega) hg hr hsv) (ci := 10) rfl hM6.o rfl ml_RX8_207 im_yX8_places se_RX8_yX8_places in_RX8 co_yX8_places hd_X8_places rfl ⟨by omega, by omega⟩ rfl (Nat.le_of_ble_eq_true rfl) ⟨by omega, by omega⟩ dX8_alike_16 (fun v16 w16 hp16 => ?_)
    obtain ⟨q16, f16, rfl, h16, hf16, hr16, x16⟩ := hp16
    have hM7 := hM6.ex x16
    refine g_astore_n C dX8_alike_19 (by decide) rfl ?_
    refine g_aload_n C dX8_alike_20 rfl ?_
    refine g_get (ci := 10) C rfl inTX8 1 (by decide) fl_RX8_9 rfl hM7.o rfl dX8_alike_21 ?_
    refine g_iload_n C dX8_alike_24 rfl ?_
    refine g_ialoadN (V) C hM7.b (by omega) (by omega) dX8_alike_25 ?_
    refine g_wf (fun hwf26 => ?_)
    refine g_callS C (c_X8_rootPlaces _ (b := ba V) (by omega)) ml_RX8_217 sm_yX8_rootPlaces in_RX8 co_yX8_rootPlaces hd_X8_rootPlaces rfl ⟨by omega, by omega⟩ rfl (Nat.le_of_ble_eq_true rfl) ⟨by omega, by omega⟩ dX8_alike_26 (fun v26 w26 hp26 => ?_)
    obtain ⟨f26, rfl, rfl, hf26⟩ := hp26
    have hM8 := hM7.ex (Ex.push hwf26 (true, eI 17 f26))
    have h16' := (Ex.push hwf26 (true, eI 17 f26)).2 _ _ h16
    refine g_astore_n C dX8_alike_29 (by decide) rfl ?_
    refine g_iconst C dX8_alike_30 ?_
    refine g_istore C dX8_alike_31 (by decide) rfl ?_
    have J57 : ∀ j : Nat, j ≤ 17 → (∀ i, i < j → f16 i = f26 i) → (j < 17 → f16 j ≠ f26 j) → G E X 5 57 [some (.ref m), some (iI (V : Int)), some (.ref q16), some (.ref w16.1), some (iI (j : Int))] [] (wpush w16 (true, eI 17 f26)) 420 2224 := by
      intro j hj h1 h2
      refine g_iload C dX8_alike_57 rfl ?_
      refine g_iconst C dX8_alike_59 ?_
      refine g_isub C dX8_alike_60 ?_
      exact g_ireturn C hQ dX8_alike_61 (by omega) (by omega) ⟨t6, _, rfl, hM8, hK6.tr (Keep.ex (x16.tr (Ex.push hwf26 _))), Or.inr ⟨hwk, by omega, r, hr, j, hj, rfl, fun i hi => by
        have e := h1 i hi
        rw [hf16 i (by omega)] at e
        show rpD (ba V) i (lfD (pq (ba V) r 1 r (st V).toNat).1 (pq (ba V) r 0 1 (st V).toNat).1 i / (pq (ba V) r 0 1 (st V).toNat).1)
        rw [e]; exact (hf26 i (by omega)).1, fun hi hc => h2 hi (by
        rw [hf16 j hi]
        exact rpD_uniq hc (hf26 j hi).1)⟩⟩
    refine g_loop (σ := Nat) (fun j => j ≤ 17 ∧ ∀ i, i < j → f16 i = f26 i) (fun j => G E X 5 33 [some (.ref m), some (iI (V : Int)), some (.ref q16), some (.ref w16.1), some (iI (j : Int))] [] (wpush w16 (true, eI 17 f26)) 420 2224) (fun j => 17 - j) ?_ 0 ⟨by omega, fun i hi => absurd hi (Nat.not_lt_zero i)⟩
    rintro j ⟨hj, h1⟩ ih
    refine g_iload C dX8_alike_33 rfl ?_
    refine g_bipush C dX8_alike_35 (by decide) ?_
    refine g_icmp_ge (tgt := 57) C dX8_alike_37 (by decide) (by omega) (by omega) (fun h37 => ?_) (fun h37 => ?_)
    · exact J57 j hj h1 (by first | exact fun _ => h48 | (intro q; omega))
    · have hrj := hr16 j (by omega)
      have hrj2 := (hf26 j (by omega)).2
      refine g_aload_n C dX8_alike_40 rfl ?_
      refine g_iload C dX8_alike_41 rfl ?_
      refine g_ialoadN (j) C h16' (by omega) (by omega) dX8_alike_43 ?_
      refine g_aload_n C dX8_alike_44 rfl ?_
      refine g_iload C dX8_alike_45 rfl ?_
      refine g_ialoadN (j) C wpush_s (by omega) (by omega) dX8_alike_47 ?_
      refine g_icmp_ne (tgt := 57) C dX8_alike_48 (by decide) (by omega) (by omega) (fun h48 => ?_) (fun h48 => ?_)
      · exact J57 j hj h1 (by first | exact fun _ => h48 | (intro q; omega))
      · refine g_iinc C dX8_alike_51 rfl (by decide) rfl ?_
        refine g_goto (tgt := 33) C dX8_alike_54 (by decide) ?_
        exact ih (j + 1) ⟨by omega, fun i hi => by
          by_cases q : i = j
          · rw [q]; omega
          · exact h1 i (by omega)⟩ (by omega)
  · refine g_iconst C dX8_alike_12 ?_
    exact g_ireturn C hQ dX8_alike_13 (by omega) (by omega) ⟨t6, _, rfl, hM6, hK6, Or.inl ⟨bI_1 h9, by omega, rfl⟩⟩
/-! every pair with the norm 1 is a power of the least one -/
theorem blt_lt {a b : Nat} (h : Nat.blt a b = true) : a < b := Nat.le_of_ble_eq_true h
def sol (b u v : Int) : Prop := 0 < u ∧ 0 ≤ v ∧ u * u - b * (v * v) = 1
theorem sq_lt2 {x y : Int} (hy : 0 ≤ y) (h : x * x < y * y) : x < y := by
  rcases Int.lt_or_le x y with q | q
  · exact q
  · have := Int.mul_le_mul q q hy (Int.le_trans hy q)
    omega
theorem sol.step {b P Q u v : Int} (hb : 0 < b) (h : sol b u v) (g : sol b P Q) (hQ : 0 < Q) (hv : Q ≤ v) : sol b (u * P - b * (v * Q)) (v * P - u * Q) ∧ v * P - u * Q < v ∧ u = (u * P - b * (v * Q)) * P + b * ((v * P - u * Q) * Q) ∧ v = (u * P - b * (v * Q)) * Q + (v * P - u * Q) * P := by
  obtain ⟨h1, h2, h3⟩ := h
  obtain ⟨g1, g2, g3⟩ := g
  have pu : 0 < u * P := Int.mul_pos h1 g1
  have pv : 0 ≤ v * Q := Int.mul_nonneg h2 g2
  have pbv : 0 ≤ b * (v * Q) := Int.mul_nonneg (Int.le_of_lt hb) pv
  have puQ : 0 < u * Q := Int.mul_pos h1 hQ
  have pvP : 0 < v * P := Int.mul_pos (by omega) g1
  have vv : Q * Q ≤ v * v := Int.mul_le_mul hv hv g2 h2
  have uu : 1 ≤ u * u := Int.mul_pos h1 h1
  have PP : 1 ≤ P * P := Int.mul_pos g1 g1
  have QQ : 1 ≤ Q * Q := Int.mul_pos hQ hQ
  refine ⟨⟨?_, ?_, by grind⟩, ?_, by grind, by grind⟩
  · have e : (u * P - b * (v * Q)) * (u * P + b * (v * Q)) = u * u + P * P - 1 := by grind
    rcases Int.lt_or_le 0 (u * P - b * (v * Q)) with q | q
    · exact q
    · have := Int.mul_nonpos_of_nonpos_of_nonneg q (show 0 ≤ u * P + b * (v * Q) by omega)
      omega
  · have e : (v * P - u * Q) * (v * P + u * Q) = v * v - Q * Q := by grind
    rcases Int.lt_or_le (v * P - u * Q) 0 with q | q
    · have := Int.mul_neg_of_neg_of_pos q (show 0 < v * P + u * Q by omega)
      omega
    · exact q
  · have e1 : (u * Q) * (u * Q) = Q * Q + (v * v) * (P * P - 1) := by grind
    have e2 : (v * P - v) * (v * P - v) = (v * v) * (P * P - 1) - 2 * ((v * v) * (P - 1)) := by grind
    have p3 : 0 ≤ (v * v) * (P - 1) := Int.mul_nonneg (Int.mul_nonneg h2 h2) (by omega)
    have := sq_lt2 (x := v * P - v) (y := u * Q) (Int.le_of_lt puQ) (by omega)
    omega
theorem pw2_s {b P Q : Int} (j : Nat) : pw2 b P Q (j + 1) = ((pw2 b P Q j).1 * P + b * ((pw2 b P Q j).2 * Q), (pw2 b P Q j).1 * Q + (pw2 b P Q j).2 * P) := rfl
theorem sol_pow {b P Q : Int} (hb : 0 < b) (g : sol b P Q) (hQ : 0 < Q) (hmin : ∀ u v, sol b u v → 0 < v → Q ≤ v) : ∀ (n : Nat) (u v : Int), v < n → sol b u v → ∃ j, pw2 b P Q j = (u, v)
  | 0, u, v, hn, h => by have := h.2.1; omega
  | n + 1, u, v, hn, h => by
    rcases Int.lt_or_le 0 v with q | q
    · obtain ⟨a1, a2, a3, a4⟩ := sol.step hb h g hQ (hmin u v h q)
      obtain ⟨j, hj⟩ := sol_pow hb g hQ hmin n _ _ (by omega) a1
      refine ⟨j + 1, ?_⟩
      rw [pw2_s, hj]
      dsimp only
      rw [← a3, ← a4]
    · have hv : v = 0 := by have := h.2.1; omega
      subst hv
      obtain ⟨h1, -, h3⟩ := h
      refine ⟨0, ?_⟩
      have e : (u - 1) * (u + 1) = 0 := by grind
      rcases Int.mul_eq_zero.mp e with c | c
      · rw [show u = 1 by omega]; rfl
      · omega
theorem pw2_sol {b P Q : Int} (hb : 0 < b) (g : sol b P Q) : ∀ j, sol b (pw2 b P Q j).1 (pw2 b P Q j).2
  | 0 => ⟨show (0 : Int) < 1 by decide, show (0 : Int) ≤ 0 by decide, by show (1 : Int) * 1 - b * (0 * 0) = 1; omega⟩
  | j + 1 => by
    obtain ⟨h1, h2, h3⟩ := pw2_sol hb g j
    obtain ⟨g1, g2, g3⟩ := g
    rw [pw2_s]
    have := Int.mul_pos h1 g1
    have := Int.mul_nonneg (Int.le_of_lt hb) (Int.mul_nonneg h2 g2)
    have := Int.mul_nonneg (Int.le_of_lt h1) g2
    have := Int.mul_nonneg h2 (Int.le_of_lt g1)
    refine ⟨by dsimp only; omega, by dsimp only; omega, by dsimp only; grind⟩
theorem pw2_mono {b P Q : Int} (hb : 0 < b) (g : sol b P Q) (j : Nat) : (pw2 b P Q j).2 ≤ (pw2 b P Q (j + 1)).2 ∧ (pw2 b P Q j).1 * P ≤ (pw2 b P Q (j + 1)).1 := by
  obtain ⟨h1, h2, h3⟩ := pw2_sol hb g j
  obtain ⟨g1, g2, g3⟩ := g
  rw [pw2_s]
  have a1 := Int.mul_nonneg (Int.le_of_lt hb) (Int.mul_nonneg h2 g2)
  have a2 := Int.mul_nonneg (Int.le_of_lt h1) g2
  have a3 := Int.mul_le_mul_of_nonneg_left (show (1 : Int) ≤ P by omega) h2
  exact ⟨by dsimp only; omega, by dsimp only; omega⟩
theorem pw2_ge {b P Q : Int} (hb : 0 < b) (g : sol b P Q) : ∀ k, (pw2 b P Q 2).2 ≤ (pw2 b P Q (k + 2)).2
  | 0 => Int.le_refl _
  | k + 1 => Int.le_trans (pw2_ge hb g k) (pw2_mono hb g (k + 2)).1
theorem least_nat {p : Nat → Prop} (h : ∃ n, p n) : ∃ n, p n ∧ ∀ m, p m → n ≤ m := by
  obtain ⟨n, hn⟩ := h
  have key : ∀ n, (∃ m, m ≤ n ∧ p m) → ∃ n, p n ∧ ∀ m, p m → n ≤ m := by
    intro n
    induction n with
    | zero =>
      rintro ⟨m, h1, h2⟩
      exact ⟨m, h2, fun q _ => by omega⟩
    | succ n ih =>
      rintro ⟨m, h1, h2⟩
      by_cases c : ∃ m, m ≤ n ∧ p m
      · exact ih c
      · refine ⟨m, h2, fun q hq => ?_⟩
        rcases Nat.lt_or_ge n q with d | d
        · omega
        · exact absurd ⟨q, d, hq⟩ c
  exact key n ⟨n, Nat.le_refl n, hn⟩
/-- no lesser one: checked as far as a power of it could be the one that is told -/
def nsq (b P Q r v : Nat) : Bool := Nat.blt Q (2 * r * (v * v)) || v == 0 || (Nat.blt ((v * P / Q) * (v * P / Q)) (1 + b * (v * v)) && Nat.blt (1 + b * (v * v)) ((v * P / Q + 1) * (v * P / Q + 1)))
def allN (p : Nat → Bool) : Nat → Bool
  | 0 => true
  | n + 1 => p n && allN p n
theorem allN_at {p : Nat → Bool} : ∀ {n : Nat}, allN p n = true → ∀ k, k < n → p k = true
  | 0, _, k, hk => absurd hk (Nat.not_lt_zero k)
  | n + 1, h, k, hk => by
    simp only [allN, Bool.and_eq_true] at h
    rcases Nat.lt_or_ge k n with q | q
    · exact allN_at h.2 k q
    · rw [show k = n by omega]; exact h.1
def vMx (b : Nat) : Nat := if b = 61 then 4021 else 600
def minC (b r : Int) : Bool := allN (nsq b.toNat (leaP b r).toNat (leaQ b r).toNat r.toNat) (vMx b.toNat) && Nat.blt (leaQ b r).toNat (2 * r.toNat * (vMx b.toNat * vMx b.toNat))
theorem min_chk : ((List.range 10).all fun r => (List.range (2 * r)).all fun t => minC ((r * r + 1 + t : Nat) : Int) (r : Int)) = true := by decide +kernel
theorem lea_min {b r : Int} (hb : GB b) (hr : RT b r) {u v : Int} (h : sol b u v) (hv : 0 < v) : leaQ b r ≤ v := by
  obtain ⟨l1, l2, l3, l4, l5⟩ := lea_ok hb hr
  have hb1 := hb.1
  have hr1 := (RT_le hb hr).1
  have g : sol b (leaP b r) (leaQ b r) := ⟨by omega, by omega, l5⟩
  obtain ⟨n, ⟨hn0, u0, hu0⟩, hmin⟩ := least_nat (p := fun n => 0 < n ∧ ∃ u : Int, sol b u (n : Int)) ⟨(leaQ b r).toNat, by omega, leaP b r, by rw [Int.toNat_of_nonneg (by omega)]; exact g⟩
  have hm : ∀ u v, sol b u v → 0 < v → (n : Int) ≤ v := fun u v h hv => by
    have := hmin v.toNat ⟨by omega, u, by rw [Int.toNat_of_nonneg (by omega)]; exact h⟩
    omega
  obtain ⟨k, hk⟩ := sol_pow (by omega) hu0 (by omega) hm ((leaQ b r).toNat + 1) _ _ (by omega) g
  have hvn := hm u v h hv
  match k, hk with
  | 0, hk =>
    have := congrArg Prod.snd hk
    dsimp only [pw2] at this
    omega
  | 1, hk =>
    have e := congrArg Prod.snd hk
    have e2 : (pw2 b u0 (n : Int) 1).2 = n := by show (1 : Int) * n + 0 * u0 = n; omega
    rw [e2] at e
    dsimp only at e
    omega
  | k + 2, hk =>
    exfalso
    have e := congrArg Prod.snd hk
    have e1 := pw2_ge (by omega) hu0 k
    have e2 : (pw2 b u0 (n : Int) 2).2 = 2 * (u0 * n) := by
      show ((1 : Int) * u0 + b * (0 * n)) * n + (1 * n + 0 * u0) * u0 = _
      grind
    rw [e, e2] at e1
    dsimp only at e1
    obtain ⟨c1, c2, c3⟩ := hu0
    have hrr := hr.2.1
    have nn : (0 : Int) ≤ (n : Int) * n := Int.mul_nonneg (by omega) (by omega)
    have hrn : r * n < u0 := by
      refine sq_lt2 (by omega) ?_
      have : (r * n) * (r * n) = (r * r) * ((n : Int) * n) := by grind
      have := Int.mul_le_mul_of_nonneg_right hrr nn
      omega
    have hrnn : r * ((n : Int) * n) ≤ u0 * n := by
      have := Int.mul_le_mul_of_nonneg_right (show r * n ≤ u0 by omega) (show (0 : Int) ≤ n by omega)
      rw [Int.mul_assoc] at this
      exact this
    have hc := all_bases (P := minC) min_chk hb hr
    simp only [minC, Bool.and_eq_true] at hc
    obtain ⟨hc1, hc2⟩ := hc
    obtain ⟨B, hB⟩ := Int.eq_ofNat_of_zero_le (show 0 ≤ b by omega)
    obtain ⟨R, hR⟩ := Int.eq_ofNat_of_zero_le (show 0 ≤ r by omega)
    obtain ⟨P, hP⟩ := Int.eq_ofNat_of_zero_le (show 0 ≤ leaP b r by omega)
    obtain ⟨Q, hQ⟩ := Int.eq_ofNat_of_zero_le (show 0 ≤ leaQ b r by omega)
    rw [hP, hQ] at hc1
    rw [hQ] at hc2
    rw [hB, hR] at hc1 hc2
    simp only [Int.toNat_natCast] at hc1 hc2
    have hQ2 : 2 * R * (n * n) ≤ Q := by
      have : 2 * (r * ((n : Int) * n)) ≤ leaQ b r := by omega
      rw [hQ, hR] at this
      have e9 : (2 : Int) * ((R : Int) * ((n : Int) * (n : Int))) = ((2 * R * (n * n) : Nat) : Int) := by
        simp only [Int.natCast_mul]
        rw [Int.mul_assoc]; rfl
      omega
    have hnV : n < vMx B := by
      rcases Nat.lt_or_ge n (vMx B) with q | q
      · exact q
      · have h8 : Q < 2 * R * (vMx B * vMx B) := blt_lt hc2
        have h9 := Nat.mul_le_mul q q
        have h10 := Nat.mul_le_mul_left (2 * R) h9
        omega
    have hz := allN_at hc1 n hnV
    simp only [nsq, Bool.or_eq_true, Bool.and_eq_true, beq_iff_eq] at hz
    have f1 : ¬ Nat.blt Q (2 * R * (n * n)) = true := by
      intro q
      have : Q < 2 * R * (n * n) := blt_lt q
      omega
    rcases hz with (q | q) | ⟨q1, q2⟩
    · exact f1 q
    · omega
    · have q1 : (n * P / Q) * (n * P / Q) < 1 + B * (n * n) := blt_lt q1
      have q2 : 1 + B * (n * n) < (n * P / Q + 1) * (n * P / Q + 1) := blt_lt q2
      obtain ⟨U, hU⟩ := Int.eq_ofNat_of_zero_le (show 0 ≤ u0 by omega)
      have hN : U * U = 1 + B * (n * n) := by
        rw [hU, hB] at c3
        have e5 : (U : Int) * (U : Int) = ((U * U : Nat) : Int) := by simp
        have e6 : (B : Int) * ((n : Int) * (n : Int)) = ((B * (n * n) : Nat) : Int) := by simp
        omega
      rw [← hN] at q1 q2
      generalize n * P / Q = t at q1 q2
      rcases Nat.lt_or_ge t U with d | d
      · have := Nat.mul_le_mul (show t + 1 ≤ U by omega) (show t + 1 ≤ U by omega)
        omega
      · have := Nat.mul_le_mul d d
        omega
theorem aB_sq (x : Int) : aB x * aB x = x * x := by
  unfold aB
  split
  · rw [Int.neg_mul_neg]
  · rfl
theorem rank_ex {b r x y : Int} (hb : GB b) (hr : RT b r) (h : x * x - b * (y * y) = 1) : ∃ j, pw2 b (leaP b r) (leaQ b r) j = (aB x, aB y) := by
  obtain ⟨l1, l2, l3, l4, l5⟩ := lea_ok hb hr
  have hb1 := hb.1
  have g : sol b (leaP b r) (leaQ b r) := ⟨by omega, by omega, l5⟩
  have ax : 0 ≤ aB x := by unfold aB; split <;> omega
  have ay : 0 ≤ aB y := by unfold aB; split <;> omega
  have hs : aB x * aB x - b * (aB y * aB y) = 1 := by rw [aB_sq, aB_sq]; exact h
  have hx : aB x ≠ 0 := by
    intro q
    rw [q] at hs
    have := Int.mul_nonneg (show 0 ≤ b by omega) (Int.mul_nonneg ay ay)
    omega
  exact sol_pow (by omega) g l3 (fun u v h hv => lea_min hb hr h hv) ((aB y).toNat + 1) _ _ (by omega) ⟨by omega, ay, hs⟩
theorem pw2_big {b P Q : Int} (hb : 0 < b) (g : sol b P Q) (hP : 1 < P) : ∀ j : Nat, (2 : Int) ^ j ≤ (pw2 b P Q j).1
  | 0 => by show (2 : Int) ^ 0 ≤ 1; decide
  | j + 1 => by
    have h1 := pw2_big hb g hP j
    have h2 := (pw2_mono hb g j).2
    have h3 := (pw2_sol hb g j).1
    have h4 := Int.mul_le_mul_of_nonneg_left (show (2 : Int) ≤ P by omega) (Int.le_of_lt h3)
    rw [Int.pow_succ]
    omega
theorem pw2_le {b P Q : Int} (hb : 0 < b) (g : sol b P Q) {j : Nat} : ∀ k : Nat, (pw2 b P Q j).1 ≤ (pw2 b P Q (j + k)).1 ∧ (pw2 b P Q j).2 ≤ (pw2 b P Q (j + k)).2
  | 0 => ⟨Int.le_refl _, Int.le_refl _⟩
  | k + 1 => by
    obtain ⟨a1, a2⟩ := pw2_le hb g (j := j) k
    obtain ⟨m1, m2⟩ := pw2_mono hb g (j + k)
    obtain ⟨s1, s2, -⟩ := pw2_sol hb g (j + k)
    have := Int.mul_le_mul_of_nonneg_left (show (1 : Int) ≤ P by have := g.1; omega) (Int.le_of_lt s1)
    exact ⟨by show _ ≤ (pw2 b P Q (j + k + 1)).1; omega, by show _ ≤ (pw2 b P Q (j + k + 1)).2; omega⟩
theorem irr {b : Int} (hb : GB b) : ∀ (n : Nat) (x y : Int), aB y < n → x * x - b * (y * y) = 0 → x = 0 ∧ y = 0
  | 0, x, y, hn, h => by have : 0 ≤ aB y := by { unfold aB; split <;> omega }; omega
  | n + 1, x, y, hn, h => by
    by_cases hy : y = 0
    · subst hy
      have e : x * x = 0 := by grind
      rcases Int.mul_eq_zero.mp e with c | c <;> exact ⟨c, rfl⟩
    · exfalso
      obtain ⟨r, hr⟩ := RT_ex hb
      have hb1 := hb.1
      have hr1 := RT_le hb hr
      have ax : 0 ≤ aB x := by unfold aB; split <;> omega
      have ay : 0 < aB y := by unfold aB; split <;> omega
      have hs : aB x * aB x = b * (aB y * aB y) := by rw [aB_sq, aB_sq]; omega
      have yy : 0 < aB y * aB y := Int.mul_pos ay ay
      have hlo : r * aB y < aB x := by
        refine sq_lt2 ax ?_
        have e : (r * aB y) * (r * aB y) = (r * r) * (aB y * aB y) := by grind
        have := hr.2.1
        have hne := hb.2.2 r
        have := Int.mul_le_mul_of_nonneg_right (show r * r + 1 ≤ b by omega) (Int.le_of_lt yy)
        rw [Int.add_mul] at this
        omega
      have hhi : aB x < (r + 1) * aB y := by
        refine sq_lt2 (Int.mul_nonneg (by omega) (by omega)) ?_
        have e : ((r + 1) * aB y) * ((r + 1) * aB y) = ((r + 1) * (r + 1)) * (aB y * aB y) := by grind
        have := Int.mul_le_mul_of_nonneg_right (show b + 1 ≤ (r + 1) * (r + 1) by have := hr.2.2; omega) (Int.le_of_lt yy)
        rw [Int.add_mul] at this
        omega
      have e1 : (r + 1) * aB y = r * aB y + aB y := by grind
      have hz := irr hb n (b * aB y - r * aB x) (aB x - r * aB y) (by unfold aB at *; split <;> omega) (by grind)
      omega
theorem nrm0 {b x y : Int} (hb : GB b) : x * x - b * (y * y) = 0 ↔ x = 0 ∧ y = 0 := by
  constructor
  · intro h
    exact irr hb ((aB y).toNat + 1) x y (by have : 0 ≤ aB y := by { unfold aB; split <;> omega }; omega) h
  · rintro ⟨rfl, rfl⟩
    simp
theorem aB_if (x : Int) : (if 0 ≤ x then x else 0 - x) = aB x := by unfold aB; split <;> split <;> omega
set_option maxHeartbeats 4000000 in
set_option maxRecDepth 100000 in
theorem c_X8_rank (l : Launch) {E : GE} {w : Wd} {v : Int} (h_v : -2147483648 ≤ v ∧ v < 2147483648) {τ : Nat → Nat} {m : Nat} {A : MA} {th : Int} {ba st pb le ri : Nat → Int} {sp : Nat → Nat → Int} {ct : Nat → Int} (hM : MSx τ w m A th ba st pb le ri sp ct) (hP : HPp pb le ri) : Sp E l yX8_rank cX8_rank 6 (some .int) 5 (1410) (11700) [.ref m, iI v] w (fun r' w' => ∃ (t ans : Int), r' = some (iI ans) ∧ MSx τ w' m A (t) (ba) (st) (pb) (le) (ri) (sp) (ct) ∧ Keep τ w w' ∧ (¬ (0 ≤ v ∧ v ≤ 2) ∧ t = 1 ∧ ans = 0 ∨ (0 ≤ v ∧ v ≤ 2) ∧ t = 0 ∧ (ans = -1 ∧ ¬ le v.toNat * le v.toNat - pb v.toNat * (ri v.toNat * ri v.toNat) = 1 ∨ le v.toNat * le v.toNat - pb v.toNat * (ri v.toNat * ri v.toNat) = 1 ∧ ∃ (r : Int) (j : Nat), RT (pb v.toNat) r ∧ ans = j ∧ pw2 (pb v.toNat) (leaP (pb v.toNat) r) (leaQ (pb v.toNat) r) j = (aB (le v.toNat), aB (ri v.toNat))))) := by
  refine sp_intro [some (.ref m), some (iI v), none, none, none, none] rfl (Nat.le_of_ble_eq_true rfl) pn_X8 ?_
  intro X C hRm hl hnm hQ
  obtain ⟨hRf, hRl, hRc, hRs⟩ := hRm
  refine g_wf (fun hwf => ?_)
  refine g_aload_n C dX8_rank_0 rfl ?_
  refine g_iload_n C dX8_rank_1 rfl ?_
  refine g_callS C (c_X8_isNo _ (v := v) h_v) ml_RX8_145 sm_yX8_isNo in_RX8 co_yX8_isNo hd_X8_isNo rfl ⟨by omega, by omega⟩ rfl (Nat.le_of_ble_eq_true rfl) ⟨by omega, by omega⟩ dX8_rank_2 (fun v2 w2 hp2 => ?_)
  obtain ⟨rfl, hw2⟩ := hp2
  subst w2
  refine g_iconst C dX8_rank_5 ?_
  refine g_callV C (c_X8_start _ hM (y := bI (¬ (0 ≤ v ∧ v ≤ 2))) (wh := 1) (bI_01 _) (by omega)) (ci := 10) rfl hM.o rfl ml_RX8_149 im_yX8_start se_RX8_yX8_start in_RX8 co_yX8_start hd_X8_start rfl ⟨by omega, by omega⟩ rfl (Nat.le_of_ble_eq_true rfl) ⟨by omega, by omega⟩ dX8_rank_6 (fun v6 w6 hp6 => ?_)
  obtain ⟨t6, rfl, ht6, hM6, hK6⟩ := hp6
  have hy6 : (bI (¬ (0 ≤ v ∧ v ≤ 2))) = 0 ∨ (bI (¬ (0 ≤ v ∧ v ≤ 2))) = 1 := (bI_01 _)
  refine g_if_eq (tgt := 14) C dX8_rank_9 (by decide) (bI_r _) (fun h9 => ?_) (fun h9 => ?_)
  · have hwk : 0 ≤ v ∧ v ≤ 2 := Classical.not_not.mp (bI_0 (by omega))
    obtain ⟨V, rfl⟩ := Int.eq_ofNat_of_zero_le hwk.1
    obtain ⟨g1, gL, gR⟩ := hP V (by omega)
    obtain ⟨r, hr⟩ := RT_ex g1
    have g11 := g1.1
    have g12 := g1.2.1
    obtain ⟨q1, hq1, tq1, r1⟩ := hM6.L (i := V) (by omega)
    obtain ⟨q2, hq2, tq2, r2⟩ := hM6.R (i := V) (by omega)
    obtain ⟨nL, fL, eL, bL, dL⟩ := id r1
    obtain ⟨nR, fR, eR', bR, dR⟩ := id r2
    refine g_aload_n C dX8_rank_14 rfl ?_
    refine g_get (ci := 10) C rfl inTX8 3 (by decide) fl_RX8_16 rfl hM6.o rfl dX8_rank_15 ?_
    refine g_iload_n C dX8_rank_18 rfl ?_
    refine g_ialoadN (V) C hM6.p (by omega) (by omega) dX8_rank_19 ?_
    refine g_istore_n C dX8_rank_20 (by decide) rfl ?_
    refine g_iload_n C dX8_rank_21 rfl ?_
    refine g_aload_n C dX8_rank_22 rfl ?_
    refine g_get (ci := 10) C rfl inTX8 4 (by decide) fl_RX8_24 rfl hM6.o rfl dX8_rank_23 ?_
    refine g_iload_n C dX8_rank_26 rfl ?_
    refine g_aaloadN (V) C rfl rfl hM6.l (by omega) (by omega) hq1 dX8_rank_27 ?_
    refine g_aload_n C dX8_rank_28 rfl ?_
    refine g_get (ci := 10) C rfl inTX8 5 (by decide) fl_RX8_28 rfl hM6.o rfl dX8_rank_29 ?_
    refine g_iload_n C dX8_rank_32 rfl ?_
    refine g_aaloadN (V) C rfl rfl hM6.r (by omega) (by omega) hq2 dX8_rank_33 ?_
    refine g_callS C (c_X8_norm _ (c := 4) eL eR' bL bR dL dR (by omega) (by omega)) ml_RX8_188 sm_yX8_norm in_RX8 co_yX8_norm hd_X8_norm rfl ⟨by omega, by omega⟩ rfl (Nat.le_of_ble_eq_true rfl) ⟨by omega, by omega⟩ dX8_rank_34 (fun v34 w34 hp34 => ?_)
    obtain ⟨q34, m34, g34, rfl, h34, hb34, hm34, x34, hq34⟩ := hp34
    refine g_lconst (z := 1) C dX8_rank_37 (by decide) ?_
    refine g_callS C (c_X8_of _ (v := 1) (by omega)) ml_RX8_20 sm_yX8_of in_RX8 co_yX8_of hd_X8_of rfl ⟨by omega, by omega⟩ rfl (Nat.le_of_ble_eq_true rfl) ⟨by omega, by omega⟩ dX8_rank_38 (fun v38 w38 hp38 => ?_)
    obtain ⟨m38, f38, rfl, e38, b38, c38, s38, x38⟩ := hp38
    have y38 := x34.tr x38
    refine g_callS C (c_X8_side _ (x38.2 _ _ h34) e38 hb34 b38 (by omega) (by omega)) ml_RX8_199 sm_yX8_side in_RX8 co_yX8_side hd_X8_side rfl ⟨by omega, by omega⟩ rfl (Nat.le_of_ble_eq_true rfl) ⟨by omega, by omega⟩ dX8_rank_41 (fun v41 w41 hp41 => ?_)
    obtain ⟨⟨d41, rfl, hd41⟩, hw41⟩ := hp41
    subst hw41
    have hM7 := hM6.ex y38
    refine g_if_eq (tgt := 49) C dX8_rank_44 (by decide) (by omega) (fun h44 => ?_) (fun h44 => ?_)
    · have hn1 : le V * le V - pb V * (ri V * ri V) = 1 := by omega
      obtain ⟨jr, hjr⟩ := rank_ex g1 hr hn1
      obtain ⟨lo1, lo2, lo3, lo4, lo5⟩ := lea_ok g1 hr
      have gs : sol (pb V) (leaP (pb V) r) (leaQ (pb V) r) := ⟨by omega, by omega, lo5⟩
      have hb0 : 0 < pb V := by omega
      have hjr80 : jr < 80 := by
        rcases Nat.lt_or_ge jr 80 with q | q
        · exact q
        · have a1 := pw2_big hb0 gs lo1 jr
          rw [hjr] at a1
          have a2 := p2_le q
          have a3 : LGN = 2 ^ 80 := by unfold LGN; exact p2_80.symm
          dsimp only at a1
          omega
      refine g_wf (fun hwf49 => ?_)
      refine g_iload_n C dX8_rank_49 rfl ?_
      refine g_callS C (c_X8_leastOf _ g1 hr) ml_RX8_225 sm_yX8_leastOf in_RX8 co_yX8_leastOf hd_X8_leastOf rfl ⟨by omega, by omega⟩ rfl (Nat.le_of_ble_eq_true rfl) ⟨by omega, by omega⟩ dX8_rank_50 (fun v50 w50 hp50 => ?_)
      obtain ⟨q50, p50, rfl, hper, hR50, x50, lq50⟩ := hp50
      rw [show (pq (pb V) r 1 r ((if p50 % 2 = 0 then p50 else 2 * p50) - 1)).1 = leaP (pb V) r by unfold leaP; rw [perF_eq hper]; rfl, show (pq (pb V) r 0 1 ((if p50 % 2 = 0 then p50 else 2 * p50) - 1)).1 = leaQ (pb V) r by unfold leaQ; rw [perF_eq hper]; rfl] at hR50
      obtain ⟨R5, z0, z1, z2, z3, hR5, i0, i1, i2, i3, l50, l51, -⟩ := hR50
      have l50 := l50.short (show ¬ LGN ≤ aB (leaP (pb V) r) by unfold LGN aB; rw [if_neg (by omega)]; omega)
      have l51 := l51.short (show ¬ LGN ≤ aB (leaQ (pb V) r) by unfold LGN aB; rw [if_neg (by omega)]; omega)
      refine g_wf (fun hwf7 => ?_)
      have y0 := Ex.push hwf7 (true, eR 2 2 (fun _ => none))
      have hr0 : (wpush w50 (true, eR 2 2 (fun _ => none))).2 w50.1 = some (true, eR 2 2 (fun _ => none)) := wpush_s
      have z0' : (wpush w50 (true, eR 2 2 (fun _ => none))).1 = w50.1 + 1 := rfl
      have hM8 := hM7.ex x50
      refine g_astore_n C dX8_rank_53 (by decide) rfl ?_
      refine g_iconst C dX8_rank_54 ?_
      refine g_anewI C kl_RX8_19 (N := 2) rfl (by omega) (by omega) dX8_rank_55 ?_
      refine g_dup C dX8_rank_58 rfl ?_
      refine g_iconst C dX8_rank_59 ?_
      refine g_lconst (z := 1) C dX8_rank_60 (by decide) ?_
      refine g_callS C (c_X8_of _ (v := 1) (by omega)) ml_RX8_20 sm_yX8_of in_RX8 co_yX8_of hd_X8_of rfl ⟨by omega, by omega⟩ rfl (Nat.le_of_ble_eq_true rfl) ⟨by omega, by omega⟩ dX8_rank_61 (fun v61 w61 hp61 => ?_)
      obtain ⟨m1, f1, rfl, e1, b1, c1, s1, x1⟩ := hp61
      have x01 := y0.tr x1
      refine g_aastoreI C 0 (x1.2 _ _ hr0) e1 rfl (by omega) dX8_rank_64 ?_
      have x46 := x01.setnew hwf7 (Nat.le_refl _) (true, eR 2 2 (rup (fun _ => none) 0 (some ((wpush w50 (true, eR 2 2 (fun _ => none))).1 + 1))))
      have s46 : (wset w61 w50.1 (true, eR 2 2 (rup (fun _ => none) 0 (some ((wpush w50 (true, eR 2 2 (fun _ => none))).1 + 1))))).2 w50.1 = some (true, eR 2 2 (rup (fun _ => none) 0 (some ((wpush w50 (true, eR 2 2 (fun _ => none))).1 + 1)))) := wset_s
      have a46 : RowAt (wset w61 w50.1 (true, eR 2 2 (rup (fun _ => none) 0 (some ((wpush w50 (true, eR 2 2 (fun _ => none))).1 + 1))))) ((wpush w50 (true, eR 2 2 (fun _ => none))).1 + 1) 1 4 := (RowAt.of e1 b1 c1).keep (wset_n (by omega))
      have z46 : (wset w61 w50.1 (true, eR 2 2 (rup (fun _ => none) 0 (some ((wpush w50 (true, eR 2 2 (fun _ => none))).1 + 1))))).1 = w50.1 + 3 := by show w61.1 = _; omega
      generalize (wset w61 w50.1 (true, eR 2 2 (rup (fun _ => none) 0 (some ((wpush w50 (true, eR 2 2 (fun _ => none))).1 + 1))))) = u1 at x46 s46 a46 z46 ⊢
      refine g_dup C dX8_rank_65 rfl ?_
      refine g_iconst C dX8_rank_66 ?_
      refine g_lconst (z := 0) C dX8_rank_67 (by decide) ?_
      refine g_callS C (c_X8_of _ (v := 0) (by omega)) ml_RX8_20 sm_yX8_of in_RX8 co_yX8_of hd_X8_of rfl ⟨by omega, by omega⟩ rfl (Nat.le_of_ble_eq_true rfl) ⟨by omega, by omega⟩ dX8_rank_68 (fun v68 w68 hp68 => ?_)
      obtain ⟨m2, f2, rfl, e2, b2, c2, s2, x2⟩ := hp68
      refine g_aastoreI C 1 (x2.2 _ _ s46) e2 rfl (by omega) dX8_rank_71 ?_
      have x54 := (x46.tr x2).setnew hwf7 (Nat.le_refl _) (true, eR 2 2 (rup (rup (fun _ => none) 0 (some ((wpush w50 (true, eR 2 2 (fun _ => none))).1 + 1))) 1 (some (u1.1 + 1))))
      refine g_astore C dX8_rank_72 (by decide) rfl ?_
      refine g_iconst C dX8_rank_74 ?_
      refine g_istore C dX8_rank_75 (by decide) rfl ?_
      refine g_widen (k' := 44) (n' := 240) (by omega) (by omega) ?_
      refine g_loop (σ := Nat × Wd × Nat) (fun q => q.1 ≤ jr ∧ Ex w50 q.2.1 ∧ ∃ (R : Nat → Option Nat) (a0 a1 : Nat), q.2.1.2 q.2.2 = some (true, eR 2 2 R) ∧ R 0 = some a0 ∧ R 1 = some a1 ∧ RowAt q.2.1 a0 (pw2 (pb V) (leaP (pb V) r) (leaQ (pb V) r) q.1).1 4 ∧ RowAt q.2.1 a1 (pw2 (pb V) (leaP (pb V) r) (leaQ (pb V) r) q.1).2 4) (fun q => G E X 6 77 [some (.ref m), some (iI (V : Int)), some (iI (pb V)), some (.ref q50), some (.ref q.2.2), some (iI (q.1 : Int))] [] q.2.1 (44 + 17 * q.1) (240 + 142 * q.1)) (fun q => jr - q.1) ?_ (0, _, w50.1) ⟨Nat.zero_le _, x54, _, _, _, wset_s, by rw [rup_n (by omega), rup_s], rup_s, (a46.ex x2).keep (wset_n (by omega)), (RowAt.of e2 b2 c2).keep (wset_n (by omega))⟩
      rintro ⟨j, u, q⟩ hq ih
      obtain ⟨hj, xu, R, a0, a1, hR0, k0, k1, l0, l1⟩ := hq
      dsimp only at hj xu hR0 k0 k1 l0 l1 ⊢
      refine g_wf (fun hwfu => ?_)
      have hMu := hM8.ex xu
      have yu := (y38.tr x50).tr xu
      obtain ⟨n0, f0, e0, b0, d0⟩ := id l0
      obtain ⟨n1', f1', e1', b1', d1'⟩ := id l1
      have ps := pw2_sol hb0 gs j
      have pa0 : aB (pw2 (pb V) (leaP (pb V) r) (leaQ (pb V) r) j).1 = (pw2 (pb V) (leaP (pb V) r) (leaQ (pb V) r) j).1 := by have := ps.1; unfold aB; rw [if_neg (by omega)]
      have pa1 : aB (pw2 (pb V) (leaP (pb V) r) (leaQ (pb V) r) j).2 = (pw2 (pb V) (leaP (pb V) r) (leaQ (pb V) r) j).2 := by have := ps.2.1; unfold aB; rw [if_neg (by omega)]
      have J109 : j ≠ jr → G E X 6 109 [some (.ref m), some (iI (V : Int)), some (iI (pb V)), some (.ref q50), some (.ref q), some (iI (j : Int))] [] u (44 + 17 * j) (240 + 142 * j) := by
        intro hne
        refine g_iload_n C dX8_rank_109 rfl ?_
        refine g_aload C dX8_rank_110 rfl ?_
        refine g_iconst C dX8_rank_112 ?_
        refine g_aaloadN (0) C rfl rfl hR0 (by omega) (by omega) k0 dX8_rank_113 ?_
        refine g_aload C dX8_rank_114 rfl ?_
        refine g_iconst C dX8_rank_116 ?_
        refine g_aaloadN (1) C rfl rfl hR0 (by omega) (by omega) k1 dX8_rank_117 ?_
        refine g_aload_n C dX8_rank_118 rfl ?_
        refine g_iconst C dX8_rank_119 ?_
        refine g_aaloadN (0) C rfl rfl (xu.2 _ _ hR5) (by omega) (by omega) i0 dX8_rank_120 ?_
        refine g_aload_n C dX8_rank_121 rfl ?_
        refine g_iconst C dX8_rank_122 ?_
        refine g_aaloadN (1) C rfl rfl (xu.2 _ _ hR5) (by omega) (by omega) i1 dX8_rank_123 ?_
        refine g_callS C (c_X8_product _ (c1 := 4) (by omega) l0 l1 (l50.ex xu) (l51.ex xu) (by omega)) ml_RX8_239 sm_yX8_product in_RX8 co_yX8_product hd_X8_product rfl ⟨by omega, by omega⟩ rfl (Nat.le_of_ble_eq_true rfl) ⟨by omega, by omega⟩ dX8_rank_124 (fun v124 w124 hp124 => ?_)
        obtain ⟨q', R', a0', a1', rfl, hR0', k0', k1', l0', l1', lo0', lo1', x1'⟩ := hp124
        obtain ⟨le1, le2⟩ := pw2_le hb0 gs (j := j + 1) (jr - (j + 1))
        rw [show j + 1 + (jr - (j + 1)) = jr by omega, hjr] at le1 le2
        dsimp only at le1 le2
        have ps1 := pw2_sol hb0 gs (j + 1)
        have sh0 := l0'.short (show ¬ LGN ≤ aB (pw2 (pb V) (leaP (pb V) r) (leaQ (pb V) r) (j + 1)).1 by have := ps1.1; rw [show aB (pw2 (pb V) (leaP (pb V) r) (leaQ (pb V) r) (j + 1)).1 = (pw2 (pb V) (leaP (pb V) r) (leaQ (pb V) r) (j + 1)).1 by unfold aB; rw [if_neg (by omega)]]; omega)
        have sh1 := l1'.short (show ¬ LGN ≤ aB (pw2 (pb V) (leaP (pb V) r) (leaQ (pb V) r) (j + 1)).2 by have := ps1.2.1; rw [show aB (pw2 (pb V) (leaP (pb V) r) (leaQ (pb V) r) (j + 1)).2 = (pw2 (pb V) (leaP (pb V) r) (leaQ (pb V) r) (j + 1)).2 by unfold aB; rw [if_neg (by omega)]]; omega)
        refine g_astore C dX8_rank_127 (by decide) rfl ?_
        refine g_iinc C dX8_rank_129 rfl (by decide) rfl ?_
        refine g_goto (tgt := 77) C dX8_rank_132 (by decide) ?_
        refine g_widen (k' := 44 + 17 * (j + 1)) (n' := 240 + 142 * (j + 1)) (by omega) (by omega) ?_
        exact ih (j + 1, w124, q') ⟨by dsimp only; omega, xu.tr x1', R', a0', a1', hR0', k0', k1', sh0, sh1⟩ (by dsimp only; omega)
      refine g_aload C dX8_rank_77 rfl ?_
      refine g_iconst C dX8_rank_79 ?_
      refine g_aaloadN (0) C rfl rfl hR0 (by omega) (by omega) k0 dX8_rank_80 ?_
      refine g_aload_n C dX8_rank_81 rfl ?_
      refine g_get (ci := 10) C rfl inTX8 4 (by decide) fl_RX8_24 rfl hMu.o rfl dX8_rank_82 ?_
      refine g_iload_n C dX8_rank_85 rfl ?_
      refine g_aaloadN (V) C rfl rfl hMu.l (by omega) (by omega) hq1 dX8_rank_86 ?_
      refine g_callS C (c_X8_bySize _ e0 (yu.2 _ _ eL) ⟨b0.n1, by omega⟩ ⟨bL.n1, by omega⟩ b0.d bL.d (fun h => bL.top (by have := b0.n1; omega)) (fun h => b0.top (by have := bL.n1; omega))) ml_RX8_63 sm_yX8_bySize in_RX8 co_yX8_bySize hd_X8_bySize rfl ⟨by omega, by omega⟩ rfl (Nat.le_of_ble_eq_true rfl) ⟨by omega, by omega⟩ dX8_rank_87 (fun v87 w87 hp87 => ?_)
      obtain ⟨⟨d87, rfl, hdr87, hd87⟩, hw87⟩ := hp87
      subst hw87
      rw [b0.abs, bL.abs] at hd87
      refine g_if_ne (tgt := 109) C dX8_rank_90 (by decide) (by omega) (fun h90 => ?_) (fun h90 => ?_)
      · exact J109 (fun hjj => by
          subst hjj
          rw [hjr] at pa0 pa1 hd87
          try rw [hjr] at hd103
          dsimp only at pa0 pa1 hd87
          first | omega | (dsimp only at hd103; omega))
      · refine g_aload C dX8_rank_93 rfl ?_
        refine g_iconst C dX8_rank_95 ?_
        refine g_aaloadN (1) C rfl rfl hR0 (by omega) (by omega) k1 dX8_rank_96 ?_
        refine g_aload_n C dX8_rank_97 rfl ?_
        refine g_get (ci := 10) C rfl inTX8 5 (by decide) fl_RX8_28 rfl hMu.o rfl dX8_rank_98 ?_
        refine g_iload_n C dX8_rank_101 rfl ?_
        refine g_aaloadN (V) C rfl rfl hMu.r (by omega) (by omega) hq2 dX8_rank_102 ?_
        refine g_callS C (c_X8_bySize _ e1' (yu.2 _ _ eR') ⟨b1'.n1, by omega⟩ ⟨bR.n1, by omega⟩ b1'.d bR.d (fun h => bR.top (by have := b1'.n1; omega)) (fun h => b1'.top (by have := bR.n1; omega))) ml_RX8_63 sm_yX8_bySize in_RX8 co_yX8_bySize hd_X8_bySize rfl ⟨by omega, by omega⟩ rfl (Nat.le_of_ble_eq_true rfl) ⟨by omega, by omega⟩ dX8_rank_103 (fun v103 w103 hp103 => ?_)
        obtain ⟨⟨d103, rfl, hdr103, hd103⟩, hw103⟩ := hp103
        subst hw103
        rw [b1'.abs, bR.abs] at hd103
        refine g_if_eq (tgt := 135) C dX8_rank_106 (by decide) (by omega) (fun h106 => ?_) (fun h106 => ?_)
        · refine g_iload C dX8_rank_135 rfl ?_
          exact g_ireturn C hQ dX8_rank_137 (by omega) (by omega) ⟨t6, _, rfl, hM6.ex yu, hK6.tr (Keep.ex yu), Or.inr ⟨hwk, by omega, Or.inr ⟨hn1, r, j, hr, rfl, by
            show pw2 (pb V) (leaP (pb V) r) (leaQ (pb V) r) j = (aB (le V), aB (ri V))
            rw [pa0] at hd87
            rw [pa1] at hd103
            refine Prod.ext ?_ ?_
            · show (pw2 (pb V) (leaP (pb V) r) (leaQ (pb V) r) j).1 = aB (le V); omega
            · show (pw2 (pb V) (leaP (pb V) r) (leaQ (pb V) r) j).2 = aB (ri V); omega⟩⟩⟩
        · exact J109 (fun hjj => by
            subst hjj
            rw [hjr] at pa0 pa1 hd87
            try rw [hjr] at hd103
            dsimp only at pa0 pa1 hd87
            first | omega | (dsimp only at hd103; omega))
    · refine g_iconst C dX8_rank_47 ?_
      exact g_ireturn C hQ dX8_rank_48 (by omega) (by omega) ⟨t6, _, rfl, hM7, hK6.tr (Keep.ex y38), Or.inr ⟨hwk, by omega, Or.inl ⟨rfl, fun (q : le V * le V - pb V * (ri V * ri V) = 1) => by omega⟩⟩⟩
  · refine g_iconst C dX8_rank_12 ?_
    exact g_ireturn C hQ dX8_rank_13 (by omega) (by omega) ⟨t6, _, rfl, hM6, hK6, Or.inl ⟨bI_1 h9, by omega, rfl⟩⟩
set_option maxHeartbeats 4000000 in
set_option maxRecDepth 100000 in
theorem c_X8_isWalkSound (l : Launch) {E : GE} {w : Wd} {τ : Nat → Nat} {m : Nat} {A : MA} {th : Int} {ba st pb le ri : Nat → Int} {sp : Nat → Nat → Int} {ct : Nat → Int} (hM : MSx τ w m A th ba st pb le ri sp ct) {i : Nat} {r : Int} (hi : i < 3) (hb : GB (ba i)) (hr : RT (ba i) r) (hs : 0 ≤ st i ∧ st i ≤ 24) : Sp E l yX8_isWalkSound cX8_isWalkSound 8 (some .boolean) 6 (47) (442) [.ref m, iI (i : Int)] w (fun r1 w' => r1 = some (iI 1) ∧ Ex w w') := by
  refine sp_intro [some (.ref m), some (iI (i : Int)), none, none, none, none, none, none] rfl (Nat.le_of_ble_eq_true rfl) pn_X8 ?_
  intro X C hRm hl hnm hQ
  obtain ⟨hRf, hRl, hRc, hRs⟩ := hRm
  refine g_wf (fun hwf => ?_)
  obtain ⟨K, hK⟩ := Int.eq_ofNat_of_zero_le hs.1
  have hKn : (st i).toNat = K := by omega
  have hK24 : K ≤ 24 := by omega
  obtain ⟨wk1, wk2, wk3, wk4, wk5⟩ := wk_good hb hr (k := K) (by omega)
  have cg := cf_good hb hr (k := K) (by omega)
  have cg1 := cf_good hb hr (k := K + 1) (by omega)
  have hb1 := hb.1
  have hb2 := hb.2.1
  have hr9 := RT_le hb hr
  refine g_aload_n C dX8_isWalkSound_0 rfl ?_
  refine g_get (ci := 10) C rfl inTX8 1 (by decide) fl_RX8_9 rfl hM.o rfl dX8_isWalkSound_1 ?_
  refine g_iload_n C dX8_isWalkSound_4 rfl ?_
  refine g_ialoadN (i) C hM.b (by omega) (by omega) dX8_isWalkSound_5 ?_
  refine g_istore_n C dX8_isWalkSound_6 (by decide) rfl ?_
  refine g_aload_n C dX8_isWalkSound_7 rfl ?_
  refine g_get (ci := 10) C rfl inTX8 2 (by decide) fl_RX8_13 rfl hM.o rfl dX8_isWalkSound_8 ?_
  refine g_iload_n C dX8_isWalkSound_11 rfl ?_
  refine g_ialoadN (i) C hM.s (by omega) (by omega) dX8_isWalkSound_12 ?_
  rw [hK]
  refine g_istore_n C dX8_isWalkSound_13 (by decide) rfl ?_
  refine g_iload_n C dX8_isWalkSound_14 rfl ?_
  refine g_iload_n C dX8_isWalkSound_15 rfl ?_
  refine g_callS C (c_X8_terms _ (b := ba i) (r := r) (K := K) hb hr (by omega)) ml_RX8_138 sm_yX8_terms in_RX8 co_yX8_terms hd_X8_terms rfl ⟨by omega, by omega⟩ rfl (Nat.le_of_ble_eq_true rfl) ⟨by omega, by omega⟩ dX8_isWalkSound_16 (fun v16 w16 hp16 => ?_)
  obtain ⟨f16, rfl, rfl, t0, t1, t2⟩ := hp16
  have x1 := Ex.push hwf (true, eI 3 f16)
  have hf16 : (wpush w (true, eI 3 f16)).2 w.1 = some (true, eI 3 f16) := wpush_s
  have hM1 := hM.ex x1
  refine g_astore C dX8_isWalkSound_19 (by decide) rfl ?_
  refine g_aload_n C dX8_isWalkSound_21 rfl ?_
  refine g_iload_n C dX8_isWalkSound_22 rfl ?_
  refine g_callV C (c_X8_at _ hM1 (i := i) (r := r) hi hb hr hs) (ci := 10) rfl hM1.o rfl ml_RX8_167 im_yX8_at se_RX8_yX8_at in_RX8 co_yX8_at hd_X8_at rfl ⟨by omega, by omega⟩ rfl (Nat.le_of_ble_eq_true rfl) ⟨by omega, by omega⟩ dX8_isWalkSound_23 (fun v23 w23 hp23 => ?_)
  obtain ⟨q, rfl, hR, x2, hq⟩ := hp23
  rw [hKn] at hR
  obtain ⟨R, a0, a1, a2, a3, hR0, k0, k1, k2, k3, l0, l1, l2, l3, -⟩ := id hR
  obtain ⟨nP, fP, eP, bP, dP⟩ := id l0
  obtain ⟨nQ, fQ, eQ, bQ, dQ⟩ := id l1
  refine g_wf (fun hwf23 => ?_)
  refine g_astore C dX8_isWalkSound_26 (by decide) rfl ?_
  refine g_iload_n C dX8_isWalkSound_28 rfl ?_
  refine g_iload_n C dX8_isWalkSound_29 rfl ?_
  refine g_iconst C dX8_isWalkSound_30 ?_
  refine g_iadd C dX8_isWalkSound_31 ?_
  rw [show (K : Int) + 1 = ((K + 1 : Nat) : Int) by omega]
  refine g_callS C (c_X8_terms _ (b := ba i) (r := r) (K := K + 1) hb hr (by omega)) ml_RX8_138 sm_yX8_terms in_RX8 co_yX8_terms hd_X8_terms rfl ⟨by omega, by omega⟩ rfl (Nat.le_of_ble_eq_true rfl) ⟨by omega, by omega⟩ dX8_isWalkSound_32 (fun v32 w32 hp32 => ?_)
  obtain ⟨f32, rfl, rfl, u0, u1, u2⟩ := hp32
  have x3 := Ex.push hwf23 (true, eI 3 f32)
  have x23 := x2.tr x3
  refine g_iconst C dX8_isWalkSound_35 ?_
  refine g_ialoadN (1) C wpush_s (by omega) (by omega) dX8_isWalkSound_36 ?_
  rw [u1]
  refine g_istore C dX8_isWalkSound_37 (by decide) rfl ?_
  refine g_aload C dX8_isWalkSound_39 rfl ?_
  refine g_iconst C dX8_isWalkSound_41 ?_
  refine g_ialoadN (0) C (x23.2 _ _ hf16) (by omega) (by omega) dX8_isWalkSound_42 ?_
  rw [t0]
  refine g_iconst C dX8_isWalkSound_43 ?_
  refine g_iload_n C dX8_isWalkSound_44 rfl ?_
  refine g_callS C (c_X8_root _ (b := ba i) (by omega)) ml_RX8_130 sm_yX8_root in_RX8 co_yX8_root hd_X8_root rfl ⟨by omega, by omega⟩ rfl (Nat.le_of_ble_eq_true rfl) ⟨by omega, by omega⟩ dX8_isWalkSound_45 (fun v45 w45 hp45 => ?_)
  obtain ⟨⟨rr45, rfl, z145, z245, z345⟩, hw45⟩ := hp45
  subst w45
  have er45 : r = rr45 := RT_uniq hr ⟨z145, z245, z345⟩
  subst er45
  refine g_callS C (c_X8_isIn _ (v := (cf (ba i) r K).1) (a := 0) (b := r) (by omega) (by omega) (by omega)) ml_RX8_49 sm_yX8_isIn in_RX8 co_yX8_isIn hd_X8_isIn rfl ⟨by omega, by omega⟩ rfl (Nat.le_of_ble_eq_true rfl) ⟨by omega, by omega⟩ dX8_isWalkSound_48 (fun v48 w48 hp48 => ?_)
  obtain ⟨rfl, hw48⟩ := hp48
  subst w48
  refine g_if_eq (tgt := 86) C dX8_isWalkSound_51 (by decide) (bI_r _) (fun h51 => ?_) (fun h51 => ?_)
  · exact absurd ⟨by omega, by omega⟩ (bI_0 h51)
  · refine g_aload C dX8_isWalkSound_54 rfl ?_
    refine g_iconst C dX8_isWalkSound_56 ?_
    refine g_ialoadN (1) C (x23.2 _ _ hf16) (by omega) (by omega) dX8_isWalkSound_57 ?_
    rw [t1]
    refine g_iconst C dX8_isWalkSound_58 ?_
    refine g_iconst C dX8_isWalkSound_59 ?_
    refine g_iload_n C dX8_isWalkSound_60 rfl ?_
    refine g_callS C (c_X8_root _ (b := ba i) (by omega)) ml_RX8_130 sm_yX8_root in_RX8 co_yX8_root hd_X8_root rfl ⟨by omega, by omega⟩ rfl (Nat.le_of_ble_eq_true rfl) ⟨by omega, by omega⟩ dX8_isWalkSound_61 (fun v61 w61 hp61 => ?_)
    obtain ⟨⟨rr61, rfl, z161, z261, z361⟩, hw61⟩ := hp61
    subst w61
    have er61 : r = rr61 := RT_uniq hr ⟨z161, z261, z361⟩
    subst er61
    refine g_imul C dX8_isWalkSound_64 ?_
    refine g_callS C (c_X8_isIn _ (v := (cf (ba i) r K).2.1) (a := 1) (b := 2 * r) (by omega) (by omega) (by omega)) ml_RX8_49 sm_yX8_isIn in_RX8 co_yX8_isIn hd_X8_isIn rfl ⟨by omega, by omega⟩ rfl (Nat.le_of_ble_eq_true rfl) ⟨by omega, by omega⟩ dX8_isWalkSound_65 (fun v65 w65 hp65 => ?_)
    obtain ⟨rfl, hw65⟩ := hp65
    subst w65
    refine g_if_eq (tgt := 86) C dX8_isWalkSound_68 (by decide) (bI_r _) (fun h68 => ?_) (fun h68 => ?_)
    · exact absurd ⟨by omega, by omega⟩ (bI_0 h68)
    · refine g_iload_n C dX8_isWalkSound_71 rfl ?_
      refine g_aload C dX8_isWalkSound_72 rfl ?_
      refine g_iconst C dX8_isWalkSound_74 ?_
      refine g_callS C (c_X8_tested _ (what := 0) hb hr (by omega) (hR.ex x3) (by omega)) ml_RX8_192 sm_yX8_tested in_RX8 co_yX8_tested hd_X8_tested rfl ⟨by omega, by omega⟩ rfl (Nat.le_of_ble_eq_true rfl) ⟨by omega, by omega⟩ dX8_isWalkSound_75 (fun v75 w75 hp75 => ?_)
      obtain ⟨rfl, x4⟩ := hp75
      have x234 := x23.tr x4
      have tr0 := tst_r hb hr (k := K) (by omega) 0
      have tr1 := tst_r hb hr (k := K) (by omega) 1
      refine g_iconst C dX8_isWalkSound_78 ?_
      refine g_icmp_ne (tgt := 86) C dX8_isWalkSound_79 (by decide) (by omega) (by omega) (fun h79 => ?_) (fun h79 => ?_)
      · exact absurd (show tstV (ba i) r K 0 = 1 from if_pos rfl) h79
      · refine g_iconst C dX8_isWalkSound_82 ?_
        refine g_goto (tgt := 87) C dX8_isWalkSound_83 (by decide) ?_
        refine g_istore C dX8_isWalkSound_87 (by decide) rfl ?_
        refine g_iload C dX8_isWalkSound_89 rfl ?_
        refine g_if_eq (tgt := 158) C dX8_isWalkSound_91 (by decide) (by omega) (fun h91 => ?_) (fun h91 => ?_)
        · omega
        · refine g_iload_n C dX8_isWalkSound_94 rfl ?_
          refine g_aload C dX8_isWalkSound_95 rfl ?_
          refine g_iconst C dX8_isWalkSound_97 ?_
          refine g_callS C (c_X8_tested _ (what := 1) hb hr (by omega) (hR.ex (x3.tr x4)) (by omega)) ml_RX8_192 sm_yX8_tested in_RX8 co_yX8_tested hd_X8_tested rfl ⟨by omega, by omega⟩ rfl (Nat.le_of_ble_eq_true rfl) ⟨by omega, by omega⟩ dX8_isWalkSound_98 (fun v98 w98 hp98 => ?_)
          obtain ⟨rfl, x5⟩ := hp98
          have x345 := (x3.tr x4).tr x5
          have J113 : ∀ s : Int, (K % 2 = 1 ∧ s = 1 ∨ K % 2 ≠ 1 ∧ s = -1) → G E X 8 113 [some (.ref m), some (iI (i : Int)), some (iI (ba i)), some (iI (K : Int)), some (.ref w.1), some (.ref q), some (iI (cf (ba i) r (K + 1)).2.1), some (iI 1)] [iI s, iI (tstV (ba i) r K 1)] w98 34 310 := by
            intro s hs'
            have e1 : tstV (ba i) r K 1 = s := by
              unfold tstV
              rw [if_neg (by decide), if_pos rfl]
              split <;> omega
            refine g_icmp_ne (tgt := 158) C dX8_isWalkSound_113 (by decide) (by omega) (by omega) (fun h113 => ?_) (fun h113 => ?_)
            · omega
            · refine g_iload_n C dX8_isWalkSound_116 rfl ?_
              refine g_aload C dX8_isWalkSound_117 rfl ?_
              refine g_iconst C dX8_isWalkSound_119 ?_
              refine g_aaloadN (0) C rfl rfl (x345.2 _ _ hR0) (by omega) (by omega) k0 dX8_isWalkSound_120 ?_
              refine g_aload C dX8_isWalkSound_121 rfl ?_
              refine g_iconst C dX8_isWalkSound_123 ?_
              refine g_aaloadN (1) C rfl rfl (x345.2 _ _ hR0) (by omega) (by omega) k1 dX8_isWalkSound_124 ?_
              refine g_callS C (c_X8_norm _ (c := 5) (x345.2 _ _ eP) (x345.2 _ _ eQ) bP bQ dP dQ (by omega) (by omega)) ml_RX8_188 sm_yX8_norm in_RX8 co_yX8_norm hd_X8_norm rfl ⟨by omega, by omega⟩ rfl (Nat.le_of_ble_eq_true rfl) ⟨by omega, by omega⟩ dX8_isWalkSound_125 (fun v125 w125 hp125 => ?_)
              obtain ⟨q125, m125, g125, rfl, h125, hb125, hm125, x6, hq125⟩ := hp125
              have J145 : ∀ s : Int, (K % 2 = 1 ∧ s = (cf (ba i) r (K + 1)).2.1 ∨ K % 2 ≠ 1 ∧ s = -(cf (ba i) r (K + 1)).2.1) → G E X 8 145 [some (.ref m), some (iI (i : Int)), some (iI (ba i)), some (iI (K : Int)), some (.ref w.1), some (.ref q), some (iI (cf (ba i) r (K + 1)).2.1), some (iI 1)] [jJ s, .ref q125] w125 45 434 := by
                intro s hs'
                have e1 : s = (if K % 2 = 1 then (cf (ba i) r (K + 1)).2.1 else -(cf (ba i) r (K + 1)).2.1) := by split <;> omega
                rw [← e1] at wk2
                rw [wk2] at hb125
                refine g_callS C (c_X8_of _ (v := s) (by omega)) ml_RX8_20 sm_yX8_of in_RX8 co_yX8_of hd_X8_of rfl ⟨by omega, by omega⟩ rfl (Nat.le_of_ble_eq_true rfl) ⟨by omega, by omega⟩ dX8_isWalkSound_145 (fun v145 w145 hp145 => ?_)
                obtain ⟨m145, f145, rfl, e145, b145, c145, s145, x7⟩ := hp145
                refine g_callS C (c_X8_side _ (x7.2 _ _ h125) e145 hb125 b145 (by omega) (by omega)) ml_RX8_199 sm_yX8_side in_RX8 co_yX8_side hd_X8_side rfl ⟨by omega, by omega⟩ rfl (Nat.le_of_ble_eq_true rfl) ⟨by omega, by omega⟩ dX8_isWalkSound_148 (fun v148 w148 hp148 => ?_)
                obtain ⟨⟨d148, rfl, hd148⟩, hw148⟩ := hp148
                subst w148
                refine g_if_ne (tgt := 158) C dX8_isWalkSound_151 (by decide) (by omega) (fun h151 => ?_) (fun h151 => ?_)
                · omega
                · refine g_iconst C dX8_isWalkSound_154 ?_
                  refine g_goto (tgt := 159) C dX8_isWalkSound_155 (by decide) ?_
                  exact g_zreturn C hQ dX8_isWalkSound_159 (nar01 (by omega)) (by omega) (by omega) ⟨rfl, ((x1.tr x2).tr x345).tr (x6.tr x7)⟩
              refine g_iload_n C dX8_isWalkSound_128 rfl ?_
              refine g_iconst C dX8_isWalkSound_129 ?_
              refine g_iremN C dX8_isWalkSound_130 (by omega) (by omega) ?_
              refine g_iconst C dX8_isWalkSound_131 ?_
              refine g_icmp_ne (tgt := 141) C dX8_isWalkSound_132 (by decide) (by omega) (by omega) (fun h132 => ?_) (fun h132 => ?_)
              · refine g_iload C dX8_isWalkSound_141 rfl ?_
                refine g_ineg C dX8_isWalkSound_143 ?_
                refine g_i2l C dX8_isWalkSound_144 (by omega) ?_
                exact J145 _ (by omega)
              · refine g_iload C dX8_isWalkSound_135 rfl ?_
                refine g_i2l C dX8_isWalkSound_137 (by omega) ?_
                refine g_goto (tgt := 145) C dX8_isWalkSound_138 (by decide) ?_
                exact J145 _ (by omega)
          refine g_widen (k' := 34) (n' := 310) (by omega) (by omega) ?_
          refine g_iload_n C dX8_isWalkSound_101 rfl ?_
          refine g_iconst C dX8_isWalkSound_102 ?_
          refine g_iremN C dX8_isWalkSound_103 (by omega) (by omega) ?_
          refine g_iconst C dX8_isWalkSound_104 ?_
          refine g_icmp_ne (tgt := 112) C dX8_isWalkSound_105 (by decide) (by omega) (by omega) (fun h105 => ?_) (fun h105 => ?_)
          · refine g_iconst C dX8_isWalkSound_112 ?_
            exact J113 _ (by omega)
          · refine g_iconst C dX8_isWalkSound_108 ?_
            refine g_goto (tgt := 113) C dX8_isWalkSound_109 (by decide) ?_
            exact J113 _ (by omega)
set_option maxHeartbeats 4000000 in
set_option maxRecDepth 100000 in
theorem c_X8_isWhole (l : Launch) {E : GE} {w : Wd} {τ : Nat → Nat} {m : Nat} {A : MA} {th : Int} {ba st pb le ri : Nat → Int} {sp : Nat → Nat → Int} {ct : Nat → Int} (hM : MSx τ w m A th ba st pb le ri sp ct) (hB : ∀ i, i < 3 → GB (ba i)) (hS : ∀ i, i < 3 → 0 ≤ st i ∧ st i ≤ 24) (hP : HPp pb le ri) (hZ : HZp sp) : Sp E l yX8_isWhole cX8_isWhole 7 (some .boolean) 7 (174) (1680) [.ref m] w (fun r1 w' => r1 = some (iI 1) ∧ Ex w w') := by
  refine sp_intro [some (.ref m), none, none, none, none, none, none] rfl (Nat.le_of_ble_eq_true rfl) pn_X8 ?_
  intro X C hRm hl hnm hQ
  obtain ⟨hRf, hRl, hRc, hRs⟩ := hRm
  refine g_wf (fun hwf => ?_)
  refine g_iconst C dX8_isWhole_0 ?_
  refine g_istore_n C dX8_isWhole_1 (by decide) rfl ?_
  refine g_iconst C dX8_isWhole_2 ?_
  refine g_istore_n C dX8_isWhole_3 (by decide) rfl ?_
  refine g_loop (σ := Nat × Wd) (fun s => s.1 ≤ 3 ∧ Ex w s.2) (fun s => G E X 7 4 [some (.ref m), some (iI 1), some (iI (s.1 : Int)), none, none, none, none] [] s.2 (58 * s.1) (560 * s.1)) (fun s => 3 - s.1) ?_ (0, w) ⟨by dsimp only; omega, Ex.rf w⟩
  rintro ⟨i, u⟩ hq ih
  obtain ⟨hi, xu⟩ := hq
  dsimp only at hi xu ⊢
  have hMu := hM.ex xu
  refine g_iload_n C dX8_isWhole_4 rfl ?_
  refine g_iconst C dX8_isWhole_5 ?_
  refine g_icmp_ge (tgt := 203) C dX8_isWhole_6 (by decide) (by omega) (by omega) (fun h6 => ?_) (fun h6 => ?_)
  · refine g_iload_n C dX8_isWhole_203 rfl ?_
    exact g_zreturn C hQ dX8_isWhole_204 rfl (by omega) (by omega) ⟨rfl, xu⟩
  · have hi3 : i < 3 := by omega
    obtain ⟨g1, gL, gR⟩ := hP i hi3
    have g11 := g1.1
    have g12 := g1.2.1
    have gb := hB i hi3
    have gs := hS i hi3
    obtain ⟨r, hr⟩ := RT_ex gb
    obtain ⟨p, kk, hSp⟩ := hZ i hi3
    obtain ⟨sv, f0, f1, f2, f3, f4, f5⟩ := id hSp
    have sp5 := sv.p
    obtain ⟨v1, v2, v3, v4, v5, v6, v7, v8, v9⟩ := sv.good
    obtain ⟨w1, w2, w3⟩ := sv.wit
    obtain ⟨q1, hq1, tq1, r1⟩ := hMu.L hi3
    obtain ⟨q2, hq2, tq2, r2⟩ := hMu.R hi3
    obtain ⟨q3, hq3, tq3, r3⟩ := hMu.Z hi3
    obtain ⟨nL, fL, eL, bL, dL⟩ := id r1
    obtain ⟨nR, fR, eR', bR, dR⟩ := id r2
    have hime : ima p < p := by unfold ima; exact pmN_lt (p := p) (by omega) _
    generalize hA : (spS p kk).1 = sA at *
    generalize hBB : (spS p kk).2.1 = sB at *
    generalize hUU : (spS p kk).2.2.1 = sU at *
    generalize hVV : (spS p kk).2.2.2 = sV at *
    have aU := (show -sU ≤ aB sU ∧ sU ≤ aB sU ∧ 0 ≤ aB sU by unfold aB; split <;> omega)
    have aV := (show -sV ≤ aB sV ∧ sV ≤ aB sV ∧ 0 ≤ aB sV by unfold aB; split <;> omega)
    have pA : 0 ≤ sA * sA ∧ sA * sA ≤ 997 * 997 := ⟨Int.mul_nonneg (by omega) (by omega), Int.mul_le_mul (by omega) (by omega) (by omega) (by omega)⟩
    have pU : 0 ≤ sU * sU ∧ sU * sU ≤ 997 * 997 := by
      rw [← aB_sq sU]
      exact ⟨Int.mul_nonneg (by omega) (by omega), Int.mul_le_mul (by omega) (by omega) (by omega) (by omega)⟩
    have pI : 0 ≤ ((ima p : Nat) : Int) * ((ima p : Nat) : Int) ∧ ((ima p : Nat) : Int) * ((ima p : Nat) : Int) ≤ 997 * 997 := ⟨Int.mul_nonneg (by omega) (by omega), Int.mul_le_mul (by omega) (by omega) (by omega) (by omega)⟩
    have pI2 : (((ima p : Nat) : Int) * ((ima p : Nat) : Int) + 1) % (p : Int) = 0 := by
      have e9 : ((ima p : Nat) : Int) * ((ima p : Nat) : Int) + 1 = ((ima p * ima p + 1 : Nat) : Int) := by simp
      rw [e9]
      omega
    refine g_widen (k' := 58 * i) (n' := 560 * i) (by omega) (by omega) ?_
    refine g_aload_n C dX8_isWhole_9 rfl ?_
    refine g_get (ci := 10) C rfl inTX8 4 (by decide) fl_RX8_24 rfl hMu.o rfl dX8_isWhole_10 ?_
    refine g_iload_n C dX8_isWhole_13 rfl ?_
    refine g_aaloadN (i) C rfl rfl hMu.l (by omega) (by omega) hq1 dX8_isWhole_14 ?_
    refine g_astore_n C dX8_isWhole_15 (by decide) rfl ?_
    refine g_aload_n C dX8_isWhole_16 rfl ?_
    refine g_get (ci := 10) C rfl inTX8 5 (by decide) fl_RX8_28 rfl hMu.o rfl dX8_isWhole_17 ?_
    refine g_iload_n C dX8_isWhole_20 rfl ?_
    refine g_aaloadN (i) C rfl rfl hMu.r (by omega) (by omega) hq2 dX8_isWhole_21 ?_
    refine g_astore C dX8_isWhole_22 (by decide) rfl ?_
    refine g_aload_n C dX8_isWhole_24 rfl ?_
    refine g_get (ci := 10) C rfl inTX8 6 (by decide) fl_RX8_35 rfl hMu.o rfl dX8_isWhole_25 ?_
    refine g_iload_n C dX8_isWhole_28 rfl ?_
    refine g_aaloadN (i) C rfl rfl hMu.z (by omega) (by omega) hq3 dX8_isWhole_29 ?_
    refine g_astore C dX8_isWhole_30 (by decide) rfl ?_
    refine g_aload C dX8_isWhole_32 rfl ?_
    refine g_iconst C dX8_isWhole_34 ?_
    refine g_ialoadN (0) C r3 (by omega) (by omega) dX8_isWhole_35 ?_
    rw [f0]
    refine g_callS C (c_X8_imaginary _ (p := p) sv.1) ml_RX8_257 sm_yX8_imaginary in_RX8 co_yX8_imaginary hd_X8_imaginary rfl ⟨by omega, by omega⟩ rfl (Nat.le_of_ble_eq_true rfl) ⟨by omega, by omega⟩ dX8_isWhole_36 (fun v36 w36 hp36 => ?_)
    obtain ⟨rfl, hw36⟩ := hp36
    subst hw36
    refine g_istore C dX8_isWhole_39 (by decide) rfl ?_
    refine g_iload_n C dX8_isWhole_41 rfl ?_
    refine g_aload_n C dX8_isWhole_42 rfl ?_
    refine g_iload_n C dX8_isWhole_43 rfl ?_
    refine g_callV C (c_X8_isWalkSound _ hMu hi3 gb hr gs) (ci := 10) rfl hMu.o rfl ml_RX8_277 im_yX8_isWalkSound se_RX8_yX8_isWalkSound in_RX8 co_yX8_isWalkSound hd_X8_isWalkSound rfl ⟨by omega, by omega⟩ rfl (Nat.le_of_ble_eq_true rfl) ⟨by omega, by omega⟩ dX8_isWhole_44 (fun v44 w44 hp44 => ?_)
    obtain ⟨rfl, x44⟩ := hp44
    have hM2 := hMu.ex x44
    have r3' := x44.2 _ _ r3
    refine g_if_eq (tgt := 112) C dX8_isWhole_47 (by decide) (by omega) (fun h47 => ?_) (fun h47 => ?_)
    · omega
    · refine g_aload_n C dX8_isWhole_50 rfl ?_
      refine g_callS C (c_X8_isLong _ (x44.2 _ _ eL) ⟨bL.n1, by omega⟩ bL.d) ml_RX8_236 sm_yX8_isLong in_RX8 co_yX8_isLong hd_X8_isLong rfl ⟨by omega, by omega⟩ rfl (Nat.le_of_ble_eq_true rfl) ⟨by omega, by omega⟩ dX8_isWhole_51 (fun v51 w51 hp51 => ?_)
      obtain ⟨rfl, hw51⟩ := hp51
      subst hw51
      rw [bL.abs]
      refine g_if_ne (tgt := 112) C dX8_isWhole_54 (by decide) (bI_r _) (fun h54 => ?_) (fun h54 => ?_)
      · exact absurd (bI_f gL) h54
      · refine g_aload C dX8_isWhole_57 rfl ?_
        refine g_callS C (c_X8_isLong _ (x44.2 _ _ eR') ⟨bR.n1, by omega⟩ bR.d) ml_RX8_236 sm_yX8_isLong in_RX8 co_yX8_isLong hd_X8_isLong rfl ⟨by omega, by omega⟩ rfl (Nat.le_of_ble_eq_true rfl) ⟨by omega, by omega⟩ dX8_isWhole_59 (fun v59 w59 hp59 => ?_)
        obtain ⟨rfl, hw59⟩ := hp59
        subst hw59
        rw [bR.abs]
        refine g_if_ne (tgt := 112) C dX8_isWhole_62 (by decide) (bI_r _) (fun h62 => ?_) (fun h62 => ?_)
        · exact absurd (bI_f gR) h62
        · refine g_aload_n C dX8_isWhole_65 rfl ?_
          refine g_get (ci := 10) C rfl inTX8 3 (by decide) fl_RX8_16 rfl hM2.o rfl dX8_isWhole_66 ?_
          refine g_iload_n C dX8_isWhole_69 rfl ?_
          refine g_ialoadN (i) C hM2.p (by omega) (by omega) dX8_isWhole_70 ?_
          refine g_aload_n C dX8_isWhole_71 rfl ?_
          refine g_aload C dX8_isWhole_72 rfl ?_
          refine g_callS C (c_X8_norm _ (c := 4) (x44.2 _ _ eL) (x44.2 _ _ eR') bL bR dL dR (by omega) (by omega)) ml_RX8_188 sm_yX8_norm in_RX8 co_yX8_norm hd_X8_norm rfl ⟨by omega, by omega⟩ rfl (Nat.le_of_ble_eq_true rfl) ⟨by omega, by omega⟩ dX8_isWhole_74 (fun v74 w74 hp74 => ?_)
          obtain ⟨q74, m74, g74, rfl, h74, hb74, hm74, x74, hq74⟩ := hp74
          have s74 := hb74.s
          have sL := bL.s
          have sR := bR.s
          have y74 := x44.tr x74
          have n74 := hb74.n1
          have l1 := bL.n1
          have l2 := bR.n1
          have nz := nrm0 (x := le i) (y := ri i) g1
          refine g_iconst C dX8_isWhole_77 ?_
          refine g_ialoadN (0) C h74 (by omega) (by omega) dX8_isWhole_78 ?_
          have J87 : ∀ s : Int, (s = 1 ∧ le i = 0 ∧ ri i = 0 ∨ s = 0 ∧ ¬ (le i = 0 ∧ ri i = 0)) → G E X 7 87 [some (.ref m), some (iI 1), some (iI (i : Int)), some (.ref q1), some (.ref q2), some (.ref q3), some (iI ((ima p : Nat) : Int))] [iI s, iI 1] w74 (58 * i + 58) (560 * i + 560) := by
            intro s hs'
            have J105 : ∀ s2 : Int, s2 = s → G E X 7 105 [some (.ref m), some (iI 1), some (iI (i : Int)), some (.ref q1), some (.ref q2), some (.ref q3), some (iI ((ima p : Nat) : Int))] [iI s2, iI s, iI 1] w74 (58 * i + 58) (560 * i + 560) := by
              intro s2 hs2
              subst hs2
              refine g_icmp_ne (tgt := 112) C dX8_isWhole_105 (by decide) (by omega) (by omega) (fun h105 => ?_) (fun h105 => ?_)
              · omega
              · refine g_iconst C dX8_isWhole_108 ?_
                refine g_goto (tgt := 113) C dX8_isWhole_109 (by decide) ?_
                refine g_iand (z := 1) C dX8_isWhole_113 (by decide) ?_
                refine g_istore_n C dX8_isWhole_114 (by decide) rfl ?_
                have r3n := x74.2 _ _ r3'
                refine g_iload_n C dX8_isWhole_115 rfl ?_
                refine g_aload C dX8_isWhole_116 rfl ?_
                refine g_iconst C dX8_isWhole_118 ?_
                refine g_ialoadN (1) C r3n (by omega) (by omega) dX8_isWhole_119 ?_
                rw [f1]
                refine g_aload C dX8_isWhole_120 rfl ?_
                refine g_iconst C dX8_isWhole_122 ?_
                refine g_ialoadN (1) C r3n (by omega) (by omega) dX8_isWhole_123 ?_
                rw [f1]
                refine g_imul C dX8_isWhole_124 ?_
                refine g_aload C dX8_isWhole_125 rfl ?_
                refine g_iconst C dX8_isWhole_127 ?_
                refine g_ialoadN (3) C r3n (by omega) (by omega) dX8_isWhole_128 ?_
                rw [f3]
                refine g_aload C dX8_isWhole_129 rfl ?_
                refine g_iconst C dX8_isWhole_131 ?_
                refine g_ialoadN (3) C r3n (by omega) (by omega) dX8_isWhole_132 ?_
                rw [f3]
                refine g_imul C dX8_isWhole_133 ?_
                refine g_iadd C dX8_isWhole_134 ?_
                refine g_aload C dX8_isWhole_135 rfl ?_
                refine g_iconst C dX8_isWhole_137 ?_
                refine g_ialoadN (0) C r3n (by omega) (by omega) dX8_isWhole_138 ?_
                rw [f0]
                refine g_iremN C dX8_isWhole_139 (by omega) (by omega) ?_
                refine g_if_ne (tgt := 194) C dX8_isWhole_140 (by decide) (by omega) (fun h140 => ?_) (fun h140 => ?_)
                · exact absurd v7 h140
                · refine g_iload C dX8_isWhole_143 rfl ?_
                  refine g_iload C dX8_isWhole_145 rfl ?_
                  refine g_imul C dX8_isWhole_147 ?_
                  refine g_iconst C dX8_isWhole_148 ?_
                  refine g_iadd C dX8_isWhole_149 ?_
                  refine g_aload C dX8_isWhole_150 rfl ?_
                  refine g_iconst C dX8_isWhole_152 ?_
                  refine g_ialoadN (0) C r3n (by omega) (by omega) dX8_isWhole_153 ?_
                  rw [f0]
                  refine g_iremN C dX8_isWhole_154 (by omega) (by omega) ?_
                  refine g_if_ne (tgt := 194) C dX8_isWhole_155 (by decide) (by omega) (fun h155 => ?_) (fun h155 => ?_)
                  · exact absurd pI2 h155
                  · refine g_aload C dX8_isWhole_158 rfl ?_
                    refine g_iconst C dX8_isWhole_160 ?_
                    refine g_ialoadN (1) C r3n (by omega) (by omega) dX8_isWhole_161 ?_
                    rw [f1]
                    refine g_aload C dX8_isWhole_162 rfl ?_
                    refine g_iconst C dX8_isWhole_164 ?_
                    refine g_ialoadN (4) C r3n (by omega) (by omega) dX8_isWhole_165 ?_
                    rw [f4]
                    refine g_abs C ml_RX8_196 (by omega) (by omega) (by omega) (Nat.le_of_ble_eq_true rfl) (by omega) dX8_isWhole_166 ?_
                    rw [aB_if]
                    refine g_imul C dX8_isWhole_169 ?_
                    refine g_aload C dX8_isWhole_170 rfl ?_
                    refine g_iconst C dX8_isWhole_172 ?_
                    refine g_ialoadN (2) C r3n (by omega) (by omega) dX8_isWhole_173 ?_
                    rw [f2]
                    refine g_aload C dX8_isWhole_174 rfl ?_
                    refine g_iconst C dX8_isWhole_176 ?_
                    refine g_ialoadN (3) C r3n (by omega) (by omega) dX8_isWhole_177 ?_
                    rw [f3]
                    refine g_abs C ml_RX8_196 (by omega) (by omega) (by omega) (Nat.le_of_ble_eq_true rfl) (by omega) dX8_isWhole_178 ?_
                    rw [aB_if]
                    refine g_imul C dX8_isWhole_181 ?_
                    refine g_iadd C dX8_isWhole_182 ?_
                    refine g_aload C dX8_isWhole_183 rfl ?_
                    refine g_iconst C dX8_isWhole_185 ?_
                    refine g_ialoadN (0) C r3n (by omega) (by omega) dX8_isWhole_186 ?_
                    rw [f0]
                    refine g_icmp_ne (tgt := 194) C dX8_isWhole_187 (by decide) (by omega) (by omega) (fun h187 => ?_) (fun h187 => ?_)
                    · exact absurd v8 h187
                    · refine g_iconst C dX8_isWhole_190 ?_
                      refine g_goto (tgt := 195) C dX8_isWhole_191 (by decide) ?_
                      refine g_iand (z := 1) C dX8_isWhole_195 (by decide) ?_
                      refine g_istore_n C dX8_isWhole_196 (by decide) rfl ?_
                      refine g_iinc C dX8_isWhole_197 rfl (by decide) rfl ?_
                      refine g_goto (tgt := 4) C dX8_isWhole_200 (by decide) ?_
                      refine g_drop 3 (g_drop 4 (g_drop 5 (g_drop 6 ?_)))
                      refine g_widen (k' := 58 * (i + 1)) (n' := 560 * (i + 1)) (by omega) (by omega) ?_
                      exact ih (i + 1, w74) ⟨by dsimp only; omega, xu.tr y74⟩ (by dsimp only; omega)
            refine g_aload_n C dX8_isWhole_87 rfl ?_
            refine g_iconst C dX8_isWhole_88 ?_
            refine g_ialoadN (0) C (x74.2 _ _ (x44.2 _ _ eL)) (by omega) (by omega) dX8_isWhole_89 ?_
            refine g_if_ne (tgt := 104) C dX8_isWhole_90 (by decide) (by omega) (fun h90 => ?_) (fun h90 => ?_)
            · refine g_iconst C dX8_isWhole_104 ?_
              exact J105 _ (by omega)
            · refine g_aload C dX8_isWhole_93 rfl ?_
              refine g_iconst C dX8_isWhole_95 ?_
              refine g_ialoadN (0) C (x74.2 _ _ (x44.2 _ _ eR')) (by omega) (by omega) dX8_isWhole_96 ?_
              refine g_if_ne (tgt := 104) C dX8_isWhole_97 (by decide) (by omega) (fun h97 => ?_) (fun h97 => ?_)
              · refine g_iconst C dX8_isWhole_104 ?_
                exact J105 _ (by omega)
              · refine g_iconst C dX8_isWhole_100 ?_
                refine g_goto (tgt := 105) C dX8_isWhole_101 (by decide) ?_
                exact J105 _ (by omega)
          refine g_widen (k' := 58 * i + 58) (n' := 560 * i + 560) (by omega) (by omega) ?_
          refine g_if_ne (tgt := 86) C dX8_isWhole_79 (by decide) (by omega) (fun h79 => ?_) (fun h79 => ?_)
          · refine g_iconst C dX8_isWhole_86 ?_
            exact J87 _ (by first | (refine Or.inl ⟨rfl, nz.mp ?_⟩; omega) | (refine Or.inr ⟨rfl, fun q => ?_⟩; have := nz.mpr q; omega))
          · refine g_iconst C dX8_isWhole_82 ?_
            refine g_goto (tgt := 87) C dX8_isWhole_83 (by decide) ?_
            exact J87 _ (by first | (refine Or.inl ⟨rfl, nz.mp ?_⟩; omega) | (refine Or.inr ⟨rfl, fun q => ?_⟩; have := nz.mpr q; omega))
set_option maxHeartbeats 4000000 in
set_option maxRecDepth 100000 in
theorem c_X8_isSound (l : Launch) {E : GE} {w : Wd} {τ : Nat → Nat} {m : Nat} {A : MA} {th : Int} {ba st pb le ri : Nat → Int} {sp : Nat → Nat → Int} {ct : Nat → Int} (hM : MSx τ w m A th ba st pb le ri sp ct) (hB : ∀ i, i < 3 → GB (ba i)) (hS : ∀ i, i < 3 → 0 ≤ st i ∧ st i ≤ 24) (hP : HPp pb le ri) (hZ : HZp sp) : Sp E l yX8_isSound cX8_isSound 1 (some .boolean) 8 (174) (1680) [.ref m] w (fun r1 w' => r1 = some (iI 1) ∧ MSx τ w' m A (0) (ba) (st) (pb) (le) (ri) (sp) (ct) ∧ Keep τ w w') := by
  refine sp_intro [some (.ref m)] rfl (Nat.le_of_ble_eq_true rfl) pn_X8 ?_
  intro X C hRm hl hnm hQ
  obtain ⟨hRf, hRl, hRc, hRs⟩ := hRm
  refine g_wf (fun hwf => ?_)
  refine g_aload_n C dX8_isSound_0 rfl ?_
  refine g_iconst C dX8_isSound_1 ?_
  refine g_put (ci := 10) C rfl inTX8 tyX8 tyX8_ok nmX8 0 (by decide) fl_RX8_41 rfl rfl hM.o (Nat.le_of_ble_eq_true rfl) rfl rfl dX8_isSound_2 ?_
  have hM2 := hM.setO 0
  obtain ⟨u0, hu0, hK2⟩ : ∃ u0, u0 = wset w m (true, eO 10 [iI 0, .ref A.1, .ref A.2.1, .ref A.2.2.1, .ref A.2.2.2.1, .ref A.2.2.2.2.1, .ref A.2.2.2.2.2.1, .ref A.2.2.2.2.2.2.1]) ∧ Keep τ w u0 := ⟨_, rfl, Keep.set _ (by have := hM.tg; omega)⟩
  rw [← hu0] at hM2
  refine g_eqw (w' := u0) hu0.symm ?_
  refine g_aload_n C dX8_isSound_5 rfl ?_
  refine g_callV C (c_X8_isWhole _ hM2 hB hS hP hZ) (ci := 10) rfl hM2.o rfl ml_RX8_280 im_yX8_isWhole se_RX8_yX8_isWhole in_RX8 co_yX8_isWhole hd_X8_isWhole rfl ⟨by omega, by omega⟩ rfl (Nat.le_of_ble_eq_true rfl) ⟨by omega, by omega⟩ dX8_isSound_6 (fun v6 w6 hp6 => ?_)
  obtain ⟨rfl, x6⟩ := hp6
  exact g_zreturn C hQ dX8_isSound_9 rfl (by omega) (by omega) ⟨rfl, hM2.ex x6, hK2.tr (Keep.ex x6)⟩
theorem rt3 {ba : Nat → Int} (hB : ∀ i, i < 3 → GB (ba i)) : ∃ rt : Nat → Int, ∀ i, i < 3 → RT (ba i) (rt i) := by
  obtain ⟨r0, h0⟩ := RT_ex (hB 0 (by omega))
  obtain ⟨r1, h1⟩ := RT_ex (hB 1 (by omega))
  obtain ⟨r2, h2⟩ := RT_ex (hB 2 (by omega))
  refine ⟨fun i => if i = 0 then r0 else if i = 1 then r1 else r2, fun i hi => ?_⟩
  rcases (show i = 0 ∨ i = 1 ∨ i = 2 by omega) with q | q | q <;> subst q
  · exact h0
  · exact h1
  · exact h2
/-- the digest's steps -/
def dm6 (b r s x : Int) : Nat → Int
  | 0 => x
  | k + 1 => dm6 b r s x k * 31 + prV b r s (k : Int)
def dmN (b r : Int) (k : Nat) (z : Nat) : Int := if z = 0 then (pq b r 1 r k).1 else if z = 1 then (pq b r 0 1 k).1 else if z = 2 then (pq b r 1 r k).2 else (pq b r 0 1 k).2
def dm4 (b r s x : Int) : Nat → Int
  | 0 => x
  | k + 1 => dm4 b r s x k * 31 + dmN b r s.toNat k
def dmW (b r s x : Int) : Int := (dm4 b r s (dm6 b r s x 6) 4 * 31 + tstV b r s.toNat 1) * 31 + tstV b r s.toNat 2
def dm1 (ba st rt : Nat → Int) : Nat → Int
  | 0 => 7685
  | k + 1 => dmW (ba k) (rt k) (st k) (dm1 ba st rt k)
def dmP (x b l r : Int) : Int := ((((x * 31 + b) * 31 + l) * 31 + r) * 31 + bitV l 0) * 31 + bitV r 0
def dm2 (pb le ri : Nat → Int) (x : Int) : Nat → Int
  | 0 => x
  | k + 1 => dmP (dm2 pb le ri x k) (pb k) (le k) (ri k)
def dmS (f : Nat → Int) (x : Int) : Nat → Int
  | 0 => x
  | k + 1 => dmS f x k * 31 + szV f (k : Int)
def dm3 (sp : Nat → Nat → Int) (x : Int) : Nat → Int
  | 0 => x
  | k + 1 => dmS (sp k) (dm3 sp x k) 8
def dm5 (ct : Nat → Int) (x : Int) : Nat → Int
  | 0 => x
  | k + 1 => dm5 ct x k * 31 + ct k
def dgV (ba st rt pb le ri : Nat → Int) (sp : Nat → Nat → Int) (ct : Nat → Int) : Int := dm5 ct (dm3 sp (dm2 pb le ri (dm1 ba st rt 3) 3) 3) 5 * 31 + 1
theorem prV_i {b r s what : Int} (hb : GB b) (hr : RT b r) (hs : 0 ≤ s ∧ s ≤ 24) (hw : 0 ≤ what ∧ what ≤ 5) : -2147483648 ≤ prV b r s what ∧ prV b r s what < 2147483648 := by
  have h1 := RT_le hb hr
  have h2 := cf_good hb hr (k := s.toNat) (by omega)
  have h3 := hb.i
  unfold prV
  repeat (first | omega | split)
theorem szV_i {f : Nat → Int} {p k : Nat} {what : Int} (h : SpR f p k) (hw : 0 ≤ what ∧ what ≤ 7) : -2147483648 ≤ szV f what ∧ szV f what < 2147483648 := by
  obtain ⟨sv, f0, f1, f2, f3, f4, f5⟩ := h
  have sp5 := sv.p
  obtain ⟨v1, v2, v3, v4, v5, v6, v7, v8, v9⟩ := sv.good
  obtain ⟨w1, -, -⟩ := sv.wit
  have hime : ima p < p := by unfold ima; exact pmN_lt (p := p) (by omega) _
  have aU := (show -(spS p k).2.2.1 ≤ aB (spS p k).2.2.1 ∧ (spS p k).2.2.1 ≤ aB (spS p k).2.2.1 by unfold aB; split <;> omega)
  have aV := (show -(spS p k).2.2.2 ≤ aB (spS p k).2.2.2 ∧ (spS p k).2.2.2 ≤ aB (spS p k).2.2.2 by unfold aB; split <;> omega)
  have ep : (f 0).toNat = p := by rw [f0]; exact Int.toNat_natCast p
  unfold szV
  rw [ep]
  by_cases c0 : what = 0
  · rw [if_pos c0]; omega
  by_cases c1 : what = 1
  · rw [if_neg c0, if_pos c1]; omega
  by_cases c2 : what = 2
  · rw [if_neg c0, if_neg c1, if_pos c2]; omega
  rw [if_neg c0, if_neg c1, if_neg c2]
  have hc : what = 3 ∨ what = 4 ∨ what = 5 ∨ what = 6 ∨ what = 7 := by omega
  rcases hc with rfl | rfl | rfl | rfl | rfl
  · show -2147483648 ≤ f 1 ∧ f 1 < 2147483648; omega
  · show -2147483648 ≤ f 2 ∧ f 2 < 2147483648; omega
  · show -2147483648 ≤ f 3 ∧ f 3 < 2147483648; omega
  · show -2147483648 ≤ f 4 ∧ f 4 < 2147483648; omega
  · show -2147483648 ≤ f 5 ∧ f 5 < 2147483648; omega
set_option maxHeartbeats 4000000 in
set_option maxRecDepth 100000 in
theorem c_X8_digest (l : Launch) {E : GE} {w : Wd} {τ : Nat → Nat} {m : Nat} {A : MA} {th : Int} {ba st pb le ri : Nat → Int} {sp : Nat → Nat → Int} {ct : Nat → Int} (hM : MSx τ w m A th ba st pb le ri sp ct) (hB : ∀ i, i < 3 → GB (ba i)) (hS : ∀ i, i < 3 → 0 ≤ st i ∧ st i ≤ 24) (hP : HPp pb le ri) (hZ : HZp sp) (hC : ∀ i, i < 5 → -2147483648 ≤ ct i ∧ ct i < 2147483648) : Sp E l yX8_digest cX8_digest 6 (some .long) 8 (294) (2700) [.ref m] w (fun r1 w' => ∃ z : Int, r1 = some (jJ z) ∧ MSx τ w' m A (0) (ba) (st) (pb) (le) (ri) (sp) (ct) ∧ Keep τ w w' ∧ ∃ rt : Nat → Int, (∀ i, i < 3 → RT (ba i) (rt i)) ∧ z = dgV ba st rt pb le ri sp ct) := by
  refine sp_intro [some (.ref m), none, none, none, none, none] rfl (Nat.le_of_ble_eq_true rfl) pn_X8 ?_
  intro X C hRm hl hnm hQ
  obtain ⟨hRf, hRl, hRc, hRs⟩ := hRm
  refine g_wf (fun hwf => ?_)
  refine g_aload_n C dX8_digest_0 rfl ?_
  refine g_iconst C dX8_digest_1 ?_
  refine g_put (ci := 10) C rfl inTX8 tyX8 tyX8_ok nmX8 0 (by decide) fl_RX8_41 rfl rfl hM.o (Nat.le_of_ble_eq_true rfl) rfl rfl dX8_digest_2 ?_
  have hM2 := hM.setO 0
  obtain ⟨u0, hu0, hK2⟩ : ∃ u0, u0 = wset w m (true, eO 10 [iI 0, .ref A.1, .ref A.2.1, .ref A.2.2.1, .ref A.2.2.2.1, .ref A.2.2.2.2.1, .ref A.2.2.2.2.2.1, .ref A.2.2.2.2.2.2.1]) ∧ Keep τ w u0 := ⟨_, rfl, Keep.set _ (by have := hM.tg; omega)⟩
  rw [← hu0] at hM2
  refine g_eqw (w' := u0) hu0.symm ?_
  refine g_ldc2 (z := 7685) C kj_RX8_284 (by decide) dX8_digest_5 ?_
  refine g_lstore_n C dX8_digest_8 (by decide) rfl ?_
  refine g_iconst C dX8_digest_9 ?_
  refine g_istore_n C dX8_digest_10 (by decide) rfl ?_
  obtain ⟨rt, hrt⟩ := rt3 hB
  refine g_loop (σ := Nat × Int × Wd) (fun s => s.1 ≤ 3 ∧ s.2.1 = dm1 ba st rt s.1 ∧ Ex u0 s.2.2) (fun s => G E X 6 11 [some (.ref m), some (jJ s.2.1), none, some (iI (s.1 : Int)), none, none] [] s.2.2 (40 * s.1) (340 * s.1)) (fun s => 3 - s.1) ?_ (0, 7685, u0) ⟨by dsimp only; omega, rfl, Ex.rf _⟩
  rintro ⟨i, dd, u⟩ hq ih
  obtain ⟨hi, hdd, xu⟩ := hq
  dsimp only at hi hdd xu ⊢
  have hMu := hM2.ex xu
  refine g_iload_n C dX8_digest_11 rfl ?_
  refine g_iconst C dX8_digest_12 ?_
  refine g_icmp_ge (tgt := 126) C dX8_digest_13 (by decide) (by omega) (by omega) (fun h13 => ?_) (fun h13 => ?_)
  · refine g_widen (k' := 120) (n' := 1020) (by omega) (by omega) ?_
    refine g_iconst C dX8_digest_126 ?_
    refine g_istore_n C dX8_digest_127 (by decide) rfl ?_
    refine g_loop (σ := Nat × Int) (fun s => s.1 ≤ 3 ∧ s.2 = dm2 pb le ri (dm1 ba st rt 3) s.1) (fun s => G E X 6 128 [some (.ref m), some (jJ s.2), none, some (iI (s.1 : Int)), none, none] [] u 120 1020) (fun s => 3 - s.1) ?_ (0, dd) ⟨by dsimp only; omega, by show dd = dm1 ba st rt 3; rw [hdd, show i = 3 by omega]⟩
    rintro ⟨i2, d2⟩ ⟨hi2, hd2⟩ ih4
    dsimp only at hi2 hd2 ⊢
    refine g_iload_n C dX8_digest_128 rfl ?_
    refine g_iconst C dX8_digest_129 ?_
    refine g_icmp_ge (tgt := 217) C dX8_digest_130 (by decide) (by omega) (by omega) (fun h130 => ?_) (fun h130 => ?_)
    · refine g_iconst C dX8_digest_217 ?_
      refine g_istore_n C dX8_digest_218 (by decide) rfl ?_
      refine g_loop (σ := Nat × Int) (fun s => s.1 ≤ 3 ∧ s.2 = dm3 sp (dm2 pb le ri (dm1 ba st rt 3) 3) s.1) (fun s => G E X 6 219 [some (.ref m), some (jJ s.2), none, some (iI (s.1 : Int)), none, none] [] u 120 1020) (fun s => 3 - s.1) ?_ (0, d2) ⟨by dsimp only; omega, by show d2 = dm2 pb le ri (dm1 ba st rt 3) 3; rw [hd2, show i2 = 3 by omega]⟩
      rintro ⟨i3, d3⟩ ⟨hi3, hd3⟩ ih5
      dsimp only at hi3 hd3 ⊢
      refine g_iload_n C dX8_digest_219 rfl ?_
      refine g_iconst C dX8_digest_220 ?_
      refine g_icmp_ge (tgt := 261) C dX8_digest_221 (by decide) (by omega) (by omega) (fun h221 => ?_) (fun h221 => ?_)
      · refine g_iconst C dX8_digest_261 ?_
        refine g_istore_n C dX8_digest_262 (by decide) rfl ?_
        refine g_loop (σ := Nat × Int) (fun s => s.1 ≤ 5 ∧ s.2 = dm5 ct (dm3 sp (dm2 pb le ri (dm1 ba st rt 3) 3) 3) s.1) (fun s => G E X 6 263 [some (.ref m), some (jJ s.2), none, some (iI (s.1 : Int)), none, none] [] u 120 1020) (fun s => 5 - s.1) ?_ (0, d3) ⟨by dsimp only; omega, by show d3 = dm3 sp (dm2 pb le ri (dm1 ba st rt 3) 3) 3; rw [hd3, show i3 = 3 by omega]⟩
        rintro ⟨i5, d5⟩ ⟨hi5, hd5⟩ ih7
        dsimp only at hi5 hd5 ⊢
        refine g_iload_n C dX8_digest_263 rfl ?_
        refine g_iconst C dX8_digest_264 ?_
        refine g_icmp_ge (tgt := 288) C dX8_digest_265 (by decide) (by omega) (by omega) (fun h265 => ?_) (fun h265 => ?_)
        · refine g_lload_n C dX8_digest_288 rfl ?_
          refine g_ldc2 (z := 31) C kj_RX8_286 (by decide) dX8_digest_289 ?_
          refine g_lmul C dX8_digest_292 ?_
          refine g_aload_n C dX8_digest_293 rfl ?_
          refine g_callV C (c_X8_isWhole _ hMu hB hS hP hZ) (ci := 10) rfl hMu.o rfl ml_RX8_280 im_yX8_isWhole se_RX8_yX8_isWhole in_RX8 co_yX8_isWhole hd_X8_isWhole rfl ⟨by omega, by omega⟩ rfl (Nat.le_of_ble_eq_true rfl) ⟨by omega, by omega⟩ dX8_digest_294 (fun v294 w294 hp294 => ?_)
          obtain ⟨rfl, x294⟩ := hp294
          refine g_if_eq (tgt := 304) C dX8_digest_297 (by decide) (by omega) (fun h297 => ?_) (fun h297 => ?_)
          · omega
          · refine g_iconst C dX8_digest_300 ?_
            refine g_goto (tgt := 305) C dX8_digest_301 (by decide) ?_
            refine g_i2l C dX8_digest_305 (by omega) ?_
            refine g_ladd C dX8_digest_306 ?_
            exact g_lreturn C hQ dX8_digest_307 (by omega) (by omega) ⟨_, rfl, (hMu.ex x294), (hK2.tr (Keep.ex xu)).tr (Keep.ex x294), rt, hrt, by rw [hd5, show i5 = 5 by omega]; rfl⟩
        · refine g_lload_n C dX8_digest_268 rfl ?_
          refine g_ldc2 (z := 31) C kj_RX8_286 (by decide) dX8_digest_269 ?_
          refine g_lmul C dX8_digest_272 ?_
          refine g_aload_n C dX8_digest_273 rfl ?_
          refine g_get (ci := 10) C rfl inTX8 7 (by decide) fl_RX8_38 rfl hMu.o rfl dX8_digest_274 ?_
          refine g_iload_n C dX8_digest_277 rfl ?_
          refine g_ialoadN (i5) C hMu.c (by omega) (by omega) dX8_digest_278 ?_
          refine g_i2l C dX8_digest_279 (hC i5 (by omega)) ?_
          refine g_ladd C dX8_digest_280 ?_
          refine g_lstore_n C dX8_digest_281 (by decide) rfl ?_
          refine g_iinc C dX8_digest_282 rfl (by decide) rfl ?_
          refine g_goto (tgt := 263) C dX8_digest_285 (by decide) ?_
          exact ih7 (i5 + 1, _) ⟨by dsimp only; omega, by dsimp only; rw [hd5]; rfl⟩ (by dsimp only; omega)
      · obtain ⟨p, kk, hSp⟩ := hZ i3 (by omega)
        refine g_iconst C dX8_digest_224 ?_
        refine g_istore C dX8_digest_225 (by decide) rfl ?_
        refine g_loop (σ := Nat × Int) (fun s => s.1 ≤ 8 ∧ s.2 = dmS (sp i3) d3 s.1) (fun s => G E X 6 227 [some (.ref m), some (jJ s.2), none, some (iI (i3 : Int)), some (iI (s.1 : Int)), none] [] u 120 1020) (fun s => 8 - s.1) ?_ (0, d3) ⟨by dsimp only; omega, rfl⟩
        rintro ⟨c4, d4⟩ ⟨hc4, hd4⟩ ih6
        dsimp only at hc4 hd4 ⊢
        refine g_iload C dX8_digest_227 rfl ?_
        refine g_bipush C dX8_digest_229 (by decide) ?_
        refine g_icmp_ge (tgt := 255) C dX8_digest_231 (by decide) (by omega) (by omega) (fun h231 => ?_) (fun h231 => ?_)
        · refine g_iinc C dX8_digest_255 rfl (by decide) rfl ?_
          refine g_goto (tgt := 219) C dX8_digest_258 (by decide) ?_
          refine g_drop 4 ?_
          exact ih5 (i3 + 1, _) ⟨by dsimp only; omega, by dsimp only; rw [hd4, show c4 = 8 by omega, hd3]; rfl⟩ (by dsimp only; omega)
        · refine g_lload_n C dX8_digest_234 rfl ?_
          refine g_ldc2 (z := 31) C kj_RX8_286 (by decide) dX8_digest_235 ?_
          refine g_lmul C dX8_digest_238 ?_
          refine g_aload_n C dX8_digest_239 rfl ?_
          refine g_iload_n C dX8_digest_240 rfl ?_
          refine g_iload C dX8_digest_241 rfl ?_
          refine g_callV C (c_X8_splitOf _ hMu (i := i3) (p := p) (k := kk) (what := (c4 : Int)) (by omega) (by omega) hSp) (ci := 10) rfl hMu.o rfl ml_RX8_271 im_yX8_splitOf se_RX8_yX8_splitOf in_RX8 co_yX8_splitOf hd_X8_splitOf rfl ⟨by omega, by omega⟩ rfl (Nat.le_of_ble_eq_true rfl) ⟨by omega, by omega⟩ dX8_digest_243 (fun v243 w243 hp243 => ?_)
          obtain ⟨rfl, hw243⟩ := hp243
          subst w243
          refine g_i2l C dX8_digest_246 (szV_i hSp (by omega)) ?_
          refine g_ladd C dX8_digest_247 ?_
          refine g_lstore_n C dX8_digest_248 (by decide) rfl ?_
          refine g_iinc C dX8_digest_249 rfl (by decide) rfl ?_
          refine g_goto (tgt := 227) C dX8_digest_252 (by decide) ?_
          exact ih6 (c4 + 1, _) ⟨by dsimp only; omega, by dsimp only; rw [hd4]; rfl⟩ (by dsimp only; omega)
    · have hi3 : i2 < 3 := by omega
      obtain ⟨g1, gL, gR⟩ := hP i2 hi3
      have g11 := g1.i
      obtain ⟨q1, hq1, tq1, r1⟩ := hMu.L hi3
      obtain ⟨q2, hq2, tq2, r2⟩ := hMu.R hi3
      obtain ⟨nL, fL, eL, bL, dL⟩ := id r1
      obtain ⟨nR, fR, eR', bR, dR⟩ := id r2
      refine g_lload_n C dX8_digest_133 rfl ?_
      refine g_ldc2 (z := 31) C kj_RX8_286 (by decide) dX8_digest_134 ?_
      refine g_lmul C dX8_digest_137 ?_
      refine g_aload_n C dX8_digest_138 rfl ?_
      refine g_get (ci := 10) C rfl inTX8 3 (by decide) fl_RX8_16 rfl hMu.o rfl dX8_digest_139 ?_
      refine g_iload_n C dX8_digest_142 rfl ?_
      refine g_ialoadN (i2) C hMu.p (by omega) (by omega) dX8_digest_143 ?_
      refine g_i2l C dX8_digest_144 (by omega) ?_
      refine g_ladd C dX8_digest_145 ?_
      refine g_lstore_n C dX8_digest_146 (by decide) rfl ?_
      refine g_lload_n C dX8_digest_147 rfl ?_
      refine g_ldc2 (z := 31) C kj_RX8_286 (by decide) dX8_digest_148 ?_
      refine g_lmul C dX8_digest_151 ?_
      refine g_aload_n C dX8_digest_152 rfl ?_
      refine g_get (ci := 10) C rfl inTX8 4 (by decide) fl_RX8_24 rfl hMu.o rfl dX8_digest_153 ?_
      refine g_iload_n C dX8_digest_156 rfl ?_
      refine g_aaloadN (i2) C rfl rfl hMu.l (by omega) (by omega) hq1 dX8_digest_157 ?_
      refine g_callS C (c_X8_last _ eL bL (by omega)) ml_RX8_181 sm_yX8_last in_RX8 co_yX8_last hd_X8_last rfl ⟨by omega, by omega⟩ rfl (Nat.le_of_ble_eq_true rfl) ⟨by omega, by omega⟩ dX8_digest_158 (fun v158 w158 hp158 => ?_)
      obtain ⟨rfl, hw158⟩ := hp158
      subst w158
      refine g_ladd C dX8_digest_161 ?_
      refine g_ldc2 (z := 31) C kj_RX8_286 (by decide) dX8_digest_162 ?_
      refine g_lmul C dX8_digest_165 ?_
      refine g_aload_n C dX8_digest_166 rfl ?_
      refine g_get (ci := 10) C rfl inTX8 5 (by decide) fl_RX8_28 rfl hMu.o rfl dX8_digest_167 ?_
      refine g_iload_n C dX8_digest_170 rfl ?_
      refine g_aaloadN (i2) C rfl rfl hMu.r (by omega) (by omega) hq2 dX8_digest_171 ?_
      refine g_callS C (c_X8_last _ eR' bR (by omega)) ml_RX8_181 sm_yX8_last in_RX8 co_yX8_last hd_X8_last rfl ⟨by omega, by omega⟩ rfl (Nat.le_of_ble_eq_true rfl) ⟨by omega, by omega⟩ dX8_digest_172 (fun v172 w172 hp172 => ?_)
      obtain ⟨rfl, hw172⟩ := hp172
      subst w172
      refine g_ladd C dX8_digest_175 ?_
      refine g_lstore_n C dX8_digest_176 (by decide) rfl ?_
      refine g_lload_n C dX8_digest_177 rfl ?_
      refine g_ldc2 (z := 31) C kj_RX8_286 (by decide) dX8_digest_178 ?_
      refine g_lmul C dX8_digest_181 ?_
      refine g_aload_n C dX8_digest_182 rfl ?_
      refine g_get (ci := 10) C rfl inTX8 4 (by decide) fl_RX8_24 rfl hMu.o rfl dX8_digest_183 ?_
      refine g_iload_n C dX8_digest_186 rfl ?_
      refine g_aaloadN (i2) C rfl rfl hMu.l (by omega) (by omega) hq1 dX8_digest_187 ?_
      refine g_iconst C dX8_digest_188 ?_
      refine g_callS C (c_X8_bits _ eL ⟨bL.n1, by omega⟩ bL.d (what := 0) (by omega)) ml_RX8_121 sm_yX8_bits in_RX8 co_yX8_bits hd_X8_bits rfl ⟨by omega, by omega⟩ rfl (Nat.le_of_ble_eq_true rfl) ⟨by omega, by omega⟩ dX8_digest_189 (fun v189 w189 hp189 => ?_)
      obtain ⟨rfl, hw189⟩ := hp189
      subst w189
      have hh1 := hiB_r (mg fL nL) (30 * (nL - 1))
      rw [if_pos rfl]
      show G E X 6 192 _ (iI (hiB (mg fL nL) (30 * (nL - 1)) + 1) :: _) _ _ _
      have eb1 := bitV_of (cap := 5) bL (by omega) (what := 0)
      rw [if_pos rfl] at eb1
      rw [eb1]
      refine g_i2l C dX8_digest_192 (by omega) ?_
      refine g_ladd C dX8_digest_193 ?_
      refine g_ldc2 (z := 31) C kj_RX8_286 (by decide) dX8_digest_194 ?_
      refine g_lmul C dX8_digest_197 ?_
      refine g_aload_n C dX8_digest_198 rfl ?_
      refine g_get (ci := 10) C rfl inTX8 5 (by decide) fl_RX8_28 rfl hMu.o rfl dX8_digest_199 ?_
      refine g_iload_n C dX8_digest_202 rfl ?_
      refine g_aaloadN (i2) C rfl rfl hMu.r (by omega) (by omega) hq2 dX8_digest_203 ?_
      refine g_iconst C dX8_digest_204 ?_
      refine g_callS C (c_X8_bits _ eR' ⟨bR.n1, by omega⟩ bR.d (what := 0) (by omega)) ml_RX8_121 sm_yX8_bits in_RX8 co_yX8_bits hd_X8_bits rfl ⟨by omega, by omega⟩ rfl (Nat.le_of_ble_eq_true rfl) ⟨by omega, by omega⟩ dX8_digest_205 (fun v205 w205 hp205 => ?_)
      obtain ⟨rfl, hw205⟩ := hp205
      subst w205
      have hh2 := hiB_r (mg fR nR) (30 * (nR - 1))
      rw [if_pos rfl]
      show G E X 6 208 _ (iI (hiB (mg fR nR) (30 * (nR - 1)) + 1) :: _) _ _ _
      have eb2 := bitV_of (cap := 5) bR (by omega) (what := 0)
      rw [if_pos rfl] at eb2
      rw [eb2]
      refine g_i2l C dX8_digest_208 (by omega) ?_
      refine g_ladd C dX8_digest_209 ?_
      refine g_lstore_n C dX8_digest_210 (by decide) rfl ?_
      refine g_iinc C dX8_digest_211 rfl (by decide) rfl ?_
      refine g_goto (tgt := 128) C dX8_digest_214 (by decide) ?_
      exact ih4 (i2 + 1, _) ⟨by dsimp only; omega, by dsimp only; rw [hd2]; rfl⟩ (by dsimp only; omega)
  · have hi3 : i < 3 := by omega
    have gb := hB i hi3
    have gs := hS i hi3
    have gb1 := gb.i
    obtain ⟨r, er⟩ : ∃ r, r = rt i := ⟨_, rfl⟩
    have hr : RT (ba i) r := by rw [er]; exact hrt i hi3
    refine g_iconst C dX8_digest_16 ?_
    refine g_istore C dX8_digest_17 (by decide) rfl ?_
    refine g_loop (σ := Nat × Int × Wd) (fun s => s.1 ≤ 6 ∧ s.2.1 = dm6 (ba i) r (st i) dd s.1 ∧ Ex u s.2.2) (fun s => G E X 6 19 [some (.ref m), some (jJ s.2.1), none, some (iI (i : Int)), some (iI (s.1 : Int)), none] [] s.2.2 (40 * i + s.1) (340 * i + 3 * s.1)) (fun s => 6 - s.1) ?_ (0, dd, u) ⟨by dsimp only; omega, rfl, Ex.rf _⟩
    rintro ⟨j, de, u1⟩ hq ih1
    obtain ⟨hj, hde, xu1⟩ := hq
    dsimp only at hj hde xu1 ⊢
    have hMu1 := hMu.ex xu1
    refine g_iload C dX8_digest_19 rfl ?_
    refine g_bipush C dX8_digest_21 (by decide) ?_
    refine g_icmp_ge (tgt := 47) C dX8_digest_23 (by decide) (by omega) (by omega) (fun h23 => ?_) (fun h23 => ?_)
    · refine g_widen (k' := 40 * i + 6) (n' := 340 * i + 18) (by omega) (by omega) ?_
      refine g_aload_n C dX8_digest_47 rfl ?_
      refine g_iload_n C dX8_digest_48 rfl ?_
      refine g_callV C (c_X8_at _ hMu1 (i := i) (r := r) hi3 gb hr gs) (ci := 10) rfl hMu1.o rfl ml_RX8_167 im_yX8_at se_RX8_yX8_at in_RX8 co_yX8_at hd_X8_at rfl ⟨by omega, by omega⟩ rfl (Nat.le_of_ble_eq_true rfl) ⟨by omega, by omega⟩ dX8_digest_49 (fun v49 w49 hp49 => ?_)
      obtain ⟨q, rfl, hR, x49, hq⟩ := hp49
      obtain ⟨R, a0, a1, a2, a3, hR0, k0, k1, k2, k3, l0, l1, l2, l3, -⟩ := id hR
      have hMu2 := hMu1.ex x49
      refine g_astore C dX8_digest_52 (by decide) rfl ?_
      refine g_iconst C dX8_digest_54 ?_
      refine g_istore C dX8_digest_55 (by decide) rfl ?_
      refine g_loop (σ := Nat × Int) (fun s => s.1 ≤ 4 ∧ s.2 = dm4 (ba i) r (st i) de s.1) (fun s => G E X 6 57 [some (.ref m), some (jJ s.2), none, some (iI (i : Int)), some (.ref q), some (iI (s.1 : Int))] [] w49 (40 * i + 16) (340 * i + 66)) (fun s => 4 - s.1) ?_ (0, de) ⟨by dsimp only; omega, rfl⟩
      rintro ⟨c, df⟩ ⟨hc, hdf⟩ ih2
      dsimp only at hc hdf ⊢
      refine g_iload C dX8_digest_57 rfl ?_
      refine g_iconst C dX8_digest_59 ?_
      refine g_icmp_ge (tgt := 84) C dX8_digest_60 (by decide) (by omega) (by omega) (fun h60 => ?_) (fun h60 => ?_)
      · refine g_iconst C dX8_digest_84 ?_
        refine g_istore C dX8_digest_85 (by decide) rfl ?_
        refine g_loop (σ := Nat × Int × Wd) (fun s => 1 ≤ s.1 ∧ s.1 ≤ 3 ∧ (s.1 = 1 ∧ s.2.1 = df ∨ s.1 = 2 ∧ s.2.1 = df * 31 + tstV (ba i) r (st i).toNat 1 ∨ s.1 = 3 ∧ s.2.1 = (df * 31 + tstV (ba i) r (st i).toNat 1) * 31 + tstV (ba i) r (st i).toNat 2) ∧ Ex w49 s.2.2) (fun s => G E X 6 87 [some (.ref m), some (jJ s.2.1), none, some (iI (i : Int)), some (.ref q), some (iI (s.1 : Int))] [] s.2.2 (40 * i + 5 + 11 * s.1) (340 * i + 124 * (s.1 - 1) + 66)) (fun s => 3 - s.1) ?_ (1, df, w49) ⟨by dsimp only; omega, by dsimp only; omega, Or.inl ⟨rfl, rfl⟩, Ex.rf _⟩
        rintro ⟨c2, dg, u3⟩ hq ih3
        obtain ⟨hc1, hc2, hdg, xu3⟩ := hq
        dsimp only at hc1 hc2 hdg xu3 ⊢
        have hMu3 := hMu2.ex xu3
        refine g_iload C dX8_digest_87 rfl ?_
        refine g_iconst C dX8_digest_89 ?_
        refine g_icmp_ge (tgt := 120) C dX8_digest_90 (by decide) (by omega) (by omega) (fun h90 => ?_) (fun h90 => ?_)
        · refine g_iinc C dX8_digest_120 rfl (by decide) rfl ?_
          refine g_goto (tgt := 11) C dX8_digest_123 (by decide) ?_
          refine g_drop 4 (g_drop 5 ?_)
          refine g_widen (k' := 40 * (i + 1)) (n' := 340 * (i + 1)) (by omega) (by omega) ?_
          exact ih (i + 1, _, u3) ⟨by dsimp only; omega, (by
            dsimp only
            have hc4 : c = 4 := by omega
            have hj6 : j = 6 := by omega
            rcases hdg with ⟨q1, q2⟩ | ⟨q1, q2⟩ | ⟨q1, q2⟩
            · omega
            · omega
            · rw [q2, hdf, hc4, hde, hj6, hdd, er]; rfl), ((xu.tr xu1).tr x49).tr xu3⟩ (by dsimp only; omega)
        · refine g_lload_n C dX8_digest_93 rfl ?_
          refine g_ldc2 (z := 31) C kj_RX8_286 (by decide) dX8_digest_94 ?_
          refine g_lmul C dX8_digest_97 ?_
          refine g_aload_n C dX8_digest_98 rfl ?_
          refine g_get (ci := 10) C rfl inTX8 1 (by decide) fl_RX8_9 rfl hMu3.o rfl dX8_digest_99 ?_
          refine g_iload_n C dX8_digest_102 rfl ?_
          refine g_ialoadN (i) C hMu3.b (by omega) (by omega) dX8_digest_103 ?_
          refine g_aload C dX8_digest_104 rfl ?_
          refine g_iload C dX8_digest_106 rfl ?_
          refine g_callS C (c_X8_tested _ (what := (c2 : Int)) gb hr (by omega) (hR.ex xu3) (by omega)) ml_RX8_192 sm_yX8_tested in_RX8 co_yX8_tested hd_X8_tested rfl ⟨by omega, by omega⟩ rfl (Nat.le_of_ble_eq_true rfl) ⟨by omega, by omega⟩ dX8_digest_108 (fun v108 w108 hp108 => ?_)
          obtain ⟨rfl, x108⟩ := hp108
          have htr := tst_r gb hr (k := (st i).toNat) (by omega) (c2 : Int)
          refine g_i2l C dX8_digest_111 (by omega) ?_
          refine g_ladd C dX8_digest_112 ?_
          refine g_lstore_n C dX8_digest_113 (by decide) rfl ?_
          refine g_iinc C dX8_digest_114 rfl (by decide) rfl ?_
          refine g_goto (tgt := 87) C dX8_digest_117 (by decide) ?_
          refine g_widen (k' := 40 * i + 5 + 11 * (c2 + 1)) (n' := 340 * i + 124 * (c2 + 1 - 1) + 66) (by omega) (by omega) ?_
          exact ih3 (c2 + 1, _, w108) ⟨by dsimp only; omega, by dsimp only; omega, (by
            dsimp only
            rcases hdg with ⟨q1, q2⟩ | ⟨q1, q2⟩ | ⟨q1, q2⟩
            · subst q1; rw [q2]; exact Or.inr (Or.inl ⟨rfl, rfl⟩)
            · subst q1; rw [q2]; exact Or.inr (Or.inr ⟨rfl, rfl⟩)
            · omega), xu3.tr x108⟩ (by dsimp only; omega)
      · refine g_lload_n C dX8_digest_63 rfl ?_
        refine g_ldc2 (z := 31) C kj_RX8_286 (by decide) dX8_digest_64 ?_
        refine g_lmul C dX8_digest_67 ?_
        refine g_aload C dX8_digest_68 rfl ?_
        refine g_iload C dX8_digest_70 rfl ?_
        have hrow : ∃ (a n : Nat) (f : Nat → Int) (z : Int), R c = some a ∧ w49.2 a = some (true, eI n f) ∧ BN f n z ∧ n ≤ 5 ∧ z = dmN (ba i) r (st i).toNat c := by
          have hc4 : c = 0 ∨ c = 1 ∨ c = 2 ∨ c = 3 := by omega
          rcases hc4 with rfl | rfl | rfl | rfl
          · obtain ⟨n, f, e, b, d⟩ := l0; exact ⟨a0, n, f, _, k0, e, b, d, rfl⟩
          · obtain ⟨n, f, e, b, d⟩ := l1; exact ⟨a1, n, f, _, k1, e, b, d, rfl⟩
          · obtain ⟨n, f, e, b, d⟩ := l2; exact ⟨a2, n, f, _, k2, e, b, d, rfl⟩
          · obtain ⟨n, f, e, b, d⟩ := l3; exact ⟨a3, n, f, _, k3, e, b, d, rfl⟩
        obtain ⟨ac, nc, fc, zc, hRc', ec, bc, dc, ezc⟩ := hrow
        refine g_aaloadN (c) C rfl rfl hR0 (by omega) (by omega) hRc' dX8_digest_72 ?_
        refine g_callS C (c_X8_last _ ec bc (by omega)) ml_RX8_181 sm_yX8_last in_RX8 co_yX8_last hd_X8_last rfl ⟨by omega, by omega⟩ rfl (Nat.le_of_ble_eq_true rfl) ⟨by omega, by omega⟩ dX8_digest_73 (fun v73 w73 hp73 => ?_)
        obtain ⟨rfl, hw73⟩ := hp73
        subst w73
        refine g_ladd C dX8_digest_76 ?_
        refine g_lstore_n C dX8_digest_77 (by decide) rfl ?_
        refine g_iinc C dX8_digest_78 rfl (by decide) rfl ?_
        refine g_goto (tgt := 57) C dX8_digest_81 (by decide) ?_
        exact ih2 (c + 1, _) ⟨by dsimp only; omega, by dsimp only; rw [hdf, ezc]; rfl⟩ (by dsimp only; omega)
    · refine g_lload_n C dX8_digest_26 rfl ?_
      refine g_ldc2 (z := 31) C kj_RX8_286 (by decide) dX8_digest_27 ?_
      refine g_lmul C dX8_digest_30 ?_
      refine g_aload_n C dX8_digest_31 rfl ?_
      refine g_iload_n C dX8_digest_32 rfl ?_
      refine g_iload C dX8_digest_33 rfl ?_
      refine g_callV C (c_X8_partOf _ hMu1 (i := i) (what := (j : Int)) hi3 (by omega) gb hr gs) (ci := 10) rfl hMu1.o rfl ml_RX8_162 im_yX8_partOf se_RX8_yX8_partOf in_RX8 co_yX8_partOf hd_X8_partOf rfl ⟨by omega, by omega⟩ rfl (Nat.le_of_ble_eq_true rfl) ⟨by omega, by omega⟩ dX8_digest_35 (fun v35 w35 hp35 => ?_)
      obtain ⟨rfl, x35⟩ := hp35
      refine g_i2l C dX8_digest_38 (prV_i gb hr gs (by omega)) ?_
      refine g_ladd C dX8_digest_39 ?_
      refine g_lstore_n C dX8_digest_40 (by decide) rfl ?_
      refine g_iinc C dX8_digest_41 rfl (by decide) rfl ?_
      refine g_goto (tgt := 19) C dX8_digest_44 (by decide) ?_
      exact ih1 (j + 1, _, w35) ⟨by dsimp only; omega, by dsimp only; rw [hde]; rfl, xu1.tr x35⟩ (by dsimp only; omega)
