set_option maxHeartbeats 4000000 in
set_option maxRecDepth 100000 in
theorem c_X8_divideBy (l : Launch) {E : GE} {w : Wd} {v d : Int} (h_v : -2147483648 ≤ v ∧ v < 2147483648) (h_d : -2147483648 ≤ d ∧ d < 2147483648) {τ : Nat → Nat} {m : Nat} {A : MA} {th : Int} {ba st pb le ri : Nat → Int} {sp : Nat → Nat → Int} {ct : Nat → Int} (hM : MSx τ w m A th ba st pb le ri sp ct) (hP : HPp pb le ri) : Sp E l yX8_divideBy cX8_divideBy 5 (some .int) 4 (4) (16) [.ref m, iI v, iI d] w (fun r w' => ∃ (τ' : Nat → Nat) (A' : MA) (t : Int) (pb' le' ri' ct' : Nat → Int) (ans : Int), (∀ a, a < w.1 → τ' a = τ a) ∧ r = some (iI ans) ∧ MSx τ' w' m A' (t) (ba) (st) (pb') (le') (ri') (sp) (ct') ∧ Keep τ w w' ∧ (¬ (0 ≤ v ∧ v ≤ 2) ∧ t = 1 ∧ ans = 0 ∧ pb' = pb ∧ le' = le ∧ ri' = ri ∧ ct' = ct ∨ (0 ≤ v ∧ v ≤ 2) ∧ ¬ (-99 ≤ d ∧ d ≤ 99) ∧ t = 2 ∧ ans = 0 ∧ pb' = pb ∧ le' = le ∧ ri' = ri ∧ ct' = ct ∨ (0 ≤ v ∧ v ≤ 2) ∧ (-99 ≤ d ∧ d ≤ 99) ∧ t = 0 ∧ ((d = 0 ∨ aB (le v.toNat) % aB d ≠ 0 ∨ aB (ri v.toNat) % aB d ≠ 0) ∧ ans = -9 ∧ pb' = pb ∧ le' = le ∧ ri' = ri ∧ ct' = iup ct 3 (ct 3 + 1) ∨ ¬ (d = 0 ∨ aB (le v.toNat) % aB d ≠ 0 ∨ aB (ri v.toNat) % aB d ≠ 0) ∧ ∃ x y : Int, x * d = le v.toNat ∧ y * d = ri v.toNat ∧ ans = bI (¬ (pb v.toNat = (pb v.toNat) ∧ le v.toNat = x ∧ ri v.toNat = y)) ∧ pb' = iup pb v.toNat (pb v.toNat) ∧ le' = iup le v.toNat x ∧ ri' = iup ri v.toNat y ∧ ct' = iup ct 1 (ct 1 + 1)))) := by
  refine sp_intro [some (.ref m), some (iI v), some (iI d), none, none] rfl (Nat.le_of_ble_eq_true rfl) pn_X8 ?_
  intro X C hRm hl hnm hQ
  obtain ⟨hRf, hRl, hRc, hRs⟩ := hRm
  refine g_wf (fun hwf => ?_)
  refine g_aload_n C dX8_divideBy_0 rfl ?_
  refine g_iload_n C dX8_divideBy_1 rfl ?_
  refine g_callS C (c_X8_isNo _ (v := v) h_v) ml_RX8_145 sm_yX8_isNo in_RX8 co_yX8_isNo hd_X8_isNo rfl ⟨by omega, by omega⟩ rfl (Nat.le_of_ble_eq_true rfl) ⟨by omega, by omega⟩ dX8_divideBy_2 (fun v2 w2 hp2 => ?_)
  obtain ⟨rfl, hw2⟩ := hp2
  subst w2
  refine g_iconst C dX8_divideBy_5 ?_
  refine g_callV C (c_X8_start _ hM (y := bI (¬ (0 ≤ v ∧ v ≤ 2))) (wh := 1) (bI_01 _) (by omega)) (ci := 10) rfl hM.o rfl ml_RX8_149 im_yX8_start se_RX8_yX8_start in_RX8 co_yX8_start hd_X8_start rfl ⟨by omega, by omega⟩ rfl (Nat.le_of_ble_eq_true rfl) ⟨by omega, by omega⟩ dX8_divideBy_6 (fun v6 w6 hp6 => ?_)
  obtain ⟨t6, rfl, ht6, hM6, hK6⟩ := hp6
  have hy6 : (bI (¬ (0 ≤ v ∧ v ≤ 2))) = 0 ∨ (bI (¬ (0 ≤ v ∧ v ≤ 2))) = 1 := (bI_01 _)
  refine g_if_ne (tgt := 36) C dX8_divideBy_9 (by decide) (bI_r _) (fun h9 => ?_) (fun h9 => ?_)
  · refine g_iconst C dX8_divideBy_36 ?_
    exact g_ireturn C hQ dX8_divideBy_37 (by omega) (by omega) (by
      first
      | exact ⟨τ, A, t, _, _, _, _, _, (fun _ _ => rfl), rfl, hM7, hK67, Or.inr (Or.inl ⟨hwk, by have := bI_1 h33; omega, by have := bI_1 h33; omega, rfl, rfl, rfl, rfl, rfl⟩)⟩
      | exact ⟨τ, A, t6, _, _, _, _, _, (fun _ _ => rfl), rfl, hM6, hK6, Or.inl ⟨bI_1 h9, by omega, rfl, rfl, rfl, rfl, rfl⟩⟩)
  · refine g_aload_n C dX8_divideBy_12 rfl ?_
    refine g_iload_n C dX8_divideBy_13 rfl ?_
    refine g_bipush C dX8_divideBy_14 (by decide) ?_
    refine g_bipush C dX8_divideBy_16 (by decide) ?_
    refine g_callS C (c_X8_isIn _ (v := d) (a := (-99)) (b := 99) h_d (by omega) (by omega)) ml_RX8_49 sm_yX8_isIn in_RX8 co_yX8_isIn hd_X8_isIn rfl ⟨by omega, by omega⟩ rfl (Nat.le_of_ble_eq_true rfl) ⟨by omega, by omega⟩ dX8_divideBy_18 (fun v18 w18 hp18 => ?_)
    obtain ⟨rfl, hw18⟩ := hp18
    subst w18
    have J29 : ∀ y : Int, (y = 0 ∧ (-99 ≤ d ∧ d ≤ 99) ∨ y = 1 ∧ ¬ (-99 ≤ d ∧ d ≤ 99)) → G E X 5 29 [some (.ref m), some (iI v), some (iI d), none, none] [iI y, .ref m] w6 0 0 := by
      intro y hy
      have hwk : 0 ≤ v ∧ v ≤ 2 := Classical.not_not.mp (bI_0 (Classical.not_not.mp h9))
      refine g_iconst C dX8_divideBy_29 ?_
      refine g_callV C (c_X8_refuse _ hM6 (y := y) (wh := 2) (by omega) (by omega) (by omega)) (ci := 10) rfl hM6.o rfl ml_RX8_45 im_yX8_refuse se_RX8_yX8_refuse in_RX8 co_yX8_refuse hd_X8_refuse rfl ⟨by omega, by omega⟩ rfl (Nat.le_of_ble_eq_true rfl) ⟨by omega, by omega⟩ dX8_divideBy_30 (fun v30 w30 hp30 => ?_)
      obtain ⟨t, rfl, ht, hM7, hK7⟩ := hp30
      have hy7 : (y) = 0 ∨ (y) = 1 := (by omega)
      have hK67 := hK6.tr hK7
      refine g_if_eq (tgt := 38) C dX8_divideBy_33 (by decide) (bI_r _) (fun h33 => ?_) (fun h33 => ?_)
      · have htz : ¬ (0 < t) := bI_0 h33
        have he : -99 ≤ d ∧ d ≤ 99 := by omega
        obtain ⟨V, rfl⟩ := Int.eq_ofNat_of_zero_le hwk.1
        have g1 := (hP V (by omega)).1
        refine g_wf (fun hwf7 => ?_)
        have hwk7 := hK67.1
        obtain ⟨q1, hq1, tq1, r1⟩ := hM7.L (i := V) (by omega)
        obtain ⟨q2, hq2, tq2, r2⟩ := hM7.R (i := V) (by omega)
        have J86 : ∀ u : Wd, Ex w30 u → (d = 0 ∨ aB (le V) % aB d ≠ 0 ∨ aB (ri V) % aB d ≠ 0) → G E X 5 86 [some (.ref m), some (iI (V : Int)), some (iI d), none, none] [] u 4 16 := by
          intro u xu hno
          have hMu := hM7.ex xu
          have hKu := hK67.tr (Keep.ex xu)
          refine g_aload_n C dX8_divideBy_86 rfl ?_
          refine g_callV C (c_X8_cannot _ hMu) (ci := 10) rfl hMu.o rfl ml_RX8_158 im_yX8_cannot se_RX8_yX8_cannot in_RX8 co_yX8_cannot hd_X8_cannot rfl ⟨by omega, by omega⟩ rfl (Nat.le_of_ble_eq_true rfl) ⟨by omega, by omega⟩ dX8_divideBy_87 (fun v87 w87 hp87 => ?_)
          obtain ⟨rfl, hM9, hK9⟩ := hp87
          refine g_goto (tgt := 107) C dX8_divideBy_90 (by decide) ?_
          exact g_ireturn C hQ dX8_divideBy_107 (by omega) (by omega) (by
            first
            | exact ⟨_, _, t, _, _, _, _, _, fun a ha => rtag_lo (by omega), rfl, hM9, hKu.trT hK9 hwf (fun a ha => rtag_lo (by omega)), Or.inr (Or.inr ⟨hwk, he, by omega, Or.inr ⟨fun q => by rcases q with q | q | q; exact hd0 q; exact q m1; exact q m2, x, y, ex, ey, rfl, rfl, rfl, rfl, rfl⟩⟩)⟩
            | exact ⟨τ, A, t, _, _, _, _, _, (fun _ _ => rfl), rfl, hM9, hKu.tr hK9, Or.inr (Or.inr ⟨hwk, he, by omega, Or.inl ⟨hno, rfl, rfl, rfl, rfl, rfl⟩⟩)⟩)
        have J93 : ∀ (u : Wd) (a b : Nat) (x y : Int), Ex w30 u → d ≠ 0 → aB (le V) % aB d = 0 → aB (ri V) % aB d = 0 → RowAt u a x 4 → RowAt u b y 4 → x * d = le V → y * d = ri V → w30.1 ≤ a → w30.1 ≤ b → G E X 5 93 [some (.ref m), some (iI (V : Int)), some (iI d), some (.ref a), some (.ref b)] [] u 4 16 := by
          intro u a b x y xu hd0 m1 m2 ra rb ex ey la lb
          have hMu := (hM7.tag (τ' := rtag τ w30.1) hwf7 (fun a ha => rtag_lo ha)).ex xu
          have hKu := hK67.tr (Keep.ex xu)
          refine g_aload_n C dX8_divideBy_93 rfl ?_
          refine g_iload_n C dX8_divideBy_94 rfl ?_
          refine g_aload_n C dX8_divideBy_95 rfl ?_
          refine g_get (ci := 10) C rfl inTX8 3 (by decide) fl_RX8_16 rfl hMu.o rfl dX8_divideBy_96 ?_
          refine g_iload_n C dX8_divideBy_99 rfl ?_
          refine g_ialoadN (V) C hMu.p (by omega) (by omega) dX8_divideBy_100 ?_
          refine g_aload_n C dX8_divideBy_101 rfl ?_
          refine g_aload C dX8_divideBy_102 rfl ?_
          refine g_callV C (c_X8_become _ hMu (i := V) (bz := pb V) (by omega) g1.i g1.i (rtag_hi la) (rtag_hi lb) ra rb) (ci := 10) rfl hMu.o rfl ml_RX8_232 im_yX8_become se_RX8_yX8_become in_RX8 co_yX8_become hd_X8_become rfl ⟨by omega, by omega⟩ rfl (Nat.le_of_ble_eq_true rfl) ⟨by omega, by omega⟩ dX8_divideBy_104 (fun v104 w104 hp104 => ?_)
          obtain ⟨rfl, hM9, hK9⟩ := hp104
          exact g_ireturn C hQ dX8_divideBy_107 (by omega) (by omega) (by
            first
            | exact ⟨_, _, t, _, _, _, _, _, fun a ha => rtag_lo (by omega), rfl, hM9, hKu.trT hK9 hwf (fun a ha => rtag_lo (by omega)), Or.inr (Or.inr ⟨hwk, he, by omega, Or.inr ⟨fun q => by rcases q with q | q | q; exact hd0 q; exact q m1; exact q m2, x, y, ex, ey, rfl, rfl, rfl, rfl, rfl⟩⟩)⟩
            | exact ⟨τ, A, t, _, _, _, _, _, (fun _ _ => rfl), rfl, hM9, hKu.tr hK9, Or.inr (Or.inr ⟨hwk, he, by omega, Or.inl ⟨hno, rfl, rfl, rfl, rfl, rfl⟩⟩)⟩)
        have J57n : ∀ u : Wd, Ex w30 u → (d = 0 ∨ aB (le V) % aB d ≠ 0) → G E X 5 57 [some (.ref m), some (iI (V : Int)), some (iI d), some .null, none] [] u 2 8 := by
          intro u xu hno
          have hMu := hM7.ex xu
          have A1 : ∀ u' : Wd, Ex w30 u' → G E X 5 75 [some (.ref m), some (iI (V : Int)), some (iI d), some .null, none] [.null] u' 4 16 := fun u' xu' => g_astoreNl C dX8_divideBy_75 (by decide) rfl (g_aload_nN C dX8_divideBy_77 rfl (g_ifnullN C dX8_divideBy_78 (by decide) (g_drop 3 (g_drop 4 (J86 u' xu' (by omega))))))
          have A2 : ∀ (u' : Wd) (q : Nat), Ex w30 u' → G E X 5 75 [some (.ref m), some (iI (V : Int)), some (iI d), some .null, none] [.ref q] u' 4 16 := fun u' q xu' => g_astore C dX8_divideBy_75 (by decide) rfl (g_aload_nN C dX8_divideBy_77 rfl (g_ifnullN C dX8_divideBy_78 (by decide) (g_drop 3 (g_drop 4 (J86 u' xu' (by omega))))))
          refine g_iload_n C dX8_divideBy_57 rfl ?_
          refine g_if_ne (tgt := 65) C dX8_divideBy_58 (by decide) (by omega) (fun h58 => ?_) (fun h58 => ?_)
          · refine g_aload_n C dX8_divideBy_65 rfl ?_
            refine g_get (ci := 10) C rfl inTX8 5 (by decide) fl_RX8_28 rfl hMu.o rfl dX8_divideBy_66 ?_
            refine g_iload_n C dX8_divideBy_69 rfl ?_
            refine g_aaloadN (V) C rfl rfl hMu.r (by omega) (by omega) hq2 dX8_divideBy_70 ?_
            refine g_iload_n C dX8_divideBy_71 rfl ?_
            refine g_callS C (c_X8_parted _ (d := d) (r2.ex xu) (by omega) he) ml_RX8_243 sm_yX8_parted in_RX8 co_yX8_parted hd_X8_parted rfl ⟨by omega, by omega⟩ rfl (Nat.le_of_ble_eq_true rfl) ⟨by omega, by omega⟩ dX8_divideBy_72 (fun v72 w72 hp72 => ?_)
            first
            | exact g_widen (by omega) (by omega) (A1 _ xu)
            | omega
            | (rcases hp72 with ⟨rfl, hn, xx⟩ | ⟨q, y, rfl, rq, hy, hm, lq, xx⟩
               · first | exact A1 _ (xu.tr xx) | exact A1 _ (xu.tr xx) hn
               · first | exact A2 _ q (xu.tr xx) | exact A2 _ q y xx (xu.tr xx) rq hy hm (by have := xu.1; omega))
          · refine g_null C dX8_divideBy_61 ?_
            refine g_goto (tgt := 75) C dX8_divideBy_62 (by decide) ?_
            first
            | exact g_widen (by omega) (by omega) (A1 _ xu)
            | omega
            | (rcases hp72 with ⟨rfl, hn, xx⟩ | ⟨q, y, rfl, rq, hy, hm, lq, xx⟩
               · first | exact A1 _ (xu.tr xx) | exact A1 _ (xu.tr xx) hn
               · first | exact A2 _ q (xu.tr xx) | exact A2 _ q y xx (xu.tr xx) rq hy hm (by have := xu.1; omega))
        have J57r : ∀ (u : Wd) (a : Nat) (x : Int), Ex w30 u → d ≠ 0 → aB (le V) % aB d = 0 → RowAt u a x 4 → x * d = le V → w30.1 ≤ a → G E X 5 57 [some (.ref m), some (iI (V : Int)), some (iI d), some (.ref a), none] [] u 2 8 := by
          intro u a x xu hd0 m1 ra ex la
          have hMu := hM7.ex xu
          have A1 : ∀ u' : Wd, Ex w30 u' → aB (ri V) % aB d ≠ 0 → G E X 5 75 [some (.ref m), some (iI (V : Int)), some (iI d), some (.ref a), none] [.null] u' 4 16 := fun u' xu' hn => g_astoreNl C dX8_divideBy_75 (by decide) rfl (g_aload_n C dX8_divideBy_77 rfl (g_ifnull C dX8_divideBy_78 (g_aloadN C dX8_divideBy_81 rfl (g_ifnonnullN C dX8_divideBy_83 (g_drop 3 (g_drop 4 (J86 u' xu' (Or.inr (Or.inr hn)))))))))
          have A2 : ∀ (u' : Wd) (q : Nat) (y : Int), Ex u u' → Ex w30 u' → RowAt u' q y 4 → y * d = ri V → aB (ri V) % aB d = 0 → w30.1 ≤ q → G E X 5 75 [some (.ref m), some (iI (V : Int)), some (iI d), some (.ref a), none] [.ref q] u' 4 16 := fun u' q y xuu xu' rq ey m2 lq => g_astore C dX8_divideBy_75 (by decide) rfl (g_aload_n C dX8_divideBy_77 rfl (g_ifnull C dX8_divideBy_78 (g_aload C dX8_divideBy_81 rfl (g_ifnonnull C dX8_divideBy_83 (by decide) (J93 u' a q x y xu' hd0 m1 m2 (ra.ex xuu) rq ex ey la lq)))))
          refine g_iload_n C dX8_divideBy_57 rfl ?_
          refine g_if_ne (tgt := 65) C dX8_divideBy_58 (by decide) (by omega) (fun h58 => ?_) (fun h58 => ?_)
          · refine g_aload_n C dX8_divideBy_65 rfl ?_
            refine g_get (ci := 10) C rfl inTX8 5 (by decide) fl_RX8_28 rfl hMu.o rfl dX8_divideBy_66 ?_
            refine g_iload_n C dX8_divideBy_69 rfl ?_
            refine g_aaloadN (V) C rfl rfl hMu.r (by omega) (by omega) hq2 dX8_divideBy_70 ?_
            refine g_iload_n C dX8_divideBy_71 rfl ?_
            refine g_callS C (c_X8_parted _ (d := d) (r2.ex xu) (by omega) he) ml_RX8_243 sm_yX8_parted in_RX8 co_yX8_parted hd_X8_parted rfl ⟨by omega, by omega⟩ rfl (Nat.le_of_ble_eq_true rfl) ⟨by omega, by omega⟩ dX8_divideBy_72 (fun v72 w72 hp72 => ?_)
            first
            | exact g_widen (by omega) (by omega) (A1 _ xu)
            | omega
            | (rcases hp72 with ⟨rfl, hn, xx⟩ | ⟨q, y, rfl, rq, hy, hm, lq, xx⟩
               · first | exact A1 _ (xu.tr xx) | exact A1 _ (xu.tr xx) hn
               · first | exact A2 _ q (xu.tr xx) | exact A2 _ q y xx (xu.tr xx) rq hy hm (by have := xu.1; omega))
          · refine g_null C dX8_divideBy_61 ?_
            refine g_goto (tgt := 75) C dX8_divideBy_62 (by decide) ?_
            first
            | exact g_widen (by omega) (by omega) (A1 _ xu)
            | omega
            | (rcases hp72 with ⟨rfl, hn, xx⟩ | ⟨q, y, rfl, rq, hy, hm, lq, xx⟩
               · first | exact A1 _ (xu.tr xx) | exact A1 _ (xu.tr xx) hn
               · first | exact A2 _ q (xu.tr xx) | exact A2 _ q y xx (xu.tr xx) rq hy hm (by have := xu.1; omega))
        refine g_iload_n C dX8_divideBy_38 rfl ?_
        refine g_if_ne (tgt := 46) C dX8_divideBy_39 (by decide) (by omega) (fun h39 => ?_) (fun h39 => ?_)
        · refine g_aload_n C dX8_divideBy_46 rfl ?_
          refine g_get (ci := 10) C rfl inTX8 4 (by decide) fl_RX8_24 rfl hM7.o rfl dX8_divideBy_47 ?_
          refine g_iload_n C dX8_divideBy_50 rfl ?_
          refine g_aaloadN (V) C rfl rfl hM7.l (by omega) (by omega) hq1 dX8_divideBy_51 ?_
          refine g_iload_n C dX8_divideBy_52 rfl ?_
          refine g_callS C (c_X8_parted _ (d := d) r1 (by omega) he) ml_RX8_243 sm_yX8_parted in_RX8 co_yX8_parted hd_X8_parted rfl ⟨by omega, by omega⟩ rfl (Nat.le_of_ble_eq_true rfl) ⟨by omega, by omega⟩ dX8_divideBy_53 (fun v53 w53 hp53 => ?_)
          first
          | exact g_astore_nN C dX8_divideBy_56 (by decide) rfl (g_widen (by omega) (by omega) (J57n _ (Ex.rf _) (Or.inl (by omega))))
          | (rcases hp53 with ⟨rfl, hn, xx⟩ | ⟨q, y, rfl, rq, hy, hm, lq, xx⟩
             · exact g_astore_nN C dX8_divideBy_56 (by decide) rfl (J57n _ xx (Or.inr hn))
             · exact g_astore_n C dX8_divideBy_56 (by decide) rfl (J57r _ q y xx (by omega) hm rq hy lq))
        · refine g_null C dX8_divideBy_42 ?_
          refine g_goto (tgt := 56) C dX8_divideBy_43 (by decide) ?_
          first
          | exact g_astore_nN C dX8_divideBy_56 (by decide) rfl (g_widen (by omega) (by omega) (J57n _ (Ex.rf _) (Or.inl (by omega))))
          | (rcases hp53 with ⟨rfl, hn, xx⟩ | ⟨q, y, rfl, rq, hy, hm, lq, xx⟩
             · exact g_astore_nN C dX8_divideBy_56 (by decide) rfl (J57n _ xx (Or.inr hn))
             · exact g_astore_n C dX8_divideBy_56 (by decide) rfl (J57r _ q y xx (by omega) hm rq hy lq))
      · refine g_iconst C dX8_divideBy_36 ?_
        exact g_ireturn C hQ dX8_divideBy_37 (by omega) (by omega) (by
          first
          | exact ⟨τ, A, t, _, _, _, _, _, (fun _ _ => rfl), rfl, hM7, hK67, Or.inr (Or.inl ⟨hwk, by have := bI_1 h33; omega, by have := bI_1 h33; omega, rfl, rfl, rfl, rfl, rfl⟩)⟩
          | exact ⟨τ, A, t6, _, _, _, _, _, (fun _ _ => rfl), rfl, hM6, hK6, Or.inl ⟨bI_1 h9, by omega, rfl, rfl, rfl, rfl, rfl⟩⟩)
    refine g_if_ne (tgt := 28) C dX8_divideBy_21 (by decide) (bI_r _) (fun h21 => ?_) (fun h21 => ?_)
    · refine g_iconst C dX8_divideBy_28 ?_
      exact J29 _ (by first | exact Or.inl ⟨rfl, bI_1 h21⟩ | exact Or.inr ⟨rfl, bI_0 (Classical.not_not.mp h21)⟩)
    · refine g_iconst C dX8_divideBy_24 ?_
      refine g_goto (tgt := 29) C dX8_divideBy_25 (by decide) ?_
      exact J29 _ (by first | exact Or.inl ⟨rfl, bI_1 h21⟩ | exact Or.inr ⟨rfl, bI_0 (Classical.not_not.mp h21)⟩)
