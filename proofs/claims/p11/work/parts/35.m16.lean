theorem RowAt.of {w : Wd} {q n c : Nat} {f : Nat → Int} {z : Int} (h : w.2 q = some (true, eI n f)) (b : BN f n z) (hn : n ≤ c) : RowAt w q z c := ⟨n, f, h, b, hn⟩
theorem aB_neg {z : Int} : aB (-z) = aB z := by unfold aB; split <;> split <;> omega
set_option maxHeartbeats 4000000 in
set_option maxRecDepth 100000 in
theorem c_X8_put (l : Launch) {E : GE} {w : Wd} {v b x y : Int} (h_v : -2147483648 ≤ v ∧ v < 2147483648) (h_b : -2147483648 ≤ b ∧ b < 2147483648) (h_x : -2147483648 ≤ x ∧ x < 2147483648) (h_y : -2147483648 ≤ y ∧ y < 2147483648) {τ : Nat → Nat} {m : Nat} {A : MA} {th : Int} {ba st pb le ri : Nat → Int} {sp : Nat → Nat → Int} {ct : Nat → Int} (hM : MSx τ w m A th ba st pb le ri sp ct) (hP : HPp pb le ri) : Sp E l yX8_put cX8_put 5 (some .int) 4 (4) (16) [.ref m, iI v, iI b, iI x, iI y] w (fun r w' => ∃ (τ' : Nat → Nat) (A' : MA) (t : Int) (pb' le' ri' ct' : Nat → Int) (ans : Int), (∀ a, a < w.1 → τ' a = τ a) ∧ r = some (iI ans) ∧ MSx τ' w' m A' (t) (ba) (st) (pb') (le') (ri') (sp) (ct') ∧ Keep τ w w' ∧ (¬ (0 ≤ v ∧ v ≤ 2) ∧ t = 1 ∧ ans = 0 ∧ pb' = pb ∧ le' = le ∧ ri' = ri ∧ ct' = ct ∨ (0 ≤ v ∧ v ≤ 2) ∧ ¬ (GB b ∧ (-1000 ≤ x ∧ x ≤ 1000) ∧ (-1000 ≤ y ∧ y ≤ 1000)) ∧ t = 2 ∧ ans = 0 ∧ pb' = pb ∧ le' = le ∧ ri' = ri ∧ ct' = ct ∨ (0 ≤ v ∧ v ≤ 2) ∧ (GB b ∧ (-1000 ≤ x ∧ x ≤ 1000) ∧ (-1000 ≤ y ∧ y ≤ 1000)) ∧ t = 0 ∧ ans = bI (¬ (pb v.toNat = b ∧ le v.toNat = x ∧ ri v.toNat = y)) ∧ pb' = iup pb v.toNat b ∧ le' = iup le v.toNat x ∧ ri' = iup ri v.toNat y ∧ ct' = iup ct 1 (ct 1 + 1))) := by
  refine sp_intro [some (.ref m), some (iI v), some (iI b), some (iI x), some (iI y)] rfl (Nat.le_of_ble_eq_true rfl) pn_X8 ?_
  intro X C hRm hl hnm hQ
  obtain ⟨hRf, hRl, hRc, hRs⟩ := hRm
  refine g_wf (fun hwf => ?_)
  refine g_aload_n C dX8_put_0 rfl ?_
  refine g_iload_n C dX8_put_1 rfl ?_
  refine g_callS C (c_X8_isNo _ (v := v) h_v) ml_RX8_145 sm_yX8_isNo in_RX8 co_yX8_isNo hd_X8_isNo rfl ⟨by omega, by omega⟩ rfl (Nat.le_of_ble_eq_true rfl) ⟨by omega, by omega⟩ dX8_put_2 (fun v2 w2 hp2 => ?_)
  obtain ⟨rfl, hw2⟩ := hp2
  subst w2
  refine g_iconst C dX8_put_5 ?_
  refine g_callV C (c_X8_start _ hM (y := bI (¬ (0 ≤ v ∧ v ≤ 2))) (wh := 1) (bI_01 _) (by omega)) (ci := 10) rfl hM.o rfl ml_RX8_149 im_yX8_start se_RX8_yX8_start in_RX8 co_yX8_start hd_X8_start rfl ⟨by omega, by omega⟩ rfl (Nat.le_of_ble_eq_true rfl) ⟨by omega, by omega⟩ dX8_put_6 (fun v6 w6 hp6 => ?_)
  obtain ⟨t6, rfl, ht6, hM6, hK6⟩ := hp6
  have hy6 : (bI (¬ (0 ≤ v ∧ v ≤ 2))) = 0 ∨ (bI (¬ (0 ≤ v ∧ v ≤ 2))) = 1 := (bI_01 _)
  refine g_if_ne (tgt := 59) C dX8_put_9 (by decide) (bI_r _) (fun h9 => ?_) (fun h9 => ?_)
  · refine g_iconst C dX8_put_59 ?_
    exact g_ireturn C hQ dX8_put_60 (by omega) (by omega) (by
      first
      | exact ⟨τ, A, t, _, _, _, _, _, (fun _ _ => rfl), rfl, hM7, hK67, Or.inr (Or.inl ⟨hwk, by rcases hno with q | q; (have := bI_1 h56; omega); exact q.2, by have := bI_1 h56; omega, rfl, rfl, rfl, rfl, rfl⟩)⟩
      | exact ⟨τ, A, t6, _, _, _, _, _, (fun _ _ => rfl), rfl, hM6, hK6, Or.inl ⟨bI_1 h9, by omega, rfl, rfl, rfl, rfl, rfl⟩⟩)
  · refine g_aload_n C dX8_put_12 rfl ?_
    refine g_iload_n C dX8_put_13 rfl ?_
    refine g_callS C (c_X8_isNoBase _ (v := b) h_b) ml_RX8_152 sm_yX8_isNoBase in_RX8 co_yX8_isNoBase hd_X8_isNoBase rfl ⟨by omega, by omega⟩ rfl (Nat.le_of_ble_eq_true rfl) ⟨by omega, by omega⟩ dX8_put_14 (fun v14 w14 hp14 => ?_)
    obtain ⟨⟨yb, rfl, hyb⟩, hw14⟩ := hp14
    subst w14
    have hyb01 : yb = 0 ∨ yb = 1 := by rcases hyb with q | q <;> omega
    have J52 : ∀ no : Int, (no = 0 ∧ (GB b ∧ (-1000 ≤ x ∧ x ≤ 1000) ∧ (-1000 ≤ y ∧ y ≤ 1000)) ∨ no = 1 ∧ ¬ (GB b ∧ (-1000 ≤ x ∧ x ≤ 1000) ∧ (-1000 ≤ y ∧ y ≤ 1000))) → G E X 5 52 [some (.ref m), some (iI v), some (iI b), some (iI x), some (iI y)] [iI no, .ref m] w6 0 0 := by
      intro no hno
      have hwk : 0 ≤ v ∧ v ≤ 2 := Classical.not_not.mp (bI_0 (Classical.not_not.mp h9))
      refine g_iconst C dX8_put_52 ?_
      refine g_callV C (c_X8_refuse _ hM6 (y := no) (wh := 2) (by omega) (by omega) (by omega)) (ci := 10) rfl hM6.o rfl ml_RX8_45 im_yX8_refuse se_RX8_yX8_refuse in_RX8 co_yX8_refuse hd_X8_refuse rfl ⟨by omega, by omega⟩ rfl (Nat.le_of_ble_eq_true rfl) ⟨by omega, by omega⟩ dX8_put_53 (fun v53 w53 hp53 => ?_)
      obtain ⟨t, rfl, ht, hM7, hK7⟩ := hp53
      have hy7 : (no) = 0 ∨ (no) = 1 := (by omega)
      have hK67 := hK6.tr hK7
      refine g_if_eq (tgt := 61) C dX8_put_56 (by decide) (bI_r _) (fun h56 => ?_) (fun h56 => ?_)
      · have htz : ¬ (0 < t) := bI_0 h56
        have hok : (GB b ∧ (-1000 ≤ x ∧ x ≤ 1000) ∧ (-1000 ≤ y ∧ y ≤ 1000)) := by rcases hno with q | q; exact q.2; omega
        obtain ⟨V, rfl⟩ := Int.eq_ofNat_of_zero_le hwk.1
        refine g_wf (fun hwf7 => ?_)
        have p2 := (hP V (by omega)).1.i
        have hwk7 := hK67.1
        refine g_aload_n C dX8_put_61 rfl ?_
        refine g_iload_n C dX8_put_62 rfl ?_
        refine g_iload_n C dX8_put_63 rfl ?_
        refine g_iload_n C dX8_put_64 rfl ?_
        refine g_i2l C dX8_put_65 (by omega) ?_
        refine g_callS C (c_X8_of _ (v := x) (by omega)) ml_RX8_20 sm_yX8_of in_RX8 co_yX8_of hd_X8_of rfl ⟨by omega, by omega⟩ rfl (Nat.le_of_ble_eq_true rfl) ⟨by omega, by omega⟩ dX8_put_66 (fun v66 w66 hp66 => ?_)
        obtain ⟨m1, f1, rfl, e1, b1, c1, s1, x1⟩ := hp66
        refine g_iload C dX8_put_69 rfl ?_
        refine g_i2l C dX8_put_71 (by omega) ?_
        refine g_callS C (c_X8_of _ (v := y) (by omega)) ml_RX8_20 sm_yX8_of in_RX8 co_yX8_of hd_X8_of rfl ⟨by omega, by omega⟩ rfl (Nat.le_of_ble_eq_true rfl) ⟨by omega, by omega⟩ dX8_put_72 (fun v72 w72 hp72 => ?_)
        obtain ⟨m2, f2, rfl, e2, b2, c2, s2, x2⟩ := hp72
        have x12 := x1.tr x2
        have hM8 := (hM7.tag (τ' := rtag τ w53.1) hwf7 (fun a ha => rtag_lo ha)).ex x12
        have l1 := (RowAt.of e1 b1 c1).ex x2
        have l2 := RowAt.of e2 b2 c2
        refine g_callV C (c_X8_become _ hM8 (i := V) (bz := b) (by omega) p2 hok.1.i (rtag_hi (by omega)) (rtag_hi (by omega)) l1 l2) (ci := 10) rfl hM8.o rfl ml_RX8_232 im_yX8_become se_RX8_yX8_become in_RX8 co_yX8_become hd_X8_become rfl ⟨by omega, by omega⟩ rfl (Nat.le_of_ble_eq_true rfl) ⟨by omega, by omega⟩ dX8_put_75 (fun v75 w75 hp75 => ?_)
        obtain ⟨rfl, hM9, hK9⟩ := hp75
        exact g_ireturn C hQ dX8_put_78 (by omega) (by omega) ⟨_, _, t, _, _, _, _, _, fun a ha => rtag_lo (by omega), rfl, hM9, (hK67.tr (Keep.ex x12)).trT hK9 hwf (fun a ha => rtag_lo (by omega)), Or.inr (Or.inr ⟨hwk, hok, by omega, rfl, rfl, rfl, rfl, rfl⟩)⟩
      · refine g_iconst C dX8_put_59 ?_
        exact g_ireturn C hQ dX8_put_60 (by omega) (by omega) (by
          first
          | exact ⟨τ, A, t, _, _, _, _, _, (fun _ _ => rfl), rfl, hM7, hK67, Or.inr (Or.inl ⟨hwk, by rcases hno with q | q; (have := bI_1 h56; omega); exact q.2, by have := bI_1 h56; omega, rfl, rfl, rfl, rfl, rfl⟩)⟩
          | exact ⟨τ, A, t6, _, _, _, _, _, (fun _ _ => rfl), rfl, hM6, hK6, Or.inl ⟨bI_1 h9, by omega, rfl, rfl, rfl, rfl, rfl⟩⟩)
    refine g_if_ne (tgt := 47) C dX8_put_17 (by decide) (by omega) (fun h17 => ?_) (fun h17 => ?_)
    · refine g_iconst C dX8_put_47 ?_
      refine g_goto (tgt := 52) C dX8_put_48 (by decide) ?_
      exact J52 _ (by
        have hg : yb = 0 → GB b := fun e => by rcases hyb with q | q; exact q.2; omega
        have hn : yb ≠ 0 → ¬ GB b := fun e => by rcases hyb with q | q; omega; exact q.2
        first
        | exact Or.inl ⟨rfl, hg (by omega), bI_1 (fun q => h30 q), bI_1 h44⟩
        | exact Or.inr ⟨rfl, fun q => hn h17 q.1⟩
        | exact Or.inr ⟨rfl, fun q => bI_0 h30 q.2.1⟩
        | exact Or.inr ⟨rfl, fun q => bI_0 (Classical.not_not.mp h44) q.2.2⟩)
    · refine g_iload_n C dX8_put_20 rfl ?_
      refine g_sipush C dX8_put_21 (by decide) ?_
      refine g_sipush C dX8_put_24 (by decide) ?_
      refine g_callS C (c_X8_isIn _ (v := x) (a := (-1000)) (b := 1000) h_x (by omega) (by omega)) ml_RX8_49 sm_yX8_isIn in_RX8 co_yX8_isIn hd_X8_isIn rfl ⟨by omega, by omega⟩ rfl (Nat.le_of_ble_eq_true rfl) ⟨by omega, by omega⟩ dX8_put_27 (fun v27 w27 hp27 => ?_)
      obtain ⟨rfl, hw27⟩ := hp27
      subst w27
      refine g_if_eq (tgt := 47) C dX8_put_30 (by decide) (bI_r _) (fun h30 => ?_) (fun h30 => ?_)
      · refine g_iconst C dX8_put_47 ?_
        refine g_goto (tgt := 52) C dX8_put_48 (by decide) ?_
        exact J52 _ (by
          have hg : yb = 0 → GB b := fun e => by rcases hyb with q | q; exact q.2; omega
          have hn : yb ≠ 0 → ¬ GB b := fun e => by rcases hyb with q | q; omega; exact q.2
          first
          | exact Or.inl ⟨rfl, hg (by omega), bI_1 (fun q => h30 q), bI_1 h44⟩
          | exact Or.inr ⟨rfl, fun q => hn h17 q.1⟩
          | exact Or.inr ⟨rfl, fun q => bI_0 h30 q.2.1⟩
          | exact Or.inr ⟨rfl, fun q => bI_0 (Classical.not_not.mp h44) q.2.2⟩)
      · refine g_iload C dX8_put_33 rfl ?_
        refine g_sipush C dX8_put_35 (by decide) ?_
        refine g_sipush C dX8_put_38 (by decide) ?_
        refine g_callS C (c_X8_isIn _ (v := y) (a := (-1000)) (b := 1000) h_y (by omega) (by omega)) ml_RX8_49 sm_yX8_isIn in_RX8 co_yX8_isIn hd_X8_isIn rfl ⟨by omega, by omega⟩ rfl (Nat.le_of_ble_eq_true rfl) ⟨by omega, by omega⟩ dX8_put_41 (fun v41 w41 hp41 => ?_)
        obtain ⟨rfl, hw41⟩ := hp41
        subst w41
        refine g_if_ne (tgt := 51) C dX8_put_44 (by decide) (bI_r _) (fun h44 => ?_) (fun h44 => ?_)
        · refine g_iconst C dX8_put_51 ?_
          exact J52 _ (by
            have hg : yb = 0 → GB b := fun e => by rcases hyb with q | q; exact q.2; omega
            have hn : yb ≠ 0 → ¬ GB b := fun e => by rcases hyb with q | q; omega; exact q.2
            first
            | exact Or.inl ⟨rfl, hg (by omega), bI_1 (fun q => h30 q), bI_1 h44⟩
            | exact Or.inr ⟨rfl, fun q => hn h17 q.1⟩
            | exact Or.inr ⟨rfl, fun q => bI_0 h30 q.2.1⟩
            | exact Or.inr ⟨rfl, fun q => bI_0 (Classical.not_not.mp h44) q.2.2⟩)
        · refine g_iconst C dX8_put_47 ?_
          refine g_goto (tgt := 52) C dX8_put_48 (by decide) ?_
          exact J52 _ (by
            have hg : yb = 0 → GB b := fun e => by rcases hyb with q | q; exact q.2; omega
            have hn : yb ≠ 0 → ¬ GB b := fun e => by rcases hyb with q | q; omega; exact q.2
            first
            | exact Or.inl ⟨rfl, hg (by omega), bI_1 (fun q => h30 q), bI_1 h44⟩
            | exact Or.inr ⟨rfl, fun q => hn h17 q.1⟩
            | exact Or.inr ⟨rfl, fun q => bI_0 h30 q.2.1⟩
            | exact Or.inr ⟨rfl, fun q => bI_0 (Classical.not_not.mp h44) q.2.2⟩)
set_option maxHeartbeats 4000000 in
set_option maxRecDepth 100000 in
theorem c_X8_mirror (l : Launch) {E : GE} {w : Wd} {v z : Int} (h_v : -2147483648 ≤ v ∧ v < 2147483648) (hz : z = 0 ∨ z = 1) {τ : Nat → Nat} {m : Nat} {A : MA} {th : Int} {ba st pb le ri : Nat → Int} {sp : Nat → Nat → Int} {ct : Nat → Int} (hM : MSx τ w m A th ba st pb le ri sp ct) (hP : HPp pb le ri) : Sp E l yX8_mirror cX8_mirror 4 (some .int) 4 (2) (8) [.ref m, iI v, iI z] w (fun r w' => ∃ (τ' : Nat → Nat) (A' : MA) (t : Int) (pb' le' ri' ct' : Nat → Int) (ans : Int), (∀ a, a < w.1 → τ' a = τ a) ∧ r = some (iI ans) ∧ MSx τ' w' m A' (t) (ba) (st) (pb') (le') (ri') (sp) (ct') ∧ Keep τ w w' ∧ (¬ (0 ≤ v ∧ v ≤ 2) ∧ t = 1 ∧ ans = 0 ∧ pb' = pb ∧ le' = le ∧ ri' = ri ∧ ct' = ct ∨ (0 ≤ v ∧ v ≤ 2) ∧ t = 0 ∧ ∃ x : Int, (z = 1 ∧ x = - le v.toNat ∨ z = 0 ∧ x = le v.toNat) ∧ ans = bI (¬ (pb v.toNat = (pb v.toNat) ∧ le v.toNat = x ∧ ri v.toNat = (- ri v.toNat))) ∧ pb' = iup pb v.toNat (pb v.toNat) ∧ le' = iup le v.toNat x ∧ ri' = iup ri v.toNat (- ri v.toNat) ∧ ct' = iup ct 1 (ct 1 + 1))) := by
  refine sp_intro [some (.ref m), some (iI v), some (iI z), none] rfl (Nat.le_of_ble_eq_true rfl) pn_X8 ?_
  intro X C hRm hl hnm hQ
  obtain ⟨hRf, hRl, hRc, hRs⟩ := hRm
  refine g_wf (fun hwf => ?_)
  refine g_aload_n C dX8_mirror_0 rfl ?_
  refine g_iload_n C dX8_mirror_1 rfl ?_
  refine g_callS C (c_X8_isNo _ (v := v) h_v) ml_RX8_145 sm_yX8_isNo in_RX8 co_yX8_isNo hd_X8_isNo rfl ⟨by omega, by omega⟩ rfl (Nat.le_of_ble_eq_true rfl) ⟨by omega, by omega⟩ dX8_mirror_2 (fun v2 w2 hp2 => ?_)
  obtain ⟨rfl, hw2⟩ := hp2
  subst w2
  refine g_iconst C dX8_mirror_5 ?_
  refine g_callV C (c_X8_start _ hM (y := bI (¬ (0 ≤ v ∧ v ≤ 2))) (wh := 1) (bI_01 _) (by omega)) (ci := 10) rfl hM.o rfl ml_RX8_149 im_yX8_start se_RX8_yX8_start in_RX8 co_yX8_start hd_X8_start rfl ⟨by omega, by omega⟩ rfl (Nat.le_of_ble_eq_true rfl) ⟨by omega, by omega⟩ dX8_mirror_6 (fun v6 w6 hp6 => ?_)
  obtain ⟨t6, rfl, ht6, hM6, hK6⟩ := hp6
  have hy6 : (bI (¬ (0 ≤ v ∧ v ≤ 2))) = 0 ∨ (bI (¬ (0 ≤ v ∧ v ≤ 2))) = 1 := (bI_01 _)
  refine g_if_eq (tgt := 14) C dX8_mirror_9 (by decide) (bI_r _) (fun h9 => ?_) (fun h9 => ?_)
  · have hwk : 0 ≤ v ∧ v ≤ 2 := Classical.not_not.mp (bI_0 h9)
    obtain ⟨V, rfl⟩ := Int.eq_ofNat_of_zero_le hwk.1
    refine g_wf (fun hwf6 => ?_)
    obtain ⟨q1, hq1, tq1, r1⟩ := hM6.L (i := V) (by omega)
    obtain ⟨q2, hq2, tq2, r2⟩ := hM6.R (i := V) (by omega)
    have p2 := (hP V (by omega)).1.i
    have hql := r1.lt hwf6
    have hqr := r2.lt hwf6
    have hwk6 := hK6.1
    obtain ⟨n1, f1, e1, b1, c1⟩ := id r1
    obtain ⟨n2, f2, e2, b2, c2⟩ := id r2
    have sg1 := b1.s
    have sg2 := b2.s
    refine g_aload_n C dX8_mirror_14 rfl ?_
    refine g_get (ci := 10) C rfl inTX8 4 (by decide) fl_RX8_24 rfl hM6.o rfl dX8_mirror_15 ?_
    refine g_iload_n C dX8_mirror_18 rfl ?_
    refine g_aaloadN (V) C rfl rfl hM6.l (by omega) (by omega) hq1 dX8_mirror_19 ?_
    refine g_astore_n C dX8_mirror_20 (by decide) rfl ?_
    refine g_aload_n C dX8_mirror_21 rfl ?_
    refine g_iload_n C dX8_mirror_22 rfl ?_
    refine g_aload_n C dX8_mirror_23 rfl ?_
    refine g_get (ci := 10) C rfl inTX8 3 (by decide) fl_RX8_16 rfl hM6.o rfl dX8_mirror_24 ?_
    refine g_iload_n C dX8_mirror_27 rfl ?_
    refine g_ialoadN (V) C hM6.p (by omega) (by omega) dX8_mirror_28 ?_
    refine g_iload_n C dX8_mirror_29 rfl ?_
    have J45 : ∀ (u : Wd) (a : Nat) (x : Int), Ex w6 u → rtag τ w6.1 a = 9 → RowAt u a x 4 → (z = 1 ∧ x = - le V ∨ z = 0 ∧ x = le V) → G E X 4 45 [some (.ref m), some (iI (V : Int)), some (iI z), some (.ref q1)] [.ref a, iI (pb V), iI (V : Int), .ref m] u 1 4 := by
      intro u a x xu ta ra hx
      refine g_wf (fun hwfu => ?_)
      have hM7 := hM6.ex xu
      have hu1 := xu.1
      refine g_aload_n C dX8_mirror_45 rfl ?_
      refine g_get (ci := 10) C rfl inTX8 5 (by decide) fl_RX8_28 rfl hM7.o rfl dX8_mirror_46 ?_
      refine g_iload_n C dX8_mirror_49 rfl ?_
      refine g_aaloadN (V) C rfl rfl hM7.r (by omega) (by omega) hq2 dX8_mirror_50 ?_
      refine g_aload_n C dX8_mirror_51 rfl ?_
      refine g_get (ci := 10) C rfl inTX8 5 (by decide) fl_RX8_28 rfl hM7.o rfl dX8_mirror_52 ?_
      refine g_iload_n C dX8_mirror_55 rfl ?_
      refine g_aaloadN (V) C rfl rfl hM7.r (by omega) (by omega) hq2 dX8_mirror_56 ?_
      refine g_iconst C dX8_mirror_57 ?_
      refine g_ialoadN (0) C (xu.2 _ _ e2) (by omega) (by omega) dX8_mirror_58 ?_
      refine g_ineg C dX8_mirror_59 ?_
      refine g_callS C (c_X8_signed _ (c := 4) (xu.2 _ _ e2) b2 c2 (by omega) rfl) ml_RX8_77 sm_yX8_signed in_RX8 co_yX8_signed hd_X8_signed rfl ⟨by omega, by omega⟩ rfl (Nat.le_of_ble_eq_true rfl) ⟨by omega, by omega⟩ dX8_mirror_60 (fun v60 w60 hp60 => ?_)
      obtain ⟨g2, rfl, rfl, hb60⟩ := hp60
      have x2 := Ex.push hwfu (true, eI n2 g2)
      have hM8 := (hM6.tag (τ' := rtag τ w6.1) hwf6 (fun a ha => rtag_lo ha)).ex (xu.tr x2)
      have l1 := ra.ex x2
      have l2 : RowAt (wpush u (true, eI n2 g2)) u.1 (- ri V) 4 := RowAt.of wpush_s hb60 c2
      refine g_callV C (c_X8_become _ hM8 (i := V) (bz := pb V) (by omega) p2 p2 ta (rtag_hi hu1) l1 l2) (ci := 10) rfl hM8.o rfl ml_RX8_232 im_yX8_become se_RX8_yX8_become in_RX8 co_yX8_become hd_X8_become rfl ⟨by omega, by omega⟩ rfl (Nat.le_of_ble_eq_true rfl) ⟨by omega, by omega⟩ dX8_mirror_63 (fun v63 w63 hp63 => ?_)
      obtain ⟨rfl, hM9, hK9⟩ := hp63
      exact g_ireturn C hQ dX8_mirror_66 (by omega) (by omega) ⟨_, _, t6, _, _, _, _, _, fun a ha => rtag_lo (by omega), rfl, hM9, (hK6.tr (Keep.ex (xu.tr x2))).trT hK9 hwf (fun a ha => rtag_lo (by omega)), Or.inr ⟨hwk, by omega, x, hx, rfl, rfl, rfl, rfl, rfl⟩⟩
    refine g_if_eq (tgt := 44) C dX8_mirror_30 (by decide) (by omega) (fun h30 => ?_) (fun h30 => ?_)
    · refine g_aload_n C dX8_mirror_44 rfl ?_
      first | exact J45 _ _ _ (Ex.push hwf6 _) (rtag_hi (Nat.le_refl _)) (RowAt.of wpush_s hb38 c1) (Or.inl ⟨by omega, rfl⟩) | exact g_widen (by omega) (by omega) (J45 _ _ _ (Ex.rf _) ((rtag_lo hql).trans tq1) r1 (Or.inr ⟨by omega, rfl⟩))
    · refine g_aload_n C dX8_mirror_33 rfl ?_
      refine g_aload_n C dX8_mirror_34 rfl ?_
      refine g_iconst C dX8_mirror_35 ?_
      refine g_ialoadN (0) C e1 (by omega) (by omega) dX8_mirror_36 ?_
      refine g_ineg C dX8_mirror_37 ?_
      refine g_callS C (c_X8_signed _ (c := 4) e1 b1 c1 (by omega) rfl) ml_RX8_77 sm_yX8_signed in_RX8 co_yX8_signed hd_X8_signed rfl ⟨by omega, by omega⟩ rfl (Nat.le_of_ble_eq_true rfl) ⟨by omega, by omega⟩ dX8_mirror_38 (fun v38 w38 hp38 => ?_)
      obtain ⟨g1, rfl, rfl, hb38⟩ := hp38
      refine g_goto (tgt := 45) C dX8_mirror_41 (by decide) ?_
      first | exact J45 _ _ _ (Ex.push hwf6 _) (rtag_hi (Nat.le_refl _)) (RowAt.of wpush_s hb38 c1) (Or.inl ⟨by omega, rfl⟩) | exact g_widen (by omega) (by omega) (J45 _ _ _ (Ex.rf _) ((rtag_lo hql).trans tq1) r1 (Or.inr ⟨by omega, rfl⟩))
  · refine g_iconst C dX8_mirror_12 ?_
    exact g_ireturn C hQ dX8_mirror_13 (by omega) (by omega) ⟨τ, A, t6, _, _, _, _, _, (fun _ _ => rfl), rfl, hM6, hK6, Or.inl ⟨bI_1 h9, by omega, rfl, rfl, rfl, rfl, rfl⟩⟩
set_option maxHeartbeats 4000000 in
set_option maxRecDepth 100000 in
theorem c_X8_least (l : Launch) {E : GE} {w : Wd} {v b : Int} (h_v : -2147483648 ≤ v ∧ v < 2147483648) (h_b : -2147483648 ≤ b ∧ b < 2147483648) {τ : Nat → Nat} {m : Nat} {A : MA} {th : Int} {ba st pb le ri : Nat → Int} {sp : Nat → Nat → Int} {ct : Nat → Int} (hM : MSx τ w m A th ba st pb le ri sp ct) (hP : HPp pb le ri) : Sp E l yX8_least cX8_least 4 (some .int) 4 (26) (96) [.ref m, iI v, iI b] w (fun r w' => ∃ (τ' : Nat → Nat) (A' : MA) (t : Int) (pb' le' ri' ct' : Nat → Int) (ans : Int), (∀ a, a < w.1 → τ' a = τ a) ∧ r = some (iI ans) ∧ MSx τ' w' m A' (t) (ba) (st) (pb') (le') (ri') (sp) (ct') ∧ Keep τ w w' ∧ (¬ (0 ≤ v ∧ v ≤ 2) ∧ t = 1 ∧ ans = 0 ∧ pb' = pb ∧ le' = le ∧ ri' = ri ∧ ct' = ct ∨ (0 ≤ v ∧ v ≤ 2) ∧ ¬ GB b ∧ t = 2 ∧ ans = 0 ∧ pb' = pb ∧ le' = le ∧ ri' = ri ∧ ct' = ct ∨ (0 ≤ v ∧ v ≤ 2) ∧ GB b ∧ t = 0 ∧ ∃ r, RT b r ∧ ans = bI (¬ (pb v.toNat = b ∧ le v.toNat = (leaP b r) ∧ ri v.toNat = (leaQ b r))) ∧ pb' = iup pb v.toNat b ∧ le' = iup le v.toNat (leaP b r) ∧ ri' = iup ri v.toNat (leaQ b r) ∧ ct' = iup ct 1 (ct 1 + 1))) := by
  refine sp_intro [some (.ref m), some (iI v), some (iI b), none] rfl (Nat.le_of_ble_eq_true rfl) pn_X8 ?_
  intro X C hRm hl hnm hQ
  obtain ⟨hRf, hRl, hRc, hRs⟩ := hRm
  refine g_wf (fun hwf => ?_)
  refine g_aload_n C dX8_least_0 rfl ?_
  refine g_iload_n C dX8_least_1 rfl ?_
  refine g_callS C (c_X8_isNo _ (v := v) h_v) ml_RX8_145 sm_yX8_isNo in_RX8 co_yX8_isNo hd_X8_isNo rfl ⟨by omega, by omega⟩ rfl (Nat.le_of_ble_eq_true rfl) ⟨by omega, by omega⟩ dX8_least_2 (fun v2 w2 hp2 => ?_)
  obtain ⟨rfl, hw2⟩ := hp2
  subst w2
  refine g_iconst C dX8_least_5 ?_
  refine g_callV C (c_X8_start _ hM (y := bI (¬ (0 ≤ v ∧ v ≤ 2))) (wh := 1) (bI_01 _) (by omega)) (ci := 10) rfl hM.o rfl ml_RX8_149 im_yX8_start se_RX8_yX8_start in_RX8 co_yX8_start hd_X8_start rfl ⟨by omega, by omega⟩ rfl (Nat.le_of_ble_eq_true rfl) ⟨by omega, by omega⟩ dX8_least_6 (fun v6 w6 hp6 => ?_)
  obtain ⟨t6, rfl, ht6, hM6, hK6⟩ := hp6
  have hy6 : (bI (¬ (0 ≤ v ∧ v ≤ 2))) = 0 ∨ (bI (¬ (0 ≤ v ∧ v ≤ 2))) = 1 := (bI_01 _)
  refine g_if_ne (tgt := 24) C dX8_least_9 (by decide) (bI_r _) (fun h9 => ?_) (fun h9 => ?_)
  · refine g_iconst C dX8_least_24 ?_
    exact g_ireturn C hQ dX8_least_25 (by omega) (by omega) (by
      first
      | exact ⟨τ, A, t, _, _, _, _, _, (fun _ _ => rfl), rfl, hM7, hK67, Or.inr (Or.inl ⟨hwk, by rcases hyb with q | q; (have := bI_1 h21; omega); exact q.2, by have := bI_1 h21; omega, rfl, rfl, rfl, rfl, rfl⟩)⟩
      | exact ⟨τ, A, t6, _, _, _, _, _, (fun _ _ => rfl), rfl, hM6, hK6, Or.inl ⟨bI_1 h9, by omega, rfl, rfl, rfl, rfl, rfl⟩⟩)
  · refine g_aload_n C dX8_least_12 rfl ?_
    refine g_iload_n C dX8_least_13 rfl ?_
    refine g_callS C (c_X8_isNoBase _ (v := b) h_b) ml_RX8_152 sm_yX8_isNoBase in_RX8 co_yX8_isNoBase hd_X8_isNoBase rfl ⟨by omega, by omega⟩ rfl (Nat.le_of_ble_eq_true rfl) ⟨by omega, by omega⟩ dX8_least_14 (fun v14 w14 hp14 => ?_)
    obtain ⟨⟨yb, rfl, hyb⟩, hw14⟩ := hp14
    subst w14
    have hyb01 : yb = 0 ∨ yb = 1 := by rcases hyb with q | q <;> omega
    have hwk : 0 ≤ v ∧ v ≤ 2 := Classical.not_not.mp (bI_0 (Classical.not_not.mp h9))
    refine g_iconst C dX8_least_17 ?_
    refine g_callV C (c_X8_refuse _ hM6 (y := yb) (wh := 2) (by omega) (by omega) (by omega)) (ci := 10) rfl hM6.o rfl ml_RX8_45 im_yX8_refuse se_RX8_yX8_refuse in_RX8 co_yX8_refuse hd_X8_refuse rfl ⟨by omega, by omega⟩ rfl (Nat.le_of_ble_eq_true rfl) ⟨by omega, by omega⟩ dX8_least_18 (fun v18 w18 hp18 => ?_)
    obtain ⟨t, rfl, ht, hM7, hK7⟩ := hp18
    have hy7 : (yb) = 0 ∨ (yb) = 1 := (by omega)
    have hK67 := hK6.tr hK7
    refine g_if_eq (tgt := 26) C dX8_least_21 (by decide) (bI_r _) (fun h21 => ?_) (fun h21 => ?_)
    · have htz : ¬ (0 < t) := bI_0 h21
      have hg : GB b := by rcases hyb with q | q; exact q.2; omega
      obtain ⟨V, rfl⟩ := Int.eq_ofNat_of_zero_le hwk.1
      obtain ⟨r, hr⟩ := RT_ex hg
      refine g_wf (fun hwf7 => ?_)
      have p2 := (hP V (by omega)).1.i
      have hwk7 := hK67.1
      have lo := lea_ok hg hr
      refine g_iload_n C dX8_least_26 rfl ?_
      refine g_callS C (c_X8_leastOf _ (b := b) (r := r) hg hr) ml_RX8_225 sm_yX8_leastOf in_RX8 co_yX8_leastOf hd_X8_leastOf rfl ⟨by omega, by omega⟩ rfl (Nat.le_of_ble_eq_true rfl) ⟨by omega, by omega⟩ dX8_least_27 (fun v27 w27 hp27 => ?_)
      obtain ⟨q, p, rfl, hp, hR, x1, hq⟩ := hp27
      have ep := perF_eq hp
      obtain ⟨R, a0, a1, a2, a3, hR0, k0, k1, k2, k3, l0, l1, l2, l3, lo0, lo1, lo2, lo3⟩ := hR
      have l0' : RowAt w27 a0 (leaP b r) 4 := RowAt.short (by unfold leaP leaK; rw [ep]; exact l0) (by rw [show LGN = (1208925819614629174706176 : Int) from rfl]; unfold aB; split <;> omega)
      have l1' : RowAt w27 a1 (leaQ b r) 4 := RowAt.short (by unfold leaQ leaK; rw [ep]; exact l1) (by rw [show LGN = (1208925819614629174706176 : Int) from rfl]; unfold aB; split <;> omega)
      have hM8 := (hM7.tag (τ' := rtag τ w18.1) hwf7 (fun a ha => rtag_lo ha)).ex x1
      refine g_astore_n C dX8_least_30 (by decide) rfl ?_
      refine g_aload_n C dX8_least_31 rfl ?_
      refine g_iload_n C dX8_least_32 rfl ?_
      refine g_iload_n C dX8_least_33 rfl ?_
      refine g_aload_n C dX8_least_34 rfl ?_
      refine g_iconst C dX8_least_35 ?_
      refine g_aaloadN (0) C rfl rfl hR0 (by omega) (by omega) k0 dX8_least_36 ?_
      refine g_aload_n C dX8_least_37 rfl ?_
      refine g_iconst C dX8_least_38 ?_
      refine g_aaloadN (1) C rfl rfl hR0 (by omega) (by omega) k1 dX8_least_39 ?_
      refine g_callV C (c_X8_become _ hM8 (i := V) (bz := b) (by omega) p2 hg.i (rtag_hi lo0) (rtag_hi lo1) l0' l1') (ci := 10) rfl hM8.o rfl ml_RX8_232 im_yX8_become se_RX8_yX8_become in_RX8 co_yX8_become hd_X8_become rfl ⟨by omega, by omega⟩ rfl (Nat.le_of_ble_eq_true rfl) ⟨by omega, by omega⟩ dX8_least_40 (fun v40 w40 hp40 => ?_)
      obtain ⟨rfl, hM9, hK9⟩ := hp40
      exact g_ireturn C hQ dX8_least_43 (by omega) (by omega) ⟨_, _, t, _, _, _, _, _, fun a ha => rtag_lo (by omega), rfl, hM9, (hK67.tr (Keep.ex x1)).trT hK9 hwf (fun a ha => rtag_lo (by omega)), Or.inr (Or.inr ⟨hwk, hg, by omega, r, hr, rfl, rfl, rfl, rfl, rfl⟩)⟩
    · refine g_iconst C dX8_least_24 ?_
      exact g_ireturn C hQ dX8_least_25 (by omega) (by omega) (by
        first
        | exact ⟨τ, A, t, _, _, _, _, _, (fun _ _ => rfl), rfl, hM7, hK67, Or.inr (Or.inl ⟨hwk, by rcases hyb with q | q; (have := bI_1 h21; omega); exact q.2, by have := bI_1 h21; omega, rfl, rfl, rfl, rfl, rfl⟩)⟩
        | exact ⟨τ, A, t6, _, _, _, _, _, (fun _ _ => rfl), rfl, hM6, hK6, Or.inl ⟨bI_1 h9, by omega, rfl, rfl, rfl, rfl, rfl⟩⟩)
