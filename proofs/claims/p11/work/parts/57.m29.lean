set_option maxHeartbeats 4000000 in
set_option maxRecDepth 100000 in
theorem c_X8_decimals (l : Launch) {K : KC} {E : GE} {w : Wd} {v n : Int} (h_v : -2147483648 ≤ v ∧ v < 2147483648) (h_n : -2147483648 ≤ n ∧ n < 2147483648) {τ : Nat → Nat} {m : Nat} {A : MA} {th : Int} {ba st pb le ri : Nat → Int} {sp : Nat → Nat → Int} {ct : Nat → Int} (hM : MSx τ w m A th ba st pb le ri sp ct) (hB : ∀ i, i < 3 → GB (ba i)) (hS : ∀ i, i < 3 → 0 ≤ st i ∧ st i ≤ 24) : St K E l yX8_decimals cX8_decimals 3 (some (.object "java/lang/String")) 7 (441) (17810) [.ref m, iI v, iI n] w (fun r' w' => ∃ (t : Int) (s : Nat), r' = some (.ref s) ∧ MSx τ w' m A (t) (ba) (st) (pb) (le) (ri) (sp) (ct) ∧ Keep τ w w' ∧ 0 ≤ t ∧ t ≤ 2) := by
  refine st_intro [some (.ref m), some (iI v), some (iI n)] rfl (Nat.le_of_ble_eq_true rfl) pn_X8 ?_
  intro X C hT hRm hl hnm hQ
  obtain ⟨hRf, hRl, hRc, hRs⟩ := hRm
  refine g_wf (fun hwf => ?_)
  refine g_aload_n C dX8_decimals_0 rfl ?_
  refine g_iload_n C dX8_decimals_1 rfl ?_
  refine g_callS C (c_X8_isNo _ (v := v) h_v) ml_RX8_145 sm_yX8_isNo in_RX8 co_yX8_isNo hd_X8_isNo rfl ⟨by omega, by omega⟩ rfl (Nat.le_of_ble_eq_true rfl) ⟨by omega, by omega⟩ dX8_decimals_2 (fun v2 w2 hp2 => ?_)
  obtain ⟨rfl, hw2⟩ := hp2
  subst w2
  refine g_iconst C dX8_decimals_5 ?_
  refine g_callV C (c_X8_start _ hM (y := bI (¬ (0 ≤ v ∧ v ≤ 2))) (wh := 1) (bI_01 _) (by omega)) (ci := 10) rfl hM.o rfl ml_RX8_149 im_yX8_start se_RX8_yX8_start in_RX8 co_yX8_start hd_X8_start rfl ⟨by omega, by omega⟩ rfl (Nat.le_of_ble_eq_true rfl) ⟨by omega, by omega⟩ dX8_decimals_6 (fun v6 w6 hp6 => ?_)
  obtain ⟨t6, rfl, ht6, hM6, hK6⟩ := hp6
  have hy6 : (bI (¬ (0 ≤ v ∧ v ≤ 2))) = 0 ∨ (bI (¬ (0 ≤ v ∧ v ≤ 2))) = 1 := (bI_01 _)
  refine g_if_ne (tgt := 35) C dX8_decimals_9 (by decide) (bI_r _) (fun h9 => ?_) (fun h9 => ?_)
  · refine g_ldcS C hT 0 rfl dX8_decimals_35 ?_
    refine g_goto (tgt := 49) C dX8_decimals_37 (by decide) ?_
    exact g_areturn C (Or.inl ⟨_, rfl⟩) hQ (Or.inr ⟨_, rfl⟩) dX8_decimals_49 (by omega) (by omega) (by
      first
      | exact ⟨t, _, rfl, hM7.ex (x42.tr hxf46), hK67.tr (Keep.ex (x42.tr hxf46)), by omega, by omega⟩
      | exact ⟨t, _, rfl, hM7, hK67, by omega, by omega⟩
      | exact ⟨t6, _, rfl, hM6, hK6, by omega, by omega⟩)
  · refine g_aload_n C dX8_decimals_12 rfl ?_
    refine g_iload_n C dX8_decimals_13 rfl ?_
    refine g_iconst C dX8_decimals_14 ?_
    refine g_bipush C dX8_decimals_15 (by decide) ?_
    refine g_callS C (c_X8_isIn _ (v := n) (a := 0) (b := 16) h_n (by omega) (by omega)) ml_RX8_49 sm_yX8_isIn in_RX8 co_yX8_isIn hd_X8_isIn rfl ⟨by omega, by omega⟩ rfl (Nat.le_of_ble_eq_true rfl) ⟨by omega, by omega⟩ dX8_decimals_17 (fun v17 w17 hp17 => ?_)
    obtain ⟨rfl, hw17⟩ := hp17
    subst w17
    have J28 : ∀ y : Int, (y = 0 ∧ (0 ≤ n ∧ n ≤ 16) ∨ y = 1 ∧ ¬ (0 ≤ n ∧ n ≤ 16)) → G E X 3 28 [some (.ref m), some (iI v), some (iI n)] [iI y, .ref m] w6 0 0 := by
      intro y hy
      have hwk : 0 ≤ v ∧ v ≤ 2 := Classical.not_not.mp (bI_0 (Classical.not_not.mp h9))
      refine g_iconst C dX8_decimals_28 ?_
      refine g_callV C (c_X8_refuse _ hM6 (y := y) (wh := 2) (by omega) (by omega) (by omega)) (ci := 10) rfl hM6.o rfl ml_RX8_45 im_yX8_refuse se_RX8_yX8_refuse in_RX8 co_yX8_refuse hd_X8_refuse rfl ⟨by omega, by omega⟩ rfl (Nat.le_of_ble_eq_true rfl) ⟨by omega, by omega⟩ dX8_decimals_29 (fun v29 w29 hp29 => ?_)
      obtain ⟨t, rfl, ht, hM7, hK7⟩ := hp29
      have hy7 : (y) = 0 ∨ (y) = 1 := (by omega)
      have hK67 := hK6.tr hK7
      refine g_if_eq (tgt := 40) C dX8_decimals_32 (by decide) (bI_r _) (fun h32 => ?_) (fun h32 => ?_)
      · have htz : ¬ (0 < t) := bI_0 h32
        obtain ⟨V, rfl⟩ := Int.eq_ofNat_of_zero_le hwk.1
        have hg := hB V (by omega)
        obtain ⟨r, hr⟩ := RT_ex hg
        have hsv := hS V (by omega)
        obtain ⟨N, rfl⟩ := Int.eq_ofNat_of_zero_le (show 0 ≤ n by omega)
        refine g_aload_n C dX8_decimals_40 rfl ?_
        refine g_iload_n C dX8_decimals_41 rfl ?_
        refine g_callV C (c_X8_places _ hM7 (i := V) (r := r) (by omega) hg hr hsv) (ci := 10) rfl hM7.o rfl ml_RX8_207 im_yX8_places se_RX8_yX8_places in_RX8 co_yX8_places hd_X8_places rfl ⟨by omega, by omega⟩ rfl (Nat.le_of_ble_eq_true rfl) ⟨by omega, by omega⟩ dX8_decimals_42 (fun v42 w42 hp42 => ?_)
        obtain ⟨q42, f42, rfl, h42, hf42, hr42, x42⟩ := hp42
        refine g_iload_n C dX8_decimals_45 rfl ?_
        refine g_wf (fun hwf46 => ?_)
        refine t_callS C hT (c_X8_joined _ (N := N) h42 hr42 (by omega)) ml_RX8_210 sm_yX8_joined in_RX8 co_yX8_joined hd_X8_joined rfl ⟨by omega, by omega⟩ rfl (Nat.le_of_ble_eq_true rfl) ⟨by omega, by omega⟩ dX8_decimals_46 (fun v46 w46 hp46 => ?_)
        obtain ⟨s46, rfl, hfr46⟩ := hp46
        have hxf46 := hfr46.ex hwf46
        exact g_areturn C (Or.inl ⟨_, rfl⟩) hQ (Or.inr ⟨_, rfl⟩) dX8_decimals_49 (by omega) (by omega) (by
          first
          | exact ⟨t, _, rfl, hM7.ex (x42.tr hxf46), hK67.tr (Keep.ex (x42.tr hxf46)), by omega, by omega⟩
          | exact ⟨t, _, rfl, hM7, hK67, by omega, by omega⟩
          | exact ⟨t6, _, rfl, hM6, hK6, by omega, by omega⟩)
      · refine g_ldcS C hT 0 rfl dX8_decimals_35 ?_
        refine g_goto (tgt := 49) C dX8_decimals_37 (by decide) ?_
        exact g_areturn C (Or.inl ⟨_, rfl⟩) hQ (Or.inr ⟨_, rfl⟩) dX8_decimals_49 (by omega) (by omega) (by
          first
          | exact ⟨t, _, rfl, hM7.ex (x42.tr hxf46), hK67.tr (Keep.ex (x42.tr hxf46)), by omega, by omega⟩
          | exact ⟨t, _, rfl, hM7, hK67, by omega, by omega⟩
          | exact ⟨t6, _, rfl, hM6, hK6, by omega, by omega⟩)
    refine g_if_ne (tgt := 27) C dX8_decimals_20 (by decide) (bI_r _) (fun h20 => ?_) (fun h20 => ?_)
    · refine g_iconst C dX8_decimals_27 ?_
      exact J28 _ (by first | exact Or.inl ⟨rfl, bI_1 (by omega)⟩ | exact Or.inr ⟨rfl, bI_0 (by omega)⟩)
    · refine g_iconst C dX8_decimals_23 ?_
      refine g_goto (tgt := 28) C dX8_decimals_24 (by decide) ?_
      exact J28 _ (by first | exact Or.inl ⟨rfl, bI_1 (by omega)⟩ | exact Or.inr ⟨rfl, bI_0 (by omega)⟩)
set_option maxHeartbeats 4000000 in
set_option maxRecDepth 100000 in
theorem c_X8_rootText (l : Launch) {K : KC} {E : GE} {w : Wd} {b n : Int} (h_b : -2147483648 ≤ b ∧ b < 2147483648) (h_n : -2147483648 ≤ n ∧ n < 2147483648) {τ : Nat → Nat} {m : Nat} {A : MA} {th : Int} {ba st pb le ri : Nat → Int} {sp : Nat → Nat → Int} {ct : Nat → Int} (hM : MSx τ w m A th ba st pb le ri sp ct) : St K E l yX8_rootText cX8_rootText 3 (some (.object "java/lang/String")) 7 (22) (15620) [.ref m, iI b, iI n] w (fun r' w' => ∃ (t : Int) (s : Nat), r' = some (.ref s) ∧ MSx τ w' m A (t) (ba) (st) (pb) (le) (ri) (sp) (ct) ∧ Keep τ w w' ∧ 0 ≤ t ∧ t ≤ 2) := by
  refine st_intro [some (.ref m), some (iI b), some (iI n)] rfl (Nat.le_of_ble_eq_true rfl) pn_X8 ?_
  intro X C hT hRm hl hnm hQ
  obtain ⟨hRf, hRl, hRc, hRs⟩ := hRm
  refine g_wf (fun hwf => ?_)
  refine g_aload_n C dX8_rootText_0 rfl ?_
  refine g_iload_n C dX8_rootText_1 rfl ?_
  refine g_iconst C dX8_rootText_2 ?_
  refine g_bipush C dX8_rootText_3 (by decide) ?_
  refine g_callS C (c_X8_isIn _ (v := b) (a := 1) (b := 99) h_b (by omega) (by omega)) ml_RX8_49 sm_yX8_isIn in_RX8 co_yX8_isIn hd_X8_isIn rfl ⟨by omega, by omega⟩ rfl (Nat.le_of_ble_eq_true rfl) ⟨by omega, by omega⟩ dX8_rootText_5 (fun v5 w5 hp5 => ?_)
  obtain ⟨rfl, hw5⟩ := hp5
  subst w5
  have J26 : ∀ y : Int, (y = 0 ∧ (1 ≤ b ∧ b ≤ 99) ∧ (0 ≤ n ∧ n ≤ 16) ∨ y = 1) → G E X 3 26 [some (.ref m), some (iI b), some (iI n)] [iI y, .ref m] w 0 0 := by
    intro y hy
    refine g_iconst C dX8_rootText_26 ?_
    refine g_callV C (c_X8_start _ hM (y := y) (wh := 1) (by omega) (by omega)) (ci := 10) rfl hM.o rfl ml_RX8_149 im_yX8_start se_RX8_yX8_start in_RX8 co_yX8_start hd_X8_start rfl ⟨by omega, by omega⟩ rfl (Nat.le_of_ble_eq_true rfl) ⟨by omega, by omega⟩ dX8_rootText_27 (fun v27 w27 hp27 => ?_)
    obtain ⟨t6, rfl, ht6, hM6, hK6⟩ := hp27
    have hy6 : (y) = 0 ∨ (y) = 1 := (by omega)
    refine g_if_eq (tgt := 38) C dX8_rootText_30 (by decide) (by omega) (fun h30 => ?_) (fun h30 => ?_)
    · obtain ⟨N, rfl⟩ := Int.eq_ofNat_of_zero_le (show 0 ≤ n by omega)
      refine g_wf (fun hwf38 => ?_)
      refine g_iload_n C dX8_rootText_38 rfl ?_
      refine g_callS C (c_X8_rootPlaces _ (b := b) (by omega)) ml_RX8_217 sm_yX8_rootPlaces in_RX8 co_yX8_rootPlaces hd_X8_rootPlaces rfl ⟨by omega, by omega⟩ rfl (Nat.le_of_ble_eq_true rfl) ⟨by omega, by omega⟩ dX8_rootText_39 (fun v39 w39 hp39 => ?_)
      obtain ⟨f39, rfl, rfl, hf39⟩ := hp39
      have x39 := Ex.push hwf38 (true, eI 17 f39)
      refine g_iload_n C dX8_rootText_42 rfl ?_
      refine g_wf (fun hwf43 => ?_)
      refine t_callS C hT (c_X8_joined _ (N := N) wpush_s (fun j hj => by have := hf39 j hj; omega) (by omega)) ml_RX8_210 sm_yX8_joined in_RX8 co_yX8_joined hd_X8_joined rfl ⟨by omega, by omega⟩ rfl (Nat.le_of_ble_eq_true rfl) ⟨by omega, by omega⟩ dX8_rootText_43 (fun v43 w43 hp43 => ?_)
      obtain ⟨s43, rfl, hfr43⟩ := hp43
      have hxf43 := hfr43.ex hwf43
      exact g_areturn C (Or.inl ⟨_, rfl⟩) hQ (Or.inr ⟨_, rfl⟩) dX8_rootText_46 (by omega) (by omega) (by
        first
        | exact ⟨t6, _, rfl, hM6.ex (x39.tr hxf43), hK6.tr (Keep.ex (x39.tr hxf43)), by omega, by omega⟩
        | exact ⟨t6, _, rfl, hM6, hK6, by omega, by omega⟩)
    · refine g_ldcS C hT 0 rfl dX8_rootText_33 ?_
      refine g_goto (tgt := 46) C dX8_rootText_35 (by decide) ?_
      exact g_areturn C (Or.inl ⟨_, rfl⟩) hQ (Or.inr ⟨_, rfl⟩) dX8_rootText_46 (by omega) (by omega) (by
        first
        | exact ⟨t6, _, rfl, hM6.ex (x39.tr hxf43), hK6.tr (Keep.ex (x39.tr hxf43)), by omega, by omega⟩
        | exact ⟨t6, _, rfl, hM6, hK6, by omega, by omega⟩)
  refine g_if_eq (tgt := 21) C dX8_rootText_8 (by decide) (bI_r _) (fun h8 => ?_) (fun h8 => ?_)
  · refine g_iconst C dX8_rootText_21 ?_
    refine g_goto (tgt := 26) C dX8_rootText_22 (by decide) ?_
    exact J26 _ (by first | exact Or.inr rfl | exact Or.inl ⟨rfl, bI_1 (by omega), bI_1 (by omega)⟩)
  · refine g_iload_n C dX8_rootText_11 rfl ?_
    refine g_iconst C dX8_rootText_12 ?_
    refine g_bipush C dX8_rootText_13 (by decide) ?_
    refine g_callS C (c_X8_isIn _ (v := n) (a := 0) (b := 16) h_n (by omega) (by omega)) ml_RX8_49 sm_yX8_isIn in_RX8 co_yX8_isIn hd_X8_isIn rfl ⟨by omega, by omega⟩ rfl (Nat.le_of_ble_eq_true rfl) ⟨by omega, by omega⟩ dX8_rootText_15 (fun v15 w15 hp15 => ?_)
    obtain ⟨rfl, hw15⟩ := hp15
    subst w15
    refine g_if_ne (tgt := 25) C dX8_rootText_18 (by decide) (bI_r _) (fun h18 => ?_) (fun h18 => ?_)
    · refine g_iconst C dX8_rootText_25 ?_
      exact J26 _ (by first | exact Or.inr rfl | exact Or.inl ⟨rfl, bI_1 (by omega), bI_1 (by omega)⟩)
    · refine g_iconst C dX8_rootText_21 ?_
      refine g_goto (tgt := 26) C dX8_rootText_22 (by decide) ?_
      exact J26 _ (by first | exact Or.inr rfl | exact Or.inl ⟨rfl, bI_1 (by omega), bI_1 (by omega)⟩)
set_option maxHeartbeats 4000000 in
set_option maxRecDepth 100000 in
theorem c_X8_walkText (l : Launch) {K : KC} {E : GE} {w : Wd} {v c n : Int} (h_v : -2147483648 ≤ v ∧ v < 2147483648) (h_c : -2147483648 ≤ c ∧ c < 2147483648) (h_n : -2147483648 ≤ n ∧ n < 2147483648) {τ : Nat → Nat} {m : Nat} {A : MA} {th : Int} {ba st pb le ri : Nat → Int} {sp : Nat → Nat → Int} {ct : Nat → Int} (hM : MSx τ w m A th ba st pb le ri sp ct) (hB : ∀ i, i < 3 → GB (ba i)) (hS : ∀ i, i < 3 → 0 ≤ st i ∧ st i ≤ 24) : St K E l yX8_walkText cX8_walkText 4 (some (.object "java/lang/String")) 7 (70) (2050) [.ref m, iI v, iI c, iI n] w (fun r' w' => ∃ (t : Int) (s : Nat), r' = some (.ref s) ∧ MSx τ w' m A (t) (ba) (st) (pb) (le) (ri) (sp) (ct) ∧ Keep τ w w' ∧ 0 ≤ t ∧ t ≤ 2) := by
  refine st_intro [some (.ref m), some (iI v), some (iI c), some (iI n)] rfl (Nat.le_of_ble_eq_true rfl) pn_X8 ?_
  intro X C hT hRm hl hnm hQ
  obtain ⟨hRf, hRl, hRc, hRs⟩ := hRm
  refine g_wf (fun hwf => ?_)
  refine g_aload_n C dX8_walkText_0 rfl ?_
  refine g_iload_n C dX8_walkText_1 rfl ?_
  refine g_callS C (c_X8_isNo _ (v := v) h_v) ml_RX8_145 sm_yX8_isNo in_RX8 co_yX8_isNo hd_X8_isNo rfl ⟨by omega, by omega⟩ rfl (Nat.le_of_ble_eq_true rfl) ⟨by omega, by omega⟩ dX8_walkText_2 (fun v2 w2 hp2 => ?_)
  obtain ⟨rfl, hw2⟩ := hp2
  subst w2
  refine g_iconst C dX8_walkText_5 ?_
  refine g_callV C (c_X8_start _ hM (y := bI (¬ (0 ≤ v ∧ v ≤ 2))) (wh := 1) (bI_01 _) (by omega)) (ci := 10) rfl hM.o rfl ml_RX8_149 im_yX8_start se_RX8_yX8_start in_RX8 co_yX8_start hd_X8_start rfl ⟨by omega, by omega⟩ rfl (Nat.le_of_ble_eq_true rfl) ⟨by omega, by omega⟩ dX8_walkText_6 (fun v6 w6 hp6 => ?_)
  obtain ⟨t6, rfl, ht6, hM6, hK6⟩ := hp6
  have hy6 : (bI (¬ (0 ≤ v ∧ v ≤ 2))) = 0 ∨ (bI (¬ (0 ≤ v ∧ v ≤ 2))) = 1 := (bI_01 _)
  refine g_if_ne (tgt := 44) C dX8_walkText_9 (by decide) (bI_r _) (fun h9 => ?_) (fun h9 => ?_)
  · refine g_ldcS C hT 0 rfl dX8_walkText_44 ?_
    exact g_areturn C (Or.inl ⟨_, rfl⟩) hQ (Or.inr ⟨_, rfl⟩) dX8_walkText_46 (by omega) (by omega) (by
      first
      | exact ⟨t, _, rfl, hM7, hK67, by omega, by omega⟩
      | exact ⟨t6, _, rfl, hM6, hK6, by omega, by omega⟩)
  · refine g_aload_n C dX8_walkText_12 rfl ?_
    refine g_iload_n C dX8_walkText_13 rfl ?_
    refine g_iconst C dX8_walkText_14 ?_
    refine g_iconst C dX8_walkText_15 ?_
    refine g_callS C (c_X8_isIn _ (v := c) (a := 0) (b := 3) h_c (by omega) (by omega)) ml_RX8_49 sm_yX8_isIn in_RX8 co_yX8_isIn hd_X8_isIn rfl ⟨by omega, by omega⟩ rfl (Nat.le_of_ble_eq_true rfl) ⟨by omega, by omega⟩ dX8_walkText_16 (fun v16 w16 hp16 => ?_)
    obtain ⟨rfl, hw16⟩ := hp16
    subst w16
    have J37 : ∀ y : Int, (y = 0 ∧ (0 ≤ c ∧ c ≤ 3) ∧ (2 ≤ n ∧ n ≤ 16) ∨ y = 1) → G E X 4 37 [some (.ref m), some (iI v), some (iI c), some (iI n)] [iI y, .ref m] w6 0 0 := by
      intro y hy
      have hwk : 0 ≤ v ∧ v ≤ 2 := Classical.not_not.mp (bI_0 (Classical.not_not.mp h9))
      refine g_iconst C dX8_walkText_37 ?_
      refine g_callV C (c_X8_refuse _ hM6 (y := y) (wh := 2) (by omega) (by omega) (by omega)) (ci := 10) rfl hM6.o rfl ml_RX8_45 im_yX8_refuse se_RX8_yX8_refuse in_RX8 co_yX8_refuse hd_X8_refuse rfl ⟨by omega, by omega⟩ rfl (Nat.le_of_ble_eq_true rfl) ⟨by omega, by omega⟩ dX8_walkText_38 (fun v38 w38 hp38 => ?_)
      obtain ⟨t, rfl, ht, hM7, hK7⟩ := hp38
      have hy7 : (y) = 0 ∨ (y) = 1 := (by omega)
      have hK67 := hK6.tr hK7
      refine g_if_eq (tgt := 47) C dX8_walkText_41 (by decide) (bI_r _) (fun h41 => ?_) (fun h41 => ?_)
      · have htz : ¬ (0 < t) := bI_0 h41
        obtain ⟨V, rfl⟩ := Int.eq_ofNat_of_zero_le hwk.1
        have hg := hB V (by omega)
        obtain ⟨r, hr⟩ := RT_ex hg
        have hsv := hS V (by omega)
        obtain ⟨K, rfl⟩ := Int.eq_ofNat_of_zero_le (show 0 ≤ c by omega)
        refine g_aload_n C dX8_walkText_47 rfl ?_
        refine g_iload_n C dX8_walkText_48 rfl ?_
        refine g_callV C (c_X8_at _ hM7 (i := V) (r := r) (by omega) hg hr hsv) (ci := 10) rfl hM7.o rfl ml_RX8_167 im_yX8_at se_RX8_yX8_at in_RX8 co_yX8_at hd_X8_at rfl ⟨by omega, by omega⟩ rfl (Nat.le_of_ble_eq_true rfl) ⟨by omega, by omega⟩ dX8_walkText_49 (fun v49 w49 hp49 => ?_)
        obtain ⟨q, rfl, hR, x1, hq⟩ := hp49
        obtain ⟨R, a0, a1, a2, a3, hR0, k0, k1, k2, k3, l0, l1, l2, l3, lo0, lo1, lo2, lo3⟩ := id hR
        obtain ⟨aK, zK, kK, lK⟩ : ∃ aK zK, R K = some aK ∧ RowAt w49 aK zK 5 := by
          rcases (show K = 0 ∨ K = 1 ∨ K = 2 ∨ K = 3 by omega) with q | q | q | q <;> subst q
          · exact ⟨_, _, k0, l0⟩
          · exact ⟨_, _, k1, l1⟩
          · exact ⟨_, _, k2, l2⟩
          · exact ⟨_, _, k3, l3⟩
        refine g_iload_n C dX8_walkText_52 rfl ?_
        refine g_aaloadN (K) C rfl rfl hR0 (by omega) (by omega) kK dX8_walkText_53 ?_
        refine g_iload_n C dX8_walkText_54 rfl ?_
        refine g_wf (fun hwf55 => ?_)
        refine t_callS C hT (c_X8_text _ (rx := n) (lK.le (by omega)) (by omega)) ml_RX8_171 sm_yX8_text in_RX8 co_yX8_text hd_X8_text rfl ⟨by omega, by omega⟩ rfl (Nat.le_of_ble_eq_true rfl) ⟨by omega, by omega⟩ dX8_walkText_55 (fun v55 w55 hp55 => ?_)
        obtain ⟨s55, rfl, hfr55⟩ := hp55
        have hxf55 := hfr55.ex hwf55
        exact g_areturn C (Or.inl ⟨_, rfl⟩) hQ (Or.inr ⟨_, rfl⟩) dX8_walkText_58 (by omega) (by omega) (by
          first
          | exact ⟨t, _, rfl, hM7.ex (x1.tr hxf55), hK67.tr (Keep.ex (x1.tr hxf55)), by omega, by omega⟩)
      · refine g_ldcS C hT 0 rfl dX8_walkText_44 ?_
        exact g_areturn C (Or.inl ⟨_, rfl⟩) hQ (Or.inr ⟨_, rfl⟩) dX8_walkText_46 (by omega) (by omega) (by
          first
          | exact ⟨t, _, rfl, hM7, hK67, by omega, by omega⟩
          | exact ⟨t6, _, rfl, hM6, hK6, by omega, by omega⟩)
    refine g_if_eq (tgt := 32) C dX8_walkText_19 (by decide) (bI_r _) (fun h19 => ?_) (fun h19 => ?_)
    · refine g_iconst C dX8_walkText_32 ?_
      refine g_goto (tgt := 37) C dX8_walkText_33 (by decide) ?_
      exact J37 _ (by first | exact Or.inr rfl | exact Or.inl ⟨rfl, bI_1 (by omega), bI_1 (by omega)⟩)
    · refine g_iload_n C dX8_walkText_22 rfl ?_
      refine g_iconst C dX8_walkText_23 ?_
      refine g_bipush C dX8_walkText_24 (by decide) ?_
      refine g_callS C (c_X8_isIn _ (v := n) (a := 2) (b := 16) h_n (by omega) (by omega)) ml_RX8_49 sm_yX8_isIn in_RX8 co_yX8_isIn hd_X8_isIn rfl ⟨by omega, by omega⟩ rfl (Nat.le_of_ble_eq_true rfl) ⟨by omega, by omega⟩ dX8_walkText_26 (fun v26 w26 hp26 => ?_)
      obtain ⟨rfl, hw26⟩ := hp26
      subst w26
      refine g_if_ne (tgt := 36) C dX8_walkText_29 (by decide) (bI_r _) (fun h29 => ?_) (fun h29 => ?_)
      · refine g_iconst C dX8_walkText_36 ?_
        exact J37 _ (by first | exact Or.inr rfl | exact Or.inl ⟨rfl, bI_1 (by omega), bI_1 (by omega)⟩)
      · refine g_iconst C dX8_walkText_32 ?_
        refine g_goto (tgt := 37) C dX8_walkText_33 (by decide) ?_
        exact J37 _ (by first | exact Or.inr rfl | exact Or.inl ⟨rfl, bI_1 (by omega), bI_1 (by omega)⟩)
set_option maxHeartbeats 4000000 in
set_option maxRecDepth 100000 in
theorem c_X8_solution (l : Launch) {K : KC} {E : GE} {w : Wd} {v yy : Int} (h_v : -2147483648 ≤ v ∧ v < 2147483648) (hyy : yy = 0 ∨ yy = 1) {τ : Nat → Nat} {m : Nat} {A : MA} {th : Int} {ba st pb le ri : Nat → Int} {sp : Nat → Nat → Int} {ct : Nat → Int} (hM : MSx τ w m A th ba st pb le ri sp ct) : St K E l yX8_solution cX8_solution 3 (some (.object "java/lang/String")) 7 (90) (2100) [.ref m, iI v, iI yy] w (fun r' w' => ∃ (t : Int) (s : Nat), r' = some (.ref s) ∧ MSx τ w' m A (t) (ba) (st) (pb) (le) (ri) (sp) (ct) ∧ Keep τ w w' ∧ 0 ≤ t ∧ t ≤ 2) := by
  refine st_intro [some (.ref m), some (iI v), some (iI yy)] rfl (Nat.le_of_ble_eq_true rfl) pn_X8 ?_
  intro X C hT hRm hl hnm hQ
  obtain ⟨hRf, hRl, hRc, hRs⟩ := hRm
  refine g_wf (fun hwf => ?_)
  refine g_aload_n C dX8_solution_0 rfl ?_
  refine g_iload_n C dX8_solution_1 rfl ?_
  refine g_callS C (c_X8_isNoBase _ (v := v) h_v) ml_RX8_152 sm_yX8_isNoBase in_RX8 co_yX8_isNoBase hd_X8_isNoBase rfl ⟨by omega, by omega⟩ rfl (Nat.le_of_ble_eq_true rfl) ⟨by omega, by omega⟩ dX8_solution_2 (fun v2 w2 hp2 => ?_)
  obtain ⟨⟨yb, rfl, hyb⟩, hw2⟩ := hp2
  subst w2
  have hyb01 : yb = 0 ∨ yb = 1 := by rcases hyb with q | q <;> omega
  refine g_iconst C dX8_solution_5 ?_
  refine g_callV C (c_X8_start _ hM (y := yb) (wh := 1) (by omega) (by omega)) (ci := 10) rfl hM.o rfl ml_RX8_149 im_yX8_start se_RX8_yX8_start in_RX8 co_yX8_start hd_X8_start rfl ⟨by omega, by omega⟩ rfl (Nat.le_of_ble_eq_true rfl) ⟨by omega, by omega⟩ dX8_solution_6 (fun v6 w6 hp6 => ?_)
  obtain ⟨t6, rfl, ht6, hM6, hK6⟩ := hp6
  have hy6 : (yb) = 0 ∨ (yb) = 1 := (by omega)
  refine g_if_eq (tgt := 17) C dX8_solution_9 (by decide) (by omega) (fun h9 => ?_) (fun h9 => ?_)
  · have hgb : GB v := by
      rcases hyb with q | q
      · exact q.2
      · omega
    obtain ⟨r, hr⟩ := RT_ex hgb
    refine g_iload_n C dX8_solution_17 rfl ?_
    refine g_callS C (c_X8_leastOf _ hgb hr) ml_RX8_225 sm_yX8_leastOf in_RX8 co_yX8_leastOf hd_X8_leastOf rfl ⟨by omega, by omega⟩ rfl (Nat.le_of_ble_eq_true rfl) ⟨by omega, by omega⟩ dX8_solution_18 (fun v18 w18 hp18 => ?_)
    obtain ⟨q, p, rfl, hp', hR, x1, hq⟩ := hp18
    obtain ⟨R, a0, a1, a2, a3, hR0, k0, k1, k2, k3, l0, l1, l2, l3, lo0, lo1, lo2, lo3⟩ := id hR
    have J30 : ∀ (K aK : Nat) (zK : Int), K ≤ 1 → R K = some aK → RowAt w18 aK zK 5 → G E X 3 30 [some (.ref m), some (iI v), some (iI yy)] [iI (K : Int), .ref q] w18 26 96 := by
      intro K aK zK hK kK lK
      refine g_aaloadN (K) C rfl rfl hR0 (by omega) (by omega) kK dX8_solution_30 ?_
      refine g_bipush C dX8_solution_31 (by decide) ?_
      refine g_wf (fun hwf33 => ?_)
      refine t_callS C hT (c_X8_text _ (rx := 10) (lK.le (by omega)) (by omega)) ml_RX8_171 sm_yX8_text in_RX8 co_yX8_text hd_X8_text rfl ⟨by omega, by omega⟩ rfl (Nat.le_of_ble_eq_true rfl) ⟨by omega, by omega⟩ dX8_solution_33 (fun v33 w33 hp33 => ?_)
      obtain ⟨s33, rfl, hfr33⟩ := hp33
      have hxf33 := hfr33.ex hwf33
      exact g_areturn C (Or.inl ⟨_, rfl⟩) hQ (Or.inr ⟨_, rfl⟩) dX8_solution_36 (by omega) (by omega) (by
        first
        | exact ⟨t6, _, rfl, hM6.ex (x1.tr hxf33), hK6.tr (Keep.ex (x1.tr hxf33)), by omega, by omega⟩
        | exact ⟨t6, _, rfl, hM6, hK6, by omega, by omega⟩)
    refine g_iload_n C dX8_solution_21 rfl ?_
    refine g_if_eq (tgt := 29) C dX8_solution_22 (by decide) (by omega) (fun h22 => ?_) (fun h22 => ?_)
    · refine g_iconst C dX8_solution_29 ?_
      first
      | exact g_widen (by omega) (by omega) (J30 0 a0 _ (by omega) k0 l0)
      | exact g_widen (by omega) (by omega) (J30 1 a1 _ (by omega) k1 l1)
    · refine g_iconst C dX8_solution_25 ?_
      refine g_goto (tgt := 30) C dX8_solution_26 (by decide) ?_
      first
      | exact g_widen (by omega) (by omega) (J30 0 a0 _ (by omega) k0 l0)
      | exact g_widen (by omega) (by omega) (J30 1 a1 _ (by omega) k1 l1)
  · refine g_ldcS C hT 0 rfl dX8_solution_12 ?_
    refine g_goto (tgt := 36) C dX8_solution_14 (by decide) ?_
    exact g_areturn C (Or.inl ⟨_, rfl⟩) hQ (Or.inr ⟨_, rfl⟩) dX8_solution_36 (by omega) (by omega) (by
      first
      | exact ⟨t6, _, rfl, hM6.ex (x1.tr hxf33), hK6.tr (Keep.ex (x1.tr hxf33)), by omega, by omega⟩
      | exact ⟨t6, _, rfl, hM6, hK6, by omega, by omega⟩)
set_option maxHeartbeats 4000000 in
set_option maxRecDepth 100000 in
theorem c_X8_minus_ (l : Launch) {K : KC} {E : GE} {w : Wd} {v yy : Int} (h_v : -2147483648 ≤ v ∧ v < 2147483648) (hyy : yy = 0 ∨ yy = 1) {τ : Nat → Nat} {m : Nat} {A : MA} {th : Int} {ba st pb le ri : Nat → Int} {sp : Nat → Nat → Int} {ct : Nat → Int} (hM : MSx τ w m A th ba st pb le ri sp ct) : St K E l yX8_minus_ cX8_minus_ 3 (some (.object "java/lang/String")) 7 (110) (2200) [.ref m, iI v, iI yy] w (fun r' w' => ∃ (t : Int) (s : Nat), r' = some (.ref s) ∧ MSx τ w' m A (t) (ba) (st) (pb) (le) (ri) (sp) (ct) ∧ Keep τ w w' ∧ 0 ≤ t ∧ t ≤ 2) := by
  refine st_intro [some (.ref m), some (iI v), some (iI yy)] rfl (Nat.le_of_ble_eq_true rfl) pn_X8 ?_
  intro X C hT hRm hl hnm hQ
  obtain ⟨hRf, hRl, hRc, hRs⟩ := hRm
  refine g_wf (fun hwf => ?_)
  refine g_aload_n C dX8_minus__0 rfl ?_
  refine g_iload_n C dX8_minus__1 rfl ?_
  refine g_callS C (c_X8_isNoBase _ (v := v) h_v) ml_RX8_152 sm_yX8_isNoBase in_RX8 co_yX8_isNoBase hd_X8_isNoBase rfl ⟨by omega, by omega⟩ rfl (Nat.le_of_ble_eq_true rfl) ⟨by omega, by omega⟩ dX8_minus__2 (fun v2 w2 hp2 => ?_)
  obtain ⟨⟨yb, rfl, hyb⟩, hw2⟩ := hp2
  subst w2
  have hyb01 : yb = 0 ∨ yb = 1 := by rcases hyb with q | q <;> omega
  refine g_iconst C dX8_minus__5 ?_
  refine g_callV C (c_X8_start _ hM (y := yb) (wh := 1) (by omega) (by omega)) (ci := 10) rfl hM.o rfl ml_RX8_149 im_yX8_start se_RX8_yX8_start in_RX8 co_yX8_start hd_X8_start rfl ⟨by omega, by omega⟩ rfl (Nat.le_of_ble_eq_true rfl) ⟨by omega, by omega⟩ dX8_minus__6 (fun v6 w6 hp6 => ?_)
  obtain ⟨t6, rfl, ht6, hM6, hK6⟩ := hp6
  have hy6 : (yb) = 0 ∨ (yb) = 1 := (by omega)
  refine g_if_ne (tgt := 21) C dX8_minus__9 (by decide) (by omega) (fun h9 => ?_) (fun h9 => ?_)
  · refine g_ldcS C hT 0 rfl dX8_minus__21 ?_
    exact g_areturn C (Or.inl ⟨_, rfl⟩) hQ (Or.inr ⟨_, rfl⟩) dX8_minus__23 (by omega) (by omega) (by
      first
      | exact ⟨t6, _, rfl, hM6.ex x1, hK6.tr (Keep.ex x1), by omega, by omega⟩
      | exact ⟨t6, _, rfl, hM6, hK6, by omega, by omega⟩)
  · have hgb : GB v := by
      rcases hyb with q | q
      · exact q.2
      · omega
    obtain ⟨r, hr⟩ := RT_ex hgb
    refine g_iload_n C dX8_minus__12 rfl ?_
    refine g_callS C (c_X8_periodOf _ hgb hr) ml_RX8_142 sm_yX8_periodOf in_RX8 co_yX8_periodOf hd_X8_periodOf rfl ⟨by omega, by omega⟩ rfl (Nat.le_of_ble_eq_true rfl) ⟨by omega, by omega⟩ dX8_minus__13 (fun v13 w13 hp13 => ?_)
    obtain ⟨p, rfl, hper, x1⟩ := hp13
    have pp1 := hper.1
    have pp2 := hper.2.1
    refine g_iconst C dX8_minus__16 ?_
    refine g_iremN C dX8_minus__17 (by omega) (by omega) ?_
    refine g_if_ne (tgt := 24) C dX8_minus__18 (by decide) (by omega) (fun h18 => ?_) (fun h18 => ?_)
    · refine g_iload_n C dX8_minus__24 rfl ?_
      refine g_iload_n C dX8_minus__25 rfl ?_
      refine g_callS C (c_X8_periodOf _ hgb hr) ml_RX8_142 sm_yX8_periodOf in_RX8 co_yX8_periodOf hd_X8_periodOf rfl ⟨by omega, by omega⟩ rfl (Nat.le_of_ble_eq_true rfl) ⟨by omega, by omega⟩ dX8_minus__26 (fun v26 w26 hp26 => ?_)
      obtain ⟨p2, rfl, hper2, x2⟩ := hp26
      have pp3 := hper2.1
      have pp4 := hper2.2.1
      obtain ⟨K0, rfl⟩ : ∃ K0, p2 = K0 + 1 := ⟨p2 - 1, by omega⟩
      refine g_iconst C dX8_minus__29 ?_
      refine g_isub C dX8_minus__30 ?_
      rw [show ((K0 + 1 : Nat) : Int) - 1 = (K0 : Int) by omega]
      refine g_wf (fun hwf30 => ?_)
      refine g_callS C (c_X8_walked _ (b := v) (r := r) (K := K0) hgb hr (by omega)) ml_RX8_134 sm_yX8_walked in_RX8 co_yX8_walked hd_X8_walked rfl ⟨by omega, by omega⟩ rfl (Nat.le_of_ble_eq_true rfl) ⟨by omega, by omega⟩ dX8_minus__31 (fun v31 w31 hp31 => ?_)
      obtain ⟨q, rfl, hR, x3f, hq⟩ := hp31
      have x3 := x3f.ex hwf30
      have x123 := (x1.tr x2).tr x3
      obtain ⟨R, a0, a1, a2, a3, hR0, k0, k1, k2, k3, l0, l1, l2, l3, lo0, lo1, lo2, lo3⟩ := id hR
      have J43 : ∀ (K aK : Nat) (zK : Int), K ≤ 1 → R K = some aK → RowAt w31 aK zK 5 → G E X 3 43 [some (.ref m), some (iI v), some (iI yy)] [iI (K : Int), .ref q] w31 42 144 := by
        intro K aK zK hK kK lK
        refine g_aaloadN (K) C rfl rfl hR0 (by omega) (by omega) kK dX8_minus__43 ?_
        refine g_bipush C dX8_minus__44 (by decide) ?_
        refine g_wf (fun hwf46 => ?_)
        refine t_callS C hT (c_X8_text _ (rx := 10) (lK.le (by omega)) (by omega)) ml_RX8_171 sm_yX8_text in_RX8 co_yX8_text hd_X8_text rfl ⟨by omega, by omega⟩ rfl (Nat.le_of_ble_eq_true rfl) ⟨by omega, by omega⟩ dX8_minus__46 (fun v46 w46 hp46 => ?_)
        obtain ⟨s46, rfl, hfr46⟩ := hp46
        have hxf46 := hfr46.ex hwf46
        exact g_areturn C (Or.inl ⟨_, rfl⟩) hQ (Or.inr ⟨_, rfl⟩) dX8_minus__49 (by omega) (by omega) (by
          first
          | exact ⟨t6, _, rfl, hM6.ex (x123.tr hxf46), hK6.tr (Keep.ex (x123.tr hxf46)), by omega, by omega⟩)
      refine g_iload_n C dX8_minus__34 rfl ?_
      refine g_if_eq (tgt := 42) C dX8_minus__35 (by decide) (by omega) (fun h35 => ?_) (fun h35 => ?_)
      · refine g_iconst C dX8_minus__42 ?_
        first
        | exact g_widen (by omega) (by omega) (J43 0 a0 _ (by omega) k0 l0)
        | exact g_widen (by omega) (by omega) (J43 1 a1 _ (by omega) k1 l1)
      · refine g_iconst C dX8_minus__38 ?_
        refine g_goto (tgt := 43) C dX8_minus__39 (by decide) ?_
        first
        | exact g_widen (by omega) (by omega) (J43 0 a0 _ (by omega) k0 l0)
        | exact g_widen (by omega) (by omega) (J43 1 a1 _ (by omega) k1 l1)
    · refine g_ldcS C hT 0 rfl dX8_minus__21 ?_
      exact g_areturn C (Or.inl ⟨_, rfl⟩) hQ (Or.inr ⟨_, rfl⟩) dX8_minus__23 (by omega) (by omega) (by
        first
        | exact ⟨t6, _, rfl, hM6.ex x1, hK6.tr (Keep.ex x1), by omega, by omega⟩
        | exact ⟨t6, _, rfl, hM6, hK6, by omega, by omega⟩)
set_option maxHeartbeats 4000000 in
set_option maxRecDepth 100000 in
theorem c_X8_pairText (l : Launch) {K : KC} {E : GE} {w : Wd} {v yy : Int} (h_v : -2147483648 ≤ v ∧ v < 2147483648) (hyy : yy = 0 ∨ yy = 1) {τ : Nat → Nat} {m : Nat} {A : MA} {th : Int} {ba st pb le ri : Nat → Int} {sp : Nat → Nat → Int} {ct : Nat → Int} (hM : MSx τ w m A th ba st pb le ri sp ct) : St K E l yX8_pairText cX8_pairText 3 (some (.object "java/lang/String")) 7 (60) (2000) [.ref m, iI v, iI yy] w (fun r' w' => ∃ (t : Int) (s : Nat), r' = some (.ref s) ∧ MSx τ w' m A (t) (ba) (st) (pb) (le) (ri) (sp) (ct) ∧ Keep τ w w' ∧ 0 ≤ t ∧ t ≤ 2) := by
  refine st_intro [some (.ref m), some (iI v), some (iI yy)] rfl (Nat.le_of_ble_eq_true rfl) pn_X8 ?_
  intro X C hT hRm hl hnm hQ
  obtain ⟨hRf, hRl, hRc, hRs⟩ := hRm
  refine g_wf (fun hwf => ?_)
  refine g_aload_n C dX8_pairText_0 rfl ?_
  refine g_iload_n C dX8_pairText_1 rfl ?_
  refine g_callS C (c_X8_isNo _ (v := v) h_v) ml_RX8_145 sm_yX8_isNo in_RX8 co_yX8_isNo hd_X8_isNo rfl ⟨by omega, by omega⟩ rfl (Nat.le_of_ble_eq_true rfl) ⟨by omega, by omega⟩ dX8_pairText_2 (fun v2 w2 hp2 => ?_)
  obtain ⟨rfl, hw2⟩ := hp2
  subst w2
  refine g_iconst C dX8_pairText_5 ?_
  refine g_callV C (c_X8_start _ hM (y := bI (¬ (0 ≤ v ∧ v ≤ 2))) (wh := 1) (bI_01 _) (by omega)) (ci := 10) rfl hM.o rfl ml_RX8_149 im_yX8_start se_RX8_yX8_start in_RX8 co_yX8_start hd_X8_start rfl ⟨by omega, by omega⟩ rfl (Nat.le_of_ble_eq_true rfl) ⟨by omega, by omega⟩ dX8_pairText_6 (fun v6 w6 hp6 => ?_)
  obtain ⟨t6, rfl, ht6, hM6, hK6⟩ := hp6
  have hy6 : (bI (¬ (0 ≤ v ∧ v ≤ 2))) = 0 ∨ (bI (¬ (0 ≤ v ∧ v ≤ 2))) = 1 := (bI_01 _)
  refine g_if_eq (tgt := 17) C dX8_pairText_9 (by decide) (bI_r _) (fun h9 => ?_) (fun h9 => ?_)
  · have hwk : 0 ≤ v ∧ v ≤ 2 := Classical.not_not.mp (bI_0 (by omega))
    obtain ⟨V, rfl⟩ := Int.eq_ofNat_of_zero_le hwk.1
    refine g_aload_n C dX8_pairText_17 rfl ?_
    refine g_iload_n C dX8_pairText_18 rfl ?_
    refine g_iload_n C dX8_pairText_19 rfl ?_
    refine g_callV C (c_X8_its _ hM6 (i := V) (y := yy) (by omega) hyy) (ci := 10) rfl hM6.o rfl ml_RX8_246 im_yX8_its se_RX8_yX8_its in_RX8 co_yX8_its hd_X8_its rfl ⟨by omega, by omega⟩ rfl (Nat.le_of_ble_eq_true rfl) ⟨by omega, by omega⟩ dX8_pairText_20 (fun v20 w20 hp20 => ?_)
    obtain ⟨⟨q20, rfl, hq20, r20⟩, hw20⟩ := hp20
    subst hw20
    refine g_bipush C dX8_pairText_23 (by decide) ?_
    refine g_wf (fun hwf25 => ?_)
    refine t_callS C hT (c_X8_text _ (rx := 10) (r20.le (by omega)) (by omega)) ml_RX8_171 sm_yX8_text in_RX8 co_yX8_text hd_X8_text rfl ⟨by omega, by omega⟩ rfl (Nat.le_of_ble_eq_true rfl) ⟨by omega, by omega⟩ dX8_pairText_25 (fun v25 w25 hp25 => ?_)
    obtain ⟨s25, rfl, hfr25⟩ := hp25
    have hxf25 := hfr25.ex hwf25
    exact g_areturn C (Or.inl ⟨_, rfl⟩) hQ (Or.inr ⟨_, rfl⟩) dX8_pairText_28 (by omega) (by omega) (by
      first
      | exact ⟨t6, _, rfl, hM6.ex hxf25, hK6.tr (Keep.ex hxf25), by omega, by omega⟩
      | exact ⟨t6, _, rfl, hM6, hK6, by omega, by omega⟩)
  · refine g_ldcS C hT 0 rfl dX8_pairText_12 ?_
    refine g_goto (tgt := 28) C dX8_pairText_14 (by decide) ?_
    exact g_areturn C (Or.inl ⟨_, rfl⟩) hQ (Or.inr ⟨_, rfl⟩) dX8_pairText_28 (by omega) (by omega) (by
      first
      | exact ⟨t6, _, rfl, hM6.ex hxf25, hK6.tr (Keep.ex hxf25), by omega, by omega⟩
      | exact ⟨t6, _, rfl, hM6, hK6, by omega, by omega⟩)
set_option maxHeartbeats 4000000 in
set_option maxRecDepth 100000 in
theorem c_X8_pairNorm (l : Launch) {K : KC} {E : GE} {w : Wd} {v : Int} (h_v : -2147483648 ≤ v ∧ v < 2147483648) {τ : Nat → Nat} {m : Nat} {A : MA} {th : Int} {ba st pb le ri : Nat → Int} {sp : Nat → Nat → Int} {ct : Nat → Int} (hM : MSx τ w m A th ba st pb le ri sp ct) (hP : HPp pb le ri) : St K E l yX8_pairNorm cX8_pairNorm 2 (some (.object "java/lang/String")) 7 (75) (2110) [.ref m, iI v] w (fun r' w' => ∃ (t : Int) (s : Nat), r' = some (.ref s) ∧ MSx τ w' m A (t) (ba) (st) (pb) (le) (ri) (sp) (ct) ∧ Keep τ w w' ∧ 0 ≤ t ∧ t ≤ 2) := by
  refine st_intro [some (.ref m), some (iI v)] rfl (Nat.le_of_ble_eq_true rfl) pn_X8 ?_
  intro X C hT hRm hl hnm hQ
  obtain ⟨hRf, hRl, hRc, hRs⟩ := hRm
  refine g_wf (fun hwf => ?_)
  refine g_aload_n C dX8_pairNorm_0 rfl ?_
  refine g_iload_n C dX8_pairNorm_1 rfl ?_
  refine g_callS C (c_X8_isNo _ (v := v) h_v) ml_RX8_145 sm_yX8_isNo in_RX8 co_yX8_isNo hd_X8_isNo rfl ⟨by omega, by omega⟩ rfl (Nat.le_of_ble_eq_true rfl) ⟨by omega, by omega⟩ dX8_pairNorm_2 (fun v2 w2 hp2 => ?_)
  obtain ⟨rfl, hw2⟩ := hp2
  subst w2
  refine g_iconst C dX8_pairNorm_5 ?_
  refine g_callV C (c_X8_start _ hM (y := bI (¬ (0 ≤ v ∧ v ≤ 2))) (wh := 1) (bI_01 _) (by omega)) (ci := 10) rfl hM.o rfl ml_RX8_149 im_yX8_start se_RX8_yX8_start in_RX8 co_yX8_start hd_X8_start rfl ⟨by omega, by omega⟩ rfl (Nat.le_of_ble_eq_true rfl) ⟨by omega, by omega⟩ dX8_pairNorm_6 (fun v6 w6 hp6 => ?_)
  obtain ⟨t6, rfl, ht6, hM6, hK6⟩ := hp6
  have hy6 : (bI (¬ (0 ≤ v ∧ v ≤ 2))) = 0 ∨ (bI (¬ (0 ≤ v ∧ v ≤ 2))) = 1 := (bI_01 _)
  refine g_if_eq (tgt := 17) C dX8_pairNorm_9 (by decide) (bI_r _) (fun h9 => ?_) (fun h9 => ?_)
  · have hwk : 0 ≤ v ∧ v ≤ 2 := Classical.not_not.mp (bI_0 (by omega))
    obtain ⟨V, rfl⟩ := Int.eq_ofNat_of_zero_le hwk.1
    obtain ⟨g1, -, -⟩ := hP V (by omega)
    have g11 := g1.1
    have g12 := g1.2.1
    obtain ⟨q1, hq1, tq1, r1⟩ := hM6.L (i := V) (by omega)
    obtain ⟨q2, hq2, tq2, r2⟩ := hM6.R (i := V) (by omega)
    obtain ⟨nL, fL, eL, bL, dL⟩ := id r1
    obtain ⟨nR, fR, eR', bR, dR⟩ := id r2
    refine g_aload_n C dX8_pairNorm_17 rfl ?_
    refine g_get (ci := 10) C rfl inTX8 3 (by decide) fl_RX8_16 rfl hM6.o rfl dX8_pairNorm_18 ?_
    refine g_iload_n C dX8_pairNorm_21 rfl ?_
    refine g_ialoadN (V) C hM6.p (by omega) (by omega) dX8_pairNorm_22 ?_
    refine g_aload_n C dX8_pairNorm_23 rfl ?_
    refine g_get (ci := 10) C rfl inTX8 4 (by decide) fl_RX8_24 rfl hM6.o rfl dX8_pairNorm_24 ?_
    refine g_iload_n C dX8_pairNorm_27 rfl ?_
    refine g_aaloadN (V) C rfl rfl hM6.l (by omega) (by omega) hq1 dX8_pairNorm_28 ?_
    refine g_aload_n C dX8_pairNorm_29 rfl ?_
    refine g_get (ci := 10) C rfl inTX8 5 (by decide) fl_RX8_28 rfl hM6.o rfl dX8_pairNorm_30 ?_
    refine g_iload_n C dX8_pairNorm_33 rfl ?_
    refine g_aaloadN (V) C rfl rfl hM6.r (by omega) (by omega) hq2 dX8_pairNorm_34 ?_
    refine g_callS C (c_X8_norm _ (c := 4) eL eR' bL bR dL dR (by omega) (by omega)) ml_RX8_188 sm_yX8_norm in_RX8 co_yX8_norm hd_X8_norm rfl ⟨by omega, by omega⟩ rfl (Nat.le_of_ble_eq_true rfl) ⟨by omega, by omega⟩ dX8_pairNorm_35 (fun v35 w35 hp35 => ?_)
    obtain ⟨q35, m35, g35, rfl, h35, hb35, hm35, x35, hq35⟩ := hp35
    refine g_bipush C dX8_pairNorm_38 (by decide) ?_
    refine g_wf (fun hwf40 => ?_)
    refine t_callS C hT (c_X8_text _ (rx := 10) (RowAt.of h35 hb35 (by omega)) (by omega)) ml_RX8_171 sm_yX8_text in_RX8 co_yX8_text hd_X8_text rfl ⟨by omega, by omega⟩ rfl (Nat.le_of_ble_eq_true rfl) ⟨by omega, by omega⟩ dX8_pairNorm_40 (fun v40 w40 hp40 => ?_)
    obtain ⟨s40, rfl, hfr40⟩ := hp40
    have hxf40 := hfr40.ex hwf40
    exact g_areturn C (Or.inl ⟨_, rfl⟩) hQ (Or.inr ⟨_, rfl⟩) dX8_pairNorm_43 (by omega) (by omega) (by
      first
      | exact ⟨t6, _, rfl, hM6.ex (x35.tr hxf40), hK6.tr (Keep.ex (x35.tr hxf40)), by omega, by omega⟩
      | exact ⟨t6, _, rfl, hM6, hK6, by omega, by omega⟩)
  · refine g_ldcS C hT 0 rfl dX8_pairNorm_12 ?_
    refine g_goto (tgt := 43) C dX8_pairNorm_14 (by decide) ?_
    exact g_areturn C (Or.inl ⟨_, rfl⟩) hQ (Or.inr ⟨_, rfl⟩) dX8_pairNorm_43 (by omega) (by omega) (by
      first
      | exact ⟨t6, _, rfl, hM6.ex (x35.tr hxf40), hK6.tr (Keep.ex (x35.tr hxf40)), by omega, by omega⟩
      | exact ⟨t6, _, rfl, hM6, hK6, by omega, by omega⟩)
