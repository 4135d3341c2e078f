set_option maxHeartbeats 4000000 in
set_option maxRecDepth 100000 in
theorem s_X1_init (l : Launch) {K : KC} {E : GE} {w : Wd} {a : Nat} (oB : w.2 a = some (true, eO 3 [iI 0, iI 0, .null, .null, .null, .null, .null])) : St K E l yX1_init cX1_init 2 none 2 (113) (1266) [.ref a] w (fun r' w' => r' = none ∧ w'.1 = w.1 + 113 ∧ w'.2 a = some (true, eO 3 [iI 0, iI 0, .ref w.1, .ref (w.1 + 1), .ref (w.1 + 2), .ref (w.1 + 3), .ref (w.1 + 4)]) ∧ w'.2 w.1 = some (true, eI 26 (fun _ => 0)) ∧ w'.2 (w.1 + 1) = some (true, eI 26 (fun _ => 0)) ∧ w'.2 (w.1 + 2) = some (true, eI 26 (fun _ => 0)) ∧ (∃ R, w'.2 (w.1 + 3) = some (true, eR 6 27 R) ∧ ∀ j, j < 27 → R j = some (w.1 + 5 + 4 * j)) ∧ (∃ R, w'.2 (w.1 + 4) = some (true, eR 6 27 R) ∧ ∀ j, j < 27 → R j = some (w.1 + 7 + 4 * j)) ∧ (∀ j, j < 27 → WS w' (w.1 + 5 + 4 * j) (w.1 + 6 + 4 * j) ∧ WS w' (w.1 + 7 + 4 * j) (w.1 + 8 + 4 * j)) ∧ ExX w w' a) := by
  refine st_intro [some (.ref a), none] rfl (Nat.le_of_ble_eq_true rfl) pn_X1 ?_
  intro X C hT hRm hl hnm hQ
  obtain ⟨hRf, hRl, hRc, hRs⟩ := hRm
  refine g_wf (fun hwf => ?_)
  have hmw : a < w.1 := hwf a _ oB
  refine g_aload_n C dX1_init_0 rfl ?_
  refine g_objInit C ml_RX1_3 (by omega) (by omega) (Nat.le_of_ble_eq_true rfl) dX1_init_1 ?_
  refine g_aload_n C dX1_init_4 rfl ?_
  refine g_bipush C dX1_init_5 (by decide) ?_
  refine g_newI C gw_arrayClass_int (N := 26) rfl (by omega) (by omega) dX1_init_7 ?_
  obtain ⟨u1, hu1⟩ : ∃ u1, u1 = wpush w (true, eI 26 (fun _ => 0)) := ⟨_, rfl⟩
  refine g_eqw (w' := u1) (by rw [hu1]; first | done | rfl) ?_
  have nu1 : u1.1 = w.1 + 1 := by
    have e0 : w.1 = w.1 + 0 := rfl
    rw [hu1]; show w.1 + 1 = _; omega
  have zu1 : Ex w u1 := by rw [hu1]; exact Ex.push hwf _
  have yu1 : ExX w u1 a := zu1.exx _
  have ou1 := zu1.2 _ _ oB
  have c0 : u1.2 w.1 = some (true, eI 26 (fun _ => 0)) := by
    have e0 : (wpush w (true, eI 26 (fun _ => 0))).2 w.1 = some (true, eI 26 (fun _ => 0)) := wpush_s
    rw [← hu1] at e0
    exact e0
  refine g_wf (fun fu1 => ?_)
  refine g_putF (ci := 3) C rfl inTX1 tyX1 tyX1_ok nmX1 2 (by decide) fl_RX1_11 rfl rfl hnm rfl ou1 (Nat.le_of_ble_eq_true rfl) rfl rfl dX1_init_9 ?_
  obtain ⟨u2, hu2⟩ : ∃ u2, u2 = wset u1 a (true, eO 3 [iI 0, iI 0, .ref w.1, .null, .null, .null, .null]) := ⟨_, rfl⟩
  refine g_eqw (w' := u2) hu2.symm ?_
  have nu2 : u2.1 = w.1 + 1 := by rw [hu2]; exact nu1
  have yu2 : ExX u1 u2 a := by rw [hu2]; exact ExX.set _ _ _
  have ou2 : u2.2 a = some (true, eO 3 [iI 0, iI 0, .ref w.1, .null, .null, .null, .null]) := by rw [hu2]; exact wset_s
  refine g_wf (fun fu2 => ?_)
  refine g_aload_n C dX1_init_12 rfl ?_
  refine g_bipush C dX1_init_13 (by decide) ?_
  refine g_newI C gw_arrayClass_int (N := 26) rfl (by omega) (by omega) dX1_init_15 ?_
  obtain ⟨u3, hu3⟩ : ∃ u3, u3 = wpush u2 (true, eI 26 (fun _ => 0)) := ⟨_, rfl⟩
  refine g_eqw (w' := u3) (by rw [hu3]; first | done | rfl) ?_
  have nu3 : u3.1 = w.1 + 2 := by
    have e0 : u2.1 = w.1 + 1 := nu2
    rw [hu3]; show u2.1 + 1 = _; omega
  have zu3 : Ex u2 u3 := by rw [hu3]; exact Ex.push fu2 _
  have yu3 : ExX u2 u3 a := zu3.exx _
  have ou3 := zu3.2 _ _ ou2
  have c1 : u3.2 (w.1 + 1) = some (true, eI 26 (fun _ => 0)) := by
    have e0 : (wpush u2 (true, eI 26 (fun _ => 0))).2 u2.1 = some (true, eI 26 (fun _ => 0)) := wpush_s
    rw [← hu3, nu2] at e0
    exact e0
  refine g_wf (fun fu3 => ?_)
  rw [nu2]
  refine g_putF (ci := 3) C rfl inTX1 tyX1 tyX1_ok nmX1 3 (by decide) fl_RX1_15 rfl rfl hnm rfl ou3 (Nat.le_of_ble_eq_true rfl) rfl rfl dX1_init_17 ?_
  obtain ⟨u4, hu4⟩ : ∃ u4, u4 = wset u3 a (true, eO 3 [iI 0, iI 0, .ref w.1, .ref (w.1 + 1), .null, .null, .null]) := ⟨_, rfl⟩
  refine g_eqw (w' := u4) hu4.symm ?_
  have nu4 : u4.1 = w.1 + 2 := by rw [hu4]; exact nu3
  have yu4 : ExX u3 u4 a := by rw [hu4]; exact ExX.set _ _ _
  have ou4 : u4.2 a = some (true, eO 3 [iI 0, iI 0, .ref w.1, .ref (w.1 + 1), .null, .null, .null]) := by rw [hu4]; exact wset_s
  refine g_wf (fun fu4 => ?_)
  refine g_aload_n C dX1_init_20 rfl ?_
  refine g_bipush C dX1_init_21 (by decide) ?_
  refine g_newI C gw_arrayClass_int (N := 26) rfl (by omega) (by omega) dX1_init_23 ?_
  obtain ⟨u5, hu5⟩ : ∃ u5, u5 = wpush u4 (true, eI 26 (fun _ => 0)) := ⟨_, rfl⟩
  refine g_eqw (w' := u5) (by rw [hu5]; first | done | rfl) ?_
  have nu5 : u5.1 = w.1 + 3 := by
    have e0 : u4.1 = w.1 + 2 := nu4
    rw [hu5]; show u4.1 + 1 = _; omega
  have zu5 : Ex u4 u5 := by rw [hu5]; exact Ex.push fu4 _
  have yu5 : ExX u4 u5 a := zu5.exx _
  have ou5 := zu5.2 _ _ ou4
  have c2 : u5.2 (w.1 + 2) = some (true, eI 26 (fun _ => 0)) := by
    have e0 : (wpush u4 (true, eI 26 (fun _ => 0))).2 u4.1 = some (true, eI 26 (fun _ => 0)) := wpush_s
    rw [← hu5, nu4] at e0
    exact e0
  refine g_wf (fun fu5 => ?_)
  rw [nu4]
  refine g_putF (ci := 3) C rfl inTX1 tyX1 tyX1_ok nmX1 4 (by decide) fl_RX1_18 rfl rfl hnm rfl ou5 (Nat.le_of_ble_eq_true rfl) rfl rfl dX1_init_25 ?_
  obtain ⟨u6, hu6⟩ : ∃ u6, u6 = wset u5 a (true, eO 3 [iI 0, iI 0, .ref w.1, .ref (w.1 + 1), .ref (w.1 + 2), .null, .null]) := ⟨_, rfl⟩
  refine g_eqw (w' := u6) hu6.symm ?_
  have nu6 : u6.1 = w.1 + 3 := by rw [hu6]; exact nu5
  have yu6 : ExX u5 u6 a := by rw [hu6]; exact ExX.set _ _ _
  have ou6 : u6.2 a = some (true, eO 3 [iI 0, iI 0, .ref w.1, .ref (w.1 + 1), .ref (w.1 + 2), .null, .null]) := by rw [hu6]; exact wset_s
  refine g_wf (fun fu6 => ?_)
  refine g_aload_n C dX1_init_28 rfl ?_
  refine g_bipush C dX1_init_29 (by decide) ?_
  refine g_anewO C 6 rfl C.kt.2.2.2.2.2.2.1 kl_RX1_21 (N := 27) rfl (by omega) (by omega) dX1_init_31 ?_
  obtain ⟨u7, hu7⟩ : ∃ u7, u7 = wpush u6 (true, eR 6 27 (fun _ => none)) := ⟨_, rfl⟩
  refine g_eqw (w' := u7) (by rw [hu7]; first | done | rfl) ?_
  have nu7 : u7.1 = w.1 + 4 := by
    have e0 : u6.1 = w.1 + 3 := nu6
    rw [hu7]; show u6.1 + 1 = _; omega
  have zu7 : Ex u6 u7 := by rw [hu7]; exact Ex.push fu6 _
  have yu7 : ExX u6 u7 a := zu7.exx _
  have ou7 := zu7.2 _ _ ou6
  have c3 : u7.2 (w.1 + 3) = some (true, eR 6 27 (fun _ => none)) := by
    have e0 : (wpush u6 (true, eR 6 27 (fun _ => none))).2 u6.1 = some (true, eR 6 27 (fun _ => none)) := wpush_s
    rw [← hu7, nu6] at e0
    exact e0
  refine g_wf (fun fu7 => ?_)
  rw [nu6]
  refine g_putF (ci := 3) C rfl inTX1 tyX1 tyX1_ok nmX1 5 (by decide) fl_RX1_23 rfl rfl hnm rfl ou7 (Nat.le_of_ble_eq_true rfl) rfl rfl dX1_init_34 ?_
  obtain ⟨u8, hu8⟩ : ∃ u8, u8 = wset u7 a (true, eO 3 [iI 0, iI 0, .ref w.1, .ref (w.1 + 1), .ref (w.1 + 2), .ref (w.1 + 3), .null]) := ⟨_, rfl⟩
  refine g_eqw (w' := u8) hu8.symm ?_
  have nu8 : u8.1 = w.1 + 4 := by rw [hu8]; exact nu7
  have yu8 : ExX u7 u8 a := by rw [hu8]; exact ExX.set _ _ _
  have ou8 : u8.2 a = some (true, eO 3 [iI 0, iI 0, .ref w.1, .ref (w.1 + 1), .ref (w.1 + 2), .ref (w.1 + 3), .null]) := by rw [hu8]; exact wset_s
  refine g_wf (fun fu8 => ?_)
  refine g_aload_n C dX1_init_37 rfl ?_
  refine g_bipush C dX1_init_38 (by decide) ?_
  refine g_anewO C 6 rfl C.kt.2.2.2.2.2.2.1 kl_RX1_21 (N := 27) rfl (by omega) (by omega) dX1_init_40 ?_
  obtain ⟨u9, hu9⟩ : ∃ u9, u9 = wpush u8 (true, eR 6 27 (fun _ => none)) := ⟨_, rfl⟩
  refine g_eqw (w' := u9) (by rw [hu9]; first | done | rfl) ?_
  have nu9 : u9.1 = w.1 + 5 := by
    have e0 : u8.1 = w.1 + 4 := nu8
    rw [hu9]; show u8.1 + 1 = _; omega
  have zu9 : Ex u8 u9 := by rw [hu9]; exact Ex.push fu8 _
  have yu9 : ExX u8 u9 a := zu9.exx _
  have ou9 := zu9.2 _ _ ou8
  have c4 : u9.2 (w.1 + 4) = some (true, eR 6 27 (fun _ => none)) := by
    have e0 : (wpush u8 (true, eR 6 27 (fun _ => none))).2 u8.1 = some (true, eR 6 27 (fun _ => none)) := wpush_s
    rw [← hu9, nu8] at e0
    exact e0
  refine g_wf (fun fu9 => ?_)
  rw [nu8]
  refine g_putF (ci := 3) C rfl inTX1 tyX1 tyX1_ok nmX1 6 (by decide) fl_RX1_27 rfl rfl hnm rfl ou9 (Nat.le_of_ble_eq_true rfl) rfl rfl dX1_init_43 ?_
  obtain ⟨u10, hu10⟩ : ∃ u10, u10 = wset u9 a (true, eO 3 [iI 0, iI 0, .ref w.1, .ref (w.1 + 1), .ref (w.1 + 2), .ref (w.1 + 3), .ref (w.1 + 4)]) := ⟨_, rfl⟩
  refine g_eqw (w' := u10) hu10.symm ?_
  have nu10 : u10.1 = w.1 + 5 := by rw [hu10]; exact nu9
  have yu10 : ExX u9 u10 a := by rw [hu10]; exact ExX.set _ _ _
  have ou10 : u10.2 a = some (true, eO 3 [iI 0, iI 0, .ref w.1, .ref (w.1 + 1), .ref (w.1 + 2), .ref (w.1 + 3), .ref (w.1 + 4)]) := by rw [hu10]; exact wset_s
  refine g_wf (fun fu10 => ?_)
  have c0' : u10.2 w.1 = some (true, eI 26 (fun _ => 0)) := (yu10.2 _ _ (by first | exact Nat.ne_of_gt (Nat.lt_of_lt_of_le hmw (Nat.le_add_right _ _)) | exact Nat.ne_of_gt hmw | omega) (yu9.2 _ _ (by first | exact Nat.ne_of_gt (Nat.lt_of_lt_of_le hmw (Nat.le_add_right _ _)) | exact Nat.ne_of_gt hmw | omega) (yu8.2 _ _ (by first | exact Nat.ne_of_gt (Nat.lt_of_lt_of_le hmw (Nat.le_add_right _ _)) | exact Nat.ne_of_gt hmw | omega) (yu7.2 _ _ (by first | exact Nat.ne_of_gt (Nat.lt_of_lt_of_le hmw (Nat.le_add_right _ _)) | exact Nat.ne_of_gt hmw | omega) (yu6.2 _ _ (by first | exact Nat.ne_of_gt (Nat.lt_of_lt_of_le hmw (Nat.le_add_right _ _)) | exact Nat.ne_of_gt hmw | omega) (yu5.2 _ _ (by first | exact Nat.ne_of_gt (Nat.lt_of_lt_of_le hmw (Nat.le_add_right _ _)) | exact Nat.ne_of_gt hmw | omega) (yu4.2 _ _ (by first | exact Nat.ne_of_gt (Nat.lt_of_lt_of_le hmw (Nat.le_add_right _ _)) | exact Nat.ne_of_gt hmw | omega) (yu3.2 _ _ (by first | exact Nat.ne_of_gt (Nat.lt_of_lt_of_le hmw (Nat.le_add_right _ _)) | exact Nat.ne_of_gt hmw | omega) (yu2.2 _ _ (by first | exact Nat.ne_of_gt (Nat.lt_of_lt_of_le hmw (Nat.le_add_right _ _)) | exact Nat.ne_of_gt hmw | omega) c0)))))))))
  have c1' : u10.2 (w.1 + 1) = some (true, eI 26 (fun _ => 0)) := (yu10.2 _ _ (by first | exact Nat.ne_of_gt (Nat.lt_of_lt_of_le hmw (Nat.le_add_right _ _)) | exact Nat.ne_of_gt hmw | omega) (yu9.2 _ _ (by first | exact Nat.ne_of_gt (Nat.lt_of_lt_of_le hmw (Nat.le_add_right _ _)) | exact Nat.ne_of_gt hmw | omega) (yu8.2 _ _ (by first | exact Nat.ne_of_gt (Nat.lt_of_lt_of_le hmw (Nat.le_add_right _ _)) | exact Nat.ne_of_gt hmw | omega) (yu7.2 _ _ (by first | exact Nat.ne_of_gt (Nat.lt_of_lt_of_le hmw (Nat.le_add_right _ _)) | exact Nat.ne_of_gt hmw | omega) (yu6.2 _ _ (by first | exact Nat.ne_of_gt (Nat.lt_of_lt_of_le hmw (Nat.le_add_right _ _)) | exact Nat.ne_of_gt hmw | omega) (yu5.2 _ _ (by first | exact Nat.ne_of_gt (Nat.lt_of_lt_of_le hmw (Nat.le_add_right _ _)) | exact Nat.ne_of_gt hmw | omega) (yu4.2 _ _ (by first | exact Nat.ne_of_gt (Nat.lt_of_lt_of_le hmw (Nat.le_add_right _ _)) | exact Nat.ne_of_gt hmw | omega) c1)))))))
  have c2' : u10.2 (w.1 + 2) = some (true, eI 26 (fun _ => 0)) := (yu10.2 _ _ (by first | exact Nat.ne_of_gt (Nat.lt_of_lt_of_le hmw (Nat.le_add_right _ _)) | exact Nat.ne_of_gt hmw | omega) (yu9.2 _ _ (by first | exact Nat.ne_of_gt (Nat.lt_of_lt_of_le hmw (Nat.le_add_right _ _)) | exact Nat.ne_of_gt hmw | omega) (yu8.2 _ _ (by first | exact Nat.ne_of_gt (Nat.lt_of_lt_of_le hmw (Nat.le_add_right _ _)) | exact Nat.ne_of_gt hmw | omega) (yu7.2 _ _ (by first | exact Nat.ne_of_gt (Nat.lt_of_lt_of_le hmw (Nat.le_add_right _ _)) | exact Nat.ne_of_gt hmw | omega) (yu6.2 _ _ (by first | exact Nat.ne_of_gt (Nat.lt_of_lt_of_le hmw (Nat.le_add_right _ _)) | exact Nat.ne_of_gt hmw | omega) c2)))))
  have c3' : u10.2 (w.1 + 3) = some (true, eR 6 27 (fun _ => none)) := (yu10.2 _ _ (by first | exact Nat.ne_of_gt (Nat.lt_of_lt_of_le hmw (Nat.le_add_right _ _)) | exact Nat.ne_of_gt hmw | omega) (yu9.2 _ _ (by first | exact Nat.ne_of_gt (Nat.lt_of_lt_of_le hmw (Nat.le_add_right _ _)) | exact Nat.ne_of_gt hmw | omega) (yu8.2 _ _ (by first | exact Nat.ne_of_gt (Nat.lt_of_lt_of_le hmw (Nat.le_add_right _ _)) | exact Nat.ne_of_gt hmw | omega) c3)))
  have c4' : u10.2 (w.1 + 4) = some (true, eR 6 27 (fun _ => none)) := (yu10.2 _ _ (by first | exact Nat.ne_of_gt (Nat.lt_of_lt_of_le hmw (Nat.le_add_right _ _)) | exact Nat.ne_of_gt hmw | omega) c4)
  have hkeep : ∀ b x, b ≠ a → w.2 b = some x → u10.2 b = some x := (((((((((yu1.tr yu2).tr yu3).tr yu4).tr yu5).tr yu6).tr yu7).tr yu8).tr yu9).tr yu10).2
  try clear c0
  try clear c1
  try clear c2
  try clear c3
  try clear c4
  try clear hu10
  try clear zu10
  try clear yu10
  try clear hu9
  try clear zu9
  try clear yu9
  try clear nu9
  try clear fu9
  try clear ou9
  try clear hu8
  try clear zu8
  try clear yu8
  try clear nu8
  try clear fu8
  try clear ou8
  try clear hu7
  try clear zu7
  try clear yu7
  try clear nu7
  try clear fu7
  try clear ou7
  try clear hu6
  try clear zu6
  try clear yu6
  try clear nu6
  try clear fu6
  try clear ou6
  try clear hu5
  try clear zu5
  try clear yu5
  try clear nu5
  try clear fu5
  try clear ou5
  try clear hu4
  try clear zu4
  try clear yu4
  try clear nu4
  try clear fu4
  try clear ou4
  try clear hu3
  try clear zu3
  try clear yu3
  try clear nu3
  try clear fu3
  try clear ou3
  try clear hu2
  try clear zu2
  try clear yu2
  try clear nu2
  try clear fu2
  try clear ou2
  try clear hu1
  try clear zu1
  try clear yu1
  try clear nu1
  try clear fu1
  try clear ou1
  try clear u9
  try clear u8
  try clear u7
  try clear u6
  try clear u5
  try clear u4
  try clear u3
  try clear u2
  try clear u1
  refine g_iconst C dX1_init_46 ?_
  refine g_istore_n C dX1_init_47 (by decide) rfl ?_
  have hB : u10.1 = w.1 + 5 := nu10
  refine g_loop (σ := Nat × Wd × (Nat → Option Nat) × (Nat → Option Nat)) (fun s => s.1 ≤ 27 ∧ s.2.1.1 = w.1 + 5 + 4 * s.1 ∧ s.2.1.2 (w.1 + 3) = some (true, eR 6 27 s.2.2.1) ∧ s.2.1.2 (w.1 + 4) = some (true, eR 6 27 s.2.2.2) ∧ (∀ j, j < s.1 → s.2.2.1 j = some (w.1 + 5 + 4 * j) ∧ s.2.2.2 j = some (w.1 + 7 + 4 * j) ∧ WS s.2.1 (w.1 + 5 + 4 * j) (w.1 + 6 + 4 * j) ∧ WS s.2.1 (w.1 + 7 + 4 * j) (w.1 + 8 + 4 * j)) ∧ (∀ q x, q ≠ w.1 + 3 → q ≠ w.1 + 4 → u10.2 q = some x → s.2.1.2 q = some x)) (fun s => G E X 2 48 [some (.ref a), some (iI (s.1 : Int))] [] s.2.1 (5 + 4 * s.1) (132 + 42 * s.1)) (fun s => 27 - s.1) ?_ (0, u10, fun _ => none, fun _ => none) ⟨by dsimp only; omega, by dsimp only; omega, c3', c4', fun j hj => by dsimp only at hj; omega, fun q x _ _ e => e⟩
  rintro ⟨k, u, R, R2⟩ hq ih
  obtain ⟨hk, hn, hR, hR2, hW, hX⟩ := hq
  dsimp only at hk hn hR hR2 hW hX ⊢
  have oU := hX a _ (by omega) (by omega) ou10
  refine g_wf (fun fu => ?_)
  refine g_iload_n C dX1_init_48 rfl ?_
  refine g_bipush C dX1_init_49 (by decide) ?_
  refine g_icmp_ge (tgt := 86) C dX1_init_51 (by decide) (by omega) (by omega) (fun h51 => ?_) (fun h51 => ?_)
  · exact g_return C hQ dX1_init_86 (by omega) (by omega) ⟨rfl, by omega, oU, hX _ _ (by omega) (by omega) c0', hX _ _ (by omega) (by omega) c1', hX _ _ (by omega) (by omega) c2', ⟨R, hR, fun j hj => (hW j (by omega)).1⟩, ⟨R2, hR2, fun j hj => (hW j (by omega)).2.1⟩, fun j hj => (hW j (by omega)).2.2, ⟨by omega, fun b x hb e => by
      have hbl := hwf b x e
      exact hX _ _ (by omega) (by omega) (hkeep _ _ hb e)⟩⟩
  · refine g_aload_n C dX1_init_54 rfl ?_
    refine g_get (ci := 3) C rfl inTX1 5 (by decide) fl_RX1_23 rfl oU rfl dX1_init_55 ?_
    refine g_iload_n C dX1_init_58 rfl ?_
    refine g_new (ci := 7) C rfl inTX5 tyX5 tyX5_ok kl_RX1_21 ib_RX5 in_RX5 (fs := [.null, iI 0, iI 0]) (by intro j hj; repeat (first | rfl | (cases j; rfl) | (rename_i j; cases j; rfl) | omega)) ⟨by omega, by omega⟩ dX1_init_59 ?_
    refine g_dup C dX1_init_62 rfl ?_
    refine t_nI C hT ((s_X5_new (l := xl X) (w := wpush u _) (a := u.1) wpush_s).st) 0 rfl im_yX5_init in_RX5 co_yX5_init rfl hd_X5_init rfl ⟨by omega, by omega⟩ rfl (Nat.le_of_ble_eq_true rfl) ⟨by omega, by omega⟩ dX1_init_63 (fun v63 w63 hp63 => ?_)
    obtain ⟨rfl, hw63⟩ := hp63
    subst w63
    obtain ⟨ua, hua⟩ : ∃ ua, ua = addW u := ⟨_, rfl⟩
    refine g_eqw (w' := ua) (by rw [hua]; rfl) ?_
    have nua : ua.1 = u.1 + 2 := by rw [hua]; rfl
    have zua : Ex u ua := by rw [hua]; exact addW_ex fu
    have qa : WS ua u.1 (u.1 + 1) := by rw [hua]; exact addW_WS _
    refine g_wf (fun fua => ?_)
    refine g_aastoreO C 6 7 rfl rfl (k) (zua.2 _ _ hR) qa.o (by omega) (by omega) dX1_init_66 ?_
    obtain ⟨ub, hub⟩ : ∃ ub, ub = wset ua (w.1 + 3) (true, eR 6 27 (rup R k (some u.1))) := ⟨_, rfl⟩
    refine g_eqw (w' := ub) hub.symm ?_
    have nub : ub.1 = ua.1 := by rw [hub]; rfl
    have yub : ExX ua ub (w.1 + 3) := by rw [hub]; exact ExX.set _ _ _
    have hRb : ub.2 (w.1 + 3) = some (true, eR 6 27 (rup R k (some u.1))) := by rw [hub]; exact wset_s
    refine g_wf (fun fub => ?_)
    have oV := yub.2 _ _ (by omega) (zua.2 _ _ oU)
    refine g_aload_n C dX1_init_67 rfl ?_
    refine g_get (ci := 3) C rfl inTX1 6 (by decide) fl_RX1_27 rfl oV rfl dX1_init_68 ?_
    refine g_iload_n C dX1_init_71 rfl ?_
    refine g_new (ci := 7) C rfl inTX5 tyX5 tyX5_ok kl_RX1_21 ib_RX5 in_RX5 (fs := [.null, iI 0, iI 0]) (by intro j hj; repeat (first | rfl | (cases j; rfl) | (rename_i j; cases j; rfl) | omega)) ⟨by omega, by omega⟩ dX1_init_72 ?_
    refine g_dup C dX1_init_75 rfl ?_
    refine t_nI C hT ((s_X5_new (l := xl X) (w := wpush ub _) (a := ub.1) wpush_s).st) 0 rfl im_yX5_init in_RX5 co_yX5_init rfl hd_X5_init rfl ⟨by omega, by omega⟩ rfl (Nat.le_of_ble_eq_true rfl) ⟨by omega, by omega⟩ dX1_init_76 (fun v76 w76 hp76 => ?_)
    obtain ⟨rfl, hw76⟩ := hp76
    subst w76
    obtain ⟨uc, huc⟩ : ∃ uc, uc = addW ub := ⟨_, rfl⟩
    refine g_eqw (w' := uc) (by rw [huc]; rfl) ?_
    have nuc : uc.1 = ub.1 + 2 := by rw [huc]; rfl
    have zuc : Ex ub uc := by rw [huc]; exact addW_ex fub
    have qc : WS uc ub.1 (ub.1 + 1) := by rw [huc]; exact addW_WS _
    refine g_wf (fun fuc => ?_)
    refine g_aastoreO C 6 7 rfl rfl (k) (zuc.2 _ _ (yub.2 _ _ (by omega) (zua.2 _ _ hR2))) qc.o (by omega) (by omega) dX1_init_79 ?_
    obtain ⟨ud, hud⟩ : ∃ ud, ud = wset uc (w.1 + 4) (true, eR 6 27 (rup R2 k (some ub.1))) := ⟨_, rfl⟩
    refine g_eqw (w' := ud) hud.symm ?_
    have nud : ud.1 = uc.1 := by rw [hud]; rfl
    have yud : ExX uc ud (w.1 + 4) := by rw [hud]; exact ExX.set _ _ _
    have hRd : ud.2 (w.1 + 4) = some (true, eR 6 27 (rup R2 k (some ub.1))) := by rw [hud]; exact wset_s
    have hRd3 : ud.2 (w.1 + 3) = some (true, eR 6 27 (rup R k (some u.1))) := yud.2 _ _ (by omega) (zuc.2 _ _ hRb)
    have lf : ∀ {p r : Nat}, WS u p r → w.1 + 4 < p → w.1 + 4 < r → WS ud p r := fun h h1 h2 => ((((h.exx (zua.exx (w.1 + 3)) (by omega) (by omega)).exx yub (by omega) (by omega)).exx (zuc.exx (w.1 + 3)) (by omega) (by omega)).exx yud (by omega) (by omega))
    have la : WS ud u.1 (u.1 + 1) := ((qa.exx yub (by omega) (by omega)).exx (zuc.exx (w.1 + 3)) (by omega) (by omega)).exx yud (by omega) (by omega)
    have lc : WS ud ub.1 (ub.1 + 1) := qc.exx yud (by omega) (by omega)
    refine g_iinc C dX1_init_80 rfl (by decide) rfl ?_
    refine g_goto (tgt := 48) C dX1_init_83 (by decide) ?_
    rw [show (k : Int) + 1 = ((k + 1 : Nat) : Int) by omega]
    refine g_widen (k' := 5 + 4 * (k + 1)) (n' := 132 + 42 * (k + 1)) (by omega) (by omega) ?_
    exact ih (k + 1, ud, rup R k (some u.1), rup R2 k (some ub.1)) ⟨by dsimp only; omega, by dsimp only; omega, hRd3, hRd, fun j hj => by
      dsimp only at hj ⊢
      by_cases q : j = k
      · subst q
        rw [rup_s, rup_s]
        have e1 : u.1 = w.1 + 5 + 4 * j := hn
        have e2 : ub.1 = w.1 + 7 + 4 * j := by omega
        rw [e1] at la ⊢
        rw [e2] at lc ⊢
        exact ⟨rfl, rfl, by rw [show w.1 + 6 + 4 * j = w.1 + 5 + 4 * j + 1 by omega]; exact la, by rw [show w.1 + 8 + 4 * j = w.1 + 7 + 4 * j + 1 by omega]; exact lc⟩
      · rw [rup_n q, rup_n q]
        obtain ⟨g1, g2, g3, g4⟩ := hW j (by omega)
        exact ⟨g1, g2, lf g3 (by omega) (by omega), lf g4 (by omega) (by omega)⟩, fun q x h3 h4 e => yud.2 _ _ h4 (zuc.2 _ _ (yub.2 _ _ h3 (zua.2 _ _ (hX q x h3 h4 e))))⟩ (by dsimp only; omega)
