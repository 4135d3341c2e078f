set_option maxHeartbeats 4000000 in
set_option maxRecDepth 100000 in
theorem s_X6_init (l : Launch) {K : KC} {E : GE} {w : Wd} {a : Nat} (oB : w.2 a = some (true, eO 8 [.null, .null, .null, .null, .null, .null, .null, .null, .null, .null, iI 0, iI 0, iI 0, iI 0, iI 0])) {τ : Nat → Nat} : St K E l yX6_init cX6_init 2 none 6 (165) (1750) [.ref a] w (fun r' w' => r' = none ∧ w'.1 = w.1 + 165 ∧ CS (taB τ a w.1) (adB a w.1) w' (fun _ => 2) (fun _ => 0) (fun _ => (2, 1, 0)) (fun _ => 5) (fun _ => 0) (fun _ => 0) ∧ ExX w w' a) := by
  refine st_intro [some (.ref a), none] rfl (Nat.le_of_ble_eq_true rfl) pn_X6 ?_
  intro X C hT hRm hl hnm hQ
  obtain ⟨hRf, hRl, hRc, hRs⟩ := hRm
  refine g_wf (fun hwf => ?_)
  have hmw : a < w.1 := hwf a _ oB
  refine g_aload_n C dX6_init_0 rfl ?_
  refine g_objInit C ml_RX6_1 (by omega) (by omega) (Nat.le_of_ble_eq_true rfl) dX6_init_1 ?_
  refine g_aload_n C dX6_init_4 rfl ?_
  refine g_iconst C dX6_init_5 ?_
  refine g_anewO C 3 rfl C.kt.2.2.2.1 kl_RX6_9 (N := 3) rfl (by omega) (by omega) dX6_init_6 ?_
  obtain ⟨u1, hu1⟩ : ∃ u1, u1 = wpush w (true, eR 3 3 (fun _ => none)) := ⟨_, rfl⟩
  refine g_eqw (w' := u1) (by rw [hu1]; first | done | rfl) ?_
  have nu1 : u1.1 = w.1 + 1 := by
    have e0 : w.1 = w.1 + 0 := rfl
    rw [hu1]; show w.1 + 1 = _; omega
  have zu1 : Ex w u1 := by rw [hu1]; exact Ex.push hwf _
  have yu1 : ExX w u1 a := zu1.exx _
  have ou1 := zu1.2 _ _ oB
  have c0 : u1.2 w.1 = some (true, eR 3 3 (fun _ => none)) := by
    have e0 : (wpush w (true, eR 3 3 (fun _ => none))).2 w.1 = some (true, eR 3 3 (fun _ => none)) := wpush_s
    rw [← hu1] at e0
    exact e0
  refine g_wf (fun fu1 => ?_)
  refine g_putF (ci := 8) C rfl inTX6 tyX6 tyX6_ok nmX6 0 (by decide) fl_RX6_11 rfl rfl hnm rfl ou1 (Nat.le_of_ble_eq_true rfl) rfl rfl dX6_init_9 ?_
  obtain ⟨u2, hu2⟩ : ∃ u2, u2 = wset u1 a (true, eO 8 [.ref w.1, .null, .null, .null, .null, .null, .null, .null, .null, .null, iI 0, iI 0, iI 0, iI 0, iI 0]) := ⟨_, rfl⟩
  refine g_eqw (w' := u2) hu2.symm ?_
  have nu2 : u2.1 = w.1 + 1 := by rw [hu2]; exact nu1
  have yu2 : ExX u1 u2 a := by rw [hu2]; exact ExX.set _ _ _
  have ou2 : u2.2 a = some (true, eO 8 [.ref w.1, .null, .null, .null, .null, .null, .null, .null, .null, .null, iI 0, iI 0, iI 0, iI 0, iI 0]) := by rw [hu2]; exact wset_s
  refine g_wf (fun fu2 => ?_)
  refine g_aload_n C dX6_init_12 rfl ?_
  refine g_iconst C dX6_init_13 ?_
  refine g_anewO C 4 rfl C.kt.2.2.2.2.1 kl_RX6_15 (N := 3) rfl (by omega) (by omega) dX6_init_14 ?_
  obtain ⟨u3, hu3⟩ : ∃ u3, u3 = wpush u2 (true, eR 4 3 (fun _ => none)) := ⟨_, rfl⟩
  refine g_eqw (w' := u3) (by rw [hu3]; first | done | rfl) ?_
  have nu3 : u3.1 = w.1 + 2 := by
    have e0 : u2.1 = w.1 + 1 := nu2
    rw [hu3]; show u2.1 + 1 = _; omega
  have zu3 : Ex u2 u3 := by rw [hu3]; exact Ex.push fu2 _
  have yu3 : ExX u2 u3 a := zu3.exx _
  have ou3 := zu3.2 _ _ ou2
  have c1 : u3.2 (w.1 + 1) = some (true, eR 4 3 (fun _ => none)) := by
    have e0 : (wpush u2 (true, eR 4 3 (fun _ => none))).2 u2.1 = some (true, eR 4 3 (fun _ => none)) := wpush_s
    rw [← hu3, nu2] at e0
    exact e0
  refine g_wf (fun fu3 => ?_)
  rw [nu2]
  refine g_putF (ci := 8) C rfl inTX6 tyX6 tyX6_ok nmX6 1 (by decide) fl_RX6_17 rfl rfl hnm rfl ou3 (Nat.le_of_ble_eq_true rfl) rfl rfl dX6_init_17 ?_
  obtain ⟨u4, hu4⟩ : ∃ u4, u4 = wset u3 a (true, eO 8 [.ref w.1, .ref (w.1 + 1), .null, .null, .null, .null, .null, .null, .null, .null, iI 0, iI 0, iI 0, iI 0, iI 0]) := ⟨_, rfl⟩
  refine g_eqw (w' := u4) hu4.symm ?_
  have nu4 : u4.1 = w.1 + 2 := by rw [hu4]; exact nu3
  have yu4 : ExX u3 u4 a := by rw [hu4]; exact ExX.set _ _ _
  have ou4 : u4.2 a = some (true, eO 8 [.ref w.1, .ref (w.1 + 1), .null, .null, .null, .null, .null, .null, .null, .null, iI 0, iI 0, iI 0, iI 0, iI 0]) := by rw [hu4]; exact wset_s
  refine g_wf (fun fu4 => ?_)
  refine g_aload_n C dX6_init_20 rfl ?_
  refine g_iconst C dX6_init_21 ?_
  refine g_anewO C 5 rfl C.kt.2.2.2.2.2.1 kl_RX6_21 (N := 3) rfl (by omega) (by omega) dX6_init_22 ?_
  obtain ⟨u5, hu5⟩ : ∃ u5, u5 = wpush u4 (true, eR 5 3 (fun _ => none)) := ⟨_, rfl⟩
  refine g_eqw (w' := u5) (by rw [hu5]; first | done | rfl) ?_
  have nu5 : u5.1 = w.1 + 3 := by
    have e0 : u4.1 = w.1 + 2 := nu4
    rw [hu5]; show u4.1 + 1 = _; omega
  have zu5 : Ex u4 u5 := by rw [hu5]; exact Ex.push fu4 _
  have yu5 : ExX u4 u5 a := zu5.exx _
  have ou5 := zu5.2 _ _ ou4
  have c2 : u5.2 (w.1 + 2) = some (true, eR 5 3 (fun _ => none)) := by
    have e0 : (wpush u4 (true, eR 5 3 (fun _ => none))).2 u4.1 = some (true, eR 5 3 (fun _ => none)) := wpush_s
    rw [← hu5, nu4] at e0
    exact e0
  refine g_wf (fun fu5 => ?_)
  rw [nu4]
  refine g_putF (ci := 8) C rfl inTX6 tyX6 tyX6_ok nmX6 2 (by decide) fl_RX6_23 rfl rfl hnm rfl ou5 (Nat.le_of_ble_eq_true rfl) rfl rfl dX6_init_25 ?_
  obtain ⟨u6, hu6⟩ : ∃ u6, u6 = wset u5 a (true, eO 8 [.ref w.1, .ref (w.1 + 1), .ref (w.1 + 2), .null, .null, .null, .null, .null, .null, .null, iI 0, iI 0, iI 0, iI 0, iI 0]) := ⟨_, rfl⟩
  refine g_eqw (w' := u6) hu6.symm ?_
  have nu6 : u6.1 = w.1 + 3 := by rw [hu6]; exact nu5
  have yu6 : ExX u5 u6 a := by rw [hu6]; exact ExX.set _ _ _
  have ou6 : u6.2 a = some (true, eO 8 [.ref w.1, .ref (w.1 + 1), .ref (w.1 + 2), .null, .null, .null, .null, .null, .null, .null, iI 0, iI 0, iI 0, iI 0, iI 0]) := by rw [hu6]; exact wset_s
  refine g_wf (fun fu6 => ?_)
  have kst : ∀ q x, q ≠ a → w.2 q = some x → u6.2 q = some x := fun q x h0 e => (yu6.2 _ _ (by assumption) (yu5.2 _ _ (by assumption) (yu4.2 _ _ (by assumption) (yu3.2 _ _ (by assumption) (yu2.2 _ _ (by assumption) (yu1.2 _ _ (by assumption) e))))))
  replace c0 : u6.2 w.1 = some (true, eR 3 3 (fun _ => none)) := (yu6.2 _ _ (by omega) (yu5.2 _ _ (by omega) (yu4.2 _ _ (by omega) (yu3.2 _ _ (by omega) (yu2.2 _ _ (by omega) c0)))))
  replace c1 : u6.2 (w.1 + 1) = some (true, eR 4 3 (fun _ => none)) := (yu6.2 _ _ (by omega) (yu5.2 _ _ (by omega) (yu4.2 _ _ (by omega) c1)))
  replace c2 : u6.2 (w.1 + 2) = some (true, eR 5 3 (fun _ => none)) := (yu6.2 _ _ (by omega) c2)
  have hkeep : ∀ b x, b ≠ a → w.2 b = some x → u6.2 b = some x := fun b x hb e => by
    have hbl := hwf b x e
    exact kst _ _ (by omega) e
  clear kst
  try clear hu6
  try clear zu6
  try clear yu6
  try clear hu5
  try clear zu5
  try clear yu5
  try clear nu5
  try clear fu5
  try clear ou5
  try clear hu4
  try clear zu4
  try clear yu4
  try clear nu4
  try clear fu4
  try clear ou4
  try clear hu3
  try clear zu3
  try clear yu3
  try clear nu3
  try clear fu3
  try clear ou3
  try clear hu2
  try clear zu2
  try clear yu2
  try clear nu2
  try clear fu2
  try clear ou2
  try clear hu1
  try clear zu1
  try clear yu1
  try clear nu1
  try clear fu1
  try clear ou1
  try clear u5
  try clear u4
  try clear u3
  try clear u2
  try clear u1
  refine g_aload_n C dX6_init_28 rfl ?_
  refine g_new (ci := 3) C rfl inTX1 tyX1 tyX1_ok kl_RX6_27 ib_RX1 in_RX1 (fs := [iI 0, iI 0, .null, .null, .null, .null, .null]) (by intro j hj; repeat (first | rfl | (cases j; rfl) | (rename_i j; cases j; rfl) | omega)) (by omega) dX6_init_29 ?_
  obtain ⟨u7, hu7⟩ : ∃ u7, u7 = wpush u6 (true, eO 3 [iI 0, iI 0, .null, .null, .null, .null, .null]) := ⟨_, rfl⟩
  refine g_eqw (w' := u7) (by rw [hu7]; first | done | rfl) ?_
  have nu7 : u7.1 = w.1 + 4 := by
    have e0 : u6.1 = w.1 + 3 := nu6
    rw [hu7]; show u6.1 + 1 = _; omega
  have zu7 : Ex u6 u7 := by rw [hu7]; exact Ex.push fu6 _
  have yu7 : ExX u6 u7 a := zu7.exx _
  have ou7 := zu7.2 _ _ ou6
  have c3 : u7.2 (w.1 + 3) = some (true, eO 3 [iI 0, iI 0, .null, .null, .null, .null, .null]) := by
    have e0 : (wpush u6 (true, eO 3 [iI 0, iI 0, .null, .null, .null, .null, .null])).2 u6.1 = some (true, eO 3 [iI 0, iI 0, .null, .null, .null, .null, .null]) := wpush_s
    rw [← hu7, nu6] at e0
    exact e0
  refine g_wf (fun fu7 => ?_)
  rw [nu6]
  refine g_dup C dX6_init_32 rfl ?_
  refine t_callI C hT (s_X1_init _ (w := u7) (a := w.1 + 3) c3) ml_RX6_29 im_yX1_init in_RX1 co_yX1_init rfl hd_X1_init rfl ⟨by omega, by omega⟩ rfl (Nat.le_of_ble_eq_true rfl) ⟨by omega, by omega⟩ dX6_init_33 (fun v33 w33 hp33 => ?_)
  obtain ⟨rfl, z33, o33, r33a, r33b, r33c, ⟨T1, t33a, t33b⟩, ⟨T2, t33c, t33d⟩, v33, x33⟩ := hp33
  have nw33 : w33.1 = w.1 + 117 := by have g1 := z33; have g2 := nu7; omega
  have yw33 : ExX u7 w33 (w.1 + 3) := by rw [show w.1 + 3 = w.1 + 3 from rfl]; exact x33
  have ow33 := yw33.2 _ _ (by omega) ou7
  refine g_wf (fun fw33 => ?_)
  have c3f : w33.2 (w.1 + 3) = some (true, eO 3 [iI 0, iI 0, .ref (w.1 + 4), .ref (w.1 + 5), .ref (w.1 + 6), .ref (w.1 + 7), .ref (w.1 + 8)]) := by rw [nu7] at o33; exact o33
  have c4 : w33.2 (w.1 + 4) = some (true, eI 26 (fun _ => 0)) := by rw [nu7] at r33a; exact r33a
  have c5 : w33.2 (w.1 + 5) = some (true, eI 26 (fun _ => 0)) := by rw [nu7] at r33b; exact r33b
  have c6 : w33.2 (w.1 + 6) = some (true, eI 26 (fun _ => 0)) := by rw [nu7] at r33c; exact r33c
  have c7 : w33.2 (w.1 + 7) = some (true, eR 6 27 T1) := by rw [nu7] at t33a; exact t33a
  have c8 : w33.2 (w.1 + 8) = some (true, eR 6 27 T2) := by rw [nu7] at t33c; exact t33c
  have p9 : ∀ k, k < 27 → T1 k = some (w.1 + 9 + 4 * k) ∧ T2 k = some (w.1 + 11 + 4 * k) ∧ WS w33 (w.1 + 9 + 4 * k) (w.1 + 10 + 4 * k) ∧ WS w33 (w.1 + 11 + 4 * k) (w.1 + 12 + 4 * k) := fun k hk => by
    have g1 := t33b k hk
    have g2 := t33d k hk
    have g3 := v33 k hk
    rw [nu7] at g1 g2 g3
    exact ⟨g1, g2, g3.1, g3.2⟩
  refine g_putF (ci := 8) C rfl inTX6 tyX6 tyX6_ok nmX6 3 (by decide) fl_RX6_30 rfl rfl hnm rfl ow33 (Nat.le_of_ble_eq_true rfl) rfl rfl dX6_init_36 ?_
  obtain ⟨u8, hu8⟩ : ∃ u8, u8 = wset w33 a (true, eO 8 [.ref w.1, .ref (w.1 + 1), .ref (w.1 + 2), .ref (w.1 + 3), .null, .null, .null, .null, .null, .null, iI 0, iI 0, iI 0, iI 0, iI 0]) := ⟨_, rfl⟩
  refine g_eqw (w' := u8) hu8.symm ?_
  have nu8 : u8.1 = w.1 + 117 := by rw [hu8]; exact nw33
  have yu8 : ExX w33 u8 a := by rw [hu8]; exact ExX.set _ _ _
  have ou8 : u8.2 a = some (true, eO 8 [.ref w.1, .ref (w.1 + 1), .ref (w.1 + 2), .ref (w.1 + 3), .null, .null, .null, .null, .null, .null, iI 0, iI 0, iI 0, iI 0, iI 0]) := by rw [hu8]; exact wset_s
  refine g_wf (fun fu8 => ?_)
  have kst : ∀ q x, q ≠ a → q ≠ w.1 + 3 → u6.2 q = some x → u8.2 q = some x := fun q x h0 h1 e => (yu8.2 _ _ (by assumption) (yw33.2 _ _ (by assumption) (yu7.2 _ _ (by assumption) e)))
  replace c0 : u8.2 w.1 = some (true, eR 3 3 (fun _ => none)) := kst _ _ (by omega) (by omega) c0
  replace c1 : u8.2 (w.1 + 1) = some (true, eR 4 3 (fun _ => none)) := kst _ _ (by omega) (by omega) c1
  replace c2 : u8.2 (w.1 + 2) = some (true, eR 5 3 (fun _ => none)) := kst _ _ (by omega) (by omega) c2
  replace c3f : u8.2 (w.1 + 3) = some (true, eO 3 [iI 0, iI 0, .ref (w.1 + 4), .ref (w.1 + 5), .ref (w.1 + 6), .ref (w.1 + 7), .ref (w.1 + 8)]) := (yu8.2 _ _ (by omega) c3f)
  replace c4 : u8.2 (w.1 + 4) = some (true, eI 26 (fun _ => 0)) := (yu8.2 _ _ (by omega) c4)
  replace c5 : u8.2 (w.1 + 5) = some (true, eI 26 (fun _ => 0)) := (yu8.2 _ _ (by omega) c5)
  replace c6 : u8.2 (w.1 + 6) = some (true, eI 26 (fun _ => 0)) := (yu8.2 _ _ (by omega) c6)
  replace c7 : u8.2 (w.1 + 7) = some (true, eR 6 27 T1) := (yu8.2 _ _ (by omega) c7)
  replace c8 : u8.2 (w.1 + 8) = some (true, eR 6 27 T2) := (yu8.2 _ _ (by omega) c8)
  replace p9 : ∀ k, k < 27 → T1 k = some (w.1 + 9 + 4 * k) ∧ T2 k = some (w.1 + 11 + 4 * k) ∧ WS u8 (w.1 + 9 + 4 * k) (w.1 + 10 + 4 * k) ∧ WS u8 (w.1 + 11 + 4 * k) (w.1 + 12 + 4 * k) := fun k hk => by
    have g := p9 k hk
    exact ⟨g.1, g.2.1, (g.2.2.1.exx yu8 (by first | exact Nat.ne_of_gt (Nat.lt_of_lt_of_le hmw (Nat.le_add_right _ _)) | exact Nat.ne_of_gt hmw | omega) (by first | exact Nat.ne_of_gt (Nat.lt_of_lt_of_le hmw (Nat.le_add_right _ _)) | exact Nat.ne_of_gt hmw | omega)), (g.2.2.2.exx yu8 (by first | exact Nat.ne_of_gt (Nat.lt_of_lt_of_le hmw (Nat.le_add_right _ _)) | exact Nat.ne_of_gt hmw | omega) (by first | exact Nat.ne_of_gt (Nat.lt_of_lt_of_le hmw (Nat.le_add_right _ _)) | exact Nat.ne_of_gt hmw | omega))⟩
  replace hkeep : ∀ b x, b ≠ a → w.2 b = some x → u8.2 b = some x := fun b x hb e => by
    have hbl := hwf b x e
    exact kst _ _ (by omega) (by omega) (hkeep _ _ hb e)
  clear kst
  try clear hu8
  try clear zu8
  try clear yu8
  try clear hw33
  try clear zw33
  try clear yw33
  try clear nw33
  try clear fw33
  try clear ow33
  try clear hu7
  try clear zu7
  try clear yu7
  try clear nu7
  try clear fu7
  try clear ou7
  try clear ou6
  try clear nu6
  try clear fu6
  try clear w33
  try clear u7
  try clear u6
  refine g_aload_n C dX6_init_39 rfl ?_
  refine g_new (ci := 2) C rfl inTX0 tyX0 tyX0_ok kl_RX6_34 ib_RX0 in_RX0 (fs := [.null, .null, .null, .null, .null]) (by intro j hj; repeat (first | rfl | (cases j; rfl) | (rename_i j; cases j; rfl) | omega)) (by omega) dX6_init_40 ?_
  obtain ⟨u9, hu9⟩ : ∃ u9, u9 = wpush u8 (true, eO 2 [.null, .null, .null, .null, .null]) := ⟨_, rfl⟩
  refine g_eqw (w' := u9) (by rw [hu9]; first | done | rfl) ?_
  have nu9 : u9.1 = w.1 + 118 := by
    have e0 : u8.1 = w.1 + 117 := nu8
    rw [hu9]; show u8.1 + 1 = _; omega
  have zu9 : Ex u8 u9 := by rw [hu9]; exact Ex.push fu8 _
  have yu9 : ExX u8 u9 a := zu9.exx _
  have ou9 := zu9.2 _ _ ou8
  have c117 : u9.2 (w.1 + 117) = some (true, eO 2 [.null, .null, .null, .null, .null]) := by
    have e0 : (wpush u8 (true, eO 2 [.null, .null, .null, .null, .null])).2 u8.1 = some (true, eO 2 [.null, .null, .null, .null, .null]) := wpush_s
    rw [← hu9, nu8] at e0
    exact e0
  refine g_wf (fun fu9 => ?_)
  rw [nu8]
  refine g_dup C dX6_init_43 rfl ?_
  refine t_nI C hT (s_X0_init _ (w := u9) (a := w.1 + 117) c117) 1 rfl im_yX0_init in_RX0 co_yX0_init rfl hd_X0_init rfl ⟨by omega, by omega⟩ rfl (Nat.le_of_ble_eq_true rfl) ⟨by omega, by omega⟩ dX6_init_44 (fun v44 w44 hp44 => ?_)
  obtain ⟨rfl, z44, o44, q44a, q44b, q44c, q44d, b44, x44⟩ := hp44
  have nw44 : w44.1 = w.1 + 127 := by have g1 := z44; have g2 := nu9; omega
  have yw44 : ExX u9 w44 (w.1 + 117) := x44
  have ow44 := yw44.2 _ _ (by omega) ou9
  refine g_wf (fun fw44 => ?_)
  have c117f : w44.2 (w.1 + 117) = some (true, eO 2 [.ref (w.1 + 118), .ref (w.1 + 120), .ref (w.1 + 122), .ref (w.1 + 124), .ref (w.1 + 126)]) := by rw [nu9] at o44; exact o44
  have q118 : WS w44 (w.1 + 118) (w.1 + 119) := by rw [nu9] at q44a; exact q44a
  have q120 : WS w44 (w.1 + 120) (w.1 + 121) := by rw [nu9] at q44b; exact q44b
  have q122 : WS w44 (w.1 + 122) (w.1 + 123) := by rw [nu9] at q44c; exact q44c
  have q124 : WS w44 (w.1 + 124) (w.1 + 125) := by rw [nu9] at q44d; exact q44d
  have c126 : w44.2 (w.1 + 126) = some (true, eB 63 (fun _ => 0)) := by rw [nu9] at b44; exact b44
  refine g_putF (ci := 8) C rfl inTX6 tyX6 tyX6_ok nmX6 4 (by decide) fl_RX6_37 rfl rfl hnm rfl ow44 (Nat.le_of_ble_eq_true rfl) rfl rfl dX6_init_47 ?_
  obtain ⟨u10, hu10⟩ : ∃ u10, u10 = wset w44 a (true, eO 8 [.ref w.1, .ref (w.1 + 1), .ref (w.1 + 2), .ref (w.1 + 3), .ref (w.1 + 117), .null, .null, .null, .null, .null, iI 0, iI 0, iI 0, iI 0, iI 0]) := ⟨_, rfl⟩
  refine g_eqw (w' := u10) hu10.symm ?_
  have nu10 : u10.1 = w.1 + 127 := by rw [hu10]; exact nw44
  have yu10 : ExX w44 u10 a := by rw [hu10]; exact ExX.set _ _ _
  have ou10 : u10.2 a = some (true, eO 8 [.ref w.1, .ref (w.1 + 1), .ref (w.1 + 2), .ref (w.1 + 3), .ref (w.1 + 117), .null, .null, .null, .null, .null, iI 0, iI 0, iI 0, iI 0, iI 0]) := by rw [hu10]; exact wset_s
  refine g_wf (fun fu10 => ?_)
  have kst : ∀ q x, q ≠ a → q ≠ w.1 + 117 → u8.2 q = some x → u10.2 q = some x := fun q x h0 h1 e => (yu10.2 _ _ (by assumption) (yw44.2 _ _ (by assumption) (yu9.2 _ _ (by assumption) e)))
  replace c0 : u10.2 w.1 = some (true, eR 3 3 (fun _ => none)) := kst _ _ (by omega) (by omega) c0
  replace c1 : u10.2 (w.1 + 1) = some (true, eR 4 3 (fun _ => none)) := kst _ _ (by omega) (by omega) c1
  replace c2 : u10.2 (w.1 + 2) = some (true, eR 5 3 (fun _ => none)) := kst _ _ (by omega) (by omega) c2
  replace c3f : u10.2 (w.1 + 3) = some (true, eO 3 [iI 0, iI 0, .ref (w.1 + 4), .ref (w.1 + 5), .ref (w.1 + 6), .ref (w.1 + 7), .ref (w.1 + 8)]) := kst _ _ (by omega) (by omega) c3f
  replace c4 : u10.2 (w.1 + 4) = some (true, eI 26 (fun _ => 0)) := kst _ _ (by omega) (by omega) c4
  replace c5 : u10.2 (w.1 + 5) = some (true, eI 26 (fun _ => 0)) := kst _ _ (by omega) (by omega) c5
  replace c6 : u10.2 (w.1 + 6) = some (true, eI 26 (fun _ => 0)) := kst _ _ (by omega) (by omega) c6
  replace c7 : u10.2 (w.1 + 7) = some (true, eR 6 27 T1) := kst _ _ (by omega) (by omega) c7
  replace c8 : u10.2 (w.1 + 8) = some (true, eR 6 27 T2) := kst _ _ (by omega) (by omega) c8
  replace p9 : ∀ k, k < 27 → T1 k = some (w.1 + 9 + 4 * k) ∧ T2 k = some (w.1 + 11 + 4 * k) ∧ WS u10 (w.1 + 9 + 4 * k) (w.1 + 10 + 4 * k) ∧ WS u10 (w.1 + 11 + 4 * k) (w.1 + 12 + 4 * k) := fun k hk => by
    have g := p9 k hk
    exact ⟨g.1, g.2.1, g.2.2.1.kp (fun q x hq e => kst q x (by omega) (by omega) e), g.2.2.2.kp (fun q x hq e => kst q x (by omega) (by omega) e)⟩
  replace c117f : u10.2 (w.1 + 117) = some (true, eO 2 [.ref (w.1 + 118), .ref (w.1 + 120), .ref (w.1 + 122), .ref (w.1 + 124), .ref (w.1 + 126)]) := (yu10.2 _ _ (by omega) c117f)
  replace q118 : WS u10 (w.1 + 118) (w.1 + 119) := (q118.exx yu10 (by first | exact Nat.ne_of_gt (Nat.lt_of_lt_of_le hmw (Nat.le_add_right _ _)) | exact Nat.ne_of_gt hmw | omega) (by first | exact Nat.ne_of_gt (Nat.lt_of_lt_of_le hmw (Nat.le_add_right _ _)) | exact Nat.ne_of_gt hmw | omega))
  replace q120 : WS u10 (w.1 + 120) (w.1 + 121) := (q120.exx yu10 (by first | exact Nat.ne_of_gt (Nat.lt_of_lt_of_le hmw (Nat.le_add_right _ _)) | exact Nat.ne_of_gt hmw | omega) (by first | exact Nat.ne_of_gt (Nat.lt_of_lt_of_le hmw (Nat.le_add_right _ _)) | exact Nat.ne_of_gt hmw | omega))
  replace q122 : WS u10 (w.1 + 122) (w.1 + 123) := (q122.exx yu10 (by first | exact Nat.ne_of_gt (Nat.lt_of_lt_of_le hmw (Nat.le_add_right _ _)) | exact Nat.ne_of_gt hmw | omega) (by first | exact Nat.ne_of_gt (Nat.lt_of_lt_of_le hmw (Nat.le_add_right _ _)) | exact Nat.ne_of_gt hmw | omega))
  replace q124 : WS u10 (w.1 + 124) (w.1 + 125) := (q124.exx yu10 (by first | exact Nat.ne_of_gt (Nat.lt_of_lt_of_le hmw (Nat.le_add_right _ _)) | exact Nat.ne_of_gt hmw | omega) (by first | exact Nat.ne_of_gt (Nat.lt_of_lt_of_le hmw (Nat.le_add_right _ _)) | exact Nat.ne_of_gt hmw | omega))
  replace c126 : u10.2 (w.1 + 126) = some (true, eB 63 (fun _ => 0)) := (yu10.2 _ _ (by omega) c126)
  replace hkeep : ∀ b x, b ≠ a → w.2 b = some x → u10.2 b = some x := fun b x hb e => by
    have hbl := hwf b x e
    exact kst _ _ (by omega) (by omega) (hkeep _ _ hb e)
  clear kst
  try clear hu10
  try clear zu10
  try clear yu10
  try clear hw44
  try clear zw44
  try clear yw44
  try clear nw44
  try clear fw44
  try clear ow44
  try clear hu9
  try clear zu9
  try clear yu9
  try clear nu9
  try clear fu9
  try clear ou9
  try clear ou8
  try clear nu8
  try clear fu8
  try clear w44
  try clear u9
  try clear u8
  refine g_aload_n C dX6_init_50 rfl ?_
  refine g_new (ci := 4) C rfl inTX2 tyX2 tyX2_ok kl_RX6_15 ib_RX2 in_RX2 (fs := [iI 0, .null, .null]) (by intro j hj; repeat (first | rfl | (cases j; rfl) | (rename_i j; cases j; rfl) | omega)) (by omega) dX6_init_51 ?_
  obtain ⟨u11, hu11⟩ : ∃ u11, u11 = wpush u10 (true, eO 4 [iI 0, .null, .null]) := ⟨_, rfl⟩
  refine g_eqw (w' := u11) (by rw [hu11]; first | done | rfl) ?_
  have nu11 : u11.1 = w.1 + 128 := by
    have e0 : u10.1 = w.1 + 127 := nu10
    rw [hu11]; show u10.1 + 1 = _; omega
  have zu11 : Ex u10 u11 := by rw [hu11]; exact Ex.push fu10 _
  have yu11 : ExX u10 u11 a := zu11.exx _
  have ou11 := zu11.2 _ _ ou10
  have c127 : u11.2 (w.1 + 127) = some (true, eO 4 [iI 0, .null, .null]) := by
    have e0 : (wpush u10 (true, eO 4 [iI 0, .null, .null])).2 u10.1 = some (true, eO 4 [iI 0, .null, .null]) := wpush_s
    rw [← hu11, nu10] at e0
    exact e0
  refine g_wf (fun fu11 => ?_)
  rw [nu10]
  refine g_dup C dX6_init_54 rfl ?_
  refine t_callI C hT (s_X2_init _ (w := u11) (a := w.1 + 127) c127) ml_RX6_41 im_yX2_init in_RX2 co_yX2_init rfl hd_X2_init rfl ⟨by omega, by omega⟩ rfl (Nat.le_of_ble_eq_true rfl) ⟨by omega, by omega⟩ dX6_init_55 (fun v55 w55 hp55 => ?_)
  obtain ⟨rfl, z55, o55, q55a, q55b, x55⟩ := hp55
  have nw55 : w55.1 = w.1 + 132 := by have g1 := z55; have g2 := nu11; omega
  have yw55 : ExX u11 w55 (w.1 + 127) := x55
  have ow55 := yw55.2 _ _ (by omega) ou11
  refine g_wf (fun fw55 => ?_)
  have c127f : w55.2 (w.1 + 127) = some (true, eO 4 [iI 2, .ref (w.1 + 128), .ref (w.1 + 130)]) := by rw [nu11] at o55; exact o55
  have q128 : WA w55 (w.1 + 128) (w.1 + 129) 1 := by rw [nu11] at q55a; exact q55a
  have q130 : WA w55 (w.1 + 130) (w.1 + 131) 0 := by rw [nu11] at q55b; exact q55b
  refine g_putF (ci := 8) C rfl inTX6 tyX6 tyX6_ok nmX6 5 (by decide) fl_RX6_42 rfl rfl hnm rfl ow55 (Nat.le_of_ble_eq_true rfl) rfl rfl dX6_init_58 ?_
  obtain ⟨u12, hu12⟩ : ∃ u12, u12 = wset w55 a (true, eO 8 [.ref w.1, .ref (w.1 + 1), .ref (w.1 + 2), .ref (w.1 + 3), .ref (w.1 + 117), .ref (w.1 + 127), .null, .null, .null, .null, iI 0, iI 0, iI 0, iI 0, iI 0]) := ⟨_, rfl⟩
  refine g_eqw (w' := u12) hu12.symm ?_
  have nu12 : u12.1 = w.1 + 132 := by rw [hu12]; exact nw55
  have yu12 : ExX w55 u12 a := by rw [hu12]; exact ExX.set _ _ _
  have ou12 : u12.2 a = some (true, eO 8 [.ref w.1, .ref (w.1 + 1), .ref (w.1 + 2), .ref (w.1 + 3), .ref (w.1 + 117), .ref (w.1 + 127), .null, .null, .null, .null, iI 0, iI 0, iI 0, iI 0, iI 0]) := by rw [hu12]; exact wset_s
  refine g_wf (fun fu12 => ?_)
  have kst : ∀ q x, q ≠ a → q ≠ w.1 + 127 → u10.2 q = some x → u12.2 q = some x := fun q x h0 h1 e => (yu12.2 _ _ (by assumption) (yw55.2 _ _ (by assumption) (yu11.2 _ _ (by assumption) e)))
  replace c0 : u12.2 w.1 = some (true, eR 3 3 (fun _ => none)) := kst _ _ (by omega) (by omega) c0
  replace c1 : u12.2 (w.1 + 1) = some (true, eR 4 3 (fun _ => none)) := kst _ _ (by omega) (by omega) c1
  replace c2 : u12.2 (w.1 + 2) = some (true, eR 5 3 (fun _ => none)) := kst _ _ (by omega) (by omega) c2
  replace c3f : u12.2 (w.1 + 3) = some (true, eO 3 [iI 0, iI 0, .ref (w.1 + 4), .ref (w.1 + 5), .ref (w.1 + 6), .ref (w.1 + 7), .ref (w.1 + 8)]) := kst _ _ (by omega) (by omega) c3f
  replace c4 : u12.2 (w.1 + 4) = some (true, eI 26 (fun _ => 0)) := kst _ _ (by omega) (by omega) c4
  replace c5 : u12.2 (w.1 + 5) = some (true, eI 26 (fun _ => 0)) := kst _ _ (by omega) (by omega) c5
  replace c6 : u12.2 (w.1 + 6) = some (true, eI 26 (fun _ => 0)) := kst _ _ (by omega) (by omega) c6
  replace c7 : u12.2 (w.1 + 7) = some (true, eR 6 27 T1) := kst _ _ (by omega) (by omega) c7
  replace c8 : u12.2 (w.1 + 8) = some (true, eR 6 27 T2) := kst _ _ (by omega) (by omega) c8
  replace p9 : ∀ k, k < 27 → T1 k = some (w.1 + 9 + 4 * k) ∧ T2 k = some (w.1 + 11 + 4 * k) ∧ WS u12 (w.1 + 9 + 4 * k) (w.1 + 10 + 4 * k) ∧ WS u12 (w.1 + 11 + 4 * k) (w.1 + 12 + 4 * k) := fun k hk => by
    have g := p9 k hk
    exact ⟨g.1, g.2.1, g.2.2.1.kp (fun q x hq e => kst q x (by omega) (by omega) e), g.2.2.2.kp (fun q x hq e => kst q x (by omega) (by omega) e)⟩
  replace c117f : u12.2 (w.1 + 117) = some (true, eO 2 [.ref (w.1 + 118), .ref (w.1 + 120), .ref (w.1 + 122), .ref (w.1 + 124), .ref (w.1 + 126)]) := kst _ _ (by omega) (by omega) c117f
  replace q118 : WS u12 (w.1 + 118) (w.1 + 119) := q118.kp (fun q x hq e => kst q x (by omega) (by omega) e)
  replace q120 : WS u12 (w.1 + 120) (w.1 + 121) := q120.kp (fun q x hq e => kst q x (by omega) (by omega) e)
  replace q122 : WS u12 (w.1 + 122) (w.1 + 123) := q122.kp (fun q x hq e => kst q x (by omega) (by omega) e)
  replace q124 : WS u12 (w.1 + 124) (w.1 + 125) := q124.kp (fun q x hq e => kst q x (by omega) (by omega) e)
  replace c126 : u12.2 (w.1 + 126) = some (true, eB 63 (fun _ => 0)) := kst _ _ (by omega) (by omega) c126
  replace c127f : u12.2 (w.1 + 127) = some (true, eO 4 [iI 2, .ref (w.1 + 128), .ref (w.1 + 130)]) := (yu12.2 _ _ (by omega) c127f)
  replace q128 : WA u12 (w.1 + 128) (w.1 + 129) 1 := (q128.exx yu12 (by first | exact Nat.ne_of_gt (Nat.lt_of_lt_of_le hmw (Nat.le_add_right _ _)) | exact Nat.ne_of_gt hmw | omega) (by first | exact Nat.ne_of_gt (Nat.lt_of_lt_of_le hmw (Nat.le_add_right _ _)) | exact Nat.ne_of_gt hmw | omega))
  replace q130 : WA u12 (w.1 + 130) (w.1 + 131) 0 := (q130.exx yu12 (by first | exact Nat.ne_of_gt (Nat.lt_of_lt_of_le hmw (Nat.le_add_right _ _)) | exact Nat.ne_of_gt hmw | omega) (by first | exact Nat.ne_of_gt (Nat.lt_of_lt_of_le hmw (Nat.le_add_right _ _)) | exact Nat.ne_of_gt hmw | omega))
  replace hkeep : ∀ b x, b ≠ a → w.2 b = some x → u12.2 b = some x := fun b x hb e => by
    have hbl := hwf b x e
    exact kst _ _ (by omega) (by omega) (hkeep _ _ hb e)
  clear kst
  try clear hu12
  try clear zu12
  try clear yu12
  try clear hw55
  try clear zw55
  try clear yw55
  try clear nw55
  try clear fw55
  try clear ow55
  try clear hu11
  try clear zu11
  try clear yu11
  try clear nu11
  try clear fu11
  try clear ou11
  try clear ou10
  try clear nu10
  try clear fu10
  try clear w55
  try clear u11
  try clear u10
  refine g_aload_n C dX6_init_61 rfl ?_
  refine g_new (ci := 4) C rfl inTX2 tyX2 tyX2_ok kl_RX6_15 ib_RX2 in_RX2 (fs := [iI 0, .null, .null]) (by intro j hj; repeat (first | rfl | (cases j; rfl) | (rename_i j; cases j; rfl) | omega)) (by omega) dX6_init_62 ?_
  obtain ⟨u13, hu13⟩ : ∃ u13, u13 = wpush u12 (true, eO 4 [iI 0, .null, .null]) := ⟨_, rfl⟩
  refine g_eqw (w' := u13) (by rw [hu13]; first | done | rfl) ?_
  have nu13 : u13.1 = w.1 + 133 := by
    have e0 : u12.1 = w.1 + 132 := nu12
    rw [hu13]; show u12.1 + 1 = _; omega
  have zu13 : Ex u12 u13 := by rw [hu13]; exact Ex.push fu12 _
  have yu13 : ExX u12 u13 a := zu13.exx _
  have ou13 := zu13.2 _ _ ou12
  have c132 : u13.2 (w.1 + 132) = some (true, eO 4 [iI 0, .null, .null]) := by
    have e0 : (wpush u12 (true, eO 4 [iI 0, .null, .null])).2 u12.1 = some (true, eO 4 [iI 0, .null, .null]) := wpush_s
    rw [← hu13, nu12] at e0
    exact e0
  refine g_wf (fun fu13 => ?_)
  rw [nu12]
  refine g_dup C dX6_init_65 rfl ?_
  refine t_callI C hT (s_X2_init _ (w := u13) (a := w.1 + 132) c132) ml_RX6_41 im_yX2_init in_RX2 co_yX2_init rfl hd_X2_init rfl ⟨by omega, by omega⟩ rfl (Nat.le_of_ble_eq_true rfl) ⟨by omega, by omega⟩ dX6_init_66 (fun v66 w66 hp66 => ?_)
  obtain ⟨rfl, z66, o66, q66a, q66b, x66⟩ := hp66
  have nw66 : w66.1 = w.1 + 137 := by have g1 := z66; have g2 := nu13; omega
  have yw66 : ExX u13 w66 (w.1 + 132) := x66
  have ow66 := yw66.2 _ _ (by omega) ou13
  refine g_wf (fun fw66 => ?_)
  have c132f : w66.2 (w.1 + 132) = some (true, eO 4 [iI 2, .ref (w.1 + 133), .ref (w.1 + 135)]) := by rw [nu13] at o66; exact o66
  have q133 : WA w66 (w.1 + 133) (w.1 + 134) 1 := by rw [nu13] at q66a; exact q66a
  have q135 : WA w66 (w.1 + 135) (w.1 + 136) 0 := by rw [nu13] at q66b; exact q66b
  refine g_putF (ci := 8) C rfl inTX6 tyX6 tyX6_ok nmX6 6 (by decide) fl_RX6_46 rfl rfl hnm rfl ow66 (Nat.le_of_ble_eq_true rfl) rfl rfl dX6_init_69 ?_
  obtain ⟨u14, hu14⟩ : ∃ u14, u14 = wset w66 a (true, eO 8 [.ref w.1, .ref (w.1 + 1), .ref (w.1 + 2), .ref (w.1 + 3), .ref (w.1 + 117), .ref (w.1 + 127), .ref (w.1 + 132), .null, .null, .null, iI 0, iI 0, iI 0, iI 0, iI 0]) := ⟨_, rfl⟩
  refine g_eqw (w' := u14) hu14.symm ?_
  have nu14 : u14.1 = w.1 + 137 := by rw [hu14]; exact nw66
  have yu14 : ExX w66 u14 a := by rw [hu14]; exact ExX.set _ _ _
  have ou14 : u14.2 a = some (true, eO 8 [.ref w.1, .ref (w.1 + 1), .ref (w.1 + 2), .ref (w.1 + 3), .ref (w.1 + 117), .ref (w.1 + 127), .ref (w.1 + 132), .null, .null, .null, iI 0, iI 0, iI 0, iI 0, iI 0]) := by rw [hu14]; exact wset_s
  refine g_wf (fun fu14 => ?_)
  have kst : ∀ q x, q ≠ a → q ≠ w.1 + 132 → u12.2 q = some x → u14.2 q = some x := fun q x h0 h1 e => (yu14.2 _ _ (by assumption) (yw66.2 _ _ (by assumption) (yu13.2 _ _ (by assumption) e)))
  replace c0 : u14.2 w.1 = some (true, eR 3 3 (fun _ => none)) := kst _ _ (by omega) (by omega) c0
  replace c1 : u14.2 (w.1 + 1) = some (true, eR 4 3 (fun _ => none)) := kst _ _ (by omega) (by omega) c1
  replace c2 : u14.2 (w.1 + 2) = some (true, eR 5 3 (fun _ => none)) := kst _ _ (by omega) (by omega) c2
  replace c3f : u14.2 (w.1 + 3) = some (true, eO 3 [iI 0, iI 0, .ref (w.1 + 4), .ref (w.1 + 5), .ref (w.1 + 6), .ref (w.1 + 7), .ref (w.1 + 8)]) := kst _ _ (by omega) (by omega) c3f
  replace c4 : u14.2 (w.1 + 4) = some (true, eI 26 (fun _ => 0)) := kst _ _ (by omega) (by omega) c4
  replace c5 : u14.2 (w.1 + 5) = some (true, eI 26 (fun _ => 0)) := kst _ _ (by omega) (by omega) c5
  replace c6 : u14.2 (w.1 + 6) = some (true, eI 26 (fun _ => 0)) := kst _ _ (by omega) (by omega) c6
  replace c7 : u14.2 (w.1 + 7) = some (true, eR 6 27 T1) := kst _ _ (by omega) (by omega) c7
  replace c8 : u14.2 (w.1 + 8) = some (true, eR 6 27 T2) := kst _ _ (by omega) (by omega) c8
  replace p9 : ∀ k, k < 27 → T1 k = some (w.1 + 9 + 4 * k) ∧ T2 k = some (w.1 + 11 + 4 * k) ∧ WS u14 (w.1 + 9 + 4 * k) (w.1 + 10 + 4 * k) ∧ WS u14 (w.1 + 11 + 4 * k) (w.1 + 12 + 4 * k) := fun k hk => by
    have g := p9 k hk
    exact ⟨g.1, g.2.1, g.2.2.1.kp (fun q x hq e => kst q x (by omega) (by omega) e), g.2.2.2.kp (fun q x hq e => kst q x (by omega) (by omega) e)⟩
  replace c117f : u14.2 (w.1 + 117) = some (true, eO 2 [.ref (w.1 + 118), .ref (w.1 + 120), .ref (w.1 + 122), .ref (w.1 + 124), .ref (w.1 + 126)]) := kst _ _ (by omega) (by omega) c117f
  replace q118 : WS u14 (w.1 + 118) (w.1 + 119) := q118.kp (fun q x hq e => kst q x (by omega) (by omega) e)
  replace q120 : WS u14 (w.1 + 120) (w.1 + 121) := q120.kp (fun q x hq e => kst q x (by omega) (by omega) e)
  replace q122 : WS u14 (w.1 + 122) (w.1 + 123) := q122.kp (fun q x hq e => kst q x (by omega) (by omega) e)
  replace q124 : WS u14 (w.1 + 124) (w.1 + 125) := q124.kp (fun q x hq e => kst q x (by omega) (by omega) e)
  replace c126 : u14.2 (w.1 + 126) = some (true, eB 63 (fun _ => 0)) := kst _ _ (by omega) (by omega) c126
  replace c127f : u14.2 (w.1 + 127) = some (true, eO 4 [iI 2, .ref (w.1 + 128), .ref (w.1 + 130)]) := kst _ _ (by omega) (by omega) c127f
  replace q128 : WA u14 (w.1 + 128) (w.1 + 129) 1 := q128.kp (fun q x hq e => kst q x (by omega) (by omega) e)
  replace q130 : WA u14 (w.1 + 130) (w.1 + 131) 0 := q130.kp (fun q x hq e => kst q x (by omega) (by omega) e)
  replace c132f : u14.2 (w.1 + 132) = some (true, eO 4 [iI 2, .ref (w.1 + 133), .ref (w.1 + 135)]) := (yu14.2 _ _ (by omega) c132f)
  replace q133 : WA u14 (w.1 + 133) (w.1 + 134) 1 := (q133.exx yu14 (by first | exact Nat.ne_of_gt (Nat.lt_of_lt_of_le hmw (Nat.le_add_right _ _)) | exact Nat.ne_of_gt hmw | omega) (by first | exact Nat.ne_of_gt (Nat.lt_of_lt_of_le hmw (Nat.le_add_right _ _)) | exact Nat.ne_of_gt hmw | omega))
  replace q135 : WA u14 (w.1 + 135) (w.1 + 136) 0 := (q135.exx yu14 (by first | exact Nat.ne_of_gt (Nat.lt_of_lt_of_le hmw (Nat.le_add_right _ _)) | exact Nat.ne_of_gt hmw | omega) (by first | exact Nat.ne_of_gt (Nat.lt_of_lt_of_le hmw (Nat.le_add_right _ _)) | exact Nat.ne_of_gt hmw | omega))
  replace hkeep : ∀ b x, b ≠ a → w.2 b = some x → u14.2 b = some x := fun b x hb e => by
    have hbl := hwf b x e
    exact kst _ _ (by omega) (by omega) (hkeep _ _ hb e)
  clear kst
  try clear hu14
  try clear zu14
  try clear yu14
  try clear hw66
  try clear zw66
  try clear yw66
  try clear nw66
  try clear fw66
  try clear ow66
  try clear hu13
  try clear zu13
  try clear yu13
  try clear nu13
  try clear fu13
  try clear ou13
  try clear ou12
  try clear nu12
  try clear fu12
  try clear w66
  try clear u13
  try clear u12
  refine g_aload_n C dX6_init_72 rfl ?_
  refine g_new (ci := 4) C rfl inTX2 tyX2 tyX2_ok kl_RX6_15 ib_RX2 in_RX2 (fs := [iI 0, .null, .null]) (by intro j hj; repeat (first | rfl | (cases j; rfl) | (rename_i j; cases j; rfl) | omega)) (by omega) dX6_init_73 ?_
  obtain ⟨u15, hu15⟩ : ∃ u15, u15 = wpush u14 (true, eO 4 [iI 0, .null, .null]) := ⟨_, rfl⟩
  refine g_eqw (w' := u15) (by rw [hu15]; first | done | rfl) ?_
  have nu15 : u15.1 = w.1 + 138 := by
    have e0 : u14.1 = w.1 + 137 := nu14
    rw [hu15]; show u14.1 + 1 = _; omega
  have zu15 : Ex u14 u15 := by rw [hu15]; exact Ex.push fu14 _
  have yu15 : ExX u14 u15 a := zu15.exx _
  have ou15 := zu15.2 _ _ ou14
  have c137 : u15.2 (w.1 + 137) = some (true, eO 4 [iI 0, .null, .null]) := by
    have e0 : (wpush u14 (true, eO 4 [iI 0, .null, .null])).2 u14.1 = some (true, eO 4 [iI 0, .null, .null]) := wpush_s
    rw [← hu15, nu14] at e0
    exact e0
  refine g_wf (fun fu15 => ?_)
  rw [nu14]
  refine g_dup C dX6_init_76 rfl ?_
  refine t_callI C hT (s_X2_init _ (w := u15) (a := w.1 + 137) c137) ml_RX6_41 im_yX2_init in_RX2 co_yX2_init rfl hd_X2_init rfl ⟨by omega, by omega⟩ rfl (Nat.le_of_ble_eq_true rfl) ⟨by omega, by omega⟩ dX6_init_77 (fun v77 w77 hp77 => ?_)
  obtain ⟨rfl, z77, o77, q77a, q77b, x77⟩ := hp77
  have nw77 : w77.1 = w.1 + 142 := by have g1 := z77; have g2 := nu15; omega
  have yw77 : ExX u15 w77 (w.1 + 137) := x77
  have ow77 := yw77.2 _ _ (by omega) ou15
  refine g_wf (fun fw77 => ?_)
  have c137f : w77.2 (w.1 + 137) = some (true, eO 4 [iI 2, .ref (w.1 + 138), .ref (w.1 + 140)]) := by rw [nu15] at o77; exact o77
  have q138 : WA w77 (w.1 + 138) (w.1 + 139) 1 := by rw [nu15] at q77a; exact q77a
  have q140 : WA w77 (w.1 + 140) (w.1 + 141) 0 := by rw [nu15] at q77b; exact q77b
  refine g_putF (ci := 8) C rfl inTX6 tyX6 tyX6_ok nmX6 7 (by decide) fl_RX6_49 rfl rfl hnm rfl ow77 (Nat.le_of_ble_eq_true rfl) rfl rfl dX6_init_80 ?_
  obtain ⟨u16, hu16⟩ : ∃ u16, u16 = wset w77 a (true, eO 8 [.ref w.1, .ref (w.1 + 1), .ref (w.1 + 2), .ref (w.1 + 3), .ref (w.1 + 117), .ref (w.1 + 127), .ref (w.1 + 132), .ref (w.1 + 137), .null, .null, iI 0, iI 0, iI 0, iI 0, iI 0]) := ⟨_, rfl⟩
  refine g_eqw (w' := u16) hu16.symm ?_
  have nu16 : u16.1 = w.1 + 142 := by rw [hu16]; exact nw77
  have yu16 : ExX w77 u16 a := by rw [hu16]; exact ExX.set _ _ _
  have ou16 : u16.2 a = some (true, eO 8 [.ref w.1, .ref (w.1 + 1), .ref (w.1 + 2), .ref (w.1 + 3), .ref (w.1 + 117), .ref (w.1 + 127), .ref (w.1 + 132), .ref (w.1 + 137), .null, .null, iI 0, iI 0, iI 0, iI 0, iI 0]) := by rw [hu16]; exact wset_s
  refine g_wf (fun fu16 => ?_)
  have kst : ∀ q x, q ≠ a → q ≠ w.1 + 137 → u14.2 q = some x → u16.2 q = some x := fun q x h0 h1 e => (yu16.2 _ _ (by assumption) (yw77.2 _ _ (by assumption) (yu15.2 _ _ (by assumption) e)))
  replace c0 : u16.2 w.1 = some (true, eR 3 3 (fun _ => none)) := kst _ _ (by omega) (by omega) c0
  replace c1 : u16.2 (w.1 + 1) = some (true, eR 4 3 (fun _ => none)) := kst _ _ (by omega) (by omega) c1
  replace c2 : u16.2 (w.1 + 2) = some (true, eR 5 3 (fun _ => none)) := kst _ _ (by omega) (by omega) c2
  replace c3f : u16.2 (w.1 + 3) = some (true, eO 3 [iI 0, iI 0, .ref (w.1 + 4), .ref (w.1 + 5), .ref (w.1 + 6), .ref (w.1 + 7), .ref (w.1 + 8)]) := kst _ _ (by omega) (by omega) c3f
  replace c4 : u16.2 (w.1 + 4) = some (true, eI 26 (fun _ => 0)) := kst _ _ (by omega) (by omega) c4
  replace c5 : u16.2 (w.1 + 5) = some (true, eI 26 (fun _ => 0)) := kst _ _ (by omega) (by omega) c5
  replace c6 : u16.2 (w.1 + 6) = some (true, eI 26 (fun _ => 0)) := kst _ _ (by omega) (by omega) c6
  replace c7 : u16.2 (w.1 + 7) = some (true, eR 6 27 T1) := kst _ _ (by omega) (by omega) c7
  replace c8 : u16.2 (w.1 + 8) = some (true, eR 6 27 T2) := kst _ _ (by omega) (by omega) c8
  replace p9 : ∀ k, k < 27 → T1 k = some (w.1 + 9 + 4 * k) ∧ T2 k = some (w.1 + 11 + 4 * k) ∧ WS u16 (w.1 + 9 + 4 * k) (w.1 + 10 + 4 * k) ∧ WS u16 (w.1 + 11 + 4 * k) (w.1 + 12 + 4 * k) := fun k hk => by
    have g := p9 k hk
    exact ⟨g.1, g.2.1, g.2.2.1.kp (fun q x hq e => kst q x (by omega) (by omega) e), g.2.2.2.kp (fun q x hq e => kst q x (by omega) (by omega) e)⟩
  replace c117f : u16.2 (w.1 + 117) = some (true, eO 2 [.ref (w.1 + 118), .ref (w.1 + 120), .ref (w.1 + 122), .ref (w.1 + 124), .ref (w.1 + 126)]) := kst _ _ (by omega) (by omega) c117f
  replace q118 : WS u16 (w.1 + 118) (w.1 + 119) := q118.kp (fun q x hq e => kst q x (by omega) (by omega) e)
  replace q120 : WS u16 (w.1 + 120) (w.1 + 121) := q120.kp (fun q x hq e => kst q x (by omega) (by omega) e)
  replace q122 : WS u16 (w.1 + 122) (w.1 + 123) := q122.kp (fun q x hq e => kst q x (by omega) (by omega) e)
  replace q124 : WS u16 (w.1 + 124) (w.1 + 125) := q124.kp (fun q x hq e => kst q x (by omega) (by omega) e)
  replace c126 : u16.2 (w.1 + 126) = some (true, eB 63 (fun _ => 0)) := kst _ _ (by omega) (by omega) c126
  replace c127f : u16.2 (w.1 + 127) = some (true, eO 4 [iI 2, .ref (w.1 + 128), .ref (w.1 + 130)]) := kst _ _ (by omega) (by omega) c127f
  replace q128 : WA u16 (w.1 + 128) (w.1 + 129) 1 := q128.kp (fun q x hq e => kst q x (by omega) (by omega) e)
  replace q130 : WA u16 (w.1 + 130) (w.1 + 131) 0 := q130.kp (fun q x hq e => kst q x (by omega) (by omega) e)
  replace c132f : u16.2 (w.1 + 132) = some (true, eO 4 [iI 2, .ref (w.1 + 133), .ref (w.1 + 135)]) := kst _ _ (by omega) (by omega) c132f
  replace q133 : WA u16 (w.1 + 133) (w.1 + 134) 1 := q133.kp (fun q x hq e => kst q x (by omega) (by omega) e)
  replace q135 : WA u16 (w.1 + 135) (w.1 + 136) 0 := q135.kp (fun q x hq e => kst q x (by omega) (by omega) e)
  replace c137f : u16.2 (w.1 + 137) = some (true, eO 4 [iI 2, .ref (w.1 + 138), .ref (w.1 + 140)]) := (yu16.2 _ _ (by omega) c137f)
  replace q138 : WA u16 (w.1 + 138) (w.1 + 139) 1 := (q138.exx yu16 (by first | exact Nat.ne_of_gt (Nat.lt_of_lt_of_le hmw (Nat.le_add_right _ _)) | exact Nat.ne_of_gt hmw | omega) (by first | exact Nat.ne_of_gt (Nat.lt_of_lt_of_le hmw (Nat.le_add_right _ _)) | exact Nat.ne_of_gt hmw | omega))
  replace q140 : WA u16 (w.1 + 140) (w.1 + 141) 0 := (q140.exx yu16 (by first | exact Nat.ne_of_gt (Nat.lt_of_lt_of_le hmw (Nat.le_add_right _ _)) | exact Nat.ne_of_gt hmw | omega) (by first | exact Nat.ne_of_gt (Nat.lt_of_lt_of_le hmw (Nat.le_add_right _ _)) | exact Nat.ne_of_gt hmw | omega))
  replace hkeep : ∀ b x, b ≠ a → w.2 b = some x → u16.2 b = some x := fun b x hb e => by
    have hbl := hwf b x e
    exact kst _ _ (by omega) (by omega) (hkeep _ _ hb e)
  clear kst
  try clear hu16
  try clear zu16
  try clear yu16
  try clear hw77
  try clear zw77
  try clear yw77
  try clear nw77
  try clear fw77
  try clear ow77
  try clear hu15
  try clear zu15
  try clear yu15
  try clear nu15
  try clear fu15
  try clear ou15
  try clear ou14
  try clear nu14
  try clear fu14
  try clear w77
  try clear u15
  try clear u14
  refine g_aload_n C dX6_init_83 rfl ?_
  refine g_new (ci := 5) C rfl inTX3 tyX3 tyX3_ok kl_RX6_21 ib_RX3 in_RX3 (fs := [iI 0, iI 0, iI 0, iI 0, iI 0, iI 0, iI 0, iI 0]) (by intro j hj; repeat (first | rfl | (cases j; rfl) | (rename_i j; cases j; rfl) | omega)) (by omega) dX6_init_84 ?_
  obtain ⟨u17, hu17⟩ : ∃ u17, u17 = wpush u16 (true, eO 5 [iI 0, iI 0, iI 0, iI 0, iI 0, iI 0, iI 0, iI 0]) := ⟨_, rfl⟩
  refine g_eqw (w' := u17) (by rw [hu17]; first | done | rfl) ?_
  have nu17 : u17.1 = w.1 + 143 := by
    have e0 : u16.1 = w.1 + 142 := nu16
    rw [hu17]; show u16.1 + 1 = _; omega
  have zu17 : Ex u16 u17 := by rw [hu17]; exact Ex.push fu16 _
  have yu17 : ExX u16 u17 a := zu17.exx _
  have ou17 := zu17.2 _ _ ou16
  have c142 : u17.2 (w.1 + 142) = some (true, eO 5 [iI 0, iI 0, iI 0, iI 0, iI 0, iI 0, iI 0, iI 0]) := by
    have e0 : (wpush u16 (true, eO 5 [iI 0, iI 0, iI 0, iI 0, iI 0, iI 0, iI 0, iI 0])).2 u16.1 = some (true, eO 5 [iI 0, iI 0, iI 0, iI 0, iI 0, iI 0, iI 0, iI 0]) := wpush_s
    rw [← hu17, nu16] at e0
    exact e0
  refine g_wf (fun fu17 => ?_)
  rw [nu16]
  refine g_dup C dX6_init_87 rfl ?_
  refine t_callI C hT (s_X3_init _ (w := u17) (a := w.1 + 142) c142) ml_RX6_52 im_yX3_init in_RX3 co_yX3_init rfl hd_X3_init rfl ⟨by omega, by omega⟩ rfl (Nat.le_of_ble_eq_true rfl) ⟨by omega, by omega⟩ dX6_init_88 (fun v88 w88 hp88 => ?_)
  obtain ⟨rfl, hz88⟩ := hp88
  have nw88 : w88.1 = w.1 + 143 := by have g1 := (show w88.1 = u17.1 from by rw [hz88]; rfl); have g2 := nu17; omega
  have yw88 : ExX u17 w88 (w.1 + 142) := (by rw [hz88]; exact ExX.set _ _ _)
  have ow88 := yw88.2 _ _ (by omega) ou17
  refine g_wf (fun fw88 => ?_)
  have c142f : w88.2 (w.1 + 142) = some (true, oS 5 0) := by rw [hz88]; exact wset_s
  refine g_putF (ci := 8) C rfl inTX6 tyX6 tyX6_ok nmX6 8 (by decide) fl_RX6_53 rfl rfl hnm rfl ow88 (Nat.le_of_ble_eq_true rfl) rfl rfl dX6_init_91 ?_
  obtain ⟨u18, hu18⟩ : ∃ u18, u18 = wset w88 a (true, eO 8 [.ref w.1, .ref (w.1 + 1), .ref (w.1 + 2), .ref (w.1 + 3), .ref (w.1 + 117), .ref (w.1 + 127), .ref (w.1 + 132), .ref (w.1 + 137), .ref (w.1 + 142), .null, iI 0, iI 0, iI 0, iI 0, iI 0]) := ⟨_, rfl⟩
  refine g_eqw (w' := u18) hu18.symm ?_
  have nu18 : u18.1 = w.1 + 143 := by rw [hu18]; exact nw88
  have yu18 : ExX w88 u18 a := by rw [hu18]; exact ExX.set _ _ _
  have ou18 : u18.2 a = some (true, eO 8 [.ref w.1, .ref (w.1 + 1), .ref (w.1 + 2), .ref (w.1 + 3), .ref (w.1 + 117), .ref (w.1 + 127), .ref (w.1 + 132), .ref (w.1 + 137), .ref (w.1 + 142), .null, iI 0, iI 0, iI 0, iI 0, iI 0]) := by rw [hu18]; exact wset_s
  refine g_wf (fun fu18 => ?_)
  have kst : ∀ q x, q ≠ a → q ≠ w.1 + 142 → u16.2 q = some x → u18.2 q = some x := fun q x h0 h1 e => (yu18.2 _ _ (by assumption) (yw88.2 _ _ (by assumption) (yu17.2 _ _ (by assumption) e)))
  replace c0 : u18.2 w.1 = some (true, eR 3 3 (fun _ => none)) := kst _ _ (by omega) (by omega) c0
  replace c1 : u18.2 (w.1 + 1) = some (true, eR 4 3 (fun _ => none)) := kst _ _ (by omega) (by omega) c1
  replace c2 : u18.2 (w.1 + 2) = some (true, eR 5 3 (fun _ => none)) := kst _ _ (by omega) (by omega) c2
  replace c3f : u18.2 (w.1 + 3) = some (true, eO 3 [iI 0, iI 0, .ref (w.1 + 4), .ref (w.1 + 5), .ref (w.1 + 6), .ref (w.1 + 7), .ref (w.1 + 8)]) := kst _ _ (by omega) (by omega) c3f
  replace c4 : u18.2 (w.1 + 4) = some (true, eI 26 (fun _ => 0)) := kst _ _ (by omega) (by omega) c4
  replace c5 : u18.2 (w.1 + 5) = some (true, eI 26 (fun _ => 0)) := kst _ _ (by omega) (by omega) c5
  replace c6 : u18.2 (w.1 + 6) = some (true, eI 26 (fun _ => 0)) := kst _ _ (by omega) (by omega) c6
  replace c7 : u18.2 (w.1 + 7) = some (true, eR 6 27 T1) := kst _ _ (by omega) (by omega) c7
  replace c8 : u18.2 (w.1 + 8) = some (true, eR 6 27 T2) := kst _ _ (by omega) (by omega) c8
  replace p9 : ∀ k, k < 27 → T1 k = some (w.1 + 9 + 4 * k) ∧ T2 k = some (w.1 + 11 + 4 * k) ∧ WS u18 (w.1 + 9 + 4 * k) (w.1 + 10 + 4 * k) ∧ WS u18 (w.1 + 11 + 4 * k) (w.1 + 12 + 4 * k) := fun k hk => by
    have g := p9 k hk
    exact ⟨g.1, g.2.1, g.2.2.1.kp (fun q x hq e => kst q x (by omega) (by omega) e), g.2.2.2.kp (fun q x hq e => kst q x (by omega) (by omega) e)⟩
  replace c117f : u18.2 (w.1 + 117) = some (true, eO 2 [.ref (w.1 + 118), .ref (w.1 + 120), .ref (w.1 + 122), .ref (w.1 + 124), .ref (w.1 + 126)]) := kst _ _ (by omega) (by omega) c117f
  replace q118 : WS u18 (w.1 + 118) (w.1 + 119) := q118.kp (fun q x hq e => kst q x (by omega) (by omega) e)
  replace q120 : WS u18 (w.1 + 120) (w.1 + 121) := q120.kp (fun q x hq e => kst q x (by omega) (by omega) e)
  replace q122 : WS u18 (w.1 + 122) (w.1 + 123) := q122.kp (fun q x hq e => kst q x (by omega) (by omega) e)
  replace q124 : WS u18 (w.1 + 124) (w.1 + 125) := q124.kp (fun q x hq e => kst q x (by omega) (by omega) e)
  replace c126 : u18.2 (w.1 + 126) = some (true, eB 63 (fun _ => 0)) := kst _ _ (by omega) (by omega) c126
  replace c127f : u18.2 (w.1 + 127) = some (true, eO 4 [iI 2, .ref (w.1 + 128), .ref (w.1 + 130)]) := kst _ _ (by omega) (by omega) c127f
  replace q128 : WA u18 (w.1 + 128) (w.1 + 129) 1 := q128.kp (fun q x hq e => kst q x (by omega) (by omega) e)
  replace q130 : WA u18 (w.1 + 130) (w.1 + 131) 0 := q130.kp (fun q x hq e => kst q x (by omega) (by omega) e)
  replace c132f : u18.2 (w.1 + 132) = some (true, eO 4 [iI 2, .ref (w.1 + 133), .ref (w.1 + 135)]) := kst _ _ (by omega) (by omega) c132f
  replace q133 : WA u18 (w.1 + 133) (w.1 + 134) 1 := q133.kp (fun q x hq e => kst q x (by omega) (by omega) e)
  replace q135 : WA u18 (w.1 + 135) (w.1 + 136) 0 := q135.kp (fun q x hq e => kst q x (by omega) (by omega) e)
  replace c137f : u18.2 (w.1 + 137) = some (true, eO 4 [iI 2, .ref (w.1 + 138), .ref (w.1 + 140)]) := kst _ _ (by omega) (by omega) c137f
  replace q138 : WA u18 (w.1 + 138) (w.1 + 139) 1 := q138.kp (fun q x hq e => kst q x (by omega) (by omega) e)
  replace q140 : WA u18 (w.1 + 140) (w.1 + 141) 0 := q140.kp (fun q x hq e => kst q x (by omega) (by omega) e)
  replace c142f : u18.2 (w.1 + 142) = some (true, oS 5 0) := (yu18.2 _ _ (by omega) c142f)
  replace hkeep : ∀ b x, b ≠ a → w.2 b = some x → u18.2 b = some x := fun b x hb e => by
    have hbl := hwf b x e
    exact kst _ _ (by omega) (by omega) (hkeep _ _ hb e)
  clear kst
  try clear hu18
  try clear zu18
  try clear yu18
  try clear hw88
  try clear zw88
  try clear yw88
  try clear nw88
  try clear fw88
  try clear ow88
  try clear hu17
  try clear zu17
  try clear yu17
  try clear nu17
  try clear fu17
  try clear ou17
  try clear ou16
  try clear nu16
  try clear fu16
  try clear w88
  try clear u17
  try clear u16
  refine g_aload_n C dX6_init_94 rfl ?_
  refine g_new (ci := 5) C rfl inTX3 tyX3 tyX3_ok kl_RX6_21 ib_RX3 in_RX3 (fs := [iI 0, iI 0, iI 0, iI 0, iI 0, iI 0, iI 0, iI 0]) (by intro j hj; repeat (first | rfl | (cases j; rfl) | (rename_i j; cases j; rfl) | omega)) (by omega) dX6_init_95 ?_
  obtain ⟨u19, hu19⟩ : ∃ u19, u19 = wpush u18 (true, eO 5 [iI 0, iI 0, iI 0, iI 0, iI 0, iI 0, iI 0, iI 0]) := ⟨_, rfl⟩
  refine g_eqw (w' := u19) (by rw [hu19]; first | done | rfl) ?_
  have nu19 : u19.1 = w.1 + 144 := by
    have e0 : u18.1 = w.1 + 143 := nu18
    rw [hu19]; show u18.1 + 1 = _; omega
  have zu19 : Ex u18 u19 := by rw [hu19]; exact Ex.push fu18 _
  have yu19 : ExX u18 u19 a := zu19.exx _
  have ou19 := zu19.2 _ _ ou18
  have c143 : u19.2 (w.1 + 143) = some (true, eO 5 [iI 0, iI 0, iI 0, iI 0, iI 0, iI 0, iI 0, iI 0]) := by
    have e0 : (wpush u18 (true, eO 5 [iI 0, iI 0, iI 0, iI 0, iI 0, iI 0, iI 0, iI 0])).2 u18.1 = some (true, eO 5 [iI 0, iI 0, iI 0, iI 0, iI 0, iI 0, iI 0, iI 0]) := wpush_s
    rw [← hu19, nu18] at e0
    exact e0
  refine g_wf (fun fu19 => ?_)
  rw [nu18]
  refine g_dup C dX6_init_98 rfl ?_
  refine t_callI C hT (s_X3_init _ (w := u19) (a := w.1 + 143) c143) ml_RX6_52 im_yX3_init in_RX3 co_yX3_init rfl hd_X3_init rfl ⟨by omega, by omega⟩ rfl (Nat.le_of_ble_eq_true rfl) ⟨by omega, by omega⟩ dX6_init_99 (fun v99 w99 hp99 => ?_)
  obtain ⟨rfl, hz99⟩ := hp99
  have nw99 : w99.1 = w.1 + 144 := by have g1 := (show w99.1 = u19.1 from by rw [hz99]; rfl); have g2 := nu19; omega
  have yw99 : ExX u19 w99 (w.1 + 143) := (by rw [hz99]; exact ExX.set _ _ _)
  have ow99 := yw99.2 _ _ (by omega) ou19
  refine g_wf (fun fw99 => ?_)
  have c143f : w99.2 (w.1 + 143) = some (true, oS 5 0) := by rw [hz99]; exact wset_s
  refine g_putF (ci := 8) C rfl inTX6 tyX6 tyX6_ok nmX6 9 (by decide) fl_RX6_57 rfl rfl hnm rfl ow99 (Nat.le_of_ble_eq_true rfl) rfl rfl dX6_init_102 ?_
  obtain ⟨u20, hu20⟩ : ∃ u20, u20 = wset w99 a (true, eO 8 [.ref w.1, .ref (w.1 + 1), .ref (w.1 + 2), .ref (w.1 + 3), .ref (w.1 + 117), .ref (w.1 + 127), .ref (w.1 + 132), .ref (w.1 + 137), .ref (w.1 + 142), .ref (w.1 + 143), iI 0, iI 0, iI 0, iI 0, iI 0]) := ⟨_, rfl⟩
  refine g_eqw (w' := u20) hu20.symm ?_
  have nu20 : u20.1 = w.1 + 144 := by rw [hu20]; exact nw99
  have yu20 : ExX w99 u20 a := by rw [hu20]; exact ExX.set _ _ _
  have ou20 : u20.2 a = some (true, eO 8 [.ref w.1, .ref (w.1 + 1), .ref (w.1 + 2), .ref (w.1 + 3), .ref (w.1 + 117), .ref (w.1 + 127), .ref (w.1 + 132), .ref (w.1 + 137), .ref (w.1 + 142), .ref (w.1 + 143), iI 0, iI 0, iI 0, iI 0, iI 0]) := by rw [hu20]; exact wset_s
  refine g_wf (fun fu20 => ?_)
  have kst : ∀ q x, q ≠ a → q ≠ w.1 + 143 → u18.2 q = some x → u20.2 q = some x := fun q x h0 h1 e => (yu20.2 _ _ (by assumption) (yw99.2 _ _ (by assumption) (yu19.2 _ _ (by assumption) e)))
  replace c0 : u20.2 w.1 = some (true, eR 3 3 (fun _ => none)) := kst _ _ (by omega) (by omega) c0
  replace c1 : u20.2 (w.1 + 1) = some (true, eR 4 3 (fun _ => none)) := kst _ _ (by omega) (by omega) c1
  replace c2 : u20.2 (w.1 + 2) = some (true, eR 5 3 (fun _ => none)) := kst _ _ (by omega) (by omega) c2
  replace c3f : u20.2 (w.1 + 3) = some (true, eO 3 [iI 0, iI 0, .ref (w.1 + 4), .ref (w.1 + 5), .ref (w.1 + 6), .ref (w.1 + 7), .ref (w.1 + 8)]) := kst _ _ (by omega) (by omega) c3f
  replace c4 : u20.2 (w.1 + 4) = some (true, eI 26 (fun _ => 0)) := kst _ _ (by omega) (by omega) c4
  replace c5 : u20.2 (w.1 + 5) = some (true, eI 26 (fun _ => 0)) := kst _ _ (by omega) (by omega) c5
  replace c6 : u20.2 (w.1 + 6) = some (true, eI 26 (fun _ => 0)) := kst _ _ (by omega) (by omega) c6
  replace c7 : u20.2 (w.1 + 7) = some (true, eR 6 27 T1) := kst _ _ (by omega) (by omega) c7
  replace c8 : u20.2 (w.1 + 8) = some (true, eR 6 27 T2) := kst _ _ (by omega) (by omega) c8
  replace p9 : ∀ k, k < 27 → T1 k = some (w.1 + 9 + 4 * k) ∧ T2 k = some (w.1 + 11 + 4 * k) ∧ WS u20 (w.1 + 9 + 4 * k) (w.1 + 10 + 4 * k) ∧ WS u20 (w.1 + 11 + 4 * k) (w.1 + 12 + 4 * k) := fun k hk => by
    have g := p9 k hk
    exact ⟨g.1, g.2.1, g.2.2.1.kp (fun q x hq e => kst q x (by omega) (by omega) e), g.2.2.2.kp (fun q x hq e => kst q x (by omega) (by omega) e)⟩
  replace c117f : u20.2 (w.1 + 117) = some (true, eO 2 [.ref (w.1 + 118), .ref (w.1 + 120), .ref (w.1 + 122), .ref (w.1 + 124), .ref (w.1 + 126)]) := kst _ _ (by omega) (by omega) c117f
  replace q118 : WS u20 (w.1 + 118) (w.1 + 119) := q118.kp (fun q x hq e => kst q x (by omega) (by omega) e)
  replace q120 : WS u20 (w.1 + 120) (w.1 + 121) := q120.kp (fun q x hq e => kst q x (by omega) (by omega) e)
  replace q122 : WS u20 (w.1 + 122) (w.1 + 123) := q122.kp (fun q x hq e => kst q x (by omega) (by omega) e)
  replace q124 : WS u20 (w.1 + 124) (w.1 + 125) := q124.kp (fun q x hq e => kst q x (by omega) (by omega) e)
  replace c126 : u20.2 (w.1 + 126) = some (true, eB 63 (fun _ => 0)) := kst _ _ (by omega) (by omega) c126
  replace c127f : u20.2 (w.1 + 127) = some (true, eO 4 [iI 2, .ref (w.1 + 128), .ref (w.1 + 130)]) := kst _ _ (by omega) (by omega) c127f
  replace q128 : WA u20 (w.1 + 128) (w.1 + 129) 1 := q128.kp (fun q x hq e => kst q x (by omega) (by omega) e)
  replace q130 : WA u20 (w.1 + 130) (w.1 + 131) 0 := q130.kp (fun q x hq e => kst q x (by omega) (by omega) e)
  replace c132f : u20.2 (w.1 + 132) = some (true, eO 4 [iI 2, .ref (w.1 + 133), .ref (w.1 + 135)]) := kst _ _ (by omega) (by omega) c132f
  replace q133 : WA u20 (w.1 + 133) (w.1 + 134) 1 := q133.kp (fun q x hq e => kst q x (by omega) (by omega) e)
  replace q135 : WA u20 (w.1 + 135) (w.1 + 136) 0 := q135.kp (fun q x hq e => kst q x (by omega) (by omega) e)
  replace c137f : u20.2 (w.1 + 137) = some (true, eO 4 [iI 2, .ref (w.1 + 138), .ref (w.1 + 140)]) := kst _ _ (by omega) (by omega) c137f
  replace q138 : WA u20 (w.1 + 138) (w.1 + 139) 1 := q138.kp (fun q x hq e => kst q x (by omega) (by omega) e)
  replace q140 : WA u20 (w.1 + 140) (w.1 + 141) 0 := q140.kp (fun q x hq e => kst q x (by omega) (by omega) e)
  replace c142f : u20.2 (w.1 + 142) = some (true, oS 5 0) := kst _ _ (by omega) (by omega) c142f
  replace c143f : u20.2 (w.1 + 143) = some (true, oS 5 0) := (yu20.2 _ _ (by omega) c143f)
  replace hkeep : ∀ b x, b ≠ a → w.2 b = some x → u20.2 b = some x := fun b x hb e => by
    have hbl := hwf b x e
    exact kst _ _ (by omega) (by omega) (hkeep _ _ hb e)
  clear kst
  try clear hu20
  try clear zu20
  try clear yu20
  try clear hw99
  try clear zw99
  try clear yw99
  try clear nw99
  try clear fw99
  try clear ow99
  try clear hu19
  try clear zu19
  try clear yu19
  try clear nu19
  try clear fu19
  try clear ou19
  try clear ou18
  try clear nu18
  try clear fu18
  try clear w99
  try clear u19
  try clear u18
  refine g_iconst C dX6_init_105 ?_
  refine g_istore_n C dX6_init_106 (by decide) rfl ?_
  have hB : u20.1 = w.1 + 144 := nu20
  refine g_loop (σ := Nat × Wd × (Nat → Option Nat) × (Nat → Option Nat) × (Nat → Option Nat)) (fun s => s.1 ≤ 3 ∧ s.2.1.1 = w.1 + 144 + 7 * s.1 ∧ s.2.1.2 w.1 = some (true, eR 3 3 s.2.2.1) ∧ s.2.1.2 (w.1 + 1) = some (true, eR 4 3 s.2.2.2.1) ∧ s.2.1.2 (w.1 + 2) = some (true, eR 5 3 s.2.2.2.2) ∧ (∀ j, j < s.1 → s.2.2.1 j = some (w.1 + 144 + 7 * j) ∧ s.2.2.2.1 j = some (w.1 + 145 + 7 * j) ∧ s.2.2.2.2 j = some (w.1 + 150 + 7 * j) ∧ s.2.1.2 (w.1 + 144 + 7 * j) = some (true, eO 6 [iI 2, iI 0]) ∧ s.2.1.2 (w.1 + 145 + 7 * j) = some (true, eO 4 [iI 2, .ref (w.1 + 146 + 7 * j), .ref (w.1 + 148 + 7 * j)]) ∧ WA s.2.1 (w.1 + 146 + 7 * j) (w.1 + 147 + 7 * j) 1 ∧ WA s.2.1 (w.1 + 148 + 7 * j) (w.1 + 149 + 7 * j) 0 ∧ s.2.1.2 (w.1 + 150 + 7 * j) = some (true, oS 5 0)) ∧ (∀ q x, q ≠ w.1 → q ≠ w.1 + 1 → q ≠ w.1 + 2 → u20.2 q = some x → s.2.1.2 q = some x)) (fun s => G E X 2 107 [some (.ref a), some (iI (s.1 : Int))] [] s.2.1 (144 + 7 * s.1) (1585 + 55 * s.1)) (fun s => 3 - s.1) ?_ (0, u20, fun _ => none, fun _ => none, fun _ => none) ⟨by dsimp only; omega, by dsimp only; omega, c0, c1, c2, fun j hj => by dsimp only at hj; omega, fun q x _ _ _ e => e⟩
  rintro ⟨k, u, R1, R2, R3⟩ hq ih
  obtain ⟨hk, hn, hR1, hR2, hR3, hW, hX⟩ := hq
  dsimp only at hk hn hR1 hR2 hR3 hW hX ⊢
  have oU := hX a _ (by omega) (by omega) (by omega) ou20
  refine g_wf (fun fu => ?_)
  refine g_iload_n C dX6_init_107 rfl ?_
  refine g_iconst C dX6_init_108 ?_
  refine g_icmp_ge (tgt := 157) C dX6_init_109 (by decide) (by omega) (by omega) (fun h109 => ?_) (fun h109 => ?_)
  · have hk3 : k = 3 := by omega
    subst hk3
    exact g_return C hQ dX6_init_157 (by omega) (by omega) ⟨rfl, by omega, cs_init hmw oU hR1 hR2 hR3 hW (hX _ _ (by omega) (by omega) (by omega) c3f) (hX _ _ (by omega) (by omega) (by omega) c4) (hX _ _ (by omega) (by omega) (by omega) c5) (hX _ _ (by omega) (by omega) (by omega) c6) (hX _ _ (by omega) (by omega) (by omega) c7) (hX _ _ (by omega) (by omega) (by omega) c8) (fun k hk => ⟨(p9 k hk).1, (p9 k hk).2.1, ((p9 k hk).2.2.1.kp (fun q x hq e => hX q x (by omega) (by omega) (by omega) e)), ((p9 k hk).2.2.2.kp (fun q x hq e => hX q x (by omega) (by omega) (by omega) e))⟩) (hX _ _ (by omega) (by omega) (by omega) c117f) (q118.kp (fun q x hq e => hX q x (by omega) (by omega) (by omega) e)) (q120.kp (fun q x hq e => hX q x (by omega) (by omega) (by omega) e)) (q122.kp (fun q x hq e => hX q x (by omega) (by omega) (by omega) e)) (q124.kp (fun q x hq e => hX q x (by omega) (by omega) (by omega) e)) (hX _ _ (by omega) (by omega) (by omega) c126) (fun j hj => by
      rcases (show j = 0 ∨ j = 1 ∨ j = 2 by omega) with q | q | q <;> subst q
      · exact ⟨hX _ _ (by omega) (by omega) (by omega) c127f, (q128.kp (fun q x hq e => hX q x (by omega) (by omega) (by omega) e)), (q130.kp (fun q x hq e => hX q x (by omega) (by omega) (by omega) e))⟩
      · exact ⟨hX _ _ (by omega) (by omega) (by omega) c132f, (q133.kp (fun q x hq e => hX q x (by omega) (by omega) (by omega) e)), (q135.kp (fun q x hq e => hX q x (by omega) (by omega) (by omega) e))⟩
      · exact ⟨hX _ _ (by omega) (by omega) (by omega) c137f, (q138.kp (fun q x hq e => hX q x (by omega) (by omega) (by omega) e)), (q140.kp (fun q x hq e => hX q x (by omega) (by omega) (by omega) e))⟩) (hX _ _ (by omega) (by omega) (by omega) c142f) (hX _ _ (by omega) (by omega) (by omega) c143f), ⟨by omega, fun b x hb e => by
      have hbl := hwf b x e
      exact hX _ _ (by omega) (by omega) (by omega) (hkeep _ _ hb e)⟩⟩
  · refine g_aload_n C dX6_init_112 rfl ?_
    refine g_get (ci := 8) C rfl inTX6 0 (by decide) fl_RX6_11 rfl oU rfl dX6_init_113 ?_
    refine g_iload_n C dX6_init_116 rfl ?_
    refine g_new (ci := 6) C rfl inTX4 tyX4 tyX4_ok kl_RX6_9 ib_RX4 in_RX4 (fs := [iI 0, iI 0]) (by intro j hj; repeat (first | rfl | (cases j; rfl) | (rename_i j; cases j; rfl) | omega)) ⟨by omega, by omega⟩ dX6_init_117 ?_
    refine g_dup C dX6_init_120 rfl ?_
    refine t_nI C hT ((s_X4_init (l := xl X) (w := wpush u _) (a := u.1) wpush_s).st) 5 rfl im_yX4_init in_RX4 co_yX4_init rfl hd_X4_init rfl ⟨by omega, by omega⟩ rfl (Nat.le_of_ble_eq_true rfl) ⟨by omega, by omega⟩ dX6_init_121 (fun v121 w121 hp121 => ?_)
    obtain ⟨rfl, hw121⟩ := hp121
    subst w121
    rw [wset_push]
    refine g_gen (fun ub hub => ?_)
    have nub : ub.1 = u.1 + 1 := by rw [hub]; rfl
    have zub : Ex u ub := by rw [hub]; exact Ex.push fu _
    have eub : ub.2 u.1 = some (true, eO 6 [iI 2, iI 0]) := by rw [hub]; exact wpush_s
    refine g_wf (fun fub => ?_)
    refine g_aastoreO C 3 6 rfl rfl (k) (zub.2 _ _ hR1) eub (by omega) (by omega) dX6_init_124 ?_
    refine g_gen (fun uc huc => ?_)
    have nuc : uc.1 = ub.1 := by rw [huc]; rfl
    have yuc : ExX ub uc w.1 := by rw [huc]; exact ExX.set _ _ _
    have hR1c : uc.2 w.1 = some (true, eR 3 3 (rup R1 k (some u.1))) := by rw [huc]; exact wset_s
    refine g_wf (fun fuc => ?_)
    have oC := yuc.2 _ _ (by omega) (zub.2 _ _ oU)
    refine g_aload_n C dX6_init_125 rfl ?_
    refine g_get (ci := 8) C rfl inTX6 1 (by decide) fl_RX6_17 rfl oC rfl dX6_init_126 ?_
    refine g_iload_n C dX6_init_129 rfl ?_
    refine g_new (ci := 4) C rfl inTX2 tyX2 tyX2_ok kl_RX6_15 ib_RX2 in_RX2 (fs := [iI 0, .null, .null]) (by intro j hj; repeat (first | rfl | (cases j; rfl) | (rename_i j; cases j; rfl) | omega)) ⟨by omega, by omega⟩ dX6_init_130 ?_
    refine g_gen (fun ud hud => ?_)
    have nud : ud.1 = uc.1 + 1 := by rw [hud]; rfl
    have zud : Ex uc ud := by rw [hud]; exact Ex.push fuc _
    have eud : ud.2 uc.1 = some (true, eO 4 [iI 0, .null, .null]) := by rw [hud]; exact wpush_s
    refine g_wf (fun fud => ?_)
    refine g_dup C dX6_init_133 rfl ?_
    refine t_callI C hT (s_X2_init _ (w := ud) (a := uc.1) eud) ml_RX6_41 im_yX2_init in_RX2 co_yX2_init rfl hd_X2_init rfl ⟨by omega, by omega⟩ rfl (Nat.le_of_ble_eq_true rfl) ⟨by omega, by omega⟩ dX6_init_134 (fun v134 w134 hp134 => ?_)
    obtain ⟨rfl, z134, o134, q134a, q134b, x134⟩ := hp134
    refine g_wf (fun f134 => ?_)
    refine g_aastoreO C 4 4 rfl rfl (k) (x134.2 _ _ (by omega) (zud.2 _ _ (yuc.2 _ _ (by omega) (zub.2 _ _ hR2)))) o134 (by omega) (by omega) dX6_init_137 ?_
    refine g_gen (fun uf huf => ?_)
    have nuf : uf.1 = w134.1 := by rw [huf]; rfl
    have yuf : ExX w134 uf (w.1 + 1) := by rw [huf]; exact ExX.set _ _ _
    have hR2f : uf.2 (w.1 + 1) = some (true, eR 4 3 (rup R2 k (some uc.1))) := by rw [huf]; exact wset_s
    refine g_wf (fun fuf => ?_)
    have oF := yuf.2 _ _ (by omega) (x134.2 _ _ (by omega) (zud.2 _ _ oC))
    refine g_aload_n C dX6_init_138 rfl ?_
    refine g_get (ci := 8) C rfl inTX6 2 (by decide) fl_RX6_23 rfl oF rfl dX6_init_139 ?_
    refine g_iload_n C dX6_init_142 rfl ?_
    refine g_new (ci := 5) C rfl inTX3 tyX3 tyX3_ok kl_RX6_21 ib_RX3 in_RX3 (fs := [iI 0, iI 0, iI 0, iI 0, iI 0, iI 0, iI 0, iI 0]) (by intro j hj; repeat (first | rfl | (cases j; rfl) | (rename_i j; cases j; rfl) | omega)) ⟨by omega, by omega⟩ dX6_init_143 ?_
    refine g_dup C dX6_init_146 rfl ?_
    refine t_callI C hT (s_X3_init _ (w := wpush uf _) (a := uf.1) wpush_s) ml_RX6_52 im_yX3_init in_RX3 co_yX3_init rfl hd_X3_init rfl ⟨by omega, by omega⟩ rfl (Nat.le_of_ble_eq_true rfl) ⟨by omega, by omega⟩ dX6_init_147 (fun v147 w147 hp147 => ?_)
    obtain ⟨rfl, hw147⟩ := hp147
    subst w147
    rw [wset_push]
    refine g_gen (fun uh huh => ?_)
    have nuh : uh.1 = uf.1 + 1 := by rw [huh]; rfl
    have zuh : Ex uf uh := by rw [huh]; exact Ex.push fuf _
    have euh : uh.2 uf.1 = some (true, oS 5 0) := by rw [huh]; exact wpush_s
    refine g_wf (fun fuh => ?_)
    refine g_aastoreO C 5 5 rfl rfl (k) (zuh.2 _ _ (yuf.2 _ _ (by omega) (x134.2 _ _ (by omega) (zud.2 _ _ (yuc.2 _ _ (by omega) (zub.2 _ _ hR3)))))) euh (by omega) (by omega) dX6_init_150 ?_
    refine g_gen (fun ui hui => ?_)
    have nui : ui.1 = uh.1 := by rw [hui]; rfl
    have yui : ExX uh ui (w.1 + 2) := by rw [hui]; exact ExX.set _ _ _
    have hR3i : ui.2 (w.1 + 2) = some (true, eR 5 3 (rup R3 k (some uf.1))) := by rw [hui]; exact wset_s
    have m1 : u.1 = w.1 + 144 + 7 * k := hn
    have m2 : uc.1 = w.1 + 145 + 7 * k := by omega
    have m3 : ud.1 = w.1 + 146 + 7 * k := by omega
    have m4 : uf.1 = w.1 + 150 + 7 * k := by omega
    have kI : ∀ q x, q ≠ w.1 → q ≠ w.1 + 1 → q ≠ w.1 + 2 → q ≠ uc.1 → u.2 q = some x → ui.2 q = some x := fun q x h0 h1 h2 h3 e => yui.2 _ _ h2 (zuh.2 _ _ (yuf.2 _ _ h1 (x134.2 _ _ h3 (zud.2 _ _ (yuc.2 _ _ h0 (zub.2 _ _ e))))))
    have kF : ∀ q x, q ≠ w.1 + 1 → q ≠ w.1 + 2 → w134.2 q = some x → ui.2 q = some x := fun q x h1 h2 e => yui.2 _ _ h2 (zuh.2 _ _ (yuf.2 _ _ h1 e))
    have kC : ∀ q x, q ≠ w.1 + 1 → q ≠ w.1 + 2 → q ≠ uc.1 → uc.2 q = some x → ui.2 q = some x := fun q x h1 h2 h3 e => kF q x h1 h2 (x134.2 _ _ h3 (zud.2 _ _ e))
    have hR1i := kC w.1 _ (by omega) (by omega) (by omega) hR1c
    have hR2i := yui.2 _ _ (by omega) (zuh.2 _ _ hR2f)
    have eW := kC u.1 _ (by omega) (by omega) (by omega) (yuc.2 _ _ (by omega) eub)
    have eP := kF uc.1 _ (by omega) (by omega) o134
    have eL : WA ui ud.1 (ud.1 + 1) 1 := q134a.kp (fun q x hq e => kF q x (by omega) (by omega) e)
    have eR' : WA ui (ud.1 + 2) (ud.1 + 3) 0 := q134b.kp (fun q x hq e => kF q x (by omega) (by omega) e)
    have eS := yui.2 _ _ (by omega) euh
    clear kC kF huc hud huf huh hui hub yuc yuf yui zub zud zuh x134 q134a q134b o134 eub eud euh hR1c hR2f oC oF
    refine g_iinc C dX6_init_151 rfl (by decide) rfl ?_
    refine g_goto (tgt := 107) C dX6_init_154 (by decide) ?_
    rw [show (k : Int) + 1 = ((k + 1 : Nat) : Int) by omega]
    refine g_widen (k' := 144 + 7 * (k + 1)) (n' := 1585 + 55 * (k + 1)) (by omega) (by omega) ?_
    exact ih (k + 1, ui, rup R1 k (some u.1), rup R2 k (some uc.1), rup R3 k (some uf.1)) ⟨by dsimp only; omega, by dsimp only; omega, hR1i, hR2i, hR3i, fun j hj => by
      dsimp only at hj ⊢
      by_cases q : j = k
      · subst q
        rw [rup_s, rup_s, rup_s]
        rw [m1] at eW ⊢
        rw [m2] at eP ⊢
        rw [m3] at eP eL eR'
        rw [m4] at eS ⊢
        refine ⟨rfl, rfl, rfl, eW, ?_, ?_, ?_, eS⟩
        · rw [show w.1 + 148 + 7 * j = w.1 + 146 + 7 * j + 2 by omega]; exact eP
        · rw [show w.1 + 147 + 7 * j = w.1 + 146 + 7 * j + 1 by omega]; exact eL
        · rw [show w.1 + 148 + 7 * j = w.1 + 146 + 7 * j + 2 by omega, show w.1 + 149 + 7 * j = w.1 + 146 + 7 * j + 3 by omega]; exact eR'
      · rw [rup_n q, rup_n q, rup_n q]
        obtain ⟨g1, g2, g3, g4, g5, g6, g7, g8⟩ := hW j (by omega)
        exact ⟨g1, g2, g3, kI _ _ (by omega) (by omega) (by omega) (by omega) g4, kI _ _ (by omega) (by omega) (by omega) (by omega) g5, g6.kp (fun q x hq e => kI q x (by omega) (by omega) (by omega) (by omega) e), g7.kp (fun q x hq e => kI q x (by omega) (by omega) (by omega) (by omega) e), kI _ _ (by omega) (by omega) (by omega) (by omega) g8⟩, fun q x h0 h1 h2 e => kI q x h0 h1 h2 (fun c => by
          have := fu20 q x e
          omega) (hX q x h0 h1 h2 e)⟩ (by dsimp only; omega)
