/-! constructors -/
def addW (u : Wd) : Wd := wset (wpush (wpush u (true, eO 7 [.null, iI 0, iI 0])) (true, eI 18 (fun _ => 0))) u.1 (true, eO 7 [.ref (u.1 + 1), iI 0, iI 0])
theorem addW_ex {u : Wd} (h : wF u) : Ex u (addW u) := ⟨by show u.1 ≤ u.1 + 1 + 1; omega, fun a x e => by
  have := h a x e
  unfold addW
  rw [wset_n (by omega), wpush_n (by show a ≠ u.1 + 1; omega), wpush_n (by omega)]
  exact e⟩
theorem addW_WS (u : Wd) : WS (addW u) u.1 (u.1 + 1) := ⟨fun _ => 0, 0, 0, wset_s, by
  unfold addW
  rw [wset_n (by omega)]
  exact wpush_s, fun i _ => ⟨Int.le_refl (0 : Int), show (0 : Int) < B28 by decide⟩, by omega, Or.inl rfl⟩
theorem addW_WA (u : Wd) : WA (addW u) u.1 (u.1 + 1) 0 := ⟨fun _ => 0, 0, 0, wset_s, by
  unfold addW
  rw [wset_n (by omega)]
  exact wpush_s, ⟨fun i _ => ⟨Int.le_refl (0 : Int), show (0 : Int) < B28 by decide⟩, by omega, fun _ _ _ => rfl, fun h => absurd h (Nat.lt_irrefl 0)⟩, Or.inr ⟨rfl, (nv_zeros (B := B28) (f := fun _ => 0) (m := 0) (n := 18) (by omega) (fun _ _ _ => rfl)).symm⟩⟩
theorem WA.exx {w u : Wd} {a r m : Nat} {z : Int} (h : WA w a r z) (x : ExX w u m) (ha : a ≠ m) (hr : r ≠ m) : WA u a r z := by
  obtain ⟨f, k, bl, h1, h2, h3⟩ := h
  exact ⟨f, k, bl, x.2 _ _ ha h1, x.2 _ _ hr h2, h3⟩
theorem WA.kp {w u : Wd} {a r : Nat} {z : Int} (h : WA w a r z) (k : ∀ q x, q = a ∨ q = r → w.2 q = some x → u.2 q = some x) : WA u a r z := by
  obtain ⟨f, n, bl, h1, h2, h3⟩ := h
  exact ⟨f, n, bl, k _ _ (Or.inl rfl) h1, k _ _ (Or.inr rfl) h2, h3⟩
theorem WS.exx {w u : Wd} {a r m : Nat} (h : WS w a r) (x : ExX w u m) (ha : a ≠ m) (hr : r ≠ m) : WS u a r := by
  obtain ⟨f, k, bl, h1, h2, h3⟩ := h
  exact ⟨f, k, bl, x.2 _ _ ha h1, x.2 _ _ hr h2, h3⟩
theorem WS.kp {w u : Wd} {a r : Nat} (h : WS w a r) (k : ∀ q x, q = a ∨ q = r → w.2 q = some x → u.2 q = some x) : WS u a r := by
  obtain ⟨f, n, bl, h1, h2, h3⟩ := h
  exact ⟨f, n, bl, k _ _ (Or.inl rfl) h1, k _ _ (Or.inr rfl) h2, h3⟩
theorem FrW.exx {w u : Wd} {a r m : Nat} (h : FrW w u a r) (ha : w.2 a = none ∨ a = m) (hr : w.2 r = none ∨ r = m) : ExX w u m := ⟨Nat.le_of_eq h.1.symm, fun b x n e => by
  rw [h.2 b (fun q => by subst q; rcases ha with g | g; · rw [g] at e; cases e
                         · exact n g) (fun q => by subst q; rcases hr with g | g; · rw [g] at e; cases e
                                                   · exact n g)]; exact e⟩
set_option maxHeartbeats 4000000 in
set_option maxRecDepth 100000 in
theorem s_X5_new (l : Launch) {E : GE} {w : Wd} {a : Nat} (oB : w.2 a = some (true, eO 7 [.null, iI 0, iI 0])) : Sp E l yX5_init cX5_init 1 none 1 (1) (18) [.ref a] w (fun r' w' => r' = none ∧ w' = wset (wpush w (true, eI 18 (fun _ => 0))) a (true, eO 7 [.ref w.1, iI 0, iI 0])) := by
  refine sp_intro [some (.ref a)] rfl (Nat.le_of_ble_eq_true rfl) pn_X5 ?_
  intro X C hRm hl hnm hQ
  obtain ⟨hRf, hRl, hRc, hRs⟩ := hRm
  refine g_wf (fun hwf => ?_)
  have hmw : a < w.1 := hwf a _ oB
  refine g_aload_n C dX5_init_0 rfl ?_
  refine g_objInit C ml_RX5_3 (by omega) (by omega) (Nat.le_of_ble_eq_true rfl) dX5_init_1 ?_
  refine g_aload_n C dX5_init_4 rfl ?_
  refine g_bipush C dX5_init_5 (by decide) ?_
  refine g_newI C gw_arrayClass_int (N := 18) rfl (by omega) (by omega) dX5_init_7 ?_
  refine g_putF (ci := 7) C rfl inTX5 tyX5 tyX5_ok nmX5 0 (by decide) fl_RX5_9 rfl rfl hnm rfl (by rw [wpush_n (by omega)]; exact oB) (Nat.le_of_ble_eq_true rfl) rfl rfl dX5_init_9 ?_
  exact g_return C hQ dX5_init_12 (by omega) (by omega) ⟨rfl, rfl⟩
set_option maxHeartbeats 4000000 in
set_option maxRecDepth 100000 in
theorem s_X4_init (l : Launch) {E : GE} {w : Wd} {a : Nat} (oB : w.2 a = some (true, eO 6 [iI 0, iI 0])) : Sp E l yX4_init cX4_init 1 none 1 (0) (0) [.ref a] w (fun r' w' => r' = none ∧ w' = wset w a (true, eO 6 [iI 2, iI 0])) := by
  refine sp_intro [some (.ref a)] rfl (Nat.le_of_ble_eq_true rfl) pn_X4 ?_
  intro X C hRm hl hnm hQ
  obtain ⟨hRf, hRl, hRc, hRs⟩ := hRm
  refine g_wf (fun hwf => ?_)
  refine g_aload_n C dX4_init_0 rfl ?_
  refine g_objInit C ml_RX4_3 (by omega) (by omega) (Nat.le_of_ble_eq_true rfl) dX4_init_1 ?_
  refine g_aload_n C dX4_init_4 rfl ?_
  refine g_iconst C dX4_init_5 ?_
  refine g_put (ci := 6) C rfl inTX4 tyX4 tyX4_ok nmX4 0 (by decide) fl_RX4_9 rfl rfl oB (Nat.le_of_ble_eq_true rfl) rfl rfl dX4_init_6 ?_
  exact g_return C hQ dX4_init_9 (Nat.le_refl _) (Nat.le_refl _) ⟨rfl, rfl⟩
set_option maxHeartbeats 4000000 in
set_option maxRecDepth 100000 in
theorem s_X3_init (l : Launch) {K : KC} {E : GE} {w : Wd} {a : Nat} (oB : w.2 a = some (true, eO 5 [iI 0, iI 0, iI 0, iI 0, iI 0, iI 0, iI 0, iI 0])) : St K E l yX3_init cX3_init 1 none 5 (0) (0) [.ref a] w (fun r' w' => r' = none ∧ w' = wset w a (true, oS 5 0)) := by
  refine st_intro [some (.ref a)] rfl (Nat.le_of_ble_eq_true rfl) pn_X3 ?_
  intro X C hT hRm hl hnm hQ
  obtain ⟨hRf, hRl, hRc, hRs⟩ := hRm
  refine g_wf (fun hwf => ?_)
  refine g_aload_n C dX3_init_0 rfl ?_
  refine g_objInit C ml_RX3_3 (by omega) (by omega) (Nat.le_of_ble_eq_true rfl) dX3_init_1 ?_
  refine g_aload_n C dX3_init_4 rfl ?_
  refine g_iconst C dX3_init_5 ?_
  refine t_callV C hT (s_X3_begin _ (p := 5) (by decide +kernel) oB) (RcV.ob (ci := 5) C rfl oB) rfl ml_RX3_9 im_yX3_begin se_RX3_yX3_begin in_RX3 co_yX3_begin hd_X3_begin rfl ⟨by omega, by omega⟩ rfl (Nat.le_of_ble_eq_true rfl) ⟨by omega, by omega⟩ dX3_init_6 (fun v6 w6 hp6 => ?_)
  obtain ⟨rfl, hw6⟩ := hp6
  subst w6
  exact g_return C hQ dX3_init_9 (Nat.le_refl _) (Nat.le_refl _) ⟨rfl, rfl⟩
set_option maxHeartbeats 4000000 in
set_option maxRecDepth 100000 in
theorem s_X2_init (l : Launch) {K : KC} {E : GE} {w : Wd} {a : Nat} (oB : w.2 a = some (true, eO 4 [iI 0, .null, .null])) : St K E l yX2_init cX2_init 1 none 3 (4) (42) [.ref a] w (fun r' w' => r' = none ∧ w'.1 = w.1 + 4 ∧ w'.2 a = some (true, eO 4 [iI 2, .ref w.1, .ref (w.1 + 2)]) ∧ WA w' w.1 (w.1 + 1) 1 ∧ WA w' (w.1 + 2) (w.1 + 3) 0 ∧ ExX w w' a) := by
  refine st_intro [some (.ref a)] rfl (Nat.le_of_ble_eq_true rfl) pn_X2 ?_
  intro X C hT hRm hl hnm hQ
  obtain ⟨hRf, hRl, hRc, hRs⟩ := hRm
  refine g_wf (fun hwf => ?_)
  have hmw : a < w.1 := hwf a _ oB
  refine g_aload_n C dX2_init_0 rfl ?_
  refine g_objInit C ml_RX2_3 (by omega) (by omega) (Nat.le_of_ble_eq_true rfl) dX2_init_1 ?_
  refine g_aload_n C dX2_init_4 rfl ?_
  refine g_iconst C dX2_init_5 ?_
  refine g_put (ci := 4) C rfl inTX2 tyX2 tyX2_ok nmX2 0 (by decide) fl_RX2_9 rfl rfl oB (Nat.le_of_ble_eq_true rfl) rfl rfl dX2_init_6 ?_
  obtain ⟨u1, hu1⟩ : ∃ u1, u1 = wset w a (true, eO 4 [iI 2, .null, .null]) := ⟨_, rfl⟩
  refine g_eqw (w' := u1) hu1.symm ?_
  have nu1 : u1.1 = w.1 + 0 := by rw [hu1]; exact rfl
  have yu1 : ExX w u1 a := by rw [hu1]; exact ExX.set _ _ _
  have ou1 : u1.2 a = some (true, eO 4 [iI 2, .null, .null]) := by rw [hu1]; exact wset_s
  refine g_wf (fun fu1 => ?_)
  refine g_aload_n C dX2_init_9 rfl ?_
  refine g_new (ci := 7) C rfl inTX5 tyX5 tyX5_ok kl_RX2_15 ib_RX5 in_RX5 (fs := [.null, iI 0, iI 0]) (by intro j hj; repeat (first | rfl | (cases j; rfl) | (rename_i j; cases j; rfl) | omega)) (by omega) dX2_init_10 ?_
  refine g_dup C dX2_init_13 rfl ?_
  refine t_nI C hT ((s_X5_new (l := xl X) (w := wpush u1 _) (a := u1.1) wpush_s).st) 3 rfl im_yX5_init in_RX5 co_yX5_init rfl hd_X5_init rfl ⟨by omega, by omega⟩ rfl (Nat.le_of_ble_eq_true rfl) ⟨by omega, by omega⟩ dX2_init_14 (fun v14 w14 hp14 => ?_)
  obtain ⟨rfl, hw14⟩ := hp14
  subst w14
  obtain ⟨u2, hu2⟩ : ∃ u2, u2 = addW u1 := ⟨_, rfl⟩
  refine g_eqw (w' := u2) (by rw [hu2]; first | done | rfl) ?_
  have nu2 : u2.1 = w.1 + 2 := by
    have e0 : u1.1 = w.1 + 0 := nu1
    rw [hu2]; show u1.1 + 2 = _; omega
  have zu2 : Ex u1 u2 := by rw [hu2]; exact addW_ex fu1
  have yu2 : ExX u1 u2 a := zu2.exx _
  have ou2 := zu2.2 _ _ ou1
  have q0 : WA u2 w.1 (w.1 + 1) 0 := by
    have e0 := addW_WA u1
    rw [← hu2, nu1] at e0
    exact e0
  refine g_wf (fun fu2 => ?_)
  rw [nu1]
  refine g_putF (ci := 4) C rfl inTX2 tyX2 tyX2_ok nmX2 1 (by decide) fl_RX2_18 rfl rfl hnm rfl ou2 (Nat.le_of_ble_eq_true rfl) rfl rfl dX2_init_17 ?_
  obtain ⟨u3, hu3⟩ : ∃ u3, u3 = wset u2 a (true, eO 4 [iI 2, .ref w.1, .null]) := ⟨_, rfl⟩
  refine g_eqw (w' := u3) hu3.symm ?_
  have nu3 : u3.1 = w.1 + 2 := by rw [hu3]; exact nu2
  have yu3 : ExX u2 u3 a := by rw [hu3]; exact ExX.set _ _ _
  have ou3 : u3.2 a = some (true, eO 4 [iI 2, .ref w.1, .null]) := by rw [hu3]; exact wset_s
  refine g_wf (fun fu3 => ?_)
  refine g_aload_n C dX2_init_20 rfl ?_
  refine g_new (ci := 7) C rfl inTX5 tyX5 tyX5_ok kl_RX2_15 ib_RX5 in_RX5 (fs := [.null, iI 0, iI 0]) (by intro j hj; repeat (first | rfl | (cases j; rfl) | (rename_i j; cases j; rfl) | omega)) (by omega) dX2_init_21 ?_
  refine g_dup C dX2_init_24 rfl ?_
  refine t_nI C hT ((s_X5_new (l := xl X) (w := wpush u3 _) (a := u3.1) wpush_s).st) 3 rfl im_yX5_init in_RX5 co_yX5_init rfl hd_X5_init rfl ⟨by omega, by omega⟩ rfl (Nat.le_of_ble_eq_true rfl) ⟨by omega, by omega⟩ dX2_init_25 (fun v25 w25 hp25 => ?_)
  obtain ⟨rfl, hw25⟩ := hp25
  subst w25
  obtain ⟨u4, hu4⟩ : ∃ u4, u4 = addW u3 := ⟨_, rfl⟩
  refine g_eqw (w' := u4) (by rw [hu4]; first | done | rfl) ?_
  have nu4 : u4.1 = w.1 + 4 := by
    have e0 : u3.1 = w.1 + 2 := nu3
    rw [hu4]; show u3.1 + 2 = _; omega
  have zu4 : Ex u3 u4 := by rw [hu4]; exact addW_ex fu3
  have yu4 : ExX u3 u4 a := zu4.exx _
  have ou4 := zu4.2 _ _ ou3
  have q2 : WA u4 (w.1 + 2) (w.1 + 3) 0 := by
    have e0 := addW_WA u3
    rw [← hu4, nu3] at e0
    exact e0
  refine g_wf (fun fu4 => ?_)
  rw [nu3]
  refine g_putF (ci := 4) C rfl inTX2 tyX2 tyX2_ok nmX2 2 (by decide) fl_RX2_22 rfl rfl hnm rfl ou4 (Nat.le_of_ble_eq_true rfl) rfl rfl dX2_init_28 ?_
  obtain ⟨u5, hu5⟩ : ∃ u5, u5 = wset u4 a (true, eO 4 [iI 2, .ref w.1, .ref (w.1 + 2)]) := ⟨_, rfl⟩
  refine g_eqw (w' := u5) hu5.symm ?_
  have nu5 : u5.1 = w.1 + 4 := by rw [hu5]; exact nu4
  have yu5 : ExX u4 u5 a := by rw [hu5]; exact ExX.set _ _ _
  have ou5 : u5.2 a = some (true, eO 4 [iI 2, .ref w.1, .ref (w.1 + 2)]) := by rw [hu5]; exact wset_s
  refine g_wf (fun fu5 => ?_)
  have q0' : WA u5 w.1 (w.1 + 1) 0 := (((q0.exx yu3 (by first | exact Nat.ne_of_gt (Nat.lt_of_lt_of_le hmw (Nat.le_add_right _ _)) | exact Nat.ne_of_gt hmw | omega) (by first | exact Nat.ne_of_gt (Nat.lt_of_lt_of_le hmw (Nat.le_add_right _ _)) | exact Nat.ne_of_gt hmw | omega)).exx yu4 (by first | exact Nat.ne_of_gt (Nat.lt_of_lt_of_le hmw (Nat.le_add_right _ _)) | exact Nat.ne_of_gt hmw | omega) (by first | exact Nat.ne_of_gt (Nat.lt_of_lt_of_le hmw (Nat.le_add_right _ _)) | exact Nat.ne_of_gt hmw | omega)).exx yu5 (by first | exact Nat.ne_of_gt (Nat.lt_of_lt_of_le hmw (Nat.le_add_right _ _)) | exact Nat.ne_of_gt hmw | omega) (by first | exact Nat.ne_of_gt (Nat.lt_of_lt_of_le hmw (Nat.le_add_right _ _)) | exact Nat.ne_of_gt hmw | omega))
  have q2' : WA u5 (w.1 + 2) (w.1 + 3) 0 := (q2.exx yu5 (by first | exact Nat.ne_of_gt (Nat.lt_of_lt_of_le hmw (Nat.le_add_right _ _)) | exact Nat.ne_of_gt hmw | omega) (by first | exact Nat.ne_of_gt (Nat.lt_of_lt_of_le hmw (Nat.le_add_right _ _)) | exact Nat.ne_of_gt hmw | omega))
  refine g_aload_n C dX2_init_31 rfl ?_
  refine g_get (ci := 4) C rfl inTX2 1 (by decide) fl_RX2_18 rfl ou5 rfl dX2_init_32 ?_
  refine g_lconst (z := 1) C dX2_init_35 (by decide) ?_
  refine g_callV C (v_X5_setNumber _ q0'.ws (x := 1) (by omega)) (ci := 7) rfl q0'.ws.o rfl ml_RX2_25 im_yX5_setNumber se_RX5_yX5_setNumber in_RX5 co_yX5_setNumber hd_X5_setNumber rfl ⟨by omega, by omega⟩ rfl (Nat.le_of_ble_eq_true rfl) ⟨by omega, by omega⟩ dX2_init_36 (fun v36 w36 hp36 => ?_)
  obtain ⟨rfl, hws36, hfr36⟩ := hp36
  exact g_return C hQ dX2_init_39 (by omega) (by omega) ⟨rfl, hfr36.1.trans nu5, by rw [hfr36.2 a (by omega) (by omega)]; exact ou5, hws36, q2'.fr hfr36 (by omega) (by omega) (by omega) (by omega), ⟨by have := hfr36.1; omega, fun b x hb e => by
    have hbl := hwf b x e
    rw [hfr36.2 b (by omega) (by omega)]
    exact ((((yu1.tr yu2).tr yu3).tr yu4).tr yu5).2 _ _ hb e⟩⟩
set_option maxHeartbeats 4000000 in
set_option maxRecDepth 100000 in
theorem s_X0_init (l : Launch) {K : KC} {E : GE} {w : Wd} {a : Nat} (oB : w.2 a = some (true, eO 2 [.null, .null, .null, .null, .null])) : St K E l yX0_init cX0_init 1 none 2 (9) (147) [.ref a] w (fun r' w' => r' = none ∧ w'.1 = w.1 + 9 ∧ w'.2 a = some (true, eO 2 [.ref w.1, .ref (w.1 + 2), .ref (w.1 + 4), .ref (w.1 + 6), .ref (w.1 + 8)]) ∧ WS w' w.1 (w.1 + 1) ∧ WS w' (w.1 + 2) (w.1 + 3) ∧ WS w' (w.1 + 4) (w.1 + 5) ∧ WS w' (w.1 + 6) (w.1 + 7) ∧ w'.2 (w.1 + 8) = some (true, eB 63 (fun _ => 0)) ∧ ExX w w' a) := by
  refine st_intro [some (.ref a)] rfl (Nat.le_of_ble_eq_true rfl) pn_X0 ?_
  intro X C hT hRm hl hnm hQ
  obtain ⟨hRf, hRl, hRc, hRs⟩ := hRm
  refine g_wf (fun hwf => ?_)
  have hmw : a < w.1 := hwf a _ oB
  refine g_aload_n C dX0_init_0 rfl ?_
  refine g_objInit C ml_RX0_5 (by omega) (by omega) (Nat.le_of_ble_eq_true rfl) dX0_init_1 ?_
  refine g_aload_n C dX0_init_4 rfl ?_
  refine g_new (ci := 7) C rfl inTX5 tyX5 tyX5_ok kl_RX0_1 ib_RX5 in_RX5 (fs := [.null, iI 0, iI 0]) (by intro j hj; repeat (first | rfl | (cases j; rfl) | (rename_i j; cases j; rfl) | omega)) (by omega) dX0_init_5 ?_
  refine g_dup C dX0_init_8 rfl ?_
  refine t_nI C hT ((s_X5_new (l := xl X) (w := wpush w _) (a := w.1) wpush_s).st) 2 rfl im_yX5_init in_RX5 co_yX5_init rfl hd_X5_init rfl ⟨by omega, by omega⟩ rfl (Nat.le_of_ble_eq_true rfl) ⟨by omega, by omega⟩ dX0_init_9 (fun v9 w9 hp9 => ?_)
  obtain ⟨rfl, hw9⟩ := hp9
  subst w9
  obtain ⟨u1, hu1⟩ : ∃ u1, u1 = addW w := ⟨_, rfl⟩
  refine g_eqw (w' := u1) (by rw [hu1]; first | done | rfl) ?_
  have nu1 : u1.1 = w.1 + 2 := by
    have e0 : w.1 = w.1 + 0 := rfl
    rw [hu1]; show w.1 + 2 = _; omega
  have zu1 : Ex w u1 := by rw [hu1]; exact addW_ex hwf
  have yu1 : ExX w u1 a := zu1.exx _
  have ou1 := zu1.2 _ _ oB
  have q0 : WA u1 w.1 (w.1 + 1) 0 := by
    have e0 := addW_WA w
    rw [← hu1] at e0
    exact e0
  refine g_wf (fun fu1 => ?_)
  refine g_putF (ci := 2) C rfl inTX0 tyX0 tyX0_ok nmX0 0 (by decide) fl_RX0_12 rfl rfl hnm rfl ou1 (Nat.le_of_ble_eq_true rfl) rfl rfl dX0_init_12 ?_
  obtain ⟨u2, hu2⟩ : ∃ u2, u2 = wset u1 a (true, eO 2 [.ref w.1, .null, .null, .null, .null]) := ⟨_, rfl⟩
  refine g_eqw (w' := u2) hu2.symm ?_
  have nu2 : u2.1 = w.1 + 2 := by rw [hu2]; exact nu1
  have yu2 : ExX u1 u2 a := by rw [hu2]; exact ExX.set _ _ _
  have ou2 : u2.2 a = some (true, eO 2 [.ref w.1, .null, .null, .null, .null]) := by rw [hu2]; exact wset_s
  refine g_wf (fun fu2 => ?_)
  refine g_aload_n C dX0_init_15 rfl ?_
  refine g_new (ci := 7) C rfl inTX5 tyX5 tyX5_ok kl_RX0_1 ib_RX5 in_RX5 (fs := [.null, iI 0, iI 0]) (by intro j hj; repeat (first | rfl | (cases j; rfl) | (rename_i j; cases j; rfl) | omega)) (by omega) dX0_init_16 ?_
  refine g_dup C dX0_init_19 rfl ?_
  refine t_nI C hT ((s_X5_new (l := xl X) (w := wpush u2 _) (a := u2.1) wpush_s).st) 2 rfl im_yX5_init in_RX5 co_yX5_init rfl hd_X5_init rfl ⟨by omega, by omega⟩ rfl (Nat.le_of_ble_eq_true rfl) ⟨by omega, by omega⟩ dX0_init_20 (fun v20 w20 hp20 => ?_)
  obtain ⟨rfl, hw20⟩ := hp20
  subst w20
  obtain ⟨u3, hu3⟩ : ∃ u3, u3 = addW u2 := ⟨_, rfl⟩
  refine g_eqw (w' := u3) (by rw [hu3]; first | done | rfl) ?_
  have nu3 : u3.1 = w.1 + 4 := by
    have e0 : u2.1 = w.1 + 2 := nu2
    rw [hu3]; show u2.1 + 2 = _; omega
  have zu3 : Ex u2 u3 := by rw [hu3]; exact addW_ex fu2
  have yu3 : ExX u2 u3 a := zu3.exx _
  have ou3 := zu3.2 _ _ ou2
  have q2 : WA u3 (w.1 + 2) (w.1 + 3) 0 := by
    have e0 := addW_WA u2
    rw [← hu3, nu2] at e0
    exact e0
  refine g_wf (fun fu3 => ?_)
  rw [nu2]
  refine g_putF (ci := 2) C rfl inTX0 tyX0 tyX0_ok nmX0 1 (by decide) fl_RX0_18 rfl rfl hnm rfl ou3 (Nat.le_of_ble_eq_true rfl) rfl rfl dX0_init_23 ?_
  obtain ⟨u4, hu4⟩ : ∃ u4, u4 = wset u3 a (true, eO 2 [.ref w.1, .ref (w.1 + 2), .null, .null, .null]) := ⟨_, rfl⟩
  refine g_eqw (w' := u4) hu4.symm ?_
  have nu4 : u4.1 = w.1 + 4 := by rw [hu4]; exact nu3
  have yu4 : ExX u3 u4 a := by rw [hu4]; exact ExX.set _ _ _
  have ou4 : u4.2 a = some (true, eO 2 [.ref w.1, .ref (w.1 + 2), .null, .null, .null]) := by rw [hu4]; exact wset_s
  refine g_wf (fun fu4 => ?_)
  refine g_aload_n C dX0_init_26 rfl ?_
  refine g_new (ci := 7) C rfl inTX5 tyX5 tyX5_ok kl_RX0_1 ib_RX5 in_RX5 (fs := [.null, iI 0, iI 0]) (by intro j hj; repeat (first | rfl | (cases j; rfl) | (rename_i j; cases j; rfl) | omega)) (by omega) dX0_init_27 ?_
  refine g_dup C dX0_init_30 rfl ?_
  refine t_nI C hT ((s_X5_new (l := xl X) (w := wpush u4 _) (a := u4.1) wpush_s).st) 2 rfl im_yX5_init in_RX5 co_yX5_init rfl hd_X5_init rfl ⟨by omega, by omega⟩ rfl (Nat.le_of_ble_eq_true rfl) ⟨by omega, by omega⟩ dX0_init_31 (fun v31 w31 hp31 => ?_)
  obtain ⟨rfl, hw31⟩ := hp31
  subst w31
  obtain ⟨u5, hu5⟩ : ∃ u5, u5 = addW u4 := ⟨_, rfl⟩
  refine g_eqw (w' := u5) (by rw [hu5]; first | done | rfl) ?_
  have nu5 : u5.1 = w.1 + 6 := by
    have e0 : u4.1 = w.1 + 4 := nu4
    rw [hu5]; show u4.1 + 2 = _; omega
  have zu5 : Ex u4 u5 := by rw [hu5]; exact addW_ex fu4
  have yu5 : ExX u4 u5 a := zu5.exx _
  have ou5 := zu5.2 _ _ ou4
  have q4 : WA u5 (w.1 + 4) (w.1 + 5) 0 := by
    have e0 := addW_WA u4
    rw [← hu5, nu4] at e0
    exact e0
  refine g_wf (fun fu5 => ?_)
  rw [nu4]
  refine g_putF (ci := 2) C rfl inTX0 tyX0 tyX0_ok nmX0 2 (by decide) fl_RX0_21 rfl rfl hnm rfl ou5 (Nat.le_of_ble_eq_true rfl) rfl rfl dX0_init_34 ?_
  obtain ⟨u6, hu6⟩ : ∃ u6, u6 = wset u5 a (true, eO 2 [.ref w.1, .ref (w.1 + 2), .ref (w.1 + 4), .null, .null]) := ⟨_, rfl⟩
  refine g_eqw (w' := u6) hu6.symm ?_
  have nu6 : u6.1 = w.1 + 6 := by rw [hu6]; exact nu5
  have yu6 : ExX u5 u6 a := by rw [hu6]; exact ExX.set _ _ _
  have ou6 : u6.2 a = some (true, eO 2 [.ref w.1, .ref (w.1 + 2), .ref (w.1 + 4), .null, .null]) := by rw [hu6]; exact wset_s
  refine g_wf (fun fu6 => ?_)
  refine g_aload_n C dX0_init_37 rfl ?_
  refine g_new (ci := 7) C rfl inTX5 tyX5 tyX5_ok kl_RX0_1 ib_RX5 in_RX5 (fs := [.null, iI 0, iI 0]) (by intro j hj; repeat (first | rfl | (cases j; rfl) | (rename_i j; cases j; rfl) | omega)) (by omega) dX0_init_38 ?_
  refine g_dup C dX0_init_41 rfl ?_
  refine t_nI C hT ((s_X5_new (l := xl X) (w := wpush u6 _) (a := u6.1) wpush_s).st) 2 rfl im_yX5_init in_RX5 co_yX5_init rfl hd_X5_init rfl ⟨by omega, by omega⟩ rfl (Nat.le_of_ble_eq_true rfl) ⟨by omega, by omega⟩ dX0_init_42 (fun v42 w42 hp42 => ?_)
  obtain ⟨rfl, hw42⟩ := hp42
  subst w42
  obtain ⟨u7, hu7⟩ : ∃ u7, u7 = addW u6 := ⟨_, rfl⟩
  refine g_eqw (w' := u7) (by rw [hu7]; first | done | rfl) ?_
  have nu7 : u7.1 = w.1 + 8 := by
    have e0 : u6.1 = w.1 + 6 := nu6
    rw [hu7]; show u6.1 + 2 = _; omega
  have zu7 : Ex u6 u7 := by rw [hu7]; exact addW_ex fu6
  have yu7 : ExX u6 u7 a := zu7.exx _
  have ou7 := zu7.2 _ _ ou6
  have q6 : WA u7 (w.1 + 6) (w.1 + 7) 0 := by
    have e0 := addW_WA u6
    rw [← hu7, nu6] at e0
    exact e0
  refine g_wf (fun fu7 => ?_)
  rw [nu6]
  refine g_putF (ci := 2) C rfl inTX0 tyX0 tyX0_ok nmX0 3 (by decide) fl_RX0_24 rfl rfl hnm rfl ou7 (Nat.le_of_ble_eq_true rfl) rfl rfl dX0_init_45 ?_
  obtain ⟨u8, hu8⟩ : ∃ u8, u8 = wset u7 a (true, eO 2 [.ref w.1, .ref (w.1 + 2), .ref (w.1 + 4), .ref (w.1 + 6), .null]) := ⟨_, rfl⟩
  refine g_eqw (w' := u8) hu8.symm ?_
  have nu8 : u8.1 = w.1 + 8 := by rw [hu8]; exact nu7
  have yu8 : ExX u7 u8 a := by rw [hu8]; exact ExX.set _ _ _
  have ou8 : u8.2 a = some (true, eO 2 [.ref w.1, .ref (w.1 + 2), .ref (w.1 + 4), .ref (w.1 + 6), .null]) := by rw [hu8]; exact wset_s
  refine g_wf (fun fu8 => ?_)
  refine g_aload_n C dX0_init_48 rfl ?_
  refine g_bipush C dX0_init_49 (by decide) ?_
  refine g_newB C gw_arrayClass_byte (N := 63) rfl (by omega) (by omega) dX0_init_51 ?_
  obtain ⟨u9, hu9⟩ : ∃ u9, u9 = wpush u8 (true, eB 63 (fun _ => 0)) := ⟨_, rfl⟩
  refine g_eqw (w' := u9) (by rw [hu9]; first | done | rfl) ?_
  have nu9 : u9.1 = w.1 + 9 := by
    have e0 : u8.1 = w.1 + 8 := nu8
    rw [hu9]; show u8.1 + 1 = _; omega
  have zu9 : Ex u8 u9 := by rw [hu9]; exact Ex.push fu8 _
  have yu9 : ExX u8 u9 a := zu9.exx _
  have ou9 := zu9.2 _ _ ou8
  have c8 : u9.2 (w.1 + 8) = some (true, eB 63 (fun _ => 0)) := by
    have e0 : (wpush u8 (true, eB 63 (fun _ => 0))).2 u8.1 = some (true, eB 63 (fun _ => 0)) := wpush_s
    rw [← hu9, nu8] at e0
    exact e0
  refine g_wf (fun fu9 => ?_)
  rw [nu8]
  refine g_putF (ci := 2) C rfl inTX0 tyX0 tyX0_ok nmX0 4 (by decide) fl_RX0_27 rfl rfl hnm rfl ou9 (Nat.le_of_ble_eq_true rfl) rfl rfl dX0_init_53 ?_
  obtain ⟨u10, hu10⟩ : ∃ u10, u10 = wset u9 a (true, eO 2 [.ref w.1, .ref (w.1 + 2), .ref (w.1 + 4), .ref (w.1 + 6), .ref (w.1 + 8)]) := ⟨_, rfl⟩
  refine g_eqw (w' := u10) hu10.symm ?_
  have nu10 : u10.1 = w.1 + 9 := by rw [hu10]; exact nu9
  have yu10 : ExX u9 u10 a := by rw [hu10]; exact ExX.set _ _ _
  have ou10 : u10.2 a = some (true, eO 2 [.ref w.1, .ref (w.1 + 2), .ref (w.1 + 4), .ref (w.1 + 6), .ref (w.1 + 8)]) := by rw [hu10]; exact wset_s
  refine g_wf (fun fu10 => ?_)
  have q0' : WA u10 w.1 (w.1 + 1) 0 := (((((((((q0.exx yu2 (by first | exact Nat.ne_of_gt (Nat.lt_of_lt_of_le hmw (Nat.le_add_right _ _)) | exact Nat.ne_of_gt hmw | omega) (by first | exact Nat.ne_of_gt (Nat.lt_of_lt_of_le hmw (Nat.le_add_right _ _)) | exact Nat.ne_of_gt hmw | omega)).exx yu3 (by first | exact Nat.ne_of_gt (Nat.lt_of_lt_of_le hmw (Nat.le_add_right _ _)) | exact Nat.ne_of_gt hmw | omega) (by first | exact Nat.ne_of_gt (Nat.lt_of_lt_of_le hmw (Nat.le_add_right _ _)) | exact Nat.ne_of_gt hmw | omega)).exx yu4 (by first | exact Nat.ne_of_gt (Nat.lt_of_lt_of_le hmw (Nat.le_add_right _ _)) | exact Nat.ne_of_gt hmw | omega) (by first | exact Nat.ne_of_gt (Nat.lt_of_lt_of_le hmw (Nat.le_add_right _ _)) | exact Nat.ne_of_gt hmw | omega)).exx yu5 (by first | exact Nat.ne_of_gt (Nat.lt_of_lt_of_le hmw (Nat.le_add_right _ _)) | exact Nat.ne_of_gt hmw | omega) (by first | exact Nat.ne_of_gt (Nat.lt_of_lt_of_le hmw (Nat.le_add_right _ _)) | exact Nat.ne_of_gt hmw | omega)).exx yu6 (by first | exact Nat.ne_of_gt (Nat.lt_of_lt_of_le hmw (Nat.le_add_right _ _)) | exact Nat.ne_of_gt hmw | omega) (by first | exact Nat.ne_of_gt (Nat.lt_of_lt_of_le hmw (Nat.le_add_right _ _)) | exact Nat.ne_of_gt hmw | omega)).exx yu7 (by first | exact Nat.ne_of_gt (Nat.lt_of_lt_of_le hmw (Nat.le_add_right _ _)) | exact Nat.ne_of_gt hmw | omega) (by first | exact Nat.ne_of_gt (Nat.lt_of_lt_of_le hmw (Nat.le_add_right _ _)) | exact Nat.ne_of_gt hmw | omega)).exx yu8 (by first | exact Nat.ne_of_gt (Nat.lt_of_lt_of_le hmw (Nat.le_add_right _ _)) | exact Nat.ne_of_gt hmw | omega) (by first | exact Nat.ne_of_gt (Nat.lt_of_lt_of_le hmw (Nat.le_add_right _ _)) | exact Nat.ne_of_gt hmw | omega)).exx yu9 (by first | exact Nat.ne_of_gt (Nat.lt_of_lt_of_le hmw (Nat.le_add_right _ _)) | exact Nat.ne_of_gt hmw | omega) (by first | exact Nat.ne_of_gt (Nat.lt_of_lt_of_le hmw (Nat.le_add_right _ _)) | exact Nat.ne_of_gt hmw | omega)).exx yu10 (by first | exact Nat.ne_of_gt (Nat.lt_of_lt_of_le hmw (Nat.le_add_right _ _)) | exact Nat.ne_of_gt hmw | omega) (by first | exact Nat.ne_of_gt (Nat.lt_of_lt_of_le hmw (Nat.le_add_right _ _)) | exact Nat.ne_of_gt hmw | omega))
  have q2' : WA u10 (w.1 + 2) (w.1 + 3) 0 := (((((((q2.exx yu4 (by first | exact Nat.ne_of_gt (Nat.lt_of_lt_of_le hmw (Nat.le_add_right _ _)) | exact Nat.ne_of_gt hmw | omega) (by first | exact Nat.ne_of_gt (Nat.lt_of_lt_of_le hmw (Nat.le_add_right _ _)) | exact Nat.ne_of_gt hmw | omega)).exx yu5 (by first | exact Nat.ne_of_gt (Nat.lt_of_lt_of_le hmw (Nat.le_add_right _ _)) | exact Nat.ne_of_gt hmw | omega) (by first | exact Nat.ne_of_gt (Nat.lt_of_lt_of_le hmw (Nat.le_add_right _ _)) | exact Nat.ne_of_gt hmw | omega)).exx yu6 (by first | exact Nat.ne_of_gt (Nat.lt_of_lt_of_le hmw (Nat.le_add_right _ _)) | exact Nat.ne_of_gt hmw | omega) (by first | exact Nat.ne_of_gt (Nat.lt_of_lt_of_le hmw (Nat.le_add_right _ _)) | exact Nat.ne_of_gt hmw | omega)).exx yu7 (by first | exact Nat.ne_of_gt (Nat.lt_of_lt_of_le hmw (Nat.le_add_right _ _)) | exact Nat.ne_of_gt hmw | omega) (by first | exact Nat.ne_of_gt (Nat.lt_of_lt_of_le hmw (Nat.le_add_right _ _)) | exact Nat.ne_of_gt hmw | omega)).exx yu8 (by first | exact Nat.ne_of_gt (Nat.lt_of_lt_of_le hmw (Nat.le_add_right _ _)) | exact Nat.ne_of_gt hmw | omega) (by first | exact Nat.ne_of_gt (Nat.lt_of_lt_of_le hmw (Nat.le_add_right _ _)) | exact Nat.ne_of_gt hmw | omega)).exx yu9 (by first | exact Nat.ne_of_gt (Nat.lt_of_lt_of_le hmw (Nat.le_add_right _ _)) | exact Nat.ne_of_gt hmw | omega) (by first | exact Nat.ne_of_gt (Nat.lt_of_lt_of_le hmw (Nat.le_add_right _ _)) | exact Nat.ne_of_gt hmw | omega)).exx yu10 (by first | exact Nat.ne_of_gt (Nat.lt_of_lt_of_le hmw (Nat.le_add_right _ _)) | exact Nat.ne_of_gt hmw | omega) (by first | exact Nat.ne_of_gt (Nat.lt_of_lt_of_le hmw (Nat.le_add_right _ _)) | exact Nat.ne_of_gt hmw | omega))
  have q4' : WA u10 (w.1 + 4) (w.1 + 5) 0 := (((((q4.exx yu6 (by first | exact Nat.ne_of_gt (Nat.lt_of_lt_of_le hmw (Nat.le_add_right _ _)) | exact Nat.ne_of_gt hmw | omega) (by first | exact Nat.ne_of_gt (Nat.lt_of_lt_of_le hmw (Nat.le_add_right _ _)) | exact Nat.ne_of_gt hmw | omega)).exx yu7 (by first | exact Nat.ne_of_gt (Nat.lt_of_lt_of_le hmw (Nat.le_add_right _ _)) | exact Nat.ne_of_gt hmw | omega) (by first | exact Nat.ne_of_gt (Nat.lt_of_lt_of_le hmw (Nat.le_add_right _ _)) | exact Nat.ne_of_gt hmw | omega)).exx yu8 (by first | exact Nat.ne_of_gt (Nat.lt_of_lt_of_le hmw (Nat.le_add_right _ _)) | exact Nat.ne_of_gt hmw | omega) (by first | exact Nat.ne_of_gt (Nat.lt_of_lt_of_le hmw (Nat.le_add_right _ _)) | exact Nat.ne_of_gt hmw | omega)).exx yu9 (by first | exact Nat.ne_of_gt (Nat.lt_of_lt_of_le hmw (Nat.le_add_right _ _)) | exact Nat.ne_of_gt hmw | omega) (by first | exact Nat.ne_of_gt (Nat.lt_of_lt_of_le hmw (Nat.le_add_right _ _)) | exact Nat.ne_of_gt hmw | omega)).exx yu10 (by first | exact Nat.ne_of_gt (Nat.lt_of_lt_of_le hmw (Nat.le_add_right _ _)) | exact Nat.ne_of_gt hmw | omega) (by first | exact Nat.ne_of_gt (Nat.lt_of_lt_of_le hmw (Nat.le_add_right _ _)) | exact Nat.ne_of_gt hmw | omega))
  have q6' : WA u10 (w.1 + 6) (w.1 + 7) 0 := (((q6.exx yu8 (by first | exact Nat.ne_of_gt (Nat.lt_of_lt_of_le hmw (Nat.le_add_right _ _)) | exact Nat.ne_of_gt hmw | omega) (by first | exact Nat.ne_of_gt (Nat.lt_of_lt_of_le hmw (Nat.le_add_right _ _)) | exact Nat.ne_of_gt hmw | omega)).exx yu9 (by first | exact Nat.ne_of_gt (Nat.lt_of_lt_of_le hmw (Nat.le_add_right _ _)) | exact Nat.ne_of_gt hmw | omega) (by first | exact Nat.ne_of_gt (Nat.lt_of_lt_of_le hmw (Nat.le_add_right _ _)) | exact Nat.ne_of_gt hmw | omega)).exx yu10 (by first | exact Nat.ne_of_gt (Nat.lt_of_lt_of_le hmw (Nat.le_add_right _ _)) | exact Nat.ne_of_gt hmw | omega) (by first | exact Nat.ne_of_gt (Nat.lt_of_lt_of_le hmw (Nat.le_add_right _ _)) | exact Nat.ne_of_gt hmw | omega))
  have c8' : u10.2 (w.1 + 8) = some (true, eB 63 (fun _ => 0)) := (yu10.2 _ _ (by first | exact Nat.ne_of_gt (Nat.lt_of_lt_of_le hmw (Nat.le_add_right _ _)) | exact Nat.ne_of_gt hmw | omega) c8)
  exact g_return C hQ dX0_init_56 (by omega) (by omega) ⟨rfl, nu10, ou10, q0'.ws, q2'.ws, q4'.ws, q6'.ws, c8', (((((((((yu1.tr yu2).tr yu3).tr yu4).tr yu5).tr yu6).tr yu7).tr yu8).tr yu9).tr yu10)⟩
