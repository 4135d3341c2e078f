/-! the model's constructor -/
def itg (k : Nat) : Nat := if k = 0 then 2 else if k = 1 then 3 else if k = 2 then 4 else if k = 3 then 5 else if k = 10 then 6 else if k = 17 then 7 else if k = 21 then 8 else if k = 18 then 10 else if k = 19 then 11 else if k = 20 then 12 else 9
def itag (τ : Nat → Nat) (n : Nat) : Nat → Nat := fun a => if a < n then τ a else itg (a - n)
theorem itag_lo {τ : Nat → Nat} {n a : Nat} (h : a < n) : itag τ n a = τ a := if_pos h
theorem itag_hi {τ : Nat → Nat} {n a : Nat} (k : Nat) (h : a = n + k) : itag τ n a = itg k := by
  subst h
  unfold itag
  rw [if_neg (by omega), show n + k - n = k by omega]
/-- all cells but one stay -/
def ExX (w u : Wd) (m : Nat) : Prop := w.1 ≤ u.1 ∧ ∀ a x, a ≠ m → w.2 a = some x → u.2 a = some x
theorem ExX.rf (w : Wd) (m : Nat) : ExX w w m := ⟨Nat.le_refl _, fun _ _ _ h => h⟩
theorem ExX.tr {w u v : Wd} {m : Nat} (h : ExX w u m) (g : ExX u v m) : ExX w v m := ⟨Nat.le_trans h.1 g.1, fun a x n e => g.2 a x n (h.2 a x n e)⟩
theorem Ex.exx {w u : Wd} (h : Ex w u) (m : Nat) : ExX w u m := ⟨h.1, fun a x _ e => h.2 a x e⟩
theorem ExX.set (w : Wd) (m : Nat) (e : WdE) : ExX w (wset w m e) m := ⟨Nat.le_refl _, fun a x n h => by rw [wset_n n]; exact h⟩
theorem ExX.keep {τ : Nat → Nat} {w u : Wd} {m : Nat} (h : ExX w u m) (ht : τ m < 100) : Keep τ w u := ⟨h.1, fun a x t e => h.2 a x (fun q => by subst q; omega) e⟩
theorem RowAt.exx {w u : Wd} {a c m : Nat} {z : Int} (h : RowAt w a z c) (x : ExX w u m) (ha : a ≠ m) : RowAt u a z c := by
  obtain ⟨n, f, h1, h2, h3⟩ := h
  exact ⟨n, f, x.2 _ _ ha h1, h2, h3⟩
set_option maxHeartbeats 4000000 in
set_option maxRecDepth 100000 in
theorem c_X8_init (l : Launch) {E : GE} {w : Wd} {τ : Nat → Nat} {m : Nat} (hN : w.2 m = some (true, eO 10 [iI 0, .null, .null, .null, .null, .null, .null, .null])) (ht : τ m = 1) : Sp E l yX8_init cX8_init 1 none 5 (22) (89) [.ref m] w (fun r' w' => ∃ (τ' : Nat → Nat) (A : MA) (ba st pb le ri : Nat → Int) (sp : Nat → Nat → Int) (ct : Nat → Int), r' = none ∧ (∀ a, a < w.1 → τ' a = τ a) ∧ MSx τ' w' m A 0 ba st pb le ri sp ct ∧ Keep τ w w' ∧ (∀ i, i < 3 → ba i = 2 ∧ st i = 0 ∧ pb i = 2 ∧ le i = 1 ∧ ri i = 0 ∧ SpR (sp i) 5 0) ∧ (∀ i, ct i = 0) ∧ w'.1 = w.1 + 22) := by
  refine sp_intro [some (.ref m)] rfl (Nat.le_of_ble_eq_true rfl) pn_X8 ?_
  intro X C hRm hl hnm hQ
  obtain ⟨hRf, hRl, hRc, hRs⟩ := hRm
  refine g_wf (fun hwf => ?_)
  have hmw : m < w.1 := hwf m _ hN
  have z0 : w.1 = w.1 := rfl
  refine g_aload_n C dX8_init_0 rfl ?_
  refine g_objInit C ml_RX8_3 (by omega) (by omega) (Nat.le_of_ble_eq_true rfl) dX8_init_1 ?_
  refine g_aload_n C dX8_init_4 rfl ?_
  refine g_iconst C dX8_init_5 ?_
  refine g_newI C gw_arrayClass_int (N := 3) rfl (by omega) (by omega) dX8_init_6 ?_
  refine g_dup C dX8_init_8 rfl ?_
  refine g_iconst C dX8_init_9 ?_
  refine g_iconst C dX8_init_10 ?_
  refine g_iastoreN (0) C wpush_s (by omega) (by omega) dX8_init_11 ?_
  rw [wset_push]
  refine g_dup C dX8_init_12 rfl ?_
  refine g_iconst C dX8_init_13 ?_
  refine g_iconst C dX8_init_14 ?_
  refine g_iastoreN (1) C wpush_s (by omega) (by omega) dX8_init_15 ?_
  rw [wset_push]
  refine g_dup C dX8_init_16 rfl ?_
  refine g_iconst C dX8_init_17 ?_
  refine g_iconst C dX8_init_18 ?_
  refine g_iastoreN (2) C wpush_s (by omega) (by omega) dX8_init_19 ?_
  rw [wset_push]
  refine g_putF (ci := 10) C rfl inTX8 tyX8 tyX8_ok nmX8 1 (by decide) fl_RX8_9 rfl rfl hnm rfl (by rw [wpush_n (by omega)]; exact hN) (Nat.le_of_ble_eq_true rfl) rfl rfl dX8_init_20 ?_
  obtain ⟨u1, hu1⟩ : ∃ u1, u1 = wset (wpush w (true, eI 3 (iup (iup (iup (fun _ => 0) 0 2) 1 2) 2 2))) m (true, eO 10 [iI 0, .ref w.1, .null, .null, .null, .null, .null, .null]) := ⟨_, rfl⟩
  have ou1 : u1.2 m = some (true, eO 10 [iI 0, .ref w.1, .null, .null, .null, .null, .null, .null]) := by rw [hu1]; exact wset_s
  have zu1 : u1.1 = (wpush w (true, eI 3 (iup (iup (iup (fun _ => 0) 0 2) 1 2) 2 2))).1 := by rw [hu1]; rfl
  have yu1 : ExX (wpush w (true, eI 3 (iup (iup (iup (fun _ => 0) 0 2) 1 2) 2 2))) u1 m := by rw [hu1]; exact ExX.set _ _ _
  refine g_eqw (w' := u1) hu1.symm ?_
  refine g_wf (fun fu1 => ?_)
  have rb : u1.2 w.1 = some (true, eI 3 (iup (iup (iup (fun _ => 0) 0 2) 1 2) 2 2)) := yu1.2 _ _ (by omega) wpush_s
  have xu1 : ExX w u1 m := ((Ex.push hwf _).exx m).tr yu1
  have nu1 : u1.1 = w.1 + 1 := zu1
  refine g_aload_n C dX8_init_23 rfl ?_
  refine g_iconst C dX8_init_24 ?_
  refine g_newI C gw_arrayClass_int (N := 3) rfl (by omega) (by omega) dX8_init_25 ?_
  refine g_putF (ci := 10) C rfl inTX8 tyX8 tyX8_ok nmX8 2 (by decide) fl_RX8_13 rfl rfl hnm rfl (by rw [wpush_n (by omega)]; exact ou1) (Nat.le_of_ble_eq_true rfl) rfl rfl dX8_init_27 ?_
  obtain ⟨u2, hu2⟩ : ∃ u2, u2 = wset (wpush u1 (true, eI 3 (fun _ => 0))) m (true, eO 10 [iI 0, .ref w.1, .ref u1.1, .null, .null, .null, .null, .null]) := ⟨_, rfl⟩
  have ou2 : u2.2 m = some (true, eO 10 [iI 0, .ref w.1, .ref u1.1, .null, .null, .null, .null, .null]) := by rw [hu2]; exact wset_s
  have zu2 : u2.1 = (wpush u1 (true, eI 3 (fun _ => 0))).1 := by rw [hu2]; rfl
  have yu2 : ExX (wpush u1 (true, eI 3 (fun _ => 0))) u2 m := by rw [hu2]; exact ExX.set _ _ _
  refine g_eqw (w' := u2) hu2.symm ?_
  refine g_wf (fun fu2 => ?_)
  have rs : u2.2 u1.1 = some (true, eI 3 (fun _ => 0)) := yu2.2 _ _ (by omega) wpush_s
  have xu2 : ExX u1 u2 m := ((Ex.push fu1 _).exx m).tr yu2
  have nu2 : u2.1 = u1.1 + 1 := zu2
  refine g_aload_n C dX8_init_30 rfl ?_
  refine g_iconst C dX8_init_31 ?_
  refine g_newI C gw_arrayClass_int (N := 3) rfl (by omega) (by omega) dX8_init_32 ?_
  refine g_dup C dX8_init_34 rfl ?_
  refine g_iconst C dX8_init_35 ?_
  refine g_iconst C dX8_init_36 ?_
  refine g_iastoreN (0) C wpush_s (by omega) (by omega) dX8_init_37 ?_
  rw [wset_push]
  refine g_dup C dX8_init_38 rfl ?_
  refine g_iconst C dX8_init_39 ?_
  refine g_iconst C dX8_init_40 ?_
  refine g_iastoreN (1) C wpush_s (by omega) (by omega) dX8_init_41 ?_
  rw [wset_push]
  refine g_dup C dX8_init_42 rfl ?_
  refine g_iconst C dX8_init_43 ?_
  refine g_iconst C dX8_init_44 ?_
  refine g_iastoreN (2) C wpush_s (by omega) (by omega) dX8_init_45 ?_
  rw [wset_push]
  refine g_putF (ci := 10) C rfl inTX8 tyX8 tyX8_ok nmX8 3 (by decide) fl_RX8_16 rfl rfl hnm rfl (by rw [wpush_n (by omega)]; exact ou2) (Nat.le_of_ble_eq_true rfl) rfl rfl dX8_init_46 ?_
  obtain ⟨u3, hu3⟩ : ∃ u3, u3 = wset (wpush u2 (true, eI 3 (iup (iup (iup (fun _ => 0) 0 2) 1 2) 2 2))) m (true, eO 10 [iI 0, .ref w.1, .ref u1.1, .ref u2.1, .null, .null, .null, .null]) := ⟨_, rfl⟩
  have ou3 : u3.2 m = some (true, eO 10 [iI 0, .ref w.1, .ref u1.1, .ref u2.1, .null, .null, .null, .null]) := by rw [hu3]; exact wset_s
  have zu3 : u3.1 = (wpush u2 (true, eI 3 (iup (iup (iup (fun _ => 0) 0 2) 1 2) 2 2))).1 := by rw [hu3]; rfl
  have yu3 : ExX (wpush u2 (true, eI 3 (iup (iup (iup (fun _ => 0) 0 2) 1 2) 2 2))) u3 m := by rw [hu3]; exact ExX.set _ _ _
  refine g_eqw (w' := u3) hu3.symm ?_
  refine g_wf (fun fu3 => ?_)
  have rp : u3.2 u2.1 = some (true, eI 3 (iup (iup (iup (fun _ => 0) 0 2) 1 2) 2 2)) := yu3.2 _ _ (by omega) wpush_s
  have xu3 : ExX u2 u3 m := ((Ex.push fu2 _).exx m).tr yu3
  have nu3 : u3.1 = u2.1 + 1 := zu3
  refine g_aload_n C dX8_init_49 rfl ?_
  refine g_iconst C dX8_init_50 ?_
  refine g_anewI C kl_RX8_19 (N := 3) rfl (by omega) (by omega) dX8_init_51 ?_
  obtain ⟨u4a, hu4a⟩ : ∃ u4a, u4a = wpush u3 (true, eR 2 3 (fun _ => none)) := ⟨_, rfl⟩
  have xu4a : Ex u3 u4a := by rw [hu4a]; exact Ex.push fu3 _
  have ru4a : u4a.2 u3.1 = some (true, eR 2 3 (fun _ => none)) := by rw [hu4a]; exact wpush_s
  have nu4a : u4a.1 = u3.1 + 1 := by rw [hu4a]; rfl
  refine g_eqw (w' := u4a) hu4a.symm ?_
  refine g_wf (fun fu4a => ?_)
  refine g_dup C dX8_init_54 rfl ?_
  refine g_iconst C dX8_init_55 ?_
  refine g_lconst (z := 1) C dX8_init_56 (by decide) ?_
  refine g_callS C (c_X8_of _ (v := 1) (by omega)) ml_RX8_20 sm_yX8_of in_RX8 co_yX8_of hd_X8_of rfl ⟨by omega, by omega⟩ rfl (Nat.le_of_ble_eq_true rfl) ⟨by omega, by omega⟩ dX8_init_57 (fun v57 w57 hp57 => ?_)
  obtain ⟨m57, g57, rfl, e57, b57, c57, s57, k57⟩ := hp57
  refine g_aastoreI C 0 (k57.2 _ _ ru4a) e57 rfl (by omega) dX8_init_60 ?_
  obtain ⟨u4b, hu4b⟩ : ∃ u4b, u4b = wset w57 u3.1 (true, eR 2 3 (rup (fun _ => none) 0 (some (u4a.1 + 1)))) := ⟨_, rfl⟩
  have nu4b : u4b.1 = u4a.1 + 2 := by rw [hu4b]; exact s57
  have ru4b : u4b.2 u3.1 = some (true, eR 2 3 (rup (fun _ => none) 0 (some (u4a.1 + 1)))) := by rw [hu4b]; exact wset_s
  have qu4b : RowAt u4b (u4a.1 + 1) 1 4 := ⟨m57, g57, by rw [hu4b, wset_n (by omega)]; exact e57, b57, c57⟩
  have xu4b : ExX u4a u4b u3.1 := (k57.exx _).tr (by rw [hu4b]; exact ExX.set _ _ _)
  refine g_eqw (w' := u4b) hu4b.symm ?_
  refine g_wf (fun fu4b => ?_)
  refine g_dup C dX8_init_61 rfl ?_
  refine g_iconst C dX8_init_62 ?_
  refine g_lconst (z := 1) C dX8_init_63 (by decide) ?_
  refine g_callS C (c_X8_of _ (v := 1) (by omega)) ml_RX8_20 sm_yX8_of in_RX8 co_yX8_of hd_X8_of rfl ⟨by omega, by omega⟩ rfl (Nat.le_of_ble_eq_true rfl) ⟨by omega, by omega⟩ dX8_init_64 (fun v64 w64 hp64 => ?_)
  obtain ⟨m64, g64, rfl, e64, b64, c64, s64, k64⟩ := hp64
  refine g_aastoreI C 1 (k64.2 _ _ ru4b) e64 rfl (by omega) dX8_init_67 ?_
  obtain ⟨u4c, hu4c⟩ : ∃ u4c, u4c = wset w64 u3.1 (true, eR 2 3 (rup (rup (fun _ => none) 0 (some (u4a.1 + 1))) 1 (some (u4b.1 + 1)))) := ⟨_, rfl⟩
  have nu4c : u4c.1 = u4b.1 + 2 := by rw [hu4c]; exact s64
  have ru4c : u4c.2 u3.1 = some (true, eR 2 3 (rup (rup (fun _ => none) 0 (some (u4a.1 + 1))) 1 (some (u4b.1 + 1)))) := by rw [hu4c]; exact wset_s
  have qu4c : RowAt u4c (u4b.1 + 1) 1 4 := ⟨m64, g64, by rw [hu4c, wset_n (by omega)]; exact e64, b64, c64⟩
  have xu4c : ExX u4b u4c u3.1 := (k64.exx _).tr (by rw [hu4c]; exact ExX.set _ _ _)
  refine g_eqw (w' := u4c) hu4c.symm ?_
  refine g_wf (fun fu4c => ?_)
  refine g_dup C dX8_init_68 rfl ?_
  refine g_iconst C dX8_init_69 ?_
  refine g_lconst (z := 1) C dX8_init_70 (by decide) ?_
  refine g_callS C (c_X8_of _ (v := 1) (by omega)) ml_RX8_20 sm_yX8_of in_RX8 co_yX8_of hd_X8_of rfl ⟨by omega, by omega⟩ rfl (Nat.le_of_ble_eq_true rfl) ⟨by omega, by omega⟩ dX8_init_71 (fun v71 w71 hp71 => ?_)
  obtain ⟨m71, g71, rfl, e71, b71, c71, s71, k71⟩ := hp71
  refine g_aastoreI C 2 (k71.2 _ _ ru4c) e71 rfl (by omega) dX8_init_74 ?_
  obtain ⟨u4d, hu4d⟩ : ∃ u4d, u4d = wset w71 u3.1 (true, eR 2 3 (rup (rup (rup (fun _ => none) 0 (some (u4a.1 + 1))) 1 (some (u4b.1 + 1))) 2 (some (u4c.1 + 1)))) := ⟨_, rfl⟩
  have nu4d : u4d.1 = u4c.1 + 2 := by rw [hu4d]; exact s71
  have ru4d : u4d.2 u3.1 = some (true, eR 2 3 (rup (rup (rup (fun _ => none) 0 (some (u4a.1 + 1))) 1 (some (u4b.1 + 1))) 2 (some (u4c.1 + 1)))) := by rw [hu4d]; exact wset_s
  have qu4d : RowAt u4d (u4c.1 + 1) 1 4 := ⟨m71, g71, by rw [hu4d, wset_n (by omega)]; exact e71, b71, c71⟩
  have xu4d : ExX u4c u4d u3.1 := (k71.exx _).tr (by rw [hu4d]; exact ExX.set _ _ _)
  refine g_eqw (w' := u4d) hu4d.symm ?_
  refine g_wf (fun fu4d => ?_)
  refine g_putF (ci := 10) C rfl inTX8 tyX8 tyX8_ok nmX8 4 (by decide) fl_RX8_24 rfl rfl hnm rfl (xu4d.2 _ _ (by omega) (xu4c.2 _ _ (by omega) (xu4b.2 _ _ (by omega) (xu4a.2 _ _ ou3)))) (Nat.le_of_ble_eq_true rfl) rfl rfl dX8_init_75 ?_
  obtain ⟨u4, hu4⟩ : ∃ u4, u4 = wset u4d m (true, eO 10 [iI 0, .ref w.1, .ref u1.1, .ref u2.1, .ref u3.1, .null, .null, .null]) := ⟨_, rfl⟩
  have ou4 : u4.2 m = some (true, eO 10 [iI 0, .ref w.1, .ref u1.1, .ref u2.1, .ref u3.1, .null, .null, .null]) := by rw [hu4]; exact wset_s
  have zu4 : u4.1 = u4d.1 := by rw [hu4]; rfl
  have yu4 : ExX u4d u4 m := by rw [hu4]; exact ExX.set _ _ _
  refine g_eqw (w' := u4) hu4.symm ?_
  refine g_wf (fun fu4 => ?_)
  have qu40 : RowAt u4 (u4a.1 + 1) 1 4 := (((qu4b.exx xu4c (by omega)).exx xu4d (by omega)).exx yu4 (by omega))
  have qu41 : RowAt u4 (u4b.1 + 1) 1 4 := ((qu4c.exx xu4d (by omega)).exx yu4 (by omega))
  have qu42 : RowAt u4 (u4c.1 + 1) 1 4 := (qu4d.exx yu4 (by omega))
  have rl : u4.2 u3.1 = some (true, eR 2 3 (rup (rup (rup (fun _ => none) 0 (some (u4a.1 + 1))) 1 (some (u4b.1 + 1))) 2 (some (u4c.1 + 1)))) := yu4.2 _ _ (by omega) ru4d
  have xu4 : ExX u3 u4 m := ⟨by omega, fun a x hn h => by
    have ha := fu3 a x h
    exact yu4.2 _ _ hn (xu4d.2 _ _ (by omega) (xu4c.2 _ _ (by omega) (xu4b.2 _ _ (by omega) (xu4a.2 _ _ h))))⟩
  have nu4 : u4.1 = u3.1 + 7 := by omega
  refine g_aload_n C dX8_init_78 rfl ?_
  refine g_iconst C dX8_init_79 ?_
  refine g_anewI C kl_RX8_19 (N := 3) rfl (by omega) (by omega) dX8_init_80 ?_
  obtain ⟨u5a, hu5a⟩ : ∃ u5a, u5a = wpush u4 (true, eR 2 3 (fun _ => none)) := ⟨_, rfl⟩
  have xu5a : Ex u4 u5a := by rw [hu5a]; exact Ex.push fu4 _
  have ru5a : u5a.2 u4.1 = some (true, eR 2 3 (fun _ => none)) := by rw [hu5a]; exact wpush_s
  have nu5a : u5a.1 = u4.1 + 1 := by rw [hu5a]; rfl
  refine g_eqw (w' := u5a) hu5a.symm ?_
  refine g_wf (fun fu5a => ?_)
  refine g_dup C dX8_init_83 rfl ?_
  refine g_iconst C dX8_init_84 ?_
  refine g_lconst (z := 0) C dX8_init_85 (by decide) ?_
  refine g_callS C (c_X8_of _ (v := 0) (by omega)) ml_RX8_20 sm_yX8_of in_RX8 co_yX8_of hd_X8_of rfl ⟨by omega, by omega⟩ rfl (Nat.le_of_ble_eq_true rfl) ⟨by omega, by omega⟩ dX8_init_86 (fun v86 w86 hp86 => ?_)
  obtain ⟨m86, g86, rfl, e86, b86, c86, s86, k86⟩ := hp86
  refine g_aastoreI C 0 (k86.2 _ _ ru5a) e86 rfl (by omega) dX8_init_89 ?_
  obtain ⟨u5b, hu5b⟩ : ∃ u5b, u5b = wset w86 u4.1 (true, eR 2 3 (rup (fun _ => none) 0 (some (u5a.1 + 1)))) := ⟨_, rfl⟩
  have nu5b : u5b.1 = u5a.1 + 2 := by rw [hu5b]; exact s86
  have ru5b : u5b.2 u4.1 = some (true, eR 2 3 (rup (fun _ => none) 0 (some (u5a.1 + 1)))) := by rw [hu5b]; exact wset_s
  have qu5b : RowAt u5b (u5a.1 + 1) 0 4 := ⟨m86, g86, by rw [hu5b, wset_n (by omega)]; exact e86, b86, c86⟩
  have xu5b : ExX u5a u5b u4.1 := (k86.exx _).tr (by rw [hu5b]; exact ExX.set _ _ _)
  refine g_eqw (w' := u5b) hu5b.symm ?_
  refine g_wf (fun fu5b => ?_)
  refine g_dup C dX8_init_90 rfl ?_
  refine g_iconst C dX8_init_91 ?_
  refine g_lconst (z := 0) C dX8_init_92 (by decide) ?_
  refine g_callS C (c_X8_of _ (v := 0) (by omega)) ml_RX8_20 sm_yX8_of in_RX8 co_yX8_of hd_X8_of rfl ⟨by omega, by omega⟩ rfl (Nat.le_of_ble_eq_true rfl) ⟨by omega, by omega⟩ dX8_init_93 (fun v93 w93 hp93 => ?_)
  obtain ⟨m93, g93, rfl, e93, b93, c93, s93, k93⟩ := hp93
  refine g_aastoreI C 1 (k93.2 _ _ ru5b) e93 rfl (by omega) dX8_init_96 ?_
  obtain ⟨u5c, hu5c⟩ : ∃ u5c, u5c = wset w93 u4.1 (true, eR 2 3 (rup (rup (fun _ => none) 0 (some (u5a.1 + 1))) 1 (some (u5b.1 + 1)))) := ⟨_, rfl⟩
  have nu5c : u5c.1 = u5b.1 + 2 := by rw [hu5c]; exact s93
  have ru5c : u5c.2 u4.1 = some (true, eR 2 3 (rup (rup (fun _ => none) 0 (some (u5a.1 + 1))) 1 (some (u5b.1 + 1)))) := by rw [hu5c]; exact wset_s
  have qu5c : RowAt u5c (u5b.1 + 1) 0 4 := ⟨m93, g93, by rw [hu5c, wset_n (by omega)]; exact e93, b93, c93⟩
  have xu5c : ExX u5b u5c u4.1 := (k93.exx _).tr (by rw [hu5c]; exact ExX.set _ _ _)
  refine g_eqw (w' := u5c) hu5c.symm ?_
  refine g_wf (fun fu5c => ?_)
  refine g_dup C dX8_init_97 rfl ?_
  refine g_iconst C dX8_init_98 ?_
  refine g_lconst (z := 0) C dX8_init_99 (by decide) ?_
  refine g_callS C (c_X8_of _ (v := 0) (by omega)) ml_RX8_20 sm_yX8_of in_RX8 co_yX8_of hd_X8_of rfl ⟨by omega, by omega⟩ rfl (Nat.le_of_ble_eq_true rfl) ⟨by omega, by omega⟩ dX8_init_100 (fun v100 w100 hp100 => ?_)
  obtain ⟨m100, g100, rfl, e100, b100, c100, s100, k100⟩ := hp100
  refine g_aastoreI C 2 (k100.2 _ _ ru5c) e100 rfl (by omega) dX8_init_103 ?_
  obtain ⟨u5d, hu5d⟩ : ∃ u5d, u5d = wset w100 u4.1 (true, eR 2 3 (rup (rup (rup (fun _ => none) 0 (some (u5a.1 + 1))) 1 (some (u5b.1 + 1))) 2 (some (u5c.1 + 1)))) := ⟨_, rfl⟩
  have nu5d : u5d.1 = u5c.1 + 2 := by rw [hu5d]; exact s100
  have ru5d : u5d.2 u4.1 = some (true, eR 2 3 (rup (rup (rup (fun _ => none) 0 (some (u5a.1 + 1))) 1 (some (u5b.1 + 1))) 2 (some (u5c.1 + 1)))) := by rw [hu5d]; exact wset_s
  have qu5d : RowAt u5d (u5c.1 + 1) 0 4 := ⟨m100, g100, by rw [hu5d, wset_n (by omega)]; exact e100, b100, c100⟩
  have xu5d : ExX u5c u5d u4.1 := (k100.exx _).tr (by rw [hu5d]; exact ExX.set _ _ _)
  refine g_eqw (w' := u5d) hu5d.symm ?_
  refine g_wf (fun fu5d => ?_)
  refine g_putF (ci := 10) C rfl inTX8 tyX8 tyX8_ok nmX8 5 (by decide) fl_RX8_28 rfl rfl hnm rfl (xu5d.2 _ _ (by omega) (xu5c.2 _ _ (by omega) (xu5b.2 _ _ (by omega) (xu5a.2 _ _ ou4)))) (Nat.le_of_ble_eq_true rfl) rfl rfl dX8_init_104 ?_
  obtain ⟨u5, hu5⟩ : ∃ u5, u5 = wset u5d m (true, eO 10 [iI 0, .ref w.1, .ref u1.1, .ref u2.1, .ref u3.1, .ref u4.1, .null, .null]) := ⟨_, rfl⟩
  have ou5 : u5.2 m = some (true, eO 10 [iI 0, .ref w.1, .ref u1.1, .ref u2.1, .ref u3.1, .ref u4.1, .null, .null]) := by rw [hu5]; exact wset_s
  have zu5 : u5.1 = u5d.1 := by rw [hu5]; rfl
  have yu5 : ExX u5d u5 m := by rw [hu5]; exact ExX.set _ _ _
  refine g_eqw (w' := u5) hu5.symm ?_
  refine g_wf (fun fu5 => ?_)
  have qu50 : RowAt u5 (u5a.1 + 1) 0 4 := (((qu5b.exx xu5c (by omega)).exx xu5d (by omega)).exx yu5 (by omega))
  have qu51 : RowAt u5 (u5b.1 + 1) 0 4 := ((qu5c.exx xu5d (by omega)).exx yu5 (by omega))
  have qu52 : RowAt u5 (u5c.1 + 1) 0 4 := (qu5d.exx yu5 (by omega))
  have rr : u5.2 u4.1 = some (true, eR 2 3 (rup (rup (rup (fun _ => none) 0 (some (u5a.1 + 1))) 1 (some (u5b.1 + 1))) 2 (some (u5c.1 + 1)))) := yu5.2 _ _ (by omega) ru5d
  have xu5 : ExX u4 u5 m := ⟨by omega, fun a x hn h => by
    have ha := fu4 a x h
    exact yu5.2 _ _ hn (xu5d.2 _ _ (by omega) (xu5c.2 _ _ (by omega) (xu5b.2 _ _ (by omega) (xu5a.2 _ _ h))))⟩
  have nu5 : u5.1 = u4.1 + 7 := by omega
  refine g_aload_n C dX8_init_107 rfl ?_
  refine g_iconst C dX8_init_108 ?_
  refine g_anewI C kl_RX8_19 (N := 3) rfl (by omega) (by omega) dX8_init_109 ?_
  obtain ⟨u6a, hu6a⟩ : ∃ u6a, u6a = wpush u5 (true, eR 2 3 (fun _ => none)) := ⟨_, rfl⟩
  have xu6a : Ex u5 u6a := by rw [hu6a]; exact Ex.push fu5 _
  have ru6a : u6a.2 u5.1 = some (true, eR 2 3 (fun _ => none)) := by rw [hu6a]; exact wpush_s
  have nu6a : u6a.1 = u5.1 + 1 := by rw [hu6a]; rfl
  refine g_eqw (w' := u6a) hu6a.symm ?_
  refine g_wf (fun fu6a => ?_)
  refine g_dup C dX8_init_112 rfl ?_
  refine g_iconst C dX8_init_113 ?_
  refine g_iconst C dX8_init_114 ?_
  refine g_callS C (c_X8_begun _ (p := 5) (by decide +kernel)) ml_RX8_31 sm_yX8_begun in_RX8 co_yX8_begun hd_X8_begun rfl ⟨by omega, by omega⟩ rfl (Nat.le_of_ble_eq_true rfl) ⟨by omega, by omega⟩ dX8_init_115 (fun v115 w115 hp115 => ?_)
  obtain ⟨f115, rfl, rfl, s115⟩ := hp115
  refine g_aastoreI C 0 ((Ex.push fu6a _).2 _ _ ru6a) wpush_s rfl (by omega) dX8_init_118 ?_
  obtain ⟨u6b, hu6b⟩ : ∃ u6b, u6b = wset (wpush u6a (true, eI 6 f115)) u5.1 (true, eR 2 3 (rup (fun _ => none) 0 (some u6a.1))) := ⟨_, rfl⟩
  have nu6b : u6b.1 = u6a.1 + 1 := by rw [hu6b]; rfl
  have ru6b : u6b.2 u5.1 = some (true, eR 2 3 (rup (fun _ => none) 0 (some u6a.1))) := by rw [hu6b]; exact wset_s
  have qu6b : u6b.2 u6a.1 = some (true, eI 6 f115) := by rw [hu6b, wset_n (by omega)]; exact wpush_s
  have xu6b : ExX u6a u6b u5.1 := ((Ex.push fu6a (true, eI 6 f115)).exx _).tr (by rw [hu6b]; exact ExX.set _ _ _)
  refine g_eqw (w' := u6b) hu6b.symm ?_
  refine g_wf (fun fu6b => ?_)
  refine g_dup C dX8_init_119 rfl ?_
  refine g_iconst C dX8_init_120 ?_
  refine g_iconst C dX8_init_121 ?_
  refine g_callS C (c_X8_begun _ (p := 5) (by decide +kernel)) ml_RX8_31 sm_yX8_begun in_RX8 co_yX8_begun hd_X8_begun rfl ⟨by omega, by omega⟩ rfl (Nat.le_of_ble_eq_true rfl) ⟨by omega, by omega⟩ dX8_init_122 (fun v122 w122 hp122 => ?_)
  obtain ⟨f122, rfl, rfl, s122⟩ := hp122
  refine g_aastoreI C 1 ((Ex.push fu6b _).2 _ _ ru6b) wpush_s rfl (by omega) dX8_init_125 ?_
  obtain ⟨u6c, hu6c⟩ : ∃ u6c, u6c = wset (wpush u6b (true, eI 6 f122)) u5.1 (true, eR 2 3 (rup (rup (fun _ => none) 0 (some u6a.1)) 1 (some u6b.1))) := ⟨_, rfl⟩
  have nu6c : u6c.1 = u6b.1 + 1 := by rw [hu6c]; rfl
  have ru6c : u6c.2 u5.1 = some (true, eR 2 3 (rup (rup (fun _ => none) 0 (some u6a.1)) 1 (some u6b.1))) := by rw [hu6c]; exact wset_s
  have qu6c : u6c.2 u6b.1 = some (true, eI 6 f122) := by rw [hu6c, wset_n (by omega)]; exact wpush_s
  have xu6c : ExX u6b u6c u5.1 := ((Ex.push fu6b (true, eI 6 f122)).exx _).tr (by rw [hu6c]; exact ExX.set _ _ _)
  refine g_eqw (w' := u6c) hu6c.symm ?_
  refine g_wf (fun fu6c => ?_)
  refine g_dup C dX8_init_126 rfl ?_
  refine g_iconst C dX8_init_127 ?_
  refine g_iconst C dX8_init_128 ?_
  refine g_callS C (c_X8_begun _ (p := 5) (by decide +kernel)) ml_RX8_31 sm_yX8_begun in_RX8 co_yX8_begun hd_X8_begun rfl ⟨by omega, by omega⟩ rfl (Nat.le_of_ble_eq_true rfl) ⟨by omega, by omega⟩ dX8_init_129 (fun v129 w129 hp129 => ?_)
  obtain ⟨f129, rfl, rfl, s129⟩ := hp129
  refine g_aastoreI C 2 ((Ex.push fu6c _).2 _ _ ru6c) wpush_s rfl (by omega) dX8_init_132 ?_
  obtain ⟨u6d, hu6d⟩ : ∃ u6d, u6d = wset (wpush u6c (true, eI 6 f129)) u5.1 (true, eR 2 3 (rup (rup (rup (fun _ => none) 0 (some u6a.1)) 1 (some u6b.1)) 2 (some u6c.1))) := ⟨_, rfl⟩
  have nu6d : u6d.1 = u6c.1 + 1 := by rw [hu6d]; rfl
  have ru6d : u6d.2 u5.1 = some (true, eR 2 3 (rup (rup (rup (fun _ => none) 0 (some u6a.1)) 1 (some u6b.1)) 2 (some u6c.1))) := by rw [hu6d]; exact wset_s
  have qu6d : u6d.2 u6c.1 = some (true, eI 6 f129) := by rw [hu6d, wset_n (by omega)]; exact wpush_s
  have xu6d : ExX u6c u6d u5.1 := ((Ex.push fu6c (true, eI 6 f129)).exx _).tr (by rw [hu6d]; exact ExX.set _ _ _)
  refine g_eqw (w' := u6d) hu6d.symm ?_
  refine g_wf (fun fu6d => ?_)
  refine g_putF (ci := 10) C rfl inTX8 tyX8 tyX8_ok nmX8 6 (by decide) fl_RX8_35 rfl rfl hnm rfl (xu6d.2 _ _ (by omega) (xu6c.2 _ _ (by omega) (xu6b.2 _ _ (by omega) (xu6a.2 _ _ ou5)))) (Nat.le_of_ble_eq_true rfl) rfl rfl dX8_init_133 ?_
  obtain ⟨u6, hu6⟩ : ∃ u6, u6 = wset u6d m (true, eO 10 [iI 0, .ref w.1, .ref u1.1, .ref u2.1, .ref u3.1, .ref u4.1, .ref u5.1, .null]) := ⟨_, rfl⟩
  have ou6 : u6.2 m = some (true, eO 10 [iI 0, .ref w.1, .ref u1.1, .ref u2.1, .ref u3.1, .ref u4.1, .ref u5.1, .null]) := by rw [hu6]; exact wset_s
  have zu6 : u6.1 = u6d.1 := by rw [hu6]; rfl
  have yu6 : ExX u6d u6 m := by rw [hu6]; exact ExX.set _ _ _
  refine g_eqw (w' := u6) hu6.symm ?_
  refine g_wf (fun fu6 => ?_)
  have qu60 : u6.2 u6a.1 = some (true, eI 6 f115) := (yu6.2 _ _ (by omega) (xu6d.2 _ _ (by omega) (xu6c.2 _ _ (by omega) qu6b)))
  have qu61 : u6.2 u6b.1 = some (true, eI 6 f122) := (yu6.2 _ _ (by omega) (xu6d.2 _ _ (by omega) qu6c))
  have qu62 : u6.2 u6c.1 = some (true, eI 6 f129) := (yu6.2 _ _ (by omega) qu6d)
  have rz : u6.2 u5.1 = some (true, eR 2 3 (rup (rup (rup (fun _ => none) 0 (some u6a.1)) 1 (some u6b.1)) 2 (some u6c.1))) := yu6.2 _ _ (by omega) ru6d
  have xu6 : ExX u5 u6 m := ⟨by omega, fun a x hn h => by
    have ha := fu5 a x h
    exact yu6.2 _ _ hn (xu6d.2 _ _ (by omega) (xu6c.2 _ _ (by omega) (xu6b.2 _ _ (by omega) (xu6a.2 _ _ h))))⟩
  have nu6 : u6.1 = u5.1 + 4 := by omega
  refine g_aload_n C dX8_init_136 rfl ?_
  refine g_iconst C dX8_init_137 ?_
  refine g_newI C gw_arrayClass_int (N := 5) rfl (by omega) (by omega) dX8_init_138 ?_
  refine g_putF (ci := 10) C rfl inTX8 tyX8 tyX8_ok nmX8 7 (by decide) fl_RX8_38 rfl rfl hnm rfl (by rw [wpush_n (by omega)]; exact ou6) (Nat.le_of_ble_eq_true rfl) rfl rfl dX8_init_140 ?_
  obtain ⟨u7, hu7⟩ : ∃ u7, u7 = wset (wpush u6 (true, eI 5 (fun _ => 0))) m (true, eO 10 [iI 0, .ref w.1, .ref u1.1, .ref u2.1, .ref u3.1, .ref u4.1, .ref u5.1, .ref u6.1]) := ⟨_, rfl⟩
  have ou7 : u7.2 m = some (true, eO 10 [iI 0, .ref w.1, .ref u1.1, .ref u2.1, .ref u3.1, .ref u4.1, .ref u5.1, .ref u6.1]) := by rw [hu7]; exact wset_s
  have zu7 : u7.1 = (wpush u6 (true, eI 5 (fun _ => 0))).1 := by rw [hu7]; rfl
  have yu7 : ExX (wpush u6 (true, eI 5 (fun _ => 0))) u7 m := by rw [hu7]; exact ExX.set _ _ _
  refine g_eqw (w' := u7) hu7.symm ?_
  refine g_wf (fun fu7 => ?_)
  have rc : u7.2 u6.1 = some (true, eI 5 (fun _ => 0)) := yu7.2 _ _ (by omega) wpush_s
  have xu7 : ExX u6 u7 m := ((Ex.push fu6 _).exx m).tr yu7
  have nu7 : u7.1 = u6.1 + 1 := zu7
  have Rb := (xu7.2 _ _ (by omega) (xu6.2 _ _ (by omega) (xu5.2 _ _ (by omega) (xu4.2 _ _ (by omega) (xu3.2 _ _ (by omega) (xu2.2 _ _ (by omega) rb))))))
  have Rs := (xu7.2 _ _ (by omega) (xu6.2 _ _ (by omega) (xu5.2 _ _ (by omega) (xu4.2 _ _ (by omega) (xu3.2 _ _ (by omega) rs)))))
  have Rp := (xu7.2 _ _ (by omega) (xu6.2 _ _ (by omega) (xu5.2 _ _ (by omega) (xu4.2 _ _ (by omega) rp))))
  have Rl := (xu7.2 _ _ (by omega) (xu6.2 _ _ (by omega) (xu5.2 _ _ (by omega) rl)))
  have Rr := (xu7.2 _ _ (by omega) (xu6.2 _ _ (by omega) rr))
  have Rz := (xu7.2 _ _ (by omega) rz)
  have QL0 := (((qu40.exx xu5 (by omega)).exx xu6 (by omega)).exx xu7 (by omega))
  have QL1 := (((qu41.exx xu5 (by omega)).exx xu6 (by omega)).exx xu7 (by omega))
  have QL2 := (((qu42.exx xu5 (by omega)).exx xu6 (by omega)).exx xu7 (by omega))
  have QR0 := ((qu50.exx xu6 (by omega)).exx xu7 (by omega))
  have QR1 := ((qu51.exx xu6 (by omega)).exx xu7 (by omega))
  have QR2 := ((qu52.exx xu6 (by omega)).exx xu7 (by omega))
  have QZ0 := (xu7.2 _ _ (by omega) qu60)
  have QZ1 := (xu7.2 _ _ (by omega) qu61)
  have QZ2 := (xu7.2 _ _ (by omega) qu62)
  exact g_return C hQ dX8_init_143 (by omega) (by omega) ⟨itag τ w.1, (w.1, u1.1, u2.1, u3.1, u4.1, u5.1, u6.1, (rup (rup (rup (fun _ => none) 0 (some (u4a.1 + 1))) 1 (some (u4b.1 + 1))) 2 (some (u4c.1 + 1))), (rup (rup (rup (fun _ => none) 0 (some (u5a.1 + 1))) 1 (some (u5b.1 + 1))) 2 (some (u5c.1 + 1))), (rup (rup (rup (fun _ => none) 0 (some u6a.1)) 1 (some u6b.1)) 2 (some u6c.1))), (iup (iup (iup (fun _ => 0) 0 2) 1 2) 2 2), (fun _ => 0), (iup (iup (iup (fun _ => 0) 0 2) 1 2) 2 2), (fun _ => 1), (fun _ => 0), (fun i => if i = 0 then f115 else if i = 1 then f122 else f129), (fun _ => 0), rfl, fun a ha => itag_lo ha, ⟨ou7,
    ⟨(itag_lo hmw).trans ht, itag_hi 0 rfl, itag_hi 1 (show u1.1 = w.1 + 1 by omega), itag_hi 2 (show u2.1 = w.1 + 2 by omega), itag_hi 3 (show u3.1 = w.1 + 3 by omega), itag_hi 10 (show u4.1 = w.1 + 10 by omega), itag_hi 17 (show u5.1 = w.1 + 17 by omega), itag_hi 21 (show u6.1 = w.1 + 21 by omega)⟩,
    ⟨Rb, Rs, Rp, rc⟩, ⟨Rl, Rr, Rz⟩, fun i hi => by
      rcases (show i = 0 ∨ i = 1 ∨ i = 2 by omega) with q | q | q <;> subst q
      · exact ⟨_, rfl, itag_hi 5 (show u4a.1 + 1 = w.1 + 5 by omega), QL0⟩
      · exact ⟨_, rfl, itag_hi 7 (show u4b.1 + 1 = w.1 + 7 by omega), QL1⟩
      · exact ⟨_, rfl, itag_hi 9 (show u4c.1 + 1 = w.1 + 9 by omega), QL2⟩,
    fun i hi => by
      rcases (show i = 0 ∨ i = 1 ∨ i = 2 by omega) with q | q | q <;> subst q
      · exact ⟨_, rfl, itag_hi 12 (show u5a.1 + 1 = w.1 + 12 by omega), QR0⟩
      · exact ⟨_, rfl, itag_hi 14 (show u5b.1 + 1 = w.1 + 14 by omega), QR1⟩
      · exact ⟨_, rfl, itag_hi 16 (show u5c.1 + 1 = w.1 + 16 by omega), QR2⟩,
    fun i hi => by
      rcases (show i = 0 ∨ i = 1 ∨ i = 2 by omega) with q | q | q <;> subst q
      · exact ⟨_, rfl, itag_hi 18 (show u6a.1 = w.1 + 18 by omega), QZ0⟩
      · exact ⟨_, rfl, itag_hi 19 (show u6b.1 = w.1 + 19 by omega), QZ1⟩
      · exact ⟨_, rfl, itag_hi 20 (show u6c.1 = w.1 + 20 by omega), QZ2⟩⟩, ((((((xu1.tr xu2).tr xu3).tr xu4).tr xu5).tr xu6).tr xu7).keep (by omega), fun i hi => by
      rcases (show i = 0 ∨ i = 1 ∨ i = 2 by omega) with q | q | q <;> subst q
      · exact ⟨rfl, rfl, rfl, rfl, rfl, s115⟩
      · exact ⟨rfl, rfl, rfl, rfl, rfl, s122⟩
      · exact ⟨rfl, rfl, rfl, rfl, rfl, s129⟩, fun i => rfl, by omega⟩
