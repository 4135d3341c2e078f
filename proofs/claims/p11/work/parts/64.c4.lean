/-! the class's own numbers by their shape -/
def WS (w : Wd) (a r : Nat) : Prop := ∃ (f : Nat → Int) (u : Nat) (bl : Int), w.2 a = some (true, oW r u bl) ∧ w.2 r = some (true, eI 18 f) ∧ DC f ∧ u ≤ 18 ∧ (bl = 0 ∨ bl = 1)
theorem oI_ne {w : Wd} {a s r u n : Nat} {bl : Int} {f : Nat → Int} {b1 b2 : Bool} (h : w.2 a = some (b1, oW r u bl)) (k : w.2 s = some (b2, eI n f)) : a ≠ s := fun e => by rw [e, k] at h; simp [oW] at h
theorem oo_ne {w : Wd} {a b r s u v : Nat} {bl bm : Int} (h : w.2 a = some (true, oW r u bl)) (k : w.2 b = some (true, oW s v bm)) (hrs : r ≠ s) : a ≠ b := fun e => by rw [e, k] at h; exact hrs (oW_inj h).symm
theorem WS.fr {w u : Wd} {a r b s : Nat} (h : WS w a r) (g : FrW w u b s) (h1 : a ≠ b) (h2 : r ≠ s) (h3 : a ≠ s) (h4 : r ≠ b) : WS u a r := by
  obtain ⟨f, uu, bl, e1, e2, e3⟩ := h
  exact ⟨f, uu, bl, by rw [g.2 a h1 h3]; exact e1, by rw [g.2 r h4 h2]; exact e2, e3⟩
theorem WS.ne {w : Wd} {a r b s : Nat} (h : WS w a r) (g : WS w b s) (hrs : r ≠ s) : a ≠ b ∧ a ≠ s ∧ r ≠ b ∧ a ≠ r ∧ b ≠ s := by
  obtain ⟨f, u, bl, h1, h2, -⟩ := h
  obtain ⟨f2, u2, bl2, g1, g2, -⟩ := g
  exact ⟨oo_ne h1 g1 hrs, oI_ne h1 g2, Ne.symm (oI_ne g1 h2), oI_ne h1 h2, oI_ne g1 g2⟩
theorem WS.fr2 {w u : Wd} {a r b s : Nat} (h : WS w b s) (k : WS w a r) (g : FrW w u a r) (hrs : r ≠ s) : WS u b s := by
  obtain ⟨h1, h2, h3, h4, h5⟩ := k.ne h hrs
  exact h.fr g (Ne.symm h1) (Ne.symm hrs) (Ne.symm h3) (Ne.symm h2)
set_option maxHeartbeats 4000000 in
set_option maxRecDepth 100000 in
theorem s_X5_init (l : Launch) {E : GE} {w : Wd} {a : Nat} (hN : w.2 a = some (true, eO 7 [.null, iI 0, iI 0])) : Sp E l yX5_init cX5_init 1 none 1 (1) (18) [.ref a] w (fun r' w' => r' = none ∧ w' = wset (wpush w (true, eI 18 (fun _ => 0))) a (true, oW w.1 0 0)) := by
  refine sp_intro [some (.ref a)] rfl (Nat.le_of_ble_eq_true rfl) pn_X5 ?_
  intro X C hRm hl hnm hQ
  obtain ⟨hRf, hRl, hRc, hRs⟩ := hRm
  refine g_wf (fun hwf => ?_)
  have haw : a < w.1 := hwf a _ hN
  refine g_aload_n C dX5_init_0 rfl ?_
  refine g_objInit C ml_RX5_3 (by omega) (by omega) (Nat.le_of_ble_eq_true rfl) dX5_init_1 ?_
  refine g_aload_n C dX5_init_4 rfl ?_
  refine g_bipush C dX5_init_5 (by decide) ?_
  refine g_newI C gw_arrayClass_int (N := 18) rfl (by omega) (by omega) dX5_init_7 ?_
  refine g_putF (ci := 7) C rfl inTX5 tyX5 tyX5_ok nmX5 0 (by decide) fl_RX5_9 rfl rfl hnm rfl (by rw [wpush_n (by omega)]; exact hN) (Nat.le_of_ble_eq_true rfl) rfl rfl dX5_init_9 ?_
  exact g_return C hQ dX5_init_12 (Nat.le_refl _) (Nat.le_refl _) ⟨rfl, rfl⟩
set_option maxHeartbeats 4000000 in
set_option maxRecDepth 100000 in
theorem s_X5_trim (l : Launch) {E : GE} {w : Wd} {a r p : Nat} {f : Nat → Int} {u bl : Int} (hO : w.2 a = some (true, eO 7 [.ref r, iI u, iI bl])) (hR : w.2 r = some (true, eI 18 f)) (hf : DC f) (hp : p ≤ 18) (hbl : bl = 0 ∨ bl = 1) : Sp E l yX5_trim cX5_trim 3 none 0 (0) (0) [.ref a, iI (p : Int)] w (fun r' w' => r' = none ∧ WS w' a r ∧ FrA w w' a) := by
  refine sp_intro [some (.ref a), some (iI (p : Int)), none] rfl (Nat.le_of_ble_eq_true rfl) pn_X5 ?_
  intro X C hRm hl hnm hQ
  obtain ⟨hRf, hRl, hRc, hRs⟩ := hRm
  refine g_wf (fun hwf => ?_)
  have hB28 : B28 = 268435456 := rfl
  have hne : a ≠ r := fun e => by rw [e, hR] at hO; simp at hO
  refine g_aload_n C dX5_trim_0 rfl ?_
  refine g_iconst C dX5_trim_1 ?_
  refine g_put (ci := 7) C rfl inTX5 tyX5 tyX5_ok nmX5 1 (by decide) fl_RX5_17 rfl rfl hO (Nat.le_of_ble_eq_true rfl) rfl rfl dX5_trim_2 ?_
  have J17 : G E X 3 17 [some (.ref a), some (iI (p : Int)), none] [iI (p : Int)] (wset w a (true, eO 7 [.ref r, iI 0, iI bl])) 0 0 := by
    refine g_iconst C dX5_trim_17 ?_
    refine g_isub C dX5_trim_18 ?_
    refine g_istore_n C dX5_trim_19 (by decide) rfl ?_
    refine g_loop (σ := Int × Nat) (fun s => -1 ≤ s.1 ∧ s.1 ≤ 17 ∧ s.2 ≤ 18) (fun s => G E X 3 20 [some (.ref a), some (iI (p : Int)), some (iI s.1)] [] (wset w a (true, eO 7 [.ref r, iI (s.2 : Int), iI bl])) 0 0) (fun s => (s.1 + 1).toNat) ?_ ((p : Int) - 1, 0) ⟨by dsimp only; omega, by dsimp only; omega, by dsimp only; omega⟩
    rintro ⟨k, v⟩ hq ih
    obtain ⟨hk0, hk1, hv⟩ := hq
    dsimp only at hk0 hk1 hv ⊢
    have hRk : (wset w a (true, eO 7 [.ref r, iI (v : Int), iI bl])).2 r = some (true, eI 18 f) := by rw [wset_n (Ne.symm hne)]; exact hR
    have J53 : G E X 3 53 [some (.ref a), some (iI (p : Int)), some (iI k)] [] (wset w a (true, eO 7 [.ref r, iI (v : Int), iI bl])) 0 0 := by
      refine g_aload_n C dX5_trim_53 rfl ?_
      refine g_aload_n C dX5_trim_54 rfl ?_
      refine g_get (ci := 7) C rfl inTX5 2 (by decide) fl_RX5_13 rfl wset_s rfl dX5_trim_55 ?_
      refine g_if_eq (tgt := 72) C dX5_trim_58 (by decide) (by omega) (fun h58 => ?_) (fun h58 => ?_)
      · refine g_iconst C dX5_trim_72 ?_
        refine g_put (ci := 7) C rfl inTX5 tyX5 tyX5_ok nmX5 2 (by decide) fl_RX5_13 rfl rfl wset_s (Nat.le_of_ble_eq_true rfl) rfl rfl dX5_trim_73 ?_
        exact g_return C hQ dX5_trim_76 (Nat.le_refl _) (Nat.le_refl _) ⟨rfl, ⟨f, v, _, wset_s, by rw [wset_n (Ne.symm hne)]; exact hRk, hf, hv, by first | exact Or.inr rfl | exact Or.inl rfl⟩, ((FrA.rf _ _).set _).set _⟩
      · refine g_aload_n C dX5_trim_61 rfl ?_
        refine g_get (ci := 7) C rfl inTX5 1 (by decide) fl_RX5_17 rfl wset_s rfl dX5_trim_62 ?_
        refine g_if_le (tgt := 72) C dX5_trim_65 (by decide) (by omega) (fun h65 => ?_) (fun h65 => ?_)
        · refine g_iconst C dX5_trim_72 ?_
          refine g_put (ci := 7) C rfl inTX5 tyX5 tyX5_ok nmX5 2 (by decide) fl_RX5_13 rfl rfl wset_s (Nat.le_of_ble_eq_true rfl) rfl rfl dX5_trim_73 ?_
          exact g_return C hQ dX5_trim_76 (Nat.le_refl _) (Nat.le_refl _) ⟨rfl, ⟨f, v, _, wset_s, by rw [wset_n (Ne.symm hne)]; exact hRk, hf, hv, by first | exact Or.inr rfl | exact Or.inl rfl⟩, ((FrA.rf _ _).set _).set _⟩
        · refine g_iconst C dX5_trim_68 ?_
          refine g_goto (tgt := 73) C dX5_trim_69 (by decide) ?_
          refine g_put (ci := 7) C rfl inTX5 tyX5 tyX5_ok nmX5 2 (by decide) fl_RX5_13 rfl rfl wset_s (Nat.le_of_ble_eq_true rfl) rfl rfl dX5_trim_73 ?_
          exact g_return C hQ dX5_trim_76 (Nat.le_refl _) (Nat.le_refl _) ⟨rfl, ⟨f, v, _, wset_s, by rw [wset_n (Ne.symm hne)]; exact hRk, hf, hv, by first | exact Or.inr rfl | exact Or.inl rfl⟩, ((FrA.rf _ _).set _).set _⟩
    refine g_iload_n C dX5_trim_20 rfl ?_
    refine g_if_lt (tgt := 53) C dX5_trim_21 (by decide) (by omega) (fun h21 => ?_) (fun h21 => ?_)
    · exact J53
    · refine g_aload_n C dX5_trim_24 rfl ?_
      refine g_get (ci := 7) C rfl inTX5 1 (by decide) fl_RX5_17 rfl wset_s rfl dX5_trim_25 ?_
      refine g_if_ne (tgt := 53) C dX5_trim_28 (by decide) (by omega) (fun h28 => ?_) (fun h28 => ?_)
      · exact J53
      · refine g_aload_n C dX5_trim_31 rfl ?_
        refine g_get (ci := 7) C rfl inTX5 0 (by decide) fl_RX5_9 rfl wset_s rfl dX5_trim_32 ?_
        refine g_iload_n C dX5_trim_35 rfl ?_
        refine g_iaload C hRk (by omega) dX5_trim_36 ?_
        refine g_if_eq (tgt := 47) C dX5_trim_37 (by decide) (by have := hf k.toNat (by omega); omega) (fun h37 => ?_) (fun h37 => ?_)
        · refine g_iinc C dX5_trim_47 rfl (by decide) rfl ?_
          refine g_goto (tgt := 20) C dX5_trim_50 (by decide) ?_
          first
          | exact ih (k + -1, v) ⟨by dsimp only; omega, by dsimp only; omega, hv⟩ (by dsimp only; omega)
          | (rw [show k + 1 = ((k.toNat + 1 : Nat) : Int) by omega]
             exact ih (k + -1, k.toNat + 1) ⟨by dsimp only; omega, by dsimp only; omega, by dsimp only; omega⟩ (by dsimp only; omega))
        · refine g_aload_n C dX5_trim_40 rfl ?_
          refine g_iload_n C dX5_trim_41 rfl ?_
          refine g_iconst C dX5_trim_42 ?_
          refine g_iadd C dX5_trim_43 ?_
          refine g_put (ci := 7) C rfl inTX5 tyX5 tyX5_ok nmX5 1 (by decide) fl_RX5_17 rfl rfl wset_s (Nat.le_of_ble_eq_true rfl) rfl rfl dX5_trim_44 ?_
          rw [wset_set]
          refine g_iinc C dX5_trim_47 rfl (by decide) rfl ?_
          refine g_goto (tgt := 20) C dX5_trim_50 (by decide) ?_
          first
          | exact ih (k + -1, v) ⟨by dsimp only; omega, by dsimp only; omega, hv⟩ (by dsimp only; omega)
          | (rw [show k + 1 = ((k.toNat + 1 : Nat) : Int) by omega]
             exact ih (k + -1, k.toNat + 1) ⟨by dsimp only; omega, by dsimp only; omega, by dsimp only; omega⟩ (by dsimp only; omega))
  refine g_iload_n C dX5_trim_5 rfl ?_
  refine g_bipush C dX5_trim_6 (by decide) ?_
  refine g_icmp_ge (tgt := 15) C dX5_trim_8 (by decide) (by omega) (by omega) (fun h8 => ?_) (fun h8 => ?_)
  · refine g_bipush C dX5_trim_15 (by decide) ?_
    first | exact J17 | exact g_eq rfl (by rw [show (18 : Int) = (p : Int) by omega]) J17
  · refine g_iload_n C dX5_trim_11 rfl ?_
    refine g_goto (tgt := 17) C dX5_trim_12 (by decide) ?_
    first | exact J17 | exact g_eq rfl (by rw [show (18 : Int) = (p : Int) by omega]) J17
set_option maxHeartbeats 4000000 in
set_option maxRecDepth 100000 in
theorem s_X5_isBelow (l : Launch) {E : GE} {w : Wd} {a r : Nat} (hW : WS w a r) : Sp E l yX5_isBelow cX5_isBelow 1 (some .boolean) 0 (0) (0) [.ref a] w (fun r' w' => (∃ d : Int, r' = some (iI d) ∧ (d = 0 ∨ d = 1)) ∧ w' = w) := by
  refine sp_intro [some (.ref a)] rfl (Nat.le_of_ble_eq_true rfl) pn_X5 ?_
  intro X C hRm hl hnm hQ
  obtain ⟨hRf, hRl, hRc, hRs⟩ := hRm
  refine g_wf (fun hwf => ?_)
  have hB28 : B28 = 268435456 := rfl
  obtain ⟨f, u, bl, hO, hR, hf, hu18, hbl⟩ := id hW
  have hne := oI_ne hO hR
  refine g_aload_n C dX5_isBelow_0 rfl ?_
  refine g_get (ci := 7) C rfl inTX5 2 (by decide) fl_RX5_13 rfl hO rfl dX5_isBelow_1 ?_
  exact g_zreturn C hQ dX5_isBelow_4 (nar01 (by omega)) (Nat.le_refl _) (Nat.le_refl _) ⟨⟨bl, rfl, hbl⟩, rfl⟩
set_option maxHeartbeats 4000000 in
set_option maxRecDepth 100000 in
theorem s_X5_isZero (l : Launch) {E : GE} {w : Wd} {a r : Nat} (hW : WS w a r) : Sp E l yX5_isZero cX5_isZero 1 (some .boolean) 0 (0) (0) [.ref a] w (fun r' w' => (∃ d : Int, r' = some (iI d) ∧ (d = 0 ∨ d = 1)) ∧ w' = w) := by
  refine sp_intro [some (.ref a)] rfl (Nat.le_of_ble_eq_true rfl) pn_X5 ?_
  intro X C hRm hl hnm hQ
  obtain ⟨hRf, hRl, hRc, hRs⟩ := hRm
  refine g_wf (fun hwf => ?_)
  have hB28 : B28 = 268435456 := rfl
  obtain ⟨f, u, bl, hO, hR, hf, hu18, hbl⟩ := id hW
  have hne := oI_ne hO hR
  refine g_aload_n C dX5_isZero_0 rfl ?_
  refine g_get (ci := 7) C rfl inTX5 1 (by decide) fl_RX5_17 rfl hO rfl dX5_isZero_1 ?_
  refine g_if_ne (tgt := 11) C dX5_isZero_4 (by decide) (by omega) (fun h4 => ?_) (fun h4 => ?_)
  · refine g_iconst C dX5_isZero_11 ?_
    exact g_zreturn C hQ dX5_isZero_12 (nar01 (by omega)) (Nat.le_refl _) (Nat.le_refl _) ⟨⟨_, rfl, by omega⟩, rfl⟩
  · refine g_iconst C dX5_isZero_7 ?_
    refine g_goto (tgt := 12) C dX5_isZero_8 (by decide) ?_
    exact g_zreturn C hQ dX5_isZero_12 (nar01 (by omega)) (Nat.le_refl _) (Nat.le_refl _) ⟨⟨_, rfl, by omega⟩, rfl⟩
set_option maxHeartbeats 4000000 in
set_option maxRecDepth 100000 in
theorem s_X5_isNumber (l : Launch) {E : GE} {w : Wd} {a r : Nat} (hW : WS w a r) {v : Int} (hv : -268435456 < v ∧ v < 268435456) : Sp E l yX5_isNumber cX5_isNumber 2 (some .boolean) 0 (0) (0) [.ref a, iI v] w (fun r' w' => (∃ d : Int, r' = some (iI d) ∧ (d = 0 ∨ d = 1)) ∧ w' = w) := by
  refine sp_intro [some (.ref a), some (iI v)] rfl (Nat.le_of_ble_eq_true rfl) pn_X5 ?_
  intro X C hRm hl hnm hQ
  obtain ⟨hRf, hRl, hRc, hRs⟩ := hRm
  refine g_wf (fun hwf => ?_)
  have hB28 : B28 = 268435456 := rfl
  obtain ⟨f, u, bl, hO, hR, hf, hu18, hbl⟩ := id hW
  have hne := oI_ne hO hR
  have h00 := hf 0 (by omega)
  refine g_aload_n C dX5_isNumber_0 rfl ?_
  refine g_get (ci := 7) C rfl inTX5 1 (by decide) fl_RX5_17 rfl hO rfl dX5_isNumber_1 ?_
  refine g_iconst C dX5_isNumber_4 ?_
  refine g_icmp_gt (tgt := 39) C dX5_isNumber_5 (by decide) (by omega) (by omega) (fun h5 => ?_) (fun h5 => ?_)
  · refine g_iconst C dX5_isNumber_39 ?_
    exact g_zreturn C hQ dX5_isNumber_40 (nar01 (by omega)) (Nat.le_refl _) (Nat.le_refl _) ⟨⟨_, rfl, by omega⟩, rfl⟩
  · refine g_aload_n C dX5_isNumber_8 rfl ?_
    refine g_get (ci := 7) C rfl inTX5 2 (by decide) fl_RX5_13 rfl hO rfl dX5_isNumber_9 ?_
    refine g_if_eq (tgt := 25) C dX5_isNumber_12 (by decide) (by omega) (fun h12 => ?_) (fun h12 => ?_)
    · refine g_aload_n C dX5_isNumber_25 rfl ?_
      refine g_get (ci := 7) C rfl inTX5 0 (by decide) fl_RX5_9 rfl hO rfl dX5_isNumber_26 ?_
      refine g_iconst C dX5_isNumber_29 ?_
      refine g_ialoadN (0) C hR (by omega) (by omega) dX5_isNumber_30 ?_
      refine g_iload_n C dX5_isNumber_31 rfl ?_
      refine g_icmp_ne (tgt := 39) C dX5_isNumber_32 (by decide) (by omega) (by omega) (fun h32 => ?_) (fun h32 => ?_)
      · refine g_iconst C dX5_isNumber_39 ?_
        exact g_zreturn C hQ dX5_isNumber_40 (nar01 (by omega)) (Nat.le_refl _) (Nat.le_refl _) ⟨⟨_, rfl, by omega⟩, rfl⟩
      · refine g_iconst C dX5_isNumber_35 ?_
        refine g_goto (tgt := 40) C dX5_isNumber_36 (by decide) ?_
        exact g_zreturn C hQ dX5_isNumber_40 (nar01 (by omega)) (Nat.le_refl _) (Nat.le_refl _) ⟨⟨_, rfl, by omega⟩, rfl⟩
    · refine g_aload_n C dX5_isNumber_15 rfl ?_
      refine g_get (ci := 7) C rfl inTX5 0 (by decide) fl_RX5_9 rfl hO rfl dX5_isNumber_16 ?_
      refine g_iconst C dX5_isNumber_19 ?_
      refine g_ialoadN (0) C hR (by omega) (by omega) dX5_isNumber_20 ?_
      refine g_ineg C dX5_isNumber_21 ?_
      refine g_goto (tgt := 31) C dX5_isNumber_22 (by decide) ?_
      refine g_iload_n C dX5_isNumber_31 rfl ?_
      refine g_icmp_ne (tgt := 39) C dX5_isNumber_32 (by decide) (by omega) (by omega) (fun h32 => ?_) (fun h32 => ?_)
      · refine g_iconst C dX5_isNumber_39 ?_
        exact g_zreturn C hQ dX5_isNumber_40 (nar01 (by omega)) (Nat.le_refl _) (Nat.le_refl _) ⟨⟨_, rfl, by omega⟩, rfl⟩
      · refine g_iconst C dX5_isNumber_35 ?_
        refine g_goto (tgt := 40) C dX5_isNumber_36 (by decide) ?_
        exact g_zreturn C hQ dX5_isNumber_40 (nar01 (by omega)) (Nat.le_refl _) (Nat.le_refl _) ⟨⟨_, rfl, by omega⟩, rfl⟩
set_option maxHeartbeats 4000000 in
set_option maxRecDepth 100000 in
theorem s_X5_isOne (l : Launch) {E : GE} {w : Wd} {a r : Nat} (hW : WS w a r) : Sp E l yX5_isOne cX5_isOne 1 (some .boolean) 1 (0) (0) [.ref a] w (fun r' w' => (∃ d : Int, r' = some (iI d) ∧ (d = 0 ∨ d = 1)) ∧ w' = w) := by
  refine sp_intro [some (.ref a)] rfl (Nat.le_of_ble_eq_true rfl) pn_X5 ?_
  intro X C hRm hl hnm hQ
  obtain ⟨hRf, hRl, hRc, hRs⟩ := hRm
  refine g_wf (fun hwf => ?_)
  have hB28 : B28 = 268435456 := rfl
  obtain ⟨f, u, bl, hO, hR, hf, hu18, hbl⟩ := id hW
  have hne := oI_ne hO hR
  refine g_aload_n C dX5_isOne_0 rfl ?_
  refine g_iconst C dX5_isOne_1 ?_
  refine g_callV C (s_X5_isNumber _ hW (v := 1) (by omega)) (ci := 7) rfl hO rfl ml_RX5_21 im_yX5_isNumber se_RX5_yX5_isNumber in_RX5 co_yX5_isNumber hd_X5_isNumber rfl ⟨by omega, by omega⟩ rfl (Nat.le_of_ble_eq_true rfl) ⟨by omega, by omega⟩ dX5_isOne_2 (fun v2 w2 hp2 => ?_)
  obtain ⟨⟨d2, rfl, hd2⟩, hw2⟩ := hp2
  subst w2
  exact g_zreturn C hQ dX5_isOne_5 (nar01 (by omega)) (Nat.le_refl _) (Nat.le_refl _) ⟨⟨_, rfl, hd2⟩, rfl⟩
set_option maxHeartbeats 4000000 in
set_option maxRecDepth 100000 in
theorem s_X5_negate (l : Launch) {E : GE} {w : Wd} {a r : Nat} (hW : WS w a r) : Sp E l yX5_negate cX5_negate 1 none 0 (0) (0) [.ref a] w (fun r' w' => r' = none ∧ WS w' a r ∧ FrW w w' a r) := by
  refine sp_intro [some (.ref a)] rfl (Nat.le_of_ble_eq_true rfl) pn_X5 ?_
  intro X C hRm hl hnm hQ
  obtain ⟨hRf, hRl, hRc, hRs⟩ := hRm
  refine g_wf (fun hwf => ?_)
  have hB28 : B28 = 268435456 := rfl
  obtain ⟨f, u, bl, hO, hR, hf, hu18, hbl⟩ := id hW
  have hne := oI_ne hO hR
  have J20 : ∀ b : Int, b = 0 ∨ b = 1 → G E X 1 20 [some (.ref a)] [iI b, .ref a] w 0 0 := by
    intro b hb
    refine g_put (ci := 7) C rfl inTX5 tyX5 tyX5_ok nmX5 2 (by decide) fl_RX5_13 rfl rfl hO (Nat.le_of_ble_eq_true rfl) (by rcases hb with q | q <;> (rw [q]; rfl)) (by rcases hb with q | q <;> (rw [q]; rfl)) dX5_negate_20 ?_
    exact g_return C hQ dX5_negate_23 (Nat.le_refl _) (Nat.le_refl _) ⟨rfl, ⟨f, u, b, wset_s, by rw [wset_n (Ne.symm hne)]; exact hR, hf, hu18, hb⟩, (FrW.rf _ _ _).set (Or.inl rfl) _⟩
  refine g_aload_n C dX5_negate_0 rfl ?_
  refine g_aload_n C dX5_negate_1 rfl ?_
  refine g_get (ci := 7) C rfl inTX5 1 (by decide) fl_RX5_17 rfl hO rfl dX5_negate_2 ?_
  refine g_if_le (tgt := 19) C dX5_negate_5 (by decide) (by omega) (fun h5 => ?_) (fun h5 => ?_)
  · refine g_iconst C dX5_negate_19 ?_
    exact J20 _ (by omega)
  · refine g_aload_n C dX5_negate_8 rfl ?_
    refine g_get (ci := 7) C rfl inTX5 2 (by decide) fl_RX5_13 rfl hO rfl dX5_negate_9 ?_
    refine g_if_ne (tgt := 19) C dX5_negate_12 (by decide) (by omega) (fun h12 => ?_) (fun h12 => ?_)
    · refine g_iconst C dX5_negate_19 ?_
      exact J20 _ (by omega)
    · refine g_iconst C dX5_negate_15 ?_
      refine g_goto (tgt := 20) C dX5_negate_16 (by decide) ?_
      exact J20 _ (by omega)
set_option maxHeartbeats 4000000 in
set_option maxRecDepth 100000 in
theorem s_X5_makeSize (l : Launch) {E : GE} {w : Wd} {a r : Nat} (hW : WS w a r) : Sp E l yX5_makeSize cX5_makeSize 1 none 0 (0) (0) [.ref a] w (fun r' w' => r' = none ∧ WS w' a r ∧ FrW w w' a r) := by
  refine sp_intro [some (.ref a)] rfl (Nat.le_of_ble_eq_true rfl) pn_X5 ?_
  intro X C hRm hl hnm hQ
  obtain ⟨hRf, hRl, hRc, hRs⟩ := hRm
  refine g_wf (fun hwf => ?_)
  have hB28 : B28 = 268435456 := rfl
  obtain ⟨f, u, bl, hO, hR, hf, hu18, hbl⟩ := id hW
  have hne := oI_ne hO hR
  refine g_aload_n C dX5_makeSize_0 rfl ?_
  refine g_iconst C dX5_makeSize_1 ?_
  refine g_put (ci := 7) C rfl inTX5 tyX5 tyX5_ok nmX5 2 (by decide) fl_RX5_13 rfl rfl hO (Nat.le_of_ble_eq_true rfl) rfl rfl dX5_makeSize_2 ?_
  exact g_return C hQ dX5_makeSize_5 (Nat.le_refl _) (Nat.le_refl _) ⟨rfl, ⟨f, u, 0, wset_s, by rw [wset_n (Ne.symm hne)]; exact hR, hf, hu18, Or.inl rfl⟩, (FrW.rf _ _ _).set (Or.inl rfl) _⟩
set_option maxHeartbeats 4000000 in
set_option maxRecDepth 100000 in
theorem s_X5_compareSize (l : Launch) {E : GE} {w : Wd} {a r b s : Nat} (h1 : WS w a r) (h2 : WS w b s) : Sp E l yX5_compareSize cX5_compareSize 3 (some .int) 1 (0) (0) [.ref a, .ref b] w (fun r' w' => (∃ d : Int, r' = some (iI d) ∧ -1 ≤ d ∧ d ≤ 1) ∧ w' = w) := by
  refine sp_intro [some (.ref a), some (.ref b), none] rfl (Nat.le_of_ble_eq_true rfl) pn_X5 ?_
  intro X C hRm hl hnm hQ
  obtain ⟨hRf, hRl, hRc, hRs⟩ := hRm
  refine g_wf (fun hwf => ?_)
  have hB28 : B28 = 268435456 := rfl
  obtain ⟨f, u, bl, hO, hR, hf, hu18, hbl⟩ := id h1
  obtain ⟨g, v, bm, hO2, hR2, hg, hv18, hbm⟩ := id h2
  have hne := oI_ne hO hR
  have hne2 := oI_ne hO2 hR2
  have hn12 := oI_ne hO hR2
  have hn21 := oI_ne hO2 hR
  obtain ⟨q, hq1, hq2, hq3, hq4, hq5, hq6⟩ := mx18 hu18 hv18
  refine g_bipush C dX5_compareSize_0 (by decide) ?_
  refine g_aload_n C dX5_compareSize_2 rfl ?_
  refine g_get (ci := 7) C rfl inTX5 1 (by decide) fl_RX5_17 rfl hO rfl dX5_compareSize_3 ?_
  refine g_aload_n C dX5_compareSize_6 rfl ?_
  refine g_get (ci := 7) C rfl inTX5 1 (by decide) fl_RX5_17 rfl hO2 rfl dX5_compareSize_7 ?_
  refine g_max C ml_RX5_60 (by omega) (by omega) (by omega) (by omega) (Nat.le_of_ble_eq_true rfl) (by omega) dX5_compareSize_10 ?_
  rw [hq5]
  refine g_min C ml_RX5_66 (by omega) (by omega) (by omega) (by omega) (Nat.le_of_ble_eq_true rfl) (by omega) dX5_compareSize_13 ?_
  rw [hq6]
  refine g_iconst C dX5_compareSize_16 ?_
  refine g_isub C dX5_compareSize_17 ?_
  refine g_istore_n C dX5_compareSize_18 (by decide) rfl ?_
  refine g_loop (σ := Int) (fun i => -1 ≤ i ∧ i ≤ 17) (fun i => G E X 3 19 [some (.ref a), some (.ref b), some (iI i)] [] w 0 0) (fun i => (i + 1).toNat) ?_ ((q : Int) - 1) ⟨by omega, by omega⟩
  rintro i ⟨hi0, hi1⟩ ih
  refine g_iload_n C dX5_compareSize_19 rfl ?_
  refine g_if_lt (tgt := 65) C dX5_compareSize_20 (by decide) (by omega) (fun h20 => ?_) (fun h20 => ?_)
  · refine g_iconst C dX5_compareSize_65 ?_
    exact g_ireturn C hQ dX5_compareSize_66 (Nat.le_refl _) (Nat.le_refl _) ⟨⟨0, rfl, by omega⟩, rfl⟩
  · obtain ⟨k, rfl⟩ := Int.eq_ofNat_of_zero_le (show 0 ≤ i by omega)
    have hfk := hf k (by omega)
    have hgk := hg k (by omega)
    refine g_aload_n C dX5_compareSize_23 rfl ?_
    refine g_get (ci := 7) C rfl inTX5 0 (by decide) fl_RX5_9 rfl hO rfl dX5_compareSize_24 ?_
    refine g_iload_n C dX5_compareSize_27 rfl ?_
    refine g_ialoadN (k) C hR (by omega) (by omega) dX5_compareSize_28 ?_
    refine g_aload_n C dX5_compareSize_29 rfl ?_
    refine g_get (ci := 7) C rfl inTX5 0 (by decide) fl_RX5_9 rfl hO2 rfl dX5_compareSize_30 ?_
    refine g_iload_n C dX5_compareSize_33 rfl ?_
    refine g_ialoadN (k) C hR2 (by omega) (by omega) dX5_compareSize_34 ?_
    refine g_icmp_eq (tgt := 59) C dX5_compareSize_35 (by decide) (by omega) (by omega) (fun h35 => ?_) (fun h35 => ?_)
    · refine g_iinc C dX5_compareSize_59 rfl (by decide) rfl ?_
      refine g_goto (tgt := 19) C dX5_compareSize_62 (by decide) ?_
      exact ih ((k : Int) + -1) ⟨by omega, by omega⟩ (by omega)
    · refine g_aload_n C dX5_compareSize_38 rfl ?_
      refine g_get (ci := 7) C rfl inTX5 0 (by decide) fl_RX5_9 rfl hO rfl dX5_compareSize_39 ?_
      refine g_iload_n C dX5_compareSize_42 rfl ?_
      refine g_ialoadN (k) C hR (by omega) (by omega) dX5_compareSize_43 ?_
      refine g_aload_n C dX5_compareSize_44 rfl ?_
      refine g_get (ci := 7) C rfl inTX5 0 (by decide) fl_RX5_9 rfl hO2 rfl dX5_compareSize_45 ?_
      refine g_iload_n C dX5_compareSize_48 rfl ?_
      refine g_ialoadN (k) C hR2 (by omega) (by omega) dX5_compareSize_49 ?_
      refine g_icmp_le (tgt := 57) C dX5_compareSize_50 (by decide) (by omega) (by omega) (fun h50 => ?_) (fun h50 => ?_)
      · refine g_iconst C dX5_compareSize_57 ?_
        exact g_ireturn C hQ dX5_compareSize_58 (Nat.le_refl _) (Nat.le_refl _) ⟨⟨_, rfl, by omega⟩, rfl⟩
      · refine g_iconst C dX5_compareSize_53 ?_
        refine g_goto (tgt := 58) C dX5_compareSize_54 (by decide) ?_
        exact g_ireturn C hQ dX5_compareSize_58 (Nat.le_refl _) (Nat.le_refl _) ⟨⟨_, rfl, by omega⟩, rfl⟩
set_option maxHeartbeats 4000000 in
set_option maxRecDepth 100000 in
theorem s_X5_compareValue (l : Launch) {E : GE} {w : Wd} {a r b s : Nat} (h1 : WS w a r) (h2 : WS w b s) : Sp E l yX5_compareValue cX5_compareValue 2 (some .int) 2 (0) (0) [.ref a, .ref b] w (fun r' w' => (∃ d : Int, r' = some (iI d) ∧ -1 ≤ d ∧ d ≤ 1) ∧ w' = w) := by
  refine sp_intro [some (.ref a), some (.ref b)] rfl (Nat.le_of_ble_eq_true rfl) pn_X5 ?_
  intro X C hRm hl hnm hQ
  obtain ⟨hRf, hRl, hRc, hRs⟩ := hRm
  refine g_wf (fun hwf => ?_)
  have hB28 : B28 = 268435456 := rfl
  obtain ⟨f, u, bl, hO, hR, hf, hu18, hbl⟩ := id h1
  obtain ⟨g, v, bm, hO2, hR2, hg, hv18, hbm⟩ := id h2
  have hne := oI_ne hO hR
  have hne2 := oI_ne hO2 hR2
  have hn12 := oI_ne hO hR2
  have hn21 := oI_ne hO2 hR
  refine g_aload_n C dX5_compareValue_0 rfl ?_
  refine g_get (ci := 7) C rfl inTX5 2 (by decide) fl_RX5_13 rfl hO rfl dX5_compareValue_1 ?_
  refine g_aload_n C dX5_compareValue_4 rfl ?_
  refine g_get (ci := 7) C rfl inTX5 2 (by decide) fl_RX5_13 rfl hO2 rfl dX5_compareValue_5 ?_
  refine g_icmp_eq (tgt := 24) C dX5_compareValue_8 (by decide) (by omega) (by omega) (fun h8 => ?_) (fun h8 => ?_)
  · refine g_aload_n C dX5_compareValue_24 rfl ?_
    refine g_get (ci := 7) C rfl inTX5 2 (by decide) fl_RX5_13 rfl hO rfl dX5_compareValue_25 ?_
    refine g_if_eq (tgt := 40) C dX5_compareValue_28 (by decide) (by omega) (fun h28 => ?_) (fun h28 => ?_)
    · refine g_aload_n C dX5_compareValue_40 rfl ?_
      refine g_aload_n C dX5_compareValue_41 rfl ?_
      refine g_callV C (s_X5_compareSize _ h1 h2) (ci := 7) rfl hO rfl ml_RX5_50 im_yX5_compareSize se_RX5_yX5_compareSize in_RX5 co_yX5_compareSize hd_X5_compareSize rfl ⟨by omega, by omega⟩ rfl (Nat.le_of_ble_eq_true rfl) ⟨by omega, by omega⟩ dX5_compareValue_42 (fun v42 w42 hp42 => ?_)
      obtain ⟨⟨d, rfl, hd⟩, hw42⟩ := hp42
      subst w42
      exact g_ireturn C hQ dX5_compareValue_45 (Nat.le_refl _) (Nat.le_refl _) ⟨⟨_, rfl, by omega⟩, rfl⟩
    · refine g_aload_n C dX5_compareValue_31 rfl ?_
      refine g_aload_n C dX5_compareValue_32 rfl ?_
      refine g_callV C (s_X5_compareSize _ h1 h2) (ci := 7) rfl hO rfl ml_RX5_50 im_yX5_compareSize se_RX5_yX5_compareSize in_RX5 co_yX5_compareSize hd_X5_compareSize rfl ⟨by omega, by omega⟩ rfl (Nat.le_of_ble_eq_true rfl) ⟨by omega, by omega⟩ dX5_compareValue_33 (fun v33 w33 hp33 => ?_)
      obtain ⟨⟨d, rfl, hd⟩, hw33⟩ := hp33
      subst w33
      refine g_ineg C dX5_compareValue_36 ?_
      refine g_goto (tgt := 45) C dX5_compareValue_37 (by decide) ?_
      exact g_ireturn C hQ dX5_compareValue_45 (Nat.le_refl _) (Nat.le_refl _) ⟨⟨_, rfl, by omega⟩, rfl⟩
  · refine g_aload_n C dX5_compareValue_11 rfl ?_
    refine g_get (ci := 7) C rfl inTX5 2 (by decide) fl_RX5_13 rfl hO rfl dX5_compareValue_12 ?_
    refine g_if_eq (tgt := 22) C dX5_compareValue_15 (by decide) (by omega) (fun h15 => ?_) (fun h15 => ?_)
    · refine g_iconst C dX5_compareValue_22 ?_
      exact g_ireturn C hQ dX5_compareValue_23 (Nat.le_refl _) (Nat.le_refl _) ⟨⟨_, rfl, by omega⟩, rfl⟩
    · refine g_iconst C dX5_compareValue_18 ?_
      refine g_goto (tgt := 23) C dX5_compareValue_19 (by decide) ?_
      exact g_ireturn C hQ dX5_compareValue_23 (Nat.le_refl _) (Nat.le_refl _) ⟨⟨_, rfl, by omega⟩, rfl⟩
set_option maxHeartbeats 4000000 in
set_option maxRecDepth 100000 in
theorem s_X5_addSize (l : Launch) {E : GE} {w : Wd} {a r b s : Nat} (h1 : WS w a r) (h2 : WS w b s) (hrs : r ≠ s) : Sp E l yX5_addSize cX5_addSize 5 none 1 (0) (0) [.ref a, .ref b] w (fun r' w' => r' = none ∧ WS w' a r ∧ FrW w w' a r) := by
  refine sp_intro [some (.ref a), some (.ref b), none, none, none] rfl (Nat.le_of_ble_eq_true rfl) pn_X5 ?_
  intro X C hRm hl hnm hQ
  obtain ⟨hRf, hRl, hRc, hRs⟩ := hRm
  refine g_wf (fun hwf => ?_)
  have hB28 : B28 = 268435456 := rfl
  obtain ⟨f, u, bl, hO, hR, hf, hu18, hbl⟩ := id h1
  obtain ⟨g, v, bm, hO2, hR2, hg, hv18, hbm⟩ := id h2
  have hne := oI_ne hO hR
  have hne2 := oI_ne hO2 hR2
  have hn12 := oI_ne hO hR2
  have hn21 := oI_ne hO2 hR
  obtain ⟨q, hq1, hq2, hq3, hq4, hq5, hq6⟩ := mx18 hu18 hv18
  obtain ⟨e, he1, he2, he3⟩ := mn18 (q + 1)
  refine g_bipush C dX5_addSize_0 (by decide) ?_
  refine g_aload_n C dX5_addSize_2 rfl ?_
  refine g_get (ci := 7) C rfl inTX5 1 (by decide) fl_RX5_17 rfl hO rfl dX5_addSize_3 ?_
  refine g_aload_n C dX5_addSize_6 rfl ?_
  refine g_get (ci := 7) C rfl inTX5 1 (by decide) fl_RX5_17 rfl hO2 rfl dX5_addSize_7 ?_
  refine g_max C ml_RX5_60 (by omega) (by omega) (by omega) (by omega) (Nat.le_of_ble_eq_true rfl) (by omega) dX5_addSize_10 ?_
  rw [hq5]
  refine g_iconst C dX5_addSize_13 ?_
  refine g_iadd C dX5_addSize_14 ?_
  rw [show (q : Int) + 1 = ((q + 1 : Nat) : Int) by omega]
  refine g_min C ml_RX5_66 (by omega) (by omega) (by omega) (by omega) (Nat.le_of_ble_eq_true rfl) (by omega) dX5_addSize_15 ?_
  rw [he3]
  refine g_istore_n C dX5_addSize_18 (by decide) rfl ?_
  refine g_iconst C dX5_addSize_19 ?_
  refine g_istore_n C dX5_addSize_20 (by decide) rfl ?_
  refine g_iconst C dX5_addSize_21 ?_
  refine g_istore C dX5_addSize_22 (by decide) rfl ?_
  suffices hh : G E X 5 24 [some (.ref a), some (.ref b), some (iI (e : Int)), some (iI 0), some (iI ((0 : Nat) : Int))] [] (wset w r (true, eI 18 f)) 0 0 by rw [wset_id hR] at hh; exact hh
  refine g_loop (σ := Nat × Int × (Nat → Int)) (fun t => t.1 ≤ e ∧ (t.2.1 = 0 ∨ t.2.1 = 1) ∧ DC t.2.2) (fun t => G E X 5 24 [some (.ref a), some (.ref b), some (iI (e : Int)), some (iI t.2.1), some (iI (t.1 : Int))] [] (wset w r (true, eI 18 t.2.2)) 0 0) (fun t => e - t.1) ?_ (0, 0, f) ⟨Nat.zero_le _, Or.inl rfl, hf⟩
  rintro ⟨j, c, h⟩ hq ih
  obtain ⟨hj, hc, hdh⟩ := hq
  dsimp only at hj hc hdh ⊢
  have hOk : (wset w r (true, eI 18 h)).2 a = some (true, oW r u bl) := by rw [wset_n hne]; exact hO
  have hO2k : (wset w r (true, eI 18 h)).2 b = some (true, oW s v bm) := by rw [wset_n hn21]; exact hO2
  have hR2k : (wset w r (true, eI 18 h)).2 s = some (true, eI 18 g) := by rw [wset_n (Ne.symm hrs)]; exact hR2
  refine g_iload C dX5_addSize_24 rfl ?_
  refine g_iload_n C dX5_addSize_26 rfl ?_
  refine g_icmp_ge (tgt := 70) C dX5_addSize_27 (by decide) (by omega) (by omega) (fun h27 => ?_) (fun h27 => ?_)
  · refine g_aload_n C dX5_addSize_70 rfl ?_
    refine g_iload_n C dX5_addSize_71 rfl ?_
    refine g_callV C (s_X5_trim _ (p := e) hOk wset_s hdh he1 hbl) (ci := 7) rfl hOk rfl ml_RX5_30 im_yX5_trim se_RX5_yX5_trim in_RX5 co_yX5_trim hd_X5_trim rfl ⟨by omega, by omega⟩ rfl (Nat.le_of_ble_eq_true rfl) ⟨by omega, by omega⟩ dX5_addSize_72 (fun v72 w72 hp72 => ?_)
    obtain ⟨rfl, hw9, fr9⟩ := hp72
    exact g_return C hQ dX5_addSize_75 (Nat.le_refl _) (Nat.le_refl _) ⟨rfl, hw9, ⟨fr9.1, fun x h3 h4 => by rw [fr9.2 x h3, wset_n h4]⟩⟩
  · have hfk := hdh j (by omega)
    have hgk := hg j (by omega)
    have hm28 := mod28 (c + (h j + g j))
    have hd28e : (c + (h j + g j)) / B28 = (c + (h j + g j)) / 268435456 := rfl
    refine g_iload_n C dX5_addSize_30 rfl ?_
    refine g_aload_n C dX5_addSize_31 rfl ?_
    refine g_get (ci := 7) C rfl inTX5 0 (by decide) fl_RX5_9 rfl hOk rfl dX5_addSize_32 ?_
    refine g_iload C dX5_addSize_35 rfl ?_
    refine g_ialoadN (j) C wset_s (by omega) (by omega) dX5_addSize_37 ?_
    refine g_aload_n C dX5_addSize_38 rfl ?_
    refine g_get (ci := 7) C rfl inTX5 0 (by decide) fl_RX5_9 rfl hO2k rfl dX5_addSize_39 ?_
    refine g_iload C dX5_addSize_42 rfl ?_
    refine g_ialoadN (j) C hR2k (by omega) (by omega) dX5_addSize_44 ?_
    refine g_iadd C dX5_addSize_45 ?_
    refine g_iadd C dX5_addSize_46 ?_
    refine g_istore_n C dX5_addSize_47 (by decide) rfl ?_
    refine g_aload_n C dX5_addSize_48 rfl ?_
    refine g_get (ci := 7) C rfl inTX5 0 (by decide) fl_RX5_9 rfl hOk rfl dX5_addSize_49 ?_
    refine g_iload C dX5_addSize_52 rfl ?_
    refine g_iload_n C dX5_addSize_54 rfl ?_
    refine g_ldc (z := 268435455) C ko_RX5_69 (by decide) dX5_addSize_55 ?_
    refine g_iand (z := (c + (h j + g j)) % B28) C dX5_addSize_57 (i_mask 28 (by omega) mask28) ?_
    refine g_iastoreN (j) C wset_s (by omega) (by omega) dX5_addSize_58 ?_
    rw [wset_set]
    refine g_iload_n C dX5_addSize_59 rfl ?_
    refine g_bipush C dX5_addSize_60 (by decide) ?_
    refine g_iushr (z := (c + (h j + g j)) / B28) C dX5_addSize_62 (i_ushr 28 (by omega) (by omega) (by decide)) ?_
    refine g_istore_n C dX5_addSize_63 (by decide) rfl ?_
    refine g_iinc C dX5_addSize_64 rfl (by decide) rfl ?_
    refine g_goto (tgt := 24) C dX5_addSize_67 (by decide) ?_
    exact ih (j + 1, (c + (h j + g j)) / B28, iup h j ((c + (h j + g j)) % B28)) ⟨by dsimp only; omega, by dsimp only; omega, hdh.up _ hm28⟩ (by dsimp only; omega)
set_option maxHeartbeats 4000000 in
set_option maxRecDepth 100000 in
theorem s_X5_takeSize (l : Launch) {E : GE} {w : Wd} {a r b s : Nat} (h1 : WS w a r) (h2 : WS w b s) (hrs : r ≠ s) : Sp E l yX5_takeSize cX5_takeSize 6 none 1 (0) (0) [.ref a, .ref b] w (fun r' w' => r' = none ∧ WS w' a r ∧ FrW w w' a r) := by
  refine sp_intro [some (.ref a), some (.ref b), none, none, none, none] rfl (Nat.le_of_ble_eq_true rfl) pn_X5 ?_
  intro X C hRm hl hnm hQ
  obtain ⟨hRf, hRl, hRc, hRs⟩ := hRm
  refine g_wf (fun hwf => ?_)
  have hB28 : B28 = 268435456 := rfl
  obtain ⟨f, u, bl, hO, hR, hf, hu18, hbl⟩ := id h1
  obtain ⟨g, v, bm, hO2, hR2, hg, hv18, hbm⟩ := id h2
  have hne := oI_ne hO hR
  have hne2 := oI_ne hO2 hR2
  have hn12 := oI_ne hO hR2
  have hn21 := oI_ne hO2 hR
  obtain ⟨e, he1, he2, he3⟩ := mn18 u
  refine g_bipush C dX5_takeSize_0 (by decide) ?_
  refine g_aload_n C dX5_takeSize_2 rfl ?_
  refine g_get (ci := 7) C rfl inTX5 1 (by decide) fl_RX5_17 rfl hO rfl dX5_takeSize_3 ?_
  refine g_min C ml_RX5_66 (by omega) (by omega) (by omega) (by omega) (Nat.le_of_ble_eq_true rfl) (by omega) dX5_takeSize_6 ?_
  rw [he3]
  refine g_istore_n C dX5_takeSize_9 (by decide) rfl ?_
  refine g_iconst C dX5_takeSize_10 ?_
  refine g_istore_n C dX5_takeSize_11 (by decide) rfl ?_
  refine g_iconst C dX5_takeSize_12 ?_
  refine g_istore C dX5_takeSize_13 (by decide) rfl ?_
  suffices hh : G E X 6 15 [some (.ref a), some (.ref b), some (iI (e : Int)), some (iI 0), some (iI ((0 : Nat) : Int)), none] [] (wset w r (true, eI 18 f)) 0 0 by rw [wset_id hR] at hh; exact hh
  refine g_loop (σ := Nat × Int × (Nat → Int)) (fun t => t.1 ≤ e ∧ (t.2.1 = 0 ∨ t.2.1 = 1) ∧ DC t.2.2) (fun t => G E X 6 15 [some (.ref a), some (.ref b), some (iI (e : Int)), some (iI t.2.1), some (iI (t.1 : Int)), none] [] (wset w r (true, eI 18 t.2.2)) 0 0) (fun t => e - t.1) ?_ (0, 0, f) ⟨Nat.zero_le _, Or.inl rfl, hf⟩
  rintro ⟨j, c, h⟩ hq ih
  obtain ⟨hj, hc, hdh⟩ := hq
  dsimp only at hj hc hdh ⊢
  have hOk : (wset w r (true, eI 18 h)).2 a = some (true, oW r u bl) := by rw [wset_n hne]; exact hO
  have hO2k : (wset w r (true, eI 18 h)).2 b = some (true, oW s v bm) := by rw [wset_n hn21]; exact hO2
  have hR2k : (wset w r (true, eI 18 h)).2 s = some (true, eI 18 g) := by rw [wset_n (Ne.symm hrs)]; exact hR2
  refine g_iload C dX5_takeSize_15 rfl ?_
  refine g_iload_n C dX5_takeSize_17 rfl ?_
  refine g_icmp_ge (tgt := 69) C dX5_takeSize_18 (by decide) (by omega) (by omega) (fun h18 => ?_) (fun h18 => ?_)
  · refine g_aload_n C dX5_takeSize_69 rfl ?_
    refine g_iload_n C dX5_takeSize_70 rfl ?_
    refine g_callV C (s_X5_trim _ (p := e) hOk wset_s hdh he1 hbl) (ci := 7) rfl hOk rfl ml_RX5_30 im_yX5_trim se_RX5_yX5_trim in_RX5 co_yX5_trim hd_X5_trim rfl ⟨by omega, by omega⟩ rfl (Nat.le_of_ble_eq_true rfl) ⟨by omega, by omega⟩ dX5_takeSize_71 (fun v71 w71 hp71 => ?_)
    obtain ⟨rfl, hw9, fr9⟩ := hp71
    exact g_return C hQ dX5_takeSize_74 (Nat.le_refl _) (Nat.le_refl _) ⟨rfl, hw9, ⟨fr9.1, fun x h3 h4 => by rw [fr9.2 x h3, wset_n h4]⟩⟩
  · have hfk := hdh j (by omega)
    have hgk := hg j (by omega)
    have hm28 := mod28 (h j - g j - c)
    have J62 : ∀ c2 : Int, (c2 = 0 ∨ c2 = 1) → G E X 6 62 [some (.ref a), some (.ref b), some (iI (e : Int)), some (iI c), some (iI (j : Int)), some (iI (h j - g j - c))] [iI c2] (wset w r (true, eI 18 (iup h j ((h j - g j - c) % B28)))) 0 0 := by
      intro c2 hc2
      refine g_istore_n C dX5_takeSize_62 (by decide) rfl ?_
      refine g_iinc C dX5_takeSize_63 rfl (by decide) rfl ?_
      refine g_goto (tgt := 15) C dX5_takeSize_66 (by decide) ?_
      refine g_drop 5 ?_
      exact ih (j + 1, c2, iup h j ((h j - g j - c) % B28)) ⟨by dsimp only; omega, by dsimp only; omega, hdh.up _ hm28⟩ (by dsimp only; omega)
    refine g_aload_n C dX5_takeSize_21 rfl ?_
    refine g_get (ci := 7) C rfl inTX5 0 (by decide) fl_RX5_9 rfl hOk rfl dX5_takeSize_22 ?_
    refine g_iload C dX5_takeSize_25 rfl ?_
    refine g_ialoadN (j) C wset_s (by omega) (by omega) dX5_takeSize_27 ?_
    refine g_aload_n C dX5_takeSize_28 rfl ?_
    refine g_get (ci := 7) C rfl inTX5 0 (by decide) fl_RX5_9 rfl hO2k rfl dX5_takeSize_29 ?_
    refine g_iload C dX5_takeSize_32 rfl ?_
    refine g_ialoadN (j) C hR2k (by omega) (by omega) dX5_takeSize_34 ?_
    refine g_isub C dX5_takeSize_35 ?_
    refine g_iload_n C dX5_takeSize_36 rfl ?_
    refine g_isub C dX5_takeSize_37 ?_
    refine g_istore C dX5_takeSize_38 (by decide) rfl ?_
    refine g_aload_n C dX5_takeSize_40 rfl ?_
    refine g_get (ci := 7) C rfl inTX5 0 (by decide) fl_RX5_9 rfl hOk rfl dX5_takeSize_41 ?_
    refine g_iload C dX5_takeSize_44 rfl ?_
    refine g_iload C dX5_takeSize_46 rfl ?_
    refine g_ldc (z := 268435455) C ko_RX5_69 (by decide) dX5_takeSize_48 ?_
    refine g_iand (z := (h j - g j - c) % B28) C dX5_takeSize_50 (i_mask 28 (by omega) mask28) ?_
    refine g_iastoreN (j) C wset_s (by omega) (by omega) dX5_takeSize_51 ?_
    rw [wset_set]
    refine g_iload C dX5_takeSize_52 rfl ?_
    refine g_if_ge (tgt := 61) C dX5_takeSize_54 (by decide) (by omega) (fun h54 => ?_) (fun h54 => ?_)
    · refine g_iconst C dX5_takeSize_61 ?_
      exact J62 _ (by omega)
    · refine g_iconst C dX5_takeSize_57 ?_
      refine g_goto (tgt := 62) C dX5_takeSize_58 (by decide) ?_
      exact J62 _ (by omega)
set_option maxHeartbeats 4000000 in
set_option maxRecDepth 100000 in
theorem s_X5_takeFromSize (l : Launch) {E : GE} {w : Wd} {a r b s : Nat} (h1 : WS w a r) (h2 : WS w b s) (hrs : r ≠ s) : Sp E l yX5_takeFromSize cX5_takeFromSize 6 none 1 (0) (0) [.ref a, .ref b] w (fun r' w' => r' = none ∧ WS w' a r ∧ FrW w w' a r) := by
  refine sp_intro [some (.ref a), some (.ref b), none, none, none, none] rfl (Nat.le_of_ble_eq_true rfl) pn_X5 ?_
  intro X C hRm hl hnm hQ
  obtain ⟨hRf, hRl, hRc, hRs⟩ := hRm
  refine g_wf (fun hwf => ?_)
  have hB28 : B28 = 268435456 := rfl
  obtain ⟨f, u, bl, hO, hR, hf, hu18, hbl⟩ := id h1
  obtain ⟨g, v, bm, hO2, hR2, hg, hv18, hbm⟩ := id h2
  have hne := oI_ne hO hR
  have hne2 := oI_ne hO2 hR2
  have hn12 := oI_ne hO hR2
  have hn21 := oI_ne hO2 hR
  obtain ⟨e, he1, he2, he3⟩ := mn18 v
  refine g_bipush C dX5_takeFromSize_0 (by decide) ?_
  refine g_aload_n C dX5_takeFromSize_2 rfl ?_
  refine g_get (ci := 7) C rfl inTX5 1 (by decide) fl_RX5_17 rfl hO2 rfl dX5_takeFromSize_3 ?_
  refine g_min C ml_RX5_66 (by omega) (by omega) (by omega) (by omega) (Nat.le_of_ble_eq_true rfl) (by omega) dX5_takeFromSize_6 ?_
  rw [he3]
  refine g_istore_n C dX5_takeFromSize_9 (by decide) rfl ?_
  refine g_iconst C dX5_takeFromSize_10 ?_
  refine g_istore_n C dX5_takeFromSize_11 (by decide) rfl ?_
  refine g_iconst C dX5_takeFromSize_12 ?_
  refine g_istore C dX5_takeFromSize_13 (by decide) rfl ?_
  suffices hh : G E X 6 15 [some (.ref a), some (.ref b), some (iI (e : Int)), some (iI 0), some (iI ((0 : Nat) : Int)), none] [] (wset w r (true, eI 18 f)) 0 0 by rw [wset_id hR] at hh; exact hh
  refine g_loop (σ := Nat × Int × (Nat → Int)) (fun t => t.1 ≤ e ∧ (t.2.1 = 0 ∨ t.2.1 = 1) ∧ DC t.2.2) (fun t => G E X 6 15 [some (.ref a), some (.ref b), some (iI (e : Int)), some (iI t.2.1), some (iI (t.1 : Int)), none] [] (wset w r (true, eI 18 t.2.2)) 0 0) (fun t => e - t.1) ?_ (0, 0, f) ⟨Nat.zero_le _, Or.inl rfl, hf⟩
  rintro ⟨j, c, h⟩ hq ih
  obtain ⟨hj, hc, hdh⟩ := hq
  dsimp only at hj hc hdh ⊢
  have hOk : (wset w r (true, eI 18 h)).2 a = some (true, oW r u bl) := by rw [wset_n hne]; exact hO
  have hO2k : (wset w r (true, eI 18 h)).2 b = some (true, oW s v bm) := by rw [wset_n hn21]; exact hO2
  have hR2k : (wset w r (true, eI 18 h)).2 s = some (true, eI 18 g) := by rw [wset_n (Ne.symm hrs)]; exact hR2
  refine g_iload C dX5_takeFromSize_15 rfl ?_
  refine g_iload_n C dX5_takeFromSize_17 rfl ?_
  refine g_icmp_ge (tgt := 69) C dX5_takeFromSize_18 (by decide) (by omega) (by omega) (fun h18 => ?_) (fun h18 => ?_)
  · refine g_aload_n C dX5_takeFromSize_69 rfl ?_
    refine g_iload_n C dX5_takeFromSize_70 rfl ?_
    refine g_callV C (s_X5_trim _ (p := e) hOk wset_s hdh he1 hbl) (ci := 7) rfl hOk rfl ml_RX5_30 im_yX5_trim se_RX5_yX5_trim in_RX5 co_yX5_trim hd_X5_trim rfl ⟨by omega, by omega⟩ rfl (Nat.le_of_ble_eq_true rfl) ⟨by omega, by omega⟩ dX5_takeFromSize_71 (fun v71 w71 hp71 => ?_)
    obtain ⟨rfl, hw9, fr9⟩ := hp71
    exact g_return C hQ dX5_takeFromSize_74 (Nat.le_refl _) (Nat.le_refl _) ⟨rfl, hw9, ⟨fr9.1, fun x h3 h4 => by rw [fr9.2 x h3, wset_n h4]⟩⟩
  · have hfk := hdh j (by omega)
    have hgk := hg j (by omega)
    have hm28 := mod28 (g j - h j - c)
    have J62 : ∀ c2 : Int, (c2 = 0 ∨ c2 = 1) → G E X 6 62 [some (.ref a), some (.ref b), some (iI (e : Int)), some (iI c), some (iI (j : Int)), some (iI (g j - h j - c))] [iI c2] (wset w r (true, eI 18 (iup h j ((g j - h j - c) % B28)))) 0 0 := by
      intro c2 hc2
      refine g_istore_n C dX5_takeFromSize_62 (by decide) rfl ?_
      refine g_iinc C dX5_takeFromSize_63 rfl (by decide) rfl ?_
      refine g_goto (tgt := 15) C dX5_takeFromSize_66 (by decide) ?_
      refine g_drop 5 ?_
      exact ih (j + 1, c2, iup h j ((g j - h j - c) % B28)) ⟨by dsimp only; omega, by dsimp only; omega, hdh.up _ hm28⟩ (by dsimp only; omega)
    refine g_aload_n C dX5_takeFromSize_21 rfl ?_
    refine g_get (ci := 7) C rfl inTX5 0 (by decide) fl_RX5_9 rfl hO2k rfl dX5_takeFromSize_22 ?_
    refine g_iload C dX5_takeFromSize_25 rfl ?_
    refine g_ialoadN (j) C hR2k (by omega) (by omega) dX5_takeFromSize_27 ?_
    refine g_aload_n C dX5_takeFromSize_28 rfl ?_
    refine g_get (ci := 7) C rfl inTX5 0 (by decide) fl_RX5_9 rfl hOk rfl dX5_takeFromSize_29 ?_
    refine g_iload C dX5_takeFromSize_32 rfl ?_
    refine g_ialoadN (j) C wset_s (by omega) (by omega) dX5_takeFromSize_34 ?_
    refine g_isub C dX5_takeFromSize_35 ?_
    refine g_iload_n C dX5_takeFromSize_36 rfl ?_
    refine g_isub C dX5_takeFromSize_37 ?_
    refine g_istore C dX5_takeFromSize_38 (by decide) rfl ?_
    refine g_aload_n C dX5_takeFromSize_40 rfl ?_
    refine g_get (ci := 7) C rfl inTX5 0 (by decide) fl_RX5_9 rfl hOk rfl dX5_takeFromSize_41 ?_
    refine g_iload C dX5_takeFromSize_44 rfl ?_
    refine g_iload C dX5_takeFromSize_46 rfl ?_
    refine g_ldc (z := 268435455) C ko_RX5_69 (by decide) dX5_takeFromSize_48 ?_
    refine g_iand (z := (g j - h j - c) % B28) C dX5_takeFromSize_50 (i_mask 28 (by omega) mask28) ?_
    refine g_iastoreN (j) C wset_s (by omega) (by omega) dX5_takeFromSize_51 ?_
    rw [wset_set]
    refine g_iload C dX5_takeFromSize_52 rfl ?_
    refine g_if_ge (tgt := 61) C dX5_takeFromSize_54 (by decide) (by omega) (fun h54 => ?_) (fun h54 => ?_)
    · refine g_iconst C dX5_takeFromSize_61 ?_
      exact J62 _ (by omega)
    · refine g_iconst C dX5_takeFromSize_57 ?_
      refine g_goto (tgt := 62) C dX5_takeFromSize_58 (by decide) ?_
      exact J62 _ (by omega)
set_option maxHeartbeats 4000000 in
set_option maxRecDepth 100000 in
theorem s_X5_addOrTake (l : Launch) {E : GE} {w : Wd} {a r b s : Nat} (h1 : WS w a r) (h2 : WS w b s) {y : Int} (hy : y = 0 ∨ y = 1) (hrs : r ≠ s) : Sp E l yX5_addOrTake cX5_addOrTake 4 none 2 (0) (0) [.ref a, .ref b, iI y] w (fun r' w' => r' = none ∧ WS w' a r ∧ FrW w w' a r) := by
  refine sp_intro [some (.ref a), some (.ref b), some (iI y), none] rfl (Nat.le_of_ble_eq_true rfl) pn_X5 ?_
  intro X C hRm hl hnm hQ
  obtain ⟨hRf, hRl, hRc, hRs⟩ := hRm
  refine g_wf (fun hwf => ?_)
  have hB28 : B28 = 268435456 := rfl
  obtain ⟨f, u, bl, hO, hR, hf, hu18, hbl⟩ := id h1
  obtain ⟨g, v, bm, hO2, hR2, hg, hv18, hbm⟩ := id h2
  have hne := oI_ne hO hR
  have hne2 := oI_ne hO2 hR2
  have hn12 := oI_ne hO hR2
  have hn21 := oI_ne hO2 hR
  have hab := oo_ne hO hO2 hrs
  have J13 : ∀ q : Int, (q = 0 ∨ q = 1) → G E X 4 13 [some (.ref a), some (.ref b), some (iI y), none] [iI q] w 0 0 := by
    intro q hq
    refine g_istore_n C dX5_addOrTake_13 (by decide) rfl ?_
    refine g_aload_n C dX5_addOrTake_14 rfl ?_
    refine g_get (ci := 7) C rfl inTX5 2 (by decide) fl_RX5_13 rfl hO rfl dX5_addOrTake_15 ?_
    refine g_iload_n C dX5_addOrTake_18 rfl ?_
    refine g_icmp_ne (tgt := 30) C dX5_addOrTake_19 (by decide) (by omega) (by omega) (fun h19 => ?_) (fun h19 => ?_)
    · refine g_aload_n C dX5_addOrTake_30 rfl ?_
      refine g_aload_n C dX5_addOrTake_31 rfl ?_
      refine g_callV C (s_X5_compareSize _ h1 h2) (ci := 7) rfl hO rfl ml_RX5_50 im_yX5_compareSize se_RX5_yX5_compareSize in_RX5 co_yX5_compareSize hd_X5_compareSize rfl ⟨by omega, by omega⟩ rfl (Nat.le_of_ble_eq_true rfl) ⟨by omega, by omega⟩ dX5_addOrTake_32 (fun v32 w32 hp32 => ?_)
      obtain ⟨⟨d32, rfl, hd32⟩, hw32⟩ := hp32
      subst w32
      refine g_if_lt (tgt := 46) C dX5_addOrTake_35 (by decide) (by omega) (fun h35 => ?_) (fun h35 => ?_)
      · refine g_aload_n C dX5_addOrTake_46 rfl ?_
        refine g_iload_n C dX5_addOrTake_47 rfl ?_
        refine g_put (ci := 7) C rfl inTX5 tyX5 tyX5_ok nmX5 2 (by decide) fl_RX5_13 rfl rfl hO (Nat.le_of_ble_eq_true rfl) (by rcases hq with c | c <;> (rw [c]; rfl)) (by rcases hq with c | c <;> (rw [c]; rfl)) dX5_addOrTake_48 ?_
        have k3 : WS (wset w a (true, eO 7 [.ref r, iI (u : Int), iI q])) a r := ⟨f, u, q, wset_s, by rw [wset_n (Ne.symm hne)]; exact hR, hf, hu18, hq⟩
        have k4 : WS (wset w a (true, eO 7 [.ref r, iI (u : Int), iI q])) b s := ⟨g, v, bm, by rw [wset_n (Ne.symm hab)]; exact hO2, by rw [wset_n (Ne.symm hn12)]; exact hR2, hg, hv18, hbm⟩
        refine g_aload_n C dX5_addOrTake_51 rfl ?_
        refine g_aload_n C dX5_addOrTake_52 rfl ?_
        refine g_callV C (s_X5_takeFromSize _ k3 k4 hrs) (ci := 7) rfl wset_s rfl ml_RX5_57 im_yX5_takeFromSize se_RX5_yX5_takeFromSize in_RX5 co_yX5_takeFromSize hd_X5_takeFromSize rfl ⟨by omega, by omega⟩ rfl (Nat.le_of_ble_eq_true rfl) ⟨by omega, by omega⟩ dX5_addOrTake_53 (fun v53 w53 hp53 => ?_)
        obtain ⟨rfl, r53, fr53⟩ := hp53
        exact g_return C hQ dX5_addOrTake_56 (Nat.le_refl _) (Nat.le_refl _) (by first | exact ⟨rfl, r24, fr24⟩ | exact ⟨rfl, r40, fr40⟩ | exact ⟨rfl, r53, ((FrW.rf w a r).set (Or.inl rfl) _).tr fr53⟩)
      · refine g_aload_n C dX5_addOrTake_38 rfl ?_
        refine g_aload_n C dX5_addOrTake_39 rfl ?_
        refine g_callV C (s_X5_takeSize _ h1 h2 hrs) (ci := 7) rfl hO rfl ml_RX5_54 im_yX5_takeSize se_RX5_yX5_takeSize in_RX5 co_yX5_takeSize hd_X5_takeSize rfl ⟨by omega, by omega⟩ rfl (Nat.le_of_ble_eq_true rfl) ⟨by omega, by omega⟩ dX5_addOrTake_40 (fun v40 w40 hp40 => ?_)
        obtain ⟨rfl, r40, fr40⟩ := hp40
        refine g_goto (tgt := 56) C dX5_addOrTake_43 (by decide) ?_
        exact g_return C hQ dX5_addOrTake_56 (Nat.le_refl _) (Nat.le_refl _) (by first | exact ⟨rfl, r24, fr24⟩ | exact ⟨rfl, r40, fr40⟩ | exact ⟨rfl, r53, ((FrW.rf w a r).set (Or.inl rfl) _).tr fr53⟩)
    · refine g_aload_n C dX5_addOrTake_22 rfl ?_
      refine g_aload_n C dX5_addOrTake_23 rfl ?_
      refine g_callV C (s_X5_addSize _ h1 h2 hrs) (ci := 7) rfl hO rfl ml_RX5_46 im_yX5_addSize se_RX5_yX5_addSize in_RX5 co_yX5_addSize hd_X5_addSize rfl ⟨by omega, by omega⟩ rfl (Nat.le_of_ble_eq_true rfl) ⟨by omega, by omega⟩ dX5_addOrTake_24 (fun v24 w24 hp24 => ?_)
      obtain ⟨rfl, r24, fr24⟩ := hp24
      refine g_goto (tgt := 56) C dX5_addOrTake_27 (by decide) ?_
      exact g_return C hQ dX5_addOrTake_56 (Nat.le_refl _) (Nat.le_refl _) (by first | exact ⟨rfl, r24, fr24⟩ | exact ⟨rfl, r40, fr40⟩ | exact ⟨rfl, r53, ((FrW.rf w a r).set (Or.inl rfl) _).tr fr53⟩)
  refine g_aload_n C dX5_addOrTake_0 rfl ?_
  refine g_get (ci := 7) C rfl inTX5 2 (by decide) fl_RX5_13 rfl hO2 rfl dX5_addOrTake_1 ?_
  refine g_iload_n C dX5_addOrTake_4 rfl ?_
  refine g_icmp_eq (tgt := 12) C dX5_addOrTake_5 (by decide) (by omega) (by omega) (fun h5 => ?_) (fun h5 => ?_)
  · refine g_iconst C dX5_addOrTake_12 ?_
    exact J13 _ (by omega)
  · refine g_iconst C dX5_addOrTake_8 ?_
    refine g_goto (tgt := 13) C dX5_addOrTake_9 (by decide) ?_
    exact J13 _ (by omega)
