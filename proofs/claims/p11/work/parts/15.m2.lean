set_option maxHeartbeats 4000000 in
set_option maxRecDepth 100000 in
theorem c_X8_of (l : Launch) {E : GE} {w : Wd} {v : Int} (hv : -4611686018427387904 < v ∧ v < 4611686018427387904) : Sp E l yX8_of cX8_of 6 (some (.array .int)) 1 (2) (8) [jJ v] w (fun r w' => ∃ (m : Nat) (g : Nat → Int), r = some (.ref (w.1 + 1)) ∧ w'.2 (w.1 + 1) = some (true, eI m g) ∧ BN g m v ∧ m ≤ 4 ∧ w'.1 = w.1 + 2 ∧ Ex w w') := by
  refine sp_intro [some (jJ v), none, none, none, none, none] rfl (Nat.le_of_ble_eq_true rfl) pn_X8 ?_
  intro X C hRm hl hnm hQ
  obtain ⟨hRf, hRl, hRc, hRs⟩ := hRm
  refine g_wf (fun hwf => ?_)
  have J12 : ∀ y : Int, (v < 0 ∧ y = -v ∨ 0 ≤ v ∧ y = v) → G E X 6 12 [some (jJ v), none, none, none, none, none] [jJ y] w 0 0 := by
    intro y hy
    refine g_lstore_n C dX8_of_12 (by decide) rfl ?_
    refine g_iconst C dX8_of_13 ?_
    refine g_newI C gw_arrayClass_int (N := 4) rfl (by omega) (by omega) dX8_of_14 ?_
    refine g_dup C dX8_of_16 rfl ?_
    refine g_iconst C dX8_of_17 ?_
    refine g_iconst C dX8_of_18 ?_
    refine g_iastore C wpush_s (by omega) dX8_of_19 ?_
    rw [wset_push]
    refine g_dup C dX8_of_20 rfl ?_
    refine g_iconst C dX8_of_21 ?_
    refine g_iconst C dX8_of_22 ?_
    refine g_iastore C wpush_s (by omega) dX8_of_23 ?_
    rw [wset_push]
    refine g_dup C dX8_of_24 rfl ?_
    refine g_iconst C dX8_of_25 ?_
    refine g_iconst C dX8_of_26 ?_
    refine g_iastore C wpush_s (by omega) dX8_of_27 ?_
    rw [wset_push]
    refine g_dup C dX8_of_28 rfl ?_
    refine g_iconst C dX8_of_29 ?_
    refine g_iconst C dX8_of_30 ?_
    refine g_iastore C wpush_s (by omega) dX8_of_31 ?_
    rw [wset_push]
    refine g_astore C dX8_of_32 (by decide) rfl ?_
    refine g_iconst C dX8_of_34 ?_
    refine g_istore C dX8_of_35 (by decide) rfl ?_
    refine g_loop (σ := Nat × Int × (Nat → Int)) (fun q => 1 ≤ q.1 ∧ q.1 ≤ 4 ∧ (∀ i, 1 ≤ i → i < q.1 → 0 ≤ q.2.2 i ∧ q.2.2 i < 1073741824) ∧ nv B30 (mgf q.2.2) (q.1 - 1) + q.2.1 * B30 ^ (q.1 - 1) = y ∧ 0 ≤ q.2.1 ∧ (q.1 = 1 → q.2.1 < 4611686018427387904) ∧ (q.1 = 2 → q.2.1 < 4294967296) ∧ (q.1 = 3 → q.2.1 < 4) ∧ (q.1 = 4 → q.2.1 = 0)) (fun q => G E X 6 37 [some (jJ v), none, some (jJ q.2.1), none, some (.ref w.1), some (iI (q.1 : Int))] [] (wpush w (true, eI 4 q.2.2)) 1 4) (fun q => 4 - q.1) ?_ (1, y, iup (iup (iup (iup (fun _ => 0) 0 0) 1 0) 2 0) 3 0) ⟨by omega, by omega, fun i h1 h2 => absurd h2 (by dsimp only; omega), by show 0 + y * B30 ^ 0 = y; rw [Int.pow_zero]; omega, by dsimp only; omega, by dsimp only; omega, by dsimp only; omega, by dsimp only; omega, by dsimp only; omega⟩
    rintro ⟨k, x, g⟩ hq ih
    obtain ⟨hk1, hk2, hk3, hk4, hk5, hk6, hk7, hk8, hk9⟩ := hq
    dsimp only at hk1 hk2 hk3 hk4 hk5 hk6 hk7 hk8 hk9
    have ek : ((k : Nat) : Int).toNat = k := by omega
    obtain ⟨j, rfl⟩ : ∃ j, k = j + 1 := ⟨k - 1, by omega⟩
    refine g_iload C dX8_of_37 rfl ?_
    refine g_iconst C dX8_of_39 ?_
    refine g_icmp_ge (tgt := 65) C dX8_of_40 (by decide) (by omega) (by omega) (fun h40 => ?_) (fun h40 => ?_)
    · have hk : j + 1 = 4 := by omega
      have ej : j = 3 := by omega
      subst ej
      have hx0 : x = 0 := hk9 rfl
      subst hx0
      have hmg : mg g 4 = y := by
        have q : nv B30 (mgf g) 3 + 0 * B30 ^ 3 = y := hk4
        rw [Int.zero_mul, Int.add_zero] at q
        exact q
      have J76 : ∀ s : Int, (s = 1 ∨ s = -1) → s * y = v → G E X 6 76 [some (jJ v), none, some (jJ 0), none, some (.ref w.1), some (iI ((3 + 1 : Nat) : Int))] [iI s] (wpush w (true, eI 4 g)) 1 4 := by
        intro s hs hsy
        refine g_aload C dX8_of_76 rfl ?_
        refine g_callS C (c_X8_cut _ (c := 4) (f := g) wpush_s (by omega) (by omega) (by omega) (fun i h1 h2 => hk3 i h1 h2) (by omega)) ml_RX8_55 sm_yX8_cut in_RX8 co_yX8_cut hd_X8_cut rfl ⟨by omega, by omega⟩ rfl (Nat.le_of_ble_eq_true rfl) ⟨by omega, by omega⟩ dX8_of_78 (fun v78 w78 hp78 => ?_)
        obtain ⟨m, g2, rfl, rfl, hb, hm⟩ := hp78
        rw [hmg, hsy] at hb
        exact g_areturn C (Or.inr ⟨_, rfl⟩) hQ (Or.inr ⟨_, rfl⟩) dX8_of_81 (by omega) (by omega) ⟨m, g2, rfl, wpush_s, hb, hm, rfl, (Ex.push hwf _).tr (Ex.push (hwf.push _) _)⟩
      refine g_lload_n C dX8_of_65 rfl ?_
      refine g_lconst (z := 0) C dX8_of_66 (by decide) ?_
      refine g_lcmp C dX8_of_67 (by omega) (by omega) (fun c67 hc67 => ?_)
      refine g_if_ge (tgt := 75) C dX8_of_68 (by decide) (by omega) (fun h68 => ?_) (fun h68 => ?_)
      · refine g_iconst C dX8_of_75 ?_
        exact J76 _ (by omega) (by omega)
      · refine g_iconst C dX8_of_71 ?_
        refine g_goto (tgt := 76) C dX8_of_72 (by decide) ?_
        exact J76 _ (by omega) (by omega)
    · refine g_aload C dX8_of_43 rfl ?_
      refine g_iload C dX8_of_45 rfl ?_
      refine g_lload_n C dX8_of_47 rfl ?_
      refine g_ldc2 (z := 1073741823) C kj_RX8_53 (by decide) dX8_of_48 ?_
      refine g_land (z := x % 1073741824) C dX8_of_51 (j_mask 30 (by omega) (by decide)) ?_
      refine g_l2i C dX8_of_52 ?_
      refine g_iastore C wpush_s (by omega) dX8_of_53 ?_
      rw [wset_push, ek]
      refine g_lload_n C dX8_of_54 rfl ?_
      refine g_bipush C dX8_of_55 (by decide) ?_
      refine g_lshr (z := x / 1073741824) C dX8_of_57 (j_shr30 (x := x) hk5 (by omega)) ?_
      refine g_lstore_n C dX8_of_58 (by decide) rfl ?_
      refine g_iinc C dX8_of_59 rfl (by decide) rfl ?_
      refine g_goto (tgt := 37) C dX8_of_62 (by decide) ?_
      have e2 : ((j + 1 : Nat) : Int) + 1 = ((j + 1 + 1 : Nat) : Int) := by omega
      rw [e2]
      exact ih (j + 1 + 1, x / 1073741824, iup g (j + 1) (x % 1073741824)) ⟨by dsimp only; omega, by dsimp only; omega, fun i h1 h2 => by
        dsimp only at h2 ⊢
        by_cases q : i = j + 1
        · rw [q, iup_s]; omega
        · rw [iup_n q]; exact hk3 i h1 (by omega), by
        show nv B30 (mgf (iup g (j + 1) (x % B30))) (j + 1) + x / B30 * B30 ^ (j + 1) = y
        rw [mgf_iup]
        exact dig_step (by decide) hk4, by dsimp only; omega, by dsimp only; omega, by dsimp only; omega, by dsimp only; omega, by dsimp only; omega⟩ (by dsimp only; omega)
  refine g_lload_n C dX8_of_0 rfl ?_
  refine g_lconst (z := 0) C dX8_of_1 (by decide) ?_
  refine g_lcmp C dX8_of_2 (by omega) (by omega) (fun c2 hc2 => ?_)
  refine g_if_ge (tgt := 11) C dX8_of_3 (by decide) (by omega) (fun h3 => ?_) (fun h3 => ?_)
  · refine g_lload_n C dX8_of_11 rfl ?_
    exact J12 _ (by omega)
  · refine g_lload_n C dX8_of_6 rfl ?_
    refine g_lneg C dX8_of_7 ?_
    refine g_goto (tgt := 12) C dX8_of_8 (by decide) ?_
    exact J12 _ (by omega)
set_option maxHeartbeats 4000000 in
set_option maxRecDepth 100000 in
theorem c_X8_signed (l : Launch) {E : GE} {w : Wd} {t z : Int} {a n c : Nat} {b : Bool} {f : Nat → Int} (ha : w.2 a = some (b, eI n f)) (hb : BN f n z) (hc : n ≤ c) (hc2 : c ≤ 200) (ht : t = - f 0) : Sp E l yX8_signed cX8_signed 3 (some (.array .int)) 1 (1) (c) [.ref a, iI t] w (fun r w' => ∃ g : Nat → Int, r = some (.ref w.1) ∧ w' = wpush w (true, eI n g) ∧ BN g n (-z)) := by
  refine sp_intro [some (.ref a), some (iI t), none] rfl (Nat.le_of_ble_eq_true rfl) pn_X8 ?_
  intro X C hRm hl hnm hQ
  obtain ⟨hRf, hRl, hRc, hRs⟩ := hRm
  refine g_wf (fun hwf => ?_)
  have h1 := hb.n1
  refine g_aload_n C dX8_signed_0 rfl ?_
  refine g_cloneI C ha ml_RX8_59 (by omega) (by omega) (Nat.le_of_ble_eq_true rfl) (by omega) dX8_signed_1 ?_
  refine g_castI C wpush_s kl_RX8_19 dX8_signed_4 ?_
  refine g_astore_n C dX8_signed_7 (by decide) rfl ?_
  refine g_aload_n C dX8_signed_8 rfl ?_
  refine g_iconst C dX8_signed_9 ?_
  refine g_iload_n C dX8_signed_10 rfl ?_
  refine g_iastore C wpush_s (by omega) dX8_signed_11 ?_
  rw [wset_push]
  refine g_aload_n C dX8_signed_12 rfl ?_
  exact g_areturn C (Or.inr ⟨_, rfl⟩) hQ (Or.inr ⟨_, rfl⟩) dX8_signed_13 (by omega) (by omega) ⟨iup f 0 t, rfl, rfl, hb.neg (by rw [iup_s]; exact ht) (fun i h1 h2 => iup_n (by omega))⟩
set_option maxHeartbeats 4000000 in
set_option maxRecDepth 100000 in
theorem c_X8_bySize (l : Launch) {E : GE} {w : Wd} {a n a2 m : Nat} {b b2 : Bool} {f g : Nat → Int} (ha : w.2 a = some (b, eI n f)) (ha2 : w.2 a2 = some (b2, eI m g)) (hn : 1 ≤ n ∧ n ≤ 200) (hm : 1 ≤ m ∧ m ≤ 200) (hf : DG f n) (hg : DG g m) (ht : n < m → g (m - 1) ≠ 0) (ht2 : m < n → f (n - 1) ≠ 0) : Sp E l yX8_bySize cX8_bySize 3 (some .int) 0 (0) (0) [.ref a, .ref a2] w (fun r w' => (∃ d : Int, r = some (iI d) ∧ (-2147483647 ≤ d ∧ d ≤ 2147483647) ∧ (mg f n < mg g m ∧ d < 0 ∨ mg f n = mg g m ∧ d = 0 ∨ mg g m < mg f n ∧ 0 < d)) ∧ w' = w) := by
  refine sp_intro [some (.ref a), some (.ref a2), none] rfl (Nat.le_of_ble_eq_true rfl) pn_X8 ?_
  intro X C hRm hl hnm hQ
  obtain ⟨hRf, hRl, hRc, hRs⟩ := hRm
  refine g_wf (fun hwf => ?_)
  refine g_aload_n C dX8_bySize_0 rfl ?_
  refine g_alen C ha (Or.inl ⟨_, rfl⟩) dX8_bySize_1 ?_
  refine g_aload_n C dX8_bySize_2 rfl ?_
  refine g_alen C ha2 (Or.inl ⟨_, rfl⟩) dX8_bySize_3 ?_
  refine g_icmp_eq (tgt := 13) C dX8_bySize_4 (by decide) (by omega) (by omega) (fun h4 => ?_) (fun h4 => ?_)
  · refine g_aload_n C dX8_bySize_13 rfl ?_
    refine g_alen C ha (Or.inl ⟨_, rfl⟩) dX8_bySize_14 ?_
    refine g_iconst C dX8_bySize_15 ?_
    refine g_isub C dX8_bySize_16 ?_
    refine g_istore_n C dX8_bySize_17 (by decide) rfl ?_
    have hnm2 : n = m := by omega
    subst hnm2
    refine g_loop (σ := Nat) (fun k => k < n ∧ ∀ i, k < i → i < n → f i = g i) (fun k => G E X 3 18 [some (.ref a), some (.ref a2), some (iI (k : Int))] [] w 0 0) (fun k => k) ?_ (n - 1) ⟨by omega, fun i h1 h2 => by omega⟩ |> g_eq (by rw [show ((n - 1 : Nat) : Int) = (n : Int) - 1 by omega]; rfl) rfl
    intro k hk ih
    obtain ⟨hk1, hk2⟩ := hk
    have ek : ((k : Nat) : Int).toNat = k := by omega
    refine g_iload_n C dX8_bySize_18 rfl ?_
    refine g_if_le (tgt := 45) C dX8_bySize_19 (by decide) (by omega) (fun h19 => ?_) (fun h19 => ?_)
    · refine g_iconst C dX8_bySize_45 ?_
      exact g_ireturn C hQ dX8_bySize_46 (Nat.le_refl _) (Nat.le_refl _) ⟨⟨0, rfl, by omega, Or.inr (Or.inl ⟨mg_eq (fun i h1 h2 => hk2 i (by omega) h2), rfl⟩)⟩, rfl⟩
    · refine g_aload_n C dX8_bySize_22 rfl ?_
      refine g_iload_n C dX8_bySize_23 rfl ?_
      refine g_ialoadN (k) C ha (by omega) (by omega) dX8_bySize_24 ?_
      refine g_aload_n C dX8_bySize_25 rfl ?_
      refine g_iload_n C dX8_bySize_26 rfl ?_
      refine g_ialoadN (k) C ha2 (by omega) (by omega) dX8_bySize_27 ?_
      refine g_icmp_eq (tgt := 39) C dX8_bySize_28 (by decide) (by have := hf k (by omega) hk1; omega) (by have := hg k (by omega) hk1; omega) (fun h28 => ?_) (fun h28 => ?_)
      · refine g_iinc C dX8_bySize_39 rfl (by decide) rfl ?_
        refine g_goto (tgt := 18) C dX8_bySize_42 (by decide) ?_
        have hk3 := hf k (by omega) hk1
        have hk4 := hg k (by omega) hk1
        have e2 : ((k : Nat) : Int) + -1 = ((k - 1 : Nat) : Int) := by omega
        rw [e2]
        exact ih (k - 1) ⟨by omega, fun i h1 h2 => by
          by_cases q : i = k
          · rw [q]; exact h28
          · exact hk2 i (by omega) h2⟩ (by omega)
      · refine g_aload_n C dX8_bySize_31 rfl ?_
        refine g_iload_n C dX8_bySize_32 rfl ?_
        refine g_ialoadN (k) C ha (by omega) (by omega) dX8_bySize_33 ?_
        refine g_aload_n C dX8_bySize_34 rfl ?_
        refine g_iload_n C dX8_bySize_35 rfl ?_
        refine g_ialoadN (k) C ha2 (by omega) (by omega) dX8_bySize_36 ?_
        refine g_isub C dX8_bySize_37 ?_
        exact g_ireturn C hQ dX8_bySize_38 (Nat.le_refl _) (Nat.le_refl _) ⟨⟨_, rfl, by have := hf k (by omega) hk1; have := hg k (by omega) hk1; omega, by
          rcases Int.lt_or_gt_of_ne h28 with q | q
          · exact Or.inl ⟨mg_cmp hf hg (by omega) hk1 hk2 q, by omega⟩
          · exact Or.inr (Or.inr ⟨mg_cmp hg hf (by omega) hk1 (fun i h1 h2 => (hk2 i h1 h2).symm) q, by omega⟩)⟩, rfl⟩
  · refine g_aload_n C dX8_bySize_7 rfl ?_
    refine g_alen C ha (Or.inl ⟨_, rfl⟩) dX8_bySize_8 ?_
    refine g_aload_n C dX8_bySize_9 rfl ?_
    refine g_alen C ha2 (Or.inl ⟨_, rfl⟩) dX8_bySize_10 ?_
    refine g_isub C dX8_bySize_11 ?_
    exact g_ireturn C hQ dX8_bySize_12 (Nat.le_refl _) (Nat.le_refl _) ⟨⟨_, rfl, by omega, by
      rcases Nat.lt_or_ge n m with q | q
      · exact Or.inl ⟨mg_len hf hg hn.1 q (ht q), by omega⟩
      · exact Or.inr (Or.inr ⟨mg_len hg hf hm.1 (by omega) (ht2 (by omega)), by omega⟩)⟩, rfl⟩
set_option maxHeartbeats 4000000 in
set_option maxRecDepth 100000 in
theorem c_X8_side (l : Launch) {E : GE} {w : Wd} {a n a2 m : Nat} {b b2 : Bool} {f g : Nat → Int} {z1 z2 : Int} (ha : w.2 a = some (b, eI n f)) (ha2 : w.2 a2 = some (b2, eI m g)) (hf : BN f n z1) (hg : BN g m z2) (hn : n ≤ 200) (hm : m ≤ 200) : Sp E l yX8_side cX8_side 3 (some .int) 1 (0) (0) [.ref a, .ref a2] w (fun r w' => (∃ d : Int, r = some (iI d) ∧ (z1 < z2 ∧ d = -1 ∨ z1 = z2 ∧ d = 0 ∨ z2 < z1 ∧ d = 1)) ∧ w' = w) := by
  refine sp_intro [some (.ref a), some (.ref a2), none] rfl (Nat.le_of_ble_eq_true rfl) pn_X8 ?_
  intro X C hRm hl hnm hQ
  obtain ⟨hRf, hRl, hRc, hRs⟩ := hRm
  refine g_wf (fun hwf => ?_)
  have hs1 := hf.s
  have hs2 := hg.s
  have hm1 := hf.m
  have hm2 := hg.m
  have n1 := hf.n1
  have n2 := hg.n1
  refine g_aload_n C dX8_side_0 rfl ?_
  refine g_iconst C dX8_side_1 ?_
  refine g_ialoadN (0) C ha (by omega) (by omega) dX8_side_2 ?_
  refine g_aload_n C dX8_side_3 rfl ?_
  refine g_iconst C dX8_side_4 ?_
  refine g_ialoadN (0) C ha2 (by omega) (by omega) dX8_side_5 ?_
  refine g_icmp_eq (tgt := 24) C dX8_side_6 (by decide) (by omega) (by omega) (fun h6 => ?_) (fun h6 => ?_)
  · refine g_aload_n C dX8_side_24 rfl ?_
    refine g_iconst C dX8_side_25 ?_
    refine g_ialoadN (0) C ha (by omega) (by omega) dX8_side_26 ?_
    refine g_aload_n C dX8_side_27 rfl ?_
    refine g_aload_n C dX8_side_28 rfl ?_
    refine g_callS C (c_X8_bySize _ ha ha2 ⟨by omega, hn⟩ ⟨by omega, hm⟩ hf.d hg.d (fun q => hg.top (by omega)) (fun q => hf.top (by omega))) ml_RX8_63 sm_yX8_bySize in_RX8 co_yX8_bySize hd_X8_bySize rfl ⟨by omega, by omega⟩ rfl (Nat.le_of_ble_eq_true rfl) ⟨by omega, by omega⟩ dX8_side_29 (fun v29 w29 hp29 => ?_)
    obtain ⟨⟨d, rfl, hd1, hd2⟩, rfl⟩ := hp29
    have e0 : f 0 = g 0 := h6
    have key : (z1 < z2 ∧ f 0 * d < 0) ∨ (z1 = z2 ∧ f 0 * d = 0) ∨ (z2 < z1 ∧ 0 < f 0 * d) := by
      rw [hm1, hm2, ← e0]
      rcases hs1 with q | q | q <;> rw [q.1] <;> omega
    refine g_imul C dX8_side_32 ?_
    refine g_istore_n C dX8_side_33 (by decide) rfl ?_
    refine g_iload_n C dX8_side_34 rfl ?_
    refine g_if_ge (tgt := 42) C dX8_side_35 (by decide) (by rcases hs1 with q | q | q <;> rw [q.1] <;> omega) (fun h35 => ?_) (fun h35 => ?_)
    · refine g_iload_n C dX8_side_42 rfl ?_
      refine g_if_le (tgt := 50) C dX8_side_43 (by decide) (by rcases hs1 with q | q | q <;> rw [q.1] <;> omega) (fun h43 => ?_) (fun h43 => ?_)
      · refine g_iconst C dX8_side_50 ?_
        exact g_ireturn C hQ dX8_side_51 (Nat.le_refl _) (Nat.le_refl _) ⟨⟨_, rfl, by omega⟩, rfl⟩
      · refine g_iconst C dX8_side_46 ?_
        refine g_goto (tgt := 51) C dX8_side_47 (by decide) ?_
        exact g_ireturn C hQ dX8_side_51 (Nat.le_refl _) (Nat.le_refl _) ⟨⟨_, rfl, by omega⟩, rfl⟩
    · refine g_iconst C dX8_side_38 ?_
      refine g_goto (tgt := 51) C dX8_side_39 (by decide) ?_
      exact g_ireturn C hQ dX8_side_51 (Nat.le_refl _) (Nat.le_refl _) ⟨⟨_, rfl, by omega⟩, rfl⟩
  · refine g_aload_n C dX8_side_9 rfl ?_
    refine g_iconst C dX8_side_10 ?_
    refine g_ialoadN (0) C ha (by omega) (by omega) dX8_side_11 ?_
    refine g_aload_n C dX8_side_12 rfl ?_
    refine g_iconst C dX8_side_13 ?_
    refine g_ialoadN (0) C ha2 (by omega) (by omega) dX8_side_14 ?_
    refine g_icmp_ge (tgt := 22) C dX8_side_15 (by decide) (by omega) (by omega) (fun h15 => ?_) (fun h15 => ?_)
    · refine g_iconst C dX8_side_22 ?_
      exact g_ireturn C hQ dX8_side_23 (Nat.le_refl _) (Nat.le_refl _) ⟨⟨_, rfl, by omega⟩, rfl⟩
    · refine g_iconst C dX8_side_18 ?_
      refine g_goto (tgt := 23) C dX8_side_19 (by decide) ?_
      exact g_ireturn C hQ dX8_side_23 (Nat.le_refl _) (Nat.le_refl _) ⟨⟨_, rfl, by omega⟩, rfl⟩
