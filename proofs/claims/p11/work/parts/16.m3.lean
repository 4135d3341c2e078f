theorem BN.len {f g : Nat → Int} {n m : Nat} {z1 z2 : Int} (hf : BN f n z1) (hg : BN g m z2) (h : mg g m ≤ mg f n) : m ≤ n := by
  rcases Nat.lt_or_ge n m with q | q
  · have := mg_len hf.d hg.d hf.n1 q (hg.top (by have := hf.n1; omega)); omega
  · exact q
theorem i_shl30 {l : Int} (h : l = 0 ∨ l = 1) : Int32.ofInt l <<< (Int32.ofInt 30 &&& 31) = Int32.ofInt (l * 1073741824) := by
  rcases h with rfl | rfl <;> decide
theorem pw_le {a b : Nat} (h : a ≤ b) : B30 ^ a ≤ B30 ^ b := by
  have e : b = a + (b - a) := by omega
  rw [e, Int.pow_add]
  have h1 : (1 : Int) ≤ B30 ^ (b - a) := pw_pos (by decide) _
  have h2 := Int.mul_le_mul_of_nonneg_left h1 (Int.le_of_lt (pw_pos (B := B30) (by decide) a))
  omega
set_option maxHeartbeats 4000000 in
set_option maxRecDepth 100000 in
theorem c_X8_less (l : Launch) {E : GE} {w : Wd} {a n a2 m c : Nat} {b b2 : Bool} {f g : Nat → Int} {z1 : Int} (ha : w.2 a = some (b, eI n f)) (ha2 : w.2 a2 = some (b2, eI m g)) (hf : BN f n z1) (hg : DG g m) (hm : 1 ≤ m ∧ m ≤ n) (hle : mg g m ≤ mg f n) (hc : n ≤ c) (hc2 : c ≤ 200) : Sp E l yX8_less cX8_less 6 (some (.array .int)) 1 (2) (2 * c) [.ref a, .ref a2] w (fun r w' => ∃ (q : Nat) (h : Nat → Int), r = some (.ref (w.1 + 1)) ∧ w'.2 (w.1 + 1) = some (true, eI q h) ∧ BN h q (f 0 * (mg f n - mg g m)) ∧ q ≤ n ∧ Ex w w') := by
  refine sp_intro [some (.ref a), some (.ref a2), none, none, none, none] rfl (Nat.le_of_ble_eq_true rfl) pn_X8 ?_
  intro X C hRm hl hnm hQ
  obtain ⟨hRf, hRl, hRc, hRs⟩ := hRm
  refine g_wf (fun hwf => ?_)
  have hs := hf.s
  have n1 := hf.n1
  have hd := hf.d
  have hne : a ≠ w.1 := Nat.ne_of_lt (hwf a _ ha)
  have hne2 : a2 ≠ w.1 := Nat.ne_of_lt (hwf a2 _ ha2)
  refine g_aload_n C dX8_less_0 rfl ?_
  refine g_alen C ha (Or.inl ⟨_, rfl⟩) dX8_less_1 ?_
  refine g_newI C gw_arrayClass_int (N := n) rfl (by omega) (by omega) dX8_less_2 ?_
  refine g_astore_n C dX8_less_4 (by decide) rfl ?_
  refine g_iconst C dX8_less_5 ?_
  refine g_istore_n C dX8_less_6 (by decide) rfl ?_
  refine g_iconst C dX8_less_7 ?_
  refine g_istore C dX8_less_8 (by decide) rfl ?_
  refine g_loop (σ := Nat × Int × (Nat → Int)) (fun q => q.1 + 1 ≤ n ∧ (q.2.1 = 0 ∨ q.2.1 = 1) ∧ DG q.2.2 (q.1 + 1) ∧ nv B30 (mgf q.2.2) q.1 = nv B30 (mgf f) q.1 - nv B30 (mgf (ext g m)) q.1 + q.2.1 * B30 ^ q.1) (fun q => G E X 6 10 [some (.ref a), some (.ref a2), some (.ref w.1), some (iI q.2.1), some (iI ((q.1 + 1 : Nat) : Int)), none] [] (wpush w (true, eI n q.2.2)) 1 (0 + n)) (fun q => n - q.1) ?_ (0, 0, fun _ => 0) ⟨by omega, Or.inl rfl, fun i h1 h2 => absurd h2 (by dsimp only; omega), by rfl⟩
  rintro ⟨j, l, h⟩ hq ih
  obtain ⟨hk1, hl, hdh, hv⟩ := hq
  dsimp only at hk1 hl hdh hv ⊢
  have hpa : (wpush w (true, eI n h)).2 a = some (b, eI n f) := by rw [wpush_n hne]; exact ha
  have hpa2 : (wpush w (true, eI n h)).2 a2 = some (b2, eI m g) := by rw [wpush_n hne2]; exact ha2
  have hps : (wpush w (true, eI n h)).2 w.1 = some (true, eI n h) := wpush_s
  refine g_iload C dX8_less_10 rfl ?_
  refine g_aload_n C dX8_less_12 rfl ?_
  refine g_alen C hpa (Or.inl ⟨_, rfl⟩) dX8_less_13 ?_
  refine g_icmp_ge (tgt := 69) C dX8_less_14 (by decide) (by omega) (by omega) (fun h14 => ?_) (fun h14 => ?_)
  · have ej : j + 1 = n := by omega
    have en : n - 1 = j := by omega
    have e1 : mg h n = mg f n - mg g m + l * B30 ^ j := by
      rw [← ext_mg (g := g) hm.1 hm.2]
      unfold mg
      rw [en]; exact hv
    have e2 := mg_lt (f := h) (n := n) (by rw [← ej]; exact hdh)
    rw [en] at e2
    have el : l = 0 := by
      rcases hl with q | q
      · exact q
      · rw [q, Int.one_mul] at e1; omega
    rw [el, Int.zero_mul, Int.add_zero] at e1
    have hdn : DG h n := by rw [← ej]; exact hdh
    refine g_aload_n C dX8_less_69 rfl ?_
    refine g_iconst C dX8_less_70 ?_
    refine g_ialoadN (0) C hpa (by omega) (by omega) dX8_less_71 ?_
    refine g_aload_n C dX8_less_72 rfl ?_
    refine g_callS C (c_X8_cut _ (c := n) (f := h) (s := f 0) hps (by omega) (Nat.le_refl n) (by omega) hdn (by rcases hs with q | q | q; exact Or.inr (Or.inl q.1); exact Or.inr (Or.inr ⟨q.1, by rw [q.2.2]; rfl⟩); exact Or.inl q.1)) ml_RX8_55 sm_yX8_cut in_RX8 co_yX8_cut hd_X8_cut rfl ⟨by omega, by omega⟩ rfl (Nat.le_of_ble_eq_true rfl) ⟨by omega, by omega⟩ dX8_less_73 (fun v73 w73 hp73 => ?_)
    obtain ⟨q9, h9, rfl, rfl, hb9, hm9⟩ := hp73
    rw [e1] at hb9
    exact g_areturn C (Or.inr ⟨_, rfl⟩) hQ (Or.inr ⟨_, rfl⟩) dX8_less_76 (by omega) (by omega) ⟨q9, h9, rfl, wpush_s, hb9, hm9, (Ex.push hwf _).tr (Ex.push (hwf.push _) _)⟩
  · refine g_aload_n C dX8_less_17 rfl ?_
    refine g_iload C dX8_less_18 rfl ?_
    refine g_ialoadN (j + 1) C hpa (by omega) (by omega) dX8_less_20 ?_
    refine g_iload_n C dX8_less_21 rfl ?_
    refine g_isub C dX8_less_22 ?_
    have hfk := hd (j + 1) (by omega) (by omega)
    have hgk := ext_dg hg n (j + 1) (by omega) (by omega)
    have J38 : ∀ y : Int, y = ext g m (j + 1) → G E X 6 38 [some (.ref a), some (.ref a2), some (.ref w.1), some (iI l), some (iI ((j + 1 : Nat) : Int)), none] [iI y, iI (f (j + 1) - l)] (wpush w (true, eI n h)) 1 (0 + n) := by
      intro y hy
      rw [← hy] at hgk
      refine g_isub C dX8_less_38 ?_
      refine g_istore C dX8_less_39 (by decide) rfl ?_
      have J51 : ∀ l2 : Int, (l2 = 0 ∧ 0 ≤ f (j + 1) - l - y ∨ l2 = 1 ∧ f (j + 1) - l - y < 0) → G E X 6 51 [some (.ref a), some (.ref a2), some (.ref w.1), some (iI l), some (iI ((j + 1 : Nat) : Int)), some (iI (f (j + 1) - l - y))] [iI l2] (wpush w (true, eI n h)) 1 (0 + n) := by
        intro l2 hl2
        refine g_istore_n C dX8_less_51 (by decide) rfl ?_
        refine g_aload_n C dX8_less_52 rfl ?_
        refine g_iload C dX8_less_53 rfl ?_
        refine g_iload C dX8_less_55 rfl ?_
        refine g_iload_n C dX8_less_57 rfl ?_
        refine g_bipush C dX8_less_58 (by decide) ?_
        refine g_ishl (z := l2 * 1073741824) C dX8_less_60 (i_shl30 (by omega)) ?_
        refine g_iadd C dX8_less_61 ?_
        refine g_iastoreN (j + 1) C hps (by omega) (by omega) dX8_less_62 ?_
        rw [wset_push]
        refine g_iinc C dX8_less_63 rfl (by decide) rfl ?_
        refine g_goto (tgt := 10) C dX8_less_66 (by decide) ?_
        refine g_drop 5 ?_
        exact ih (j + 1, l2, iup h (j + 1) (f (j + 1) - l - y + l2 * 1073741824)) ⟨by dsimp only; omega, by dsimp only; omega, fun i h1 h2 => by
          dsimp only at h2 ⊢
          by_cases q : i = j + 1
          · rw [q, iup_s]; omega
          · rw [iup_n q]; exact hdh i h1 (by omega), by
          show nv B30 (mgf (iup h (j + 1) _)) (j + 1) = _
          rw [mgf_iup]
          exact sub_step hv (by show _ = f (j + 1) - l - ext g m (j + 1) + l2 * B30; rw [hy])⟩ (by dsimp only; omega)
      refine g_iload C dX8_less_41 rfl ?_
      refine g_if_ge (tgt := 50) C dX8_less_43 (by decide) (by omega) (fun h43 => ?_) (fun h43 => ?_)
      · refine g_iconst C dX8_less_50 ?_
        exact J51 _ (by omega)
      · refine g_iconst C dX8_less_46 ?_
        refine g_goto (tgt := 51) C dX8_less_47 (by decide) ?_
        exact J51 _ (by omega)
    refine g_iload C dX8_less_23 rfl ?_
    refine g_aload_n C dX8_less_25 rfl ?_
    refine g_alen C hpa2 (Or.inl ⟨_, rfl⟩) dX8_less_26 ?_
    refine g_icmp_ge (tgt := 37) C dX8_less_27 (by decide) (by omega) (by omega) (fun h27 => ?_) (fun h27 => ?_)
    · refine g_iconst C dX8_less_37 ?_
      exact J38 _ (by first | exact (ext_lo (by omega)).symm | exact (ext_hi (by omega)).symm)
    · refine g_aload_n C dX8_less_30 rfl ?_
      refine g_iload C dX8_less_31 rfl ?_
      refine g_ialoadN (j + 1) C hpa2 (by omega) (by omega) dX8_less_33 ?_
      refine g_goto (tgt := 38) C dX8_less_34 (by decide) ?_
      exact J38 _ (by first | exact (ext_lo (by omega)).symm | exact (ext_hi (by omega)).symm)
set_option maxHeartbeats 4000000 in
set_option maxRecDepth 100000 in
theorem c_X8_plus (l : Launch) {E : GE} {w : Wd} {a n a2 m c : Nat} {f g : Nat → Int} {z1 z2 : Int} (ha : w.2 a = some (true, eI n f)) (ha2 : w.2 a2 = some (true, eI m g)) (hf : BN f n z1) (hg : BN g m z2) (hn : n ≤ c) (hm : m ≤ c) (hc2 : c ≤ 199) : Sp E l yX8_plus cX8_plus 7 (some (.array .int)) 2 (2) (2 * (c + 1)) [.ref a, .ref a2] w (NP [a, a2] w (z1 + z2) (c + 1)) := by
  refine sp_intro [some (.ref a), some (.ref a2), none, none, none, none, none] rfl (Nat.le_of_ble_eq_true rfl) pn_X8 ?_
  intro X C hRm hl hnm hQ
  obtain ⟨hRf, hRl, hRc, hRs⟩ := hRm
  refine g_wf (fun hwf => ?_)
  have hs := hf.s
  have hs2 := hg.s
  have n1 := hf.n1
  have m1 := hg.n1
  have hd := hf.d
  have hd2 := hg.d
  have hm1 := hf.m
  have hm2 := hg.m
  have hne : a ≠ w.1 := Nat.ne_of_lt (hwf a _ ha)
  have hne2 : a2 ≠ w.1 := Nat.ne_of_lt (hwf a2 _ ha2)
  refine g_aload_n C dX8_plus_0 rfl ?_
  refine g_iconst C dX8_plus_1 ?_
  refine g_ialoadN (0) C ha (by omega) (by omega) dX8_plus_2 ?_
  refine g_if_ne (tgt := 8) C dX8_plus_3 (by decide) (by omega) (fun h3 => ?_) (fun h3 => ?_)
  · refine g_aload_n C dX8_plus_8 rfl ?_
    refine g_iconst C dX8_plus_9 ?_
    refine g_ialoadN (0) C ha2 (by omega) (by omega) dX8_plus_10 ?_
    refine g_if_ne (tgt := 16) C dX8_plus_11 (by decide) (by omega) (fun h11 => ?_) (fun h11 => ?_)
    · refine g_aload_n C dX8_plus_16 rfl ?_
      refine g_iconst C dX8_plus_17 ?_
      refine g_ialoadN (0) C ha (by omega) (by omega) dX8_plus_18 ?_
      refine g_aload_n C dX8_plus_19 rfl ?_
      refine g_iconst C dX8_plus_20 ?_
      refine g_ialoadN (0) C ha2 (by omega) (by omega) dX8_plus_21 ?_
      refine g_icmp_eq (tgt := 47) C dX8_plus_22 (by decide) (by omega) (by omega) (fun h22 => ?_) (fun h22 => ?_)
      · refine g_aload_n C dX8_plus_47 rfl ?_
        refine g_alen C ha (Or.inl ⟨_, rfl⟩) dX8_plus_48 ?_
        refine g_aload_n C dX8_plus_49 rfl ?_
        refine g_alen C ha2 (Or.inl ⟨_, rfl⟩) dX8_plus_50 ?_
        refine g_max C ml_RX8_71 (by omega) (by omega) (by omega) (by omega) (Nat.le_of_ble_eq_true rfl) (by omega) dX8_plus_51 ?_
        obtain ⟨M, hM, hM2, hM3, hM4⟩ : ∃ M : Nat, (if (n : Int) < (m : Int) then (m : Int) else (n : Int)) = (M : Int) ∧ n ≤ M ∧ m ≤ M ∧ M ≤ c := by
          by_cases q : (n : Int) < (m : Int)
          · exact ⟨m, if_pos q, by omega, by omega, by omega⟩
          · exact ⟨n, if_neg q, by omega, by omega, by omega⟩
        rw [hM]
        refine g_iconst C dX8_plus_54 ?_
        refine g_iadd C dX8_plus_55 ?_
        refine g_newI C gw_arrayClass_int (N := M + 1) rfl (by omega) (by omega) dX8_plus_56 ?_
        refine g_astore_n C dX8_plus_58 (by decide) rfl ?_
        refine g_iconst C dX8_plus_59 ?_
        refine g_istore_n C dX8_plus_60 (by decide) rfl ?_
        refine g_iconst C dX8_plus_61 ?_
        refine g_istore C dX8_plus_62 (by decide) rfl ?_
        refine g_loop (σ := Nat × Int × (Nat → Int)) (fun q => q.1 ≤ M ∧ (q.2.1 = 0 ∨ q.2.1 = 1) ∧ DG q.2.2 (q.1 + 1) ∧ nv B30 (mgf q.2.2) q.1 + q.2.1 * B30 ^ q.1 = nv B30 (mgf (ext f n)) q.1 + nv B30 (mgf (ext g m)) q.1) (fun q => G E X 7 64 [some (.ref a), some (.ref a2), some (.ref w.1), some (iI q.2.1), some (iI ((q.1 + 1 : Nat) : Int)), none, none] [] (wpush w (true, eI (M + 1) q.2.2)) 1 (0 + (M + 1))) (fun q => M - q.1) ?_ (0, 0, fun _ => 0) ⟨by omega, Or.inl rfl, fun i h1 h2 => absurd h2 (by dsimp only; omega), by rfl⟩
        rintro ⟨j, l, h⟩ hq ih
        obtain ⟨hk1, hl, hdh, hv⟩ := hq
        dsimp only at hk1 hl hdh hv ⊢
        have hpa : (wpush w (true, eI (M + 1) h)).2 a = some (true, eI n f) := by rw [wpush_n hne]; exact ha
        have hpa2 : (wpush w (true, eI (M + 1) h)).2 a2 = some (true, eI m g) := by rw [wpush_n hne2]; exact ha2
        have hps : (wpush w (true, eI (M + 1) h)).2 w.1 = some (true, eI (M + 1) h) := wpush_s
        refine g_iload C dX8_plus_64 rfl ?_
        refine g_aload_n C dX8_plus_66 rfl ?_
        refine g_alen C hps (Or.inl ⟨_, rfl⟩) dX8_plus_67 ?_
        refine g_icmp_ge (tgt := 133) C dX8_plus_68 (by decide) (by omega) (by omega) (fun h68 => ?_) (fun h68 => ?_)
        · have ej : j = M := by omega
          subst ej
          have e1 : mg h (j + 1) + l * B30 ^ j = mg f n + mg g m := by
            rw [← ext_mg (g := f) (n := j + 1) n1 (by omega), ← ext_mg (g := g) (n := j + 1) m1 (by omega)]
            exact hv
          have b1 := mg_lt hd
          have b2 := mg_lt hd2
          have b3 := mg_nonneg hdh
          have b4 : B30 ^ (n - 1) ≤ B30 ^ (j - 1) := pw_le (by omega)
          have b5 : B30 ^ (m - 1) ≤ B30 ^ (j - 1) := pw_le (by omega)
          have b6 : B30 ^ j = B30 ^ (j - 1) * 1073741824 := by
            have e9 : j = (j - 1) + 1 := by omega
            have e8 : B30 ^ j = B30 ^ ((j - 1) + 1) := congrArg (fun x => B30 ^ x) e9
            rw [e8, Int.pow_succ]
          have b7 := pw_pos (B := B30) (by decide) (j - 1)
          have el : l = 0 := by
            rcases hl with q | q
            · exact q
            · rw [q, Int.one_mul] at e1; omega
          rw [el, Int.zero_mul, Int.add_zero] at e1
          refine g_aload_n C dX8_plus_133 rfl ?_
          refine g_iconst C dX8_plus_134 ?_
          refine g_ialoadN (0) C hpa (by omega) (by omega) dX8_plus_135 ?_
          refine g_aload_n C dX8_plus_136 rfl ?_
          refine g_callS C (c_X8_cut _ (c := c + 1) (f := h) (s := f 0) hps (by omega) (by omega) (by omega) hdh (by omega)) ml_RX8_55 sm_yX8_cut in_RX8 co_yX8_cut hd_X8_cut rfl ⟨by omega, by omega⟩ rfl (Nat.le_of_ble_eq_true rfl) ⟨by omega, by omega⟩ dX8_plus_137 (fun v137 w137 hp137 => ?_)
          obtain ⟨q9, h9, rfl, rfl, hb9, hm9⟩ := hp137
          rw [e1, show f 0 * (mg f n + mg g m) = z1 + z2 by rw [hm1, hm2, Int.mul_add, show g 0 = f 0 by omega]] at hb9
          exact g_areturn C (Or.inr ⟨_, rfl⟩) hQ (Or.inr ⟨_, rfl⟩) dX8_plus_140 (by omega) (by omega) ⟨_, q9, h9, rfl, wpush_s, hb9, by omega, (Ex.push hwf _).tr (Ex.push (hwf.push _) _), Or.inl (by show w.1 ≤ w.1 + 1; omega)⟩
        · refine g_iload_n C dX8_plus_71 rfl ?_
          refine g_i2l C dX8_plus_72 (by omega) ?_
          have hfk := ext_dg hd (M + 1) (j + 1) (by omega) (by omega)
          have hgk := ext_dg hd2 (M + 1) (j + 1) (by omega) (by omega)
          have J88 : ∀ y : Int, y = ext f n (j + 1) → G E X 7 88 [some (.ref a), some (.ref a2), some (.ref w.1), some (iI l), some (iI ((j + 1 : Nat) : Int)), none, none] [iI y, jJ l] (wpush w (true, eI (M + 1) h)) 1 (0 + (M + 1)) := by
            intro y hy
            rw [← hy] at hfk
            refine g_i2l C dX8_plus_88 (by omega) ?_
            refine g_ladd C dX8_plus_89 ?_
            have J105 : ∀ y2 : Int, y2 = ext g m (j + 1) → G E X 7 105 [some (.ref a), some (.ref a2), some (.ref w.1), some (iI l), some (iI ((j + 1 : Nat) : Int)), none, none] [iI y2, jJ (l + y)] (wpush w (true, eI (M + 1) h)) 1 (0 + (M + 1)) := by
              intro y2 hy2
              rw [← hy2] at hgk
              refine g_i2l C dX8_plus_105 (by omega) ?_
              refine g_ladd C dX8_plus_106 ?_
              refine g_lstore C dX8_plus_107 (by decide) rfl ?_
              refine g_aload_n C dX8_plus_109 rfl ?_
              refine g_iload C dX8_plus_110 rfl ?_
              refine g_lload C dX8_plus_112 rfl ?_
              refine g_ldc2 (z := 1073741823) C kj_RX8_53 (by decide) dX8_plus_114 ?_
              refine g_land (z := (l + y + y2) % 1073741824) C dX8_plus_117 (j_mask 30 (by omega) (by decide)) ?_
              refine g_l2i C dX8_plus_118 ?_
              refine g_iastoreN (j + 1) C hps (by omega) (by omega) dX8_plus_119 ?_
              rw [wset_push]
              refine g_lload C dX8_plus_120 rfl ?_
              refine g_bipush C dX8_plus_122 (by decide) ?_
              refine g_lshr (z := (l + y + y2) / 1073741824) C dX8_plus_124 (j_shr30 (by omega) (by omega)) ?_
              refine g_l2i C dX8_plus_125 ?_
              refine g_istore_n C dX8_plus_126 (by decide) rfl ?_
              refine g_iinc C dX8_plus_127 rfl (by decide) rfl ?_
              refine g_goto (tgt := 64) C dX8_plus_130 (by decide) ?_
              refine g_drop 5 ?_
              exact ih (j + 1, (l + y + y2) / 1073741824, iup h (j + 1) ((l + y + y2) % 1073741824)) ⟨by dsimp only; omega, by dsimp only; omega, fun i h1 h2 => by
                dsimp only at h2 ⊢
                by_cases q : i = j + 1
                · rw [q, iup_s]; omega
                · rw [iup_n q]; exact hdh i h1 (by omega), by
                show nv B30 (mgf (iup h (j + 1) _)) (j + 1) + _ = _
                rw [mgf_iup]
                exact add_step (by decide) hv (by show _ = l + ext f n (j + 1) + ext g m (j + 1); rw [hy, hy2])⟩ (by dsimp only; omega)
            refine g_iload C dX8_plus_90 rfl ?_
            refine g_aload_n C dX8_plus_92 rfl ?_
            refine g_alen C hpa2 (Or.inl ⟨_, rfl⟩) dX8_plus_93 ?_
            refine g_icmp_ge (tgt := 104) C dX8_plus_94 (by decide) (by omega) (by omega) (fun h94 => ?_) (fun h94 => ?_)
            · refine g_iconst C dX8_plus_104 ?_
              exact J105 _ (by first | exact (ext_lo (by omega)).symm | exact (ext_hi (by omega)).symm)
            · refine g_aload_n C dX8_plus_97 rfl ?_
              refine g_iload C dX8_plus_98 rfl ?_
              refine g_ialoadN (j + 1) C hpa2 (by omega) (by omega) dX8_plus_100 ?_
              refine g_goto (tgt := 105) C dX8_plus_101 (by decide) ?_
              exact J105 _ (by first | exact (ext_lo (by omega)).symm | exact (ext_hi (by omega)).symm)
          refine g_iload C dX8_plus_73 rfl ?_
          refine g_aload_n C dX8_plus_75 rfl ?_
          refine g_alen C hpa (Or.inl ⟨_, rfl⟩) dX8_plus_76 ?_
          refine g_icmp_ge (tgt := 87) C dX8_plus_77 (by decide) (by omega) (by omega) (fun h77 => ?_) (fun h77 => ?_)
          · refine g_iconst C dX8_plus_87 ?_
            exact J88 _ (by first | exact (ext_lo (by omega)).symm | exact (ext_hi (by omega)).symm)
          · refine g_aload_n C dX8_plus_80 rfl ?_
            refine g_iload C dX8_plus_81 rfl ?_
            refine g_ialoadN (j + 1) C hpa (by omega) (by omega) dX8_plus_83 ?_
            refine g_goto (tgt := 88) C dX8_plus_84 (by decide) ?_
            exact J88 _ (by first | exact (ext_lo (by omega)).symm | exact (ext_hi (by omega)).symm)
      · refine g_aload_n C dX8_plus_25 rfl ?_
        refine g_aload_n C dX8_plus_26 rfl ?_
        refine g_callS C (c_X8_bySize _ ha ha2 ⟨by omega, by omega⟩ ⟨by omega, by omega⟩ hd hd2 (fun q => hg.top (by omega)) (fun q => hf.top (by omega))) ml_RX8_63 sm_yX8_bySize in_RX8 co_yX8_bySize hd_X8_bySize rfl ⟨by omega, by omega⟩ rfl (Nat.le_of_ble_eq_true rfl) ⟨by omega, by omega⟩ dX8_plus_27 (fun v27 w27 hp27 => ?_)
        obtain ⟨⟨d, rfl, hd1, hd3⟩, rfl⟩ := hp27
        refine g_if_ge (tgt := 41) C dX8_plus_30 (by decide) (by omega) (fun h30 => ?_) (fun h30 => ?_)
        · refine g_aload_n C dX8_plus_41 rfl ?_
          refine g_aload_n C dX8_plus_42 rfl ?_
          refine g_callS C (c_X8_less _ (c := c) ha ha2 hf hd2 ⟨m1, BN.len hf hg (by omega)⟩ (by omega) (by omega) (by omega)) ml_RX8_67 sm_yX8_less in_RX8 co_yX8_less hd_X8_less rfl ⟨by omega, by omega⟩ rfl (Nat.le_of_ble_eq_true rfl) ⟨by omega, by omega⟩ dX8_plus_43 (fun v43 w43 hp43 => ?_)
          obtain ⟨q9, h9, rfl, hq9, hb9, hm9, hx9⟩ := hp43
          rw [show f 0 * (mg f n - mg g m) = z1 + z2 by rcases hs with q | q | q <;> rcases hs2 with q2 | q2 | q2 <;> rw [hm1, hm2, q.1, q2.1] <;> omega] at hb9
          exact g_areturn C (Or.inr ⟨_, rfl⟩) hQ (Or.inr ⟨_, rfl⟩) dX8_plus_46 (by omega) (by omega) ⟨_, q9, h9, rfl, hq9, by first | exact hb9, by omega, hx9, Or.inl (by omega)⟩
        · refine g_aload_n C dX8_plus_33 rfl ?_
          refine g_aload_n C dX8_plus_34 rfl ?_
          refine g_callS C (c_X8_less _ (c := c) ha2 ha hg hd ⟨n1, BN.len hg hf (by omega)⟩ (by omega) (by omega) (by omega)) ml_RX8_67 sm_yX8_less in_RX8 co_yX8_less hd_X8_less rfl ⟨by omega, by omega⟩ rfl (Nat.le_of_ble_eq_true rfl) ⟨by omega, by omega⟩ dX8_plus_35 (fun v35 w35 hp35 => ?_)
          obtain ⟨q9, h9, rfl, hq9, hb9, hm9, hx9⟩ := hp35
          rw [show g 0 * (mg g m - mg f n) = z1 + z2 by rcases hs with q | q | q <;> rcases hs2 with q2 | q2 | q2 <;> rw [hm1, hm2, q.1, q2.1] <;> omega] at hb9
          refine g_goto (tgt := 46) C dX8_plus_38 (by decide) ?_
          exact g_areturn C (Or.inr ⟨_, rfl⟩) hQ (Or.inr ⟨_, rfl⟩) dX8_plus_46 (by omega) (by omega) ⟨_, q9, h9, rfl, hq9, by first | exact hb9, by omega, hx9, Or.inl (by omega)⟩
    · refine g_aload_n C dX8_plus_14 rfl ?_
      exact g_areturn C (Or.inr ⟨_, rfl⟩) hQ (Or.inr ⟨_, rfl⟩) dX8_plus_15 (by omega) (by omega) ⟨a, n, f, rfl, ha, by rw [show z1 + z2 = z1 by omega]; exact hf, by omega, Ex.rf w, Or.inr (by simp)⟩
  · refine g_aload_n C dX8_plus_6 rfl ?_
    exact g_areturn C (Or.inr ⟨_, rfl⟩) hQ (Or.inr ⟨_, rfl⟩) dX8_plus_7 (by omega) (by omega) ⟨a2, m, g, rfl, ha2, by rw [show z1 + z2 = z2 by omega]; exact hg, by omega, Ex.rf w, Or.inr (by simp)⟩
