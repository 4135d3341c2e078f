theorem nar01 {y : Int} (h : y = 0 ∨ y = 1) : narrow .boolean (iI y) = iI y := by rcases h with rfl | rfl <;> rfl
set_option maxHeartbeats 4000000 in
set_option maxRecDepth 100000 in
theorem c_X8_minus (l : Launch) {E : GE} {w : Wd} {a n a2 m c : Nat} {b2 : Bool} {f g : Nat → Int} {z1 z2 : Int} (ha : w.2 a = some (true, eI n f)) (ha2 : w.2 a2 = some (b2, eI m g)) (hf : BN f n z1) (hg : BN g m z2) (hn : n ≤ c) (hm : m ≤ c) (hc2 : c ≤ 199) : Sp E l yX8_minus cX8_minus 2 (some (.array .int)) 3 (3) (c + 2 * (c + 1)) [.ref a, .ref a2] w (NP [a] w (z1 - z2) (c + 1)) := by
  refine sp_intro [some (.ref a), some (.ref a2)] rfl (Nat.le_of_ble_eq_true rfl) pn_X8 ?_
  intro X C hRm hl hnm hQ
  obtain ⟨hRf, hRl, hRc, hRs⟩ := hRm
  refine g_wf (fun hwf => ?_)
  have hs2 := hg.s
  have m1 := hg.n1
  have hne : a ≠ w.1 := Nat.ne_of_lt (hwf a _ ha)
  refine g_aload_n C dX8_minus_0 rfl ?_
  refine g_aload_n C dX8_minus_1 rfl ?_
  refine g_aload_n C dX8_minus_2 rfl ?_
  refine g_iconst C dX8_minus_3 ?_
  refine g_ialoadN (0) C ha2 (by omega) (by omega) dX8_minus_4 ?_
  refine g_ineg C dX8_minus_5 ?_
  refine g_callS C (c_X8_signed _ (c := c) ha2 hg hm (by omega) rfl) ml_RX8_77 sm_yX8_signed in_RX8 co_yX8_signed hd_X8_signed rfl ⟨by omega, by omega⟩ rfl (Nat.le_of_ble_eq_true rfl) ⟨by omega, by omega⟩ dX8_minus_6 (fun v6 w6 hp6 => ?_)
  obtain ⟨g6, rfl, rfl, hb6⟩ := hp6
  refine g_callS C (c_X8_plus _ (c := c) (f := f) (g := g6) (show (wpush w _).2 a = _ by rw [wpush_n hne]; exact ha) wpush_s hf hb6 hn hm hc2) ml_RX8_81 sm_yX8_plus in_RX8 co_yX8_plus hd_X8_plus rfl ⟨by omega, by omega⟩ rfl (Nat.le_of_ble_eq_true rfl) ⟨by omega, by omega⟩ dX8_minus_9 (fun v9 w9 hp9 => ?_)
  obtain ⟨q9, m9, f9, rfl, h9, hb9, hm9, hx9, hq9⟩ := hp9
  exact g_areturn C (Or.inr ⟨_, rfl⟩) hQ (Or.inr ⟨_, rfl⟩) dX8_minus_12 (by omega) (by omega) ⟨q9, m9, f9, rfl, h9, by rw [show z1 - z2 = z1 + -z2 by omega]; exact hb9, hm9, (Ex.push hwf _).tr hx9, by rcases hq9 with q | q; exact Or.inl (by have q2 : w.1 + 1 ≤ q9 := q; omega); simp only [List.mem_cons, List.not_mem_nil, or_false] at q; rcases q with q | q; exact Or.inr (by rw [q]; simp); exact Or.inl (by omega)⟩
set_option maxHeartbeats 4000000 in
set_option maxRecDepth 100000 in
theorem c_X8_times (l : Launch) {E : GE} {w : Wd} {a n a2 m c : Nat} {b b2 : Bool} {f g : Nat → Int} {z1 z2 : Int} (ha : w.2 a = some (b, eI n f)) (ha2 : w.2 a2 = some (b2, eI m g)) (hf : BN f n z1) (hg : BN g m z2) (hc : n + m ≤ c) (hc2 : c ≤ 200) : Sp E l yX8_times cX8_times 7 (some (.array .int)) 1 (2) (2 * c) [.ref a, .ref a2] w (NP [] w (z1 * z2) c) := by
  refine sp_intro [some (.ref a), some (.ref a2), none, none, none, none, none] rfl (Nat.le_of_ble_eq_true rfl) pn_X8 ?_
  intro X C hRm hl hnm hQ
  obtain ⟨hRf, hRl, hRc, hRs⟩ := hRm
  refine g_wf (fun hwf => ?_)
  have hs := hf.s
  have hs2 := hg.s
  have n1 := hf.n1
  have m1 := hg.n1
  have hd := hf.d
  have hd2 := hg.d
  have hm1 := hf.m
  have hm2 := hg.m
  have hne : a ≠ w.1 := Nat.ne_of_lt (hwf a _ ha)
  have hne2 : a2 ≠ w.1 := Nat.ne_of_lt (hwf a2 _ ha2)
  obtain ⟨M, rfl⟩ : ∃ M, m = M + 1 := ⟨m - 1, by omega⟩
  refine g_aload_n C dX8_times_0 rfl ?_
  refine g_alen C ha (Or.inl ⟨_, rfl⟩) dX8_times_1 ?_
  refine g_aload_n C dX8_times_2 rfl ?_
  refine g_alen C ha2 (Or.inl ⟨_, rfl⟩) dX8_times_3 ?_
  refine g_iadd C dX8_times_4 ?_
  refine g_newI C gw_arrayClass_int (N := n + (M + 1)) (by omega) (by omega) (by omega) dX8_times_5 ?_
  refine g_astore_n C dX8_times_7 (by decide) rfl ?_
  refine g_iconst C dX8_times_8 ?_
  refine g_istore_n C dX8_times_9 (by decide) rfl ?_
  refine g_loop (σ := Nat × (Nat → Int)) (fun q => q.1 + 1 ≤ n ∧ DG q.2 (n + (M + 1)) ∧ (∀ i, q.1 + (M + 1) ≤ i → i < n + (M + 1) → q.2 i = 0) ∧ nv B30 (mgf q.2) (q.1 + M) = nv B30 (mgf f) q.1 * nv B30 (mgf g) M) (fun q => G E X 7 10 [some (.ref a), some (.ref a2), some (.ref w.1), some (iI ((q.1 + 1 : Nat) : Int)), none, none, none] [] (wpush w (true, eI (n + (M + 1)) q.2)) 1 (0 + (n + (M + 1)))) (fun q => n - q.1) ?_ (0, fun _ => 0) ⟨by omega, fun i h1 h2 => by dsimp only; omega, fun i h1 h2 => rfl, by
    show nv B30 (mgf fun _ => 0) (0 + M) = 0 * _
    rw [Int.zero_mul]
    exact nv_zeros (f := mgf fun _ => 0) (m := 0) (n := 0 + M) (by omega) (fun i h1 h2 => rfl)⟩
  rintro ⟨p, h0⟩ hq ih
  obtain ⟨hk1, hdh0, hz0, hv0⟩ := hq
  dsimp only at hk1 hdh0 hz0 hv0 ⊢
  have hpa0 : (wpush w (true, eI (n + (M + 1)) h0)).2 a = some (b, eI n f) := by rw [wpush_n hne]; exact ha
  have hpa20 : (wpush w (true, eI (n + (M + 1)) h0)).2 a2 = some (b2, eI (M + 1) g) := by rw [wpush_n hne2]; exact ha2
  have hps0 : (wpush w (true, eI (n + (M + 1)) h0)).2 w.1 = some (true, eI (n + (M + 1)) h0) := wpush_s
  refine g_iload_n C dX8_times_10 rfl ?_
  refine g_aload_n C dX8_times_11 rfl ?_
  refine g_alen C hpa0 (Or.inl ⟨_, rfl⟩) dX8_times_12 ?_
  refine g_icmp_ge (tgt := 99) C dX8_times_13 (by decide) (by omega) (by omega) (fun h13 => ?_) (fun h13 => ?_)
  · have ep : p + 1 = n := by omega
    have emg : mg h0 (n + (M + 1)) = mg f n * mg g (M + 1) := by
      subst ep
      show nv B30 (mgf h0) (p + 1 + (M + 1) - 1) = nv B30 (mgf f) (p + 1 - 1) * nv B30 (mgf g) (M + 1 - 1)
      rw [show p + 1 + (M + 1) - 1 = (p + M) + 1 by omega, show p + 1 - 1 = p by omega, show M + 1 - 1 = M by omega, nv_succ, hv0, show mgf h0 (p + M) = 0 from hz0 (p + M + 1) (by omega) (by omega), Int.zero_mul, Int.add_zero]
    have hsgn : f 0 * g 0 = 1 ∨ f 0 * g 0 = -1 ∨ f 0 * g 0 = 0 ∧ mg h0 (n + (M + 1)) = 0 := by
      rcases hs with q | q | q <;> rcases hs2 with q2 | q2 | q2 <;> rw [q.1, q2.1] <;> first | omega | skip
      all_goals refine Or.inr (Or.inr ⟨by omega, ?_⟩); rw [emg]
      all_goals first | (rw [q.2.2, show mg f 1 = 0 from rfl, Int.zero_mul]) | (rw [q2.2.2, show mg g 1 = 0 from rfl, Int.mul_zero])
    refine g_aload_n C dX8_times_99 rfl ?_
    refine g_iconst C dX8_times_100 ?_
    refine g_ialoadN (0) C hpa0 (by omega) (by omega) dX8_times_101 ?_
    refine g_aload_n C dX8_times_102 rfl ?_
    refine g_iconst C dX8_times_103 ?_
    refine g_ialoadN (0) C hpa20 (by omega) (by omega) dX8_times_104 ?_
    refine g_imul C dX8_times_105 ?_
    refine g_aload_n C dX8_times_106 rfl ?_
    refine g_callS C (c_X8_cut _ (c := c) (f := h0) (s := f 0 * g 0) hps0 (by omega) hc hc2 hdh0 hsgn) ml_RX8_55 sm_yX8_cut in_RX8 co_yX8_cut hd_X8_cut rfl ⟨by omega, by omega⟩ rfl (Nat.le_of_ble_eq_true rfl) ⟨by omega, by omega⟩ dX8_times_107 (fun v107 w107 hp107 => ?_)
    obtain ⟨q9, h9, rfl, rfl, hb9, hm9⟩ := hp107
    rw [emg, show f 0 * g 0 * (mg f n * mg g (M + 1)) = z1 * z2 by rw [hm1, hm2]; grind] at hb9
    exact g_areturn C (Or.inr ⟨_, rfl⟩) hQ (Or.inr ⟨_, rfl⟩) dX8_times_110 (by omega) (by omega) ⟨_, q9, h9, rfl, wpush_s, hb9, by omega, (Ex.push hwf _).tr (Ex.push (hwf.push _) _), Or.inl (by show w.1 ≤ w.1 + 1; omega)⟩
  · refine g_lconst (z := 0) C dX8_times_16 (by decide) ?_
    refine g_lstore C dX8_times_17 (by decide) rfl ?_
    refine g_iconst C dX8_times_19 ?_
    refine g_istore C dX8_times_20 (by decide) rfl ?_
    have hfp := hd (p + 1) (by omega) (by omega)
    refine g_loop (σ := Nat × Int × (Nat → Int)) (fun q => q.1 ≤ M ∧ (0 ≤ q.2.1 ∧ q.2.1 < 1073741824) ∧ DG q.2.2 (n + (M + 1)) ∧ (∀ i, p + q.1 + 1 ≤ i → q.2.2 i = h0 i) ∧ nv B30 (mgf q.2.2) (p + q.1) + q.2.1 * B30 ^ (p + q.1) = nv B30 (mgf h0) (p + q.1) + mgf f p * nv B30 (mgf g) q.1 * B30 ^ p) (fun q => G E X 7 22 [some (.ref a), some (.ref a2), some (.ref w.1), some (iI ((p + 1 : Nat) : Int)), some (jJ q.2.1), none, some (iI ((q.1 + 1 : Nat) : Int))] [] (wpush w (true, eI (n + (M + 1)) q.2.2)) 1 (0 + (n + (M + 1)))) (fun q => M - q.1) ?_ (0, 0, h0) ⟨by dsimp only; omega, by dsimp only; omega, hdh0, fun i h1 => rfl, by
      show nv B30 (mgf h0) (p + 0) + 0 * _ = nv B30 (mgf h0) (p + 0) + mgf f p * 0 * _
      rw [Int.zero_mul, Int.mul_zero, Int.zero_mul]⟩
    rintro ⟨t, cc, h⟩ hq ih2
    obtain ⟨ht, hcc, hdh, hh, hv⟩ := hq
    dsimp only at ht hcc hdh hh hv ⊢
    have hpa : (wpush w (true, eI (n + (M + 1)) h)).2 a = some (b, eI n f) := by rw [wpush_n hne]; exact ha
    have hpa2 : (wpush w (true, eI (n + (M + 1)) h)).2 a2 = some (b2, eI (M + 1) g) := by rw [wpush_n hne2]; exact ha2
    have hps : (wpush w (true, eI (n + (M + 1)) h)).2 w.1 = some (true, eI (n + (M + 1)) h) := wpush_s
    refine g_iload C dX8_times_22 rfl ?_
    refine g_aload_n C dX8_times_24 rfl ?_
    refine g_alen C hpa2 (Or.inl ⟨_, rfl⟩) dX8_times_25 ?_
    refine g_icmp_ge (tgt := 82) C dX8_times_26 (by decide) (by omega) (by omega) (fun h26 => ?_) (fun h26 => ?_)
    · have etM : t = M := by omega
      subst etM
      have hdp := hdh (p + t + 1) (by omega) (by omega)
      refine g_aload_n C dX8_times_82 rfl ?_
      refine g_iload_n C dX8_times_83 rfl ?_
      refine g_aload_n C dX8_times_84 rfl ?_
      refine g_alen C hpa2 (Or.inl ⟨_, rfl⟩) dX8_times_85 ?_
      refine g_iadd C dX8_times_86 ?_
      refine g_iconst C dX8_times_87 ?_
      refine g_isub C dX8_times_88 ?_
      refine g_lload C dX8_times_89 rfl ?_
      refine g_l2i C dX8_times_91 ?_
      refine g_iastoreN (p + t + 1) C hps (by omega) (by omega) dX8_times_92 ?_
      rw [wset_push]
      refine g_iinc C dX8_times_93 rfl (by decide) rfl ?_
      refine g_goto (tgt := 10) C dX8_times_96 (by decide) ?_
      refine g_drop 4 (g_drop 6 ?_)
      exact ih (p + 1, iup h (p + t + 1) cc) ⟨by dsimp only; omega, fun i h1 h2 => by
        dsimp only at h2 ⊢
        by_cases q : i = p + t + 1
        · rw [q, iup_s]; omega
        · rw [iup_n q]; exact hdh i h1 (by omega), fun i h1 h2 => by
        dsimp only at h1 h2 ⊢
        rw [iup_n (by omega), hh i (by omega)]
        exact hz0 i (by omega) h2, by
        show nv B30 (mgf (iup h (p + t + 1) _)) (p + 1 + t) = _
        rw [mgf_iup, show p + 1 + t = p + t + 1 by omega]
        exact mul_end hv hv0⟩ (by dsimp only; omega)
    · have hgt := hd2 (t + 1) (by omega) (by omega)
      have hht := hdh (p + t + 1) (by omega) (by omega)
      have hx1 : 0 ≤ f (p + 1) * g (t + 1) := Int.mul_nonneg hfp.1 hgt.1
      have hx2 : f (p + 1) * g (t + 1) ≤ 1073741823 * 1073741823 := Int.mul_le_mul (by omega) (by omega) hgt.1 (by omega)
      refine g_lload C dX8_times_29 rfl ?_
      refine g_aload_n C dX8_times_31 rfl ?_
      refine g_iload_n C dX8_times_32 rfl ?_
      refine g_ialoadN (p + 1) C hpa (by omega) (by omega) dX8_times_33 ?_
      refine g_i2l C dX8_times_34 (by omega) ?_
      refine g_aload_n C dX8_times_35 rfl ?_
      refine g_iload C dX8_times_36 rfl ?_
      refine g_ialoadN (t + 1) C hpa2 (by omega) (by omega) dX8_times_38 ?_
      refine g_i2l C dX8_times_39 (by omega) ?_
      refine g_lmul C dX8_times_40 ?_
      refine g_aload_n C dX8_times_41 rfl ?_
      refine g_iload_n C dX8_times_42 rfl ?_
      refine g_iload C dX8_times_43 rfl ?_
      refine g_iadd C dX8_times_45 ?_
      refine g_iconst C dX8_times_46 ?_
      refine g_isub C dX8_times_47 ?_
      refine g_ialoadN (p + t + 1) C hps (by omega) (by omega) dX8_times_48 ?_
      refine g_i2l C dX8_times_49 (by omega) ?_
      refine g_ladd C dX8_times_50 ?_
      refine g_ladd C dX8_times_51 ?_
      refine g_lstore C dX8_times_52 (by decide) rfl ?_
      refine g_aload_n C dX8_times_54 rfl ?_
      refine g_iload_n C dX8_times_55 rfl ?_
      refine g_iload C dX8_times_56 rfl ?_
      refine g_iadd C dX8_times_58 ?_
      refine g_iconst C dX8_times_59 ?_
      refine g_isub C dX8_times_60 ?_
      refine g_lload C dX8_times_61 rfl ?_
      refine g_ldc2 (z := 1073741823) C kj_RX8_53 (by decide) dX8_times_63 ?_
      refine g_land (z := (cc + (f (p + 1) * g (t + 1) + h (p + t + 1))) % 1073741824) C dX8_times_66 (j_mask 30 (by omega) (by decide)) ?_
      refine g_l2i C dX8_times_67 ?_
      refine g_iastoreN (p + t + 1) C hps (by omega) (by omega) dX8_times_68 ?_
      rw [wset_push]
      refine g_lload C dX8_times_69 rfl ?_
      refine g_bipush C dX8_times_71 (by decide) ?_
      refine g_lshr (z := (cc + (f (p + 1) * g (t + 1) + h (p + t + 1))) / 1073741824) C dX8_times_73 (j_shr30 (by omega) (by omega)) ?_
      refine g_lstore C dX8_times_74 (by decide) rfl ?_
      refine g_iinc C dX8_times_76 rfl (by decide) rfl ?_
      refine g_goto (tgt := 22) C dX8_times_79 (by decide) ?_
      refine g_less (L' := [some (.ref a), some (.ref a2), some (.ref w.1), some (iI ((p + 1 : Nat) : Int)), some (jJ ((cc + (f (p + 1) * g (t + 1) + h (p + t + 1))) / 1073741824)), none, some (iI ((t + 1 + 1 : Nat) : Int))]) (fun i v hv => by exact hv) ?_
      exact ih2 (t + 1, (cc + (f (p + 1) * g (t + 1) + h (p + t + 1))) / 1073741824, iup h (p + t + 1) ((cc + (f (p + 1) * g (t + 1) + h (p + t + 1))) % 1073741824)) ⟨by dsimp only; omega, by dsimp only; omega, fun i h1 h2 => by
        dsimp only at h2 ⊢
        by_cases q : i = p + t + 1
        · rw [q, iup_s]; omega
        · rw [iup_n q]; exact hdh i h1 (by omega), fun i h1 => by
        dsimp only at h1 ⊢
        rw [iup_n (by omega)]; exact hh i (by omega), by
        show nv B30 (mgf (iup h (p + t + 1) _)) (p + t + 1) + _ * B30 ^ (p + t + 1) = _
        rw [mgf_iup]
        exact mul_step (B := B30) (by decide) hv (hh (p + t + 1) (by omega)) rfl⟩ (by dsimp only; omega)
set_option maxHeartbeats 4000000 in
set_option maxRecDepth 100000 in
theorem c_X8_divide (l : Launch) {E : GE} {w : Wd} {a n : Nat} {d : Int} {f : Nat → Int} (ha : w.2 a = some (true, eI n f)) (hn : 1 ≤ n ∧ n ≤ 200) (hd : DG f n) (hy : 0 < d ∧ d < 2147483648) : Sp E l yX8_divide cX8_divide 5 (some .int) 0 (0) (0) [.ref a, iI d] w (fun r w' => ∃ (x : Int) (g : Nat → Int), r = some (iI x) ∧ w' = wset w a (true, eI n g) ∧ DG g n ∧ g 0 = f 0 ∧ 0 ≤ x ∧ x < d ∧ mg g n * d + x = mg f n) := by
  refine sp_intro [some (.ref a), some (iI d), none, none, none] rfl (Nat.le_of_ble_eq_true rfl) pn_X8 ?_
  intro X C hRm hl hnm hQ
  obtain ⟨hRf, hRl, hRc, hRs⟩ := hRm
  refine g_wf (fun hwf => ?_)
  obtain ⟨N, rfl⟩ : ∃ N, n = N + 1 := ⟨n - 1, by omega⟩
  rw [← wset_id ha]
  refine g_lconst (z := 0) C dX8_divide_0 (by decide) ?_
  refine g_lstore_n C dX8_divide_1 (by decide) rfl ?_
  refine g_aload_n C dX8_divide_2 rfl ?_
  refine g_alen C wset_s (Or.inl ⟨_, rfl⟩) dX8_divide_3 ?_
  refine g_iconst C dX8_divide_4 ?_
  refine g_isub C dX8_divide_5 ?_
  refine g_istore C dX8_divide_6 (by decide) rfl ?_
  refine g_loop (σ := Nat × Int × (Nat → Int)) (fun q => q.1 ≤ N ∧ (0 ≤ q.2.1 ∧ q.2.1 < d) ∧ DG q.2.2 (N + 1) ∧ (∀ i, i ≤ N - q.1 → q.2.2 i = f i) ∧ hv B30 (mgf q.2.2) N q.1 * d + q.2.1 = hv B30 (mgf f) N q.1) (fun q => G E X 5 8 [some (.ref a), some (iI d), some (jJ q.2.1), none, some (iI ((N - q.1 : Nat) : Int))] [] (wset w a (true, eI (N + 1) q.2.2)) 0 0) (fun q => N - q.1) ?_ (0, 0, f) ⟨by dsimp only; omega, by dsimp only; omega, hd, fun i h => rfl, by show 0 * d + 0 = 0; omega⟩ |> g_eq (by rw [show ((N + 1 : Nat) : Int) - 1 = ((N - 0 : Nat) : Int) by omega]; rfl) rfl
  rintro ⟨j, x, g⟩ hq ih
  obtain ⟨hj, hx, hdg, he, hvv⟩ := hq
  dsimp only at hj hx hdg he hvv ⊢
  have hps : (wset w a (true, eI (N + 1) g)).2 a = some (true, eI (N + 1) g) := wset_s
  refine g_iload C dX8_divide_8 rfl ?_
  refine g_if_le (tgt := 44) C dX8_divide_10 (by decide) (by omega) (fun h10 => ?_) (fun h10 => ?_)
  · have ejN : j = N := by omega
    subst ejN
    refine g_lload_n C dX8_divide_44 rfl ?_
    refine g_l2i C dX8_divide_45 ?_
    exact g_ireturn C hQ dX8_divide_46 (Nat.le_refl _) (Nat.le_refl _) ⟨x, g, rfl, rfl, hdg, he 0 (by omega), hx.1, hx.2, by rw [hv_all, hv_all] at hvv; exact hvv⟩
  · have hfk := hdg (N - j) (by omega) (by omega)
    have ek : N - 1 - j + 1 = N - j := by omega
    have hq0 : 0 ≤ (x * 1073741824 + g (N - j)) / d := Int.ediv_nonneg (by omega) (by omega)
    have hq1 : (x * 1073741824 + g (N - j)) / d < 1073741824 := Int.ediv_lt_of_lt_mul hy.1 (by
      have : (x + 1) * 1073741824 ≤ d * 1073741824 := Int.mul_le_mul_of_nonneg_right (by omega) (by omega)
      omega)
    have hr0 : 0 ≤ (x * 1073741824 + g (N - j)) % d := Int.emod_nonneg _ (by omega)
    have hr1 : (x * 1073741824 + g (N - j)) % d < d := Int.emod_lt_of_pos _ hy.1
    refine g_lload_n C dX8_divide_13 rfl ?_
    refine g_bipush C dX8_divide_14 (by decide) ?_
    refine g_lshl (z := x * 1073741824) C dX8_divide_16 (j_shl 30 (by omega) (by decide)) ?_
    refine g_aload_n C dX8_divide_17 rfl ?_
    refine g_iload C dX8_divide_18 rfl ?_
    refine g_ialoadN (N - j) C hps (by omega) (by omega) dX8_divide_20 ?_
    refine g_i2l C dX8_divide_21 (by omega) ?_
    refine g_lor (z := x * 1073741824 + g (N - j)) C dX8_divide_22 (j_or hx.1 (by omega) (by omega)) ?_
    refine g_lstore_n C dX8_divide_23 (by decide) rfl ?_
    refine g_aload_n C dX8_divide_24 rfl ?_
    refine g_iload C dX8_divide_25 rfl ?_
    refine g_lload_n C dX8_divide_27 rfl ?_
    refine g_iload_n C dX8_divide_28 rfl ?_
    refine g_i2l C dX8_divide_29 (by omega) ?_
    refine g_ldivN C dX8_divide_30 (by omega) (by omega) ?_
    refine g_l2i C dX8_divide_31 ?_
    refine g_iastoreN (N - j) C hps (by omega) (by omega) dX8_divide_32 ?_
    rw [wset_set]
    refine g_lload_n C dX8_divide_33 rfl ?_
    refine g_iload_n C dX8_divide_34 rfl ?_
    refine g_i2l C dX8_divide_35 (by omega) ?_
    refine g_lremN C dX8_divide_36 (by omega) (by omega) ?_
    refine g_lstore_n C dX8_divide_37 (by decide) rfl ?_
    refine g_iinc C dX8_divide_38 rfl (by decide) rfl ?_
    refine g_goto (tgt := 8) C dX8_divide_41 (by decide) ?_
    have e2 : ((N - j : Nat) : Int) + -1 = ((N - (j + 1) : Nat) : Int) := by omega
    rw [e2]
    exact ih (j + 1, (x * 1073741824 + g (N - j)) % d, iup g (N - j) ((x * 1073741824 + g (N - j)) / d)) ⟨by dsimp only; omega, ⟨hr0, hr1⟩, fun i h1 h2 => by
      dsimp only at h2 ⊢
      by_cases q : i = N - j
      · rw [q, iup_s]; exact ⟨hq0, hq1⟩
      · rw [iup_n q]; exact hdg i h1 (by omega), fun i h1 => by
      dsimp only at h1 ⊢
      rw [iup_n (by omega)]; exact he i (by omega), by
      show hv B30 (mgf (iup g (N - j) _)) N (j + 1) * d + _ = _
      rw [← ek, mgf_iup, ek]
      exact div_step (by omega) hvv (by
        show x * 1073741824 + f (N - 1 - j + 1) = _
        rw [ek, ← he (N - j) (by omega), Int.mul_comm]
        rw [Int.mul_comm _ d]
        exact (Int.mul_ediv_add_emod _ d).symm)⟩ (by dsimp only; omega)
set_option maxHeartbeats 4000000 in
set_option maxRecDepth 100000 in
theorem c_X8_isNone (l : Launch) {E : GE} {w : Wd} {a n : Nat} {b : Bool} {f : Nat → Int} (ha : w.2 a = some (b, eI n f)) (hn : 1 ≤ n ∧ n ≤ 200) (hd : DG f n) : Sp E l yX8_isNone cX8_isNone 3 (some .boolean) 0 (0) (0) [.ref a] w (fun r w' => (∃ y : Int, r = some (iI y) ∧ (y = 1 ∧ mg f n = 0 ∨ y = 0 ∧ 0 < mg f n)) ∧ w' = w) := by
  refine sp_intro [some (.ref a), none, none] rfl (Nat.le_of_ble_eq_true rfl) pn_X8 ?_
  intro X C hRm hl hnm hQ
  obtain ⟨hRf, hRl, hRc, hRs⟩ := hRm
  refine g_wf (fun hwf => ?_)
  refine g_iconst C dX8_isNone_0 ?_
  refine g_istore_n C dX8_isNone_1 (by decide) rfl ?_
  refine g_iconst C dX8_isNone_2 ?_
  refine g_istore_n C dX8_isNone_3 (by decide) rfl ?_
  refine g_loop (σ := Nat × Int) (fun q => q.1 + 1 ≤ n ∧ (q.2 = 1 ∧ nv B30 (mgf f) q.1 = 0 ∨ q.2 = 0 ∧ 0 < nv B30 (mgf f) q.1)) (fun q => G E X 3 4 [some (.ref a), some (iI q.2), some (iI ((q.1 + 1 : Nat) : Int))] [] w 0 0) (fun q => n - q.1) ?_ (0, 1) ⟨by dsimp only; omega, Or.inl ⟨rfl, rfl⟩⟩
  rintro ⟨j, y⟩ hq ih
  obtain ⟨hj, hy⟩ := hq
  dsimp only at hj hy ⊢
  refine g_iload_n C dX8_isNone_4 rfl ?_
  refine g_aload_n C dX8_isNone_5 rfl ?_
  refine g_alen C ha (Or.inl ⟨_, rfl⟩) dX8_isNone_6 ?_
  refine g_icmp_ge (tgt := 30) C dX8_isNone_7 (by decide) (by omega) (by omega) (fun h7 => ?_) (fun h7 => ?_)
  · refine g_iload_n C dX8_isNone_30 rfl ?_
    exact g_zreturn C hQ dX8_isNone_31 (nar01 (by omega)) (Nat.le_refl _) (Nat.le_refl _) ⟨⟨y, rfl, by unfold mg; rw [show n - 1 = j by omega]; exact hy⟩, rfl⟩
  · have hfk := hd (j + 1) (by omega) (by omega)
    have hpw := pw_pos (B := B30) (by decide) j
    have J22 : ∀ x : Int, (x = 1 ∧ f (j + 1) = 0 ∨ x = 0 ∧ f (j + 1) ≠ 0) → G E X 3 22 [some (.ref a), some (iI y), some (iI ((j + 1 : Nat) : Int))] [iI x, iI y] w 0 0 := by
      intro x hx
      refine g_iand (z := if x = 1 ∧ y = 1 then 1 else 0) C dX8_isNone_22 (by rcases hx with ⟨q, -⟩ | ⟨q, -⟩ <;> rcases hy with ⟨r, -⟩ | ⟨r, -⟩ <;> subst q <;> subst r <;> decide) ?_
      refine g_istore_n C dX8_isNone_23 (by decide) rfl ?_
      refine g_iinc C dX8_isNone_24 rfl (by decide) rfl ?_
      refine g_goto (tgt := 4) C dX8_isNone_27 (by decide) ?_
      exact ih (j + 1, if x = 1 ∧ y = 1 then 1 else 0) ⟨by dsimp only; omega, by
        dsimp only
        rw [nv_succ]
        have e : mgf f j = f (j + 1) := rfl
        rw [e]
        have h0 : 0 ≤ f (j + 1) * B30 ^ j := Int.mul_nonneg hfk.1 (Int.le_of_lt hpw)
        have h1 : f (j + 1) ≠ 0 → 0 < f (j + 1) * B30 ^ j := fun q => Int.mul_pos (by omega) hpw
        rcases hx with ⟨q, q2⟩ | ⟨q, q2⟩ <;> rcases hy with ⟨r, r2⟩ | ⟨r, r2⟩
        · left; rw [if_pos ⟨q, r⟩]; refine ⟨rfl, ?_⟩; rw [q2, Int.zero_mul]; omega
        · right; rw [if_neg (by omega)]; exact ⟨rfl, by omega⟩
        · right; rw [if_neg (by omega)]; exact ⟨rfl, by have := h1 q2; omega⟩
        · right; rw [if_neg (by omega)]; exact ⟨rfl, by omega⟩⟩ (by dsimp only; omega)
    refine g_iload_n C dX8_isNone_10 rfl ?_
    refine g_aload_n C dX8_isNone_11 rfl ?_
    refine g_iload_n C dX8_isNone_12 rfl ?_
    refine g_ialoadN (j + 1) C ha (by omega) (by omega) dX8_isNone_13 ?_
    refine g_if_ne (tgt := 21) C dX8_isNone_14 (by decide) (by omega) (fun h14 => ?_) (fun h14 => ?_)
    · refine g_iconst C dX8_isNone_21 ?_
      exact J22 _ (by first | exact Or.inl ⟨rfl, by omega⟩ | exact Or.inr ⟨rfl, by omega⟩)
    · refine g_iconst C dX8_isNone_17 ?_
      refine g_goto (tgt := 22) C dX8_isNone_18 (by decide) ?_
      exact J22 _ (by first | exact Or.inl ⟨rfl, by omega⟩ | exact Or.inr ⟨rfl, by omega⟩)
