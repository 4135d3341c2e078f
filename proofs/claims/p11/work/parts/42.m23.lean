def cop (z1 z2 : Int) : Prop := ∀ d : Int, 0 < d → d ∣ z1 → d ∣ z2 → d = 1
def dv (X Y z1 z2 : Int) : Prop := ∀ d : Int, d ∣ X → d ∣ Y → d ∣ z1 ∧ d ∣ z2
theorem dv.half {X X' Y z1 z2 : Int} (h : dv X Y z1 z2) (e : X' * 2 = X) : dv X' Y z1 z2 := fun d a b => h d (by rw [← e]; exact Int.dvd_mul_of_dvd_left a) b
theorem dv.half2 {X Y Y' z1 z2 : Int} (h : dv X Y z1 z2) (e : Y' * 2 = Y) : dv X Y' z1 z2 := fun d a b => h d a (by rw [← e]; exact Int.dvd_mul_of_dvd_left b)
theorem dv.sub {X Y z1 z2 : Int} (h : dv X Y z1 z2) : dv (X - Y) Y z1 z2 := fun d a b => h d (by have := Int.dvd_add a b; rwa [Int.sub_add_cancel] at this) b
theorem dv.swap {X Y z1 z2 : Int} (h : dv X Y z1 z2) : dv Y X z1 z2 := fun d a b => h d b a
theorem dv.sub2 {X Y z1 z2 : Int} (h : dv X Y z1 z2) : dv (X - Y) Y z1 z2 := h.sub
theorem mg_par {f : Nat → Int} {n : Nat} (hn : 2 ≤ n) : mg f n % 2 = f 1 % 2 := by
  obtain ⟨b, hb⟩ : ∃ b, n - 1 = 1 + b := ⟨n - 2, by omega⟩
  unfold mg
  rw [hb, nv_split 1 b, Int.pow_one, nv_succ]
  show (nv B30 (mgf f) 0 + mgf f 0 * B30 ^ 0 + B30 * nv B30 (fun i => mgf f (1 + i)) b) % 2 = f 1 % 2
  generalize nv B30 (fun i => mgf f (1 + i)) b = y
  show (0 + f 1 * B30 ^ 0 + B30 * y) % 2 = _
  rw [Int.pow_zero, show B30 = 1073741824 from rfl]
  omega
theorem loB_neg {v : Int} : ∀ {p : Nat}, loB v p < 0 → v % 2 ^ p = 0
  | 0, _ => by rw [Int.pow_zero]; omega
  | p + 1, h => by
    rcases Int.lt_or_le (loB v p) 0 with q | q
    · rcases bt_01 v p with c | c
      · rw [md_succ, loB_neg q, c]; omega
      · rw [loB_s1 c q] at h; omega
    · rw [loB_s2 q] at h; omega
theorem loB_even {v : Int} : ∀ {p : Nat}, 0 < loB v p → v % 2 = 0
  | 0, h => by unfold loB at h; omega
  | p + 1, h => by
    rcases Int.lt_or_le (loB v p) 0 with q | q
    · have := loB_neg q
      rcases Nat.eq_zero_or_pos p with e | e
      · subst e
        rcases bt_01 v 0 with c | c
        · unfold bt at c; rw [Int.pow_zero] at c; omega
        · rw [loB_s1 c q] at h; omega
      · obtain ⟨k, rfl⟩ : ∃ k, p = k + 1 := ⟨p - 1, by omega⟩
        have h2 : (2 : Int) ∣ v := Int.dvd_trans ⟨2 ^ k, by rw [Int.pow_succ, Int.mul_comm]⟩ (Int.dvd_of_emod_eq_zero this)
        omega
    · rw [loB_s2 q] at h
      exact loB_even h
theorem loB_pos {v : Int} {p : Nat} (h0 : 0 < v) (h1 : v < 2 ^ p) : 0 ≤ loB v p := by
  rcases Int.lt_or_le (loB v p) 0 with q | q
  · have := loB_neg q
    rw [Int.emod_eq_of_lt (by omega) h1] at this
    omega
  · exact q
theorem mg_lt2 {f : Nat → Int} {n : Nat} (h : DG f n) : mg f n < 2 ^ (30 * (n - 1)) := by
  rw [← B30_pow]; exact mg_lt h
set_option maxHeartbeats 4000000 in
set_option maxRecDepth 100000 in
theorem c_X8_lastG (l : Launch) {E : GE} {w : Wd} {a n : Nat} {b : Bool} {f : Nat → Int} (ha : w.2 a = some (b, eI n f)) (n1 : 1 ≤ n) (hd : DG f n) (hs : f 0 = 1) (hn : n ≤ 200) : Sp E l yX8_last cX8_last 4 (some .long) 0 (0) (0) [.ref a] w (fun r w' => r = some (jJ (mg f n)) ∧ w' = w) := by
  refine sp_intro [some (.ref a), none, none, none] rfl (Nat.le_of_ble_eq_true rfl) pn_X8 ?_
  intro X C hRm hl hnm hQ
  obtain ⟨hRf, hRl, hRc, hRs⟩ := hRm
  refine g_wf (fun hwf => ?_)
  have hm1 : mg f n = f 0 * mg f n := by rw [hs, Int.one_mul]
  generalize hz : mg f n = z at hm1
  refine g_lconst (z := 0) C dX8_last_0 (by decide) ?_
  refine g_lstore_n C dX8_last_1 (by decide) rfl ?_
  refine g_iconst C dX8_last_2 ?_
  refine g_istore_n C dX8_last_3 (by decide) rfl ?_
  refine g_loop (σ := Nat) (fun p => p + 1 ≤ n ∧ p ≤ 3) (fun p => G E X 4 4 [some (.ref a), some (jJ (nv B30 (mgf f) p)), none, some (iI ((p + 1 : Nat) : Int))] [] w 0 0) (fun p => n - p) ?_ 0 ⟨by omega, by omega⟩
  rintro p ⟨hp1, hp3⟩ ih
  refine g_iload_n C dX8_last_4 rfl ?_
  refine g_aload_n C dX8_last_5 rfl ?_
  refine g_alen C ha (Or.inl ⟨_, rfl⟩) dX8_last_6 ?_
  refine g_icmp_ge (tgt := 35) C dX8_last_7 (by decide) (by omega) (by omega) (fun h7 => ?_) (fun h7 => ?_)
  · have he : jJ (f 0 * nv B30 (mgf f) p) = jJ z := by
      rw [hm1, ← hz]
      rcases Nat.lt_or_ge (p + 1) n with q | q
      · have ep : p = 3 := by omega
        subst ep
        obtain ⟨b, hb⟩ : ∃ b, n - 1 = 3 + b := ⟨n - 4, by omega⟩
        unfold mg
        rw [hb, nv_split 3 b, show f 0 * (nv B30 (mgf f) 3 + B30 ^ 3 * nv B30 (fun i => mgf f (3 + i)) b) = f 0 * nv B30 (mgf f) 3 + 18446744073709551616 * (f 0 * 67108864 * nv B30 (fun i => mgf f (3 + i)) b) by rw [show B30 ^ 3 = 18446744073709551616 * 67108864 by decide]; grind, jJ_mod]
      · unfold mg
        rw [show n - 1 = p by omega]
    refine g_aload_n C dX8_last_35 rfl ?_
    refine g_iconst C dX8_last_36 ?_
    refine g_ialoadN (0) C ha (by omega) (by omega) dX8_last_37 ?_
    refine g_i2l C dX8_last_38 (by omega) ?_
    refine g_lload_n C dX8_last_39 rfl ?_
    refine g_lmul C dX8_last_40 ?_
    exact g_lreturn C hQ dX8_last_41 (Nat.le_refl _) (Nat.le_refl _) ⟨by rw [he, hz], rfl⟩
  · refine g_iload_n C dX8_last_10 rfl ?_
    refine g_iconst C dX8_last_11 ?_
    refine g_icmp_ge (tgt := 35) C dX8_last_12 (by decide) (by omega) (by omega) (fun h12 => ?_) (fun h12 => ?_)
    · have he : jJ (f 0 * nv B30 (mgf f) p) = jJ z := by
        rw [hm1, ← hz]
        rcases Nat.lt_or_ge (p + 1) n with q | q
        · have ep : p = 3 := by omega
          subst ep
          obtain ⟨b, hb⟩ : ∃ b, n - 1 = 3 + b := ⟨n - 4, by omega⟩
          unfold mg
          rw [hb, nv_split 3 b, show f 0 * (nv B30 (mgf f) 3 + B30 ^ 3 * nv B30 (fun i => mgf f (3 + i)) b) = f 0 * nv B30 (mgf f) 3 + 18446744073709551616 * (f 0 * 67108864 * nv B30 (fun i => mgf f (3 + i)) b) by rw [show B30 ^ 3 = 18446744073709551616 * 67108864 by decide]; grind, jJ_mod]
        · unfold mg
          rw [show n - 1 = p by omega]
      refine g_aload_n C dX8_last_35 rfl ?_
      refine g_iconst C dX8_last_36 ?_
      refine g_ialoadN (0) C ha (by omega) (by omega) dX8_last_37 ?_
      refine g_i2l C dX8_last_38 (by omega) ?_
      refine g_lload_n C dX8_last_39 rfl ?_
      refine g_lmul C dX8_last_40 ?_
      exact g_lreturn C hQ dX8_last_41 (Nat.le_refl _) (Nat.le_refl _) ⟨by rw [he, hz], rfl⟩
    · have hfk := hd (p + 1) (by omega) (by omega)
      refine g_lload_n C dX8_last_15 rfl ?_
      refine g_aload_n C dX8_last_16 rfl ?_
      refine g_iload_n C dX8_last_17 rfl ?_
      refine g_ialoadN (p + 1) C ha (by omega) (by omega) dX8_last_18 ?_
      refine g_i2l C dX8_last_19 (by omega) ?_
      refine g_bipush C dX8_last_20 (by decide) ?_
      refine g_iload_n C dX8_last_22 rfl ?_
      refine g_iconst C dX8_last_23 ?_
      refine g_isub C dX8_last_24 ?_
      refine g_imul C dX8_last_25 ?_
      refine g_lshl (z := f (p + 1) * 2 ^ (30 * p)) C dX8_last_26 (by have e : p = 0 ∨ p = 1 ∨ p = 2 := (by omega); rcases e with rfl | rfl | rfl <;> exact j_shl _ (by omega) (by decide)) ?_
      refine g_ladd C dX8_last_27 ?_
      refine g_lstore_n C dX8_last_28 (by decide) rfl ?_
      refine g_iinc C dX8_last_29 rfl (by decide) rfl ?_
      refine g_goto (tgt := 4) C dX8_last_32 (by decide) ?_
      rw [show nv B30 (mgf f) p + f (p + 1) * 2 ^ (30 * p) = nv B30 (mgf f) (p + 1) by rw [nv_succ, B30_pow]; rfl]
      exact ih (p + 1) ⟨by omega, by omega⟩ (by omega)
set_option maxHeartbeats 4000000 in
set_option maxRecDepth 100000 in
theorem c_X8_divisor (l : Launch) {E : GE} {w : Wd} {a1 a2 : Nat} {z1 z2 : Int} (r1 : RowAt w a1 z1 5) (r2 : RowAt w a2 z2 5) (h1 : 0 < z1) (h2 : 0 < z2) : Sp E l yX8_divisor cX8_divisor 9 (some .int) 2 (2) (10) [.ref a1, .ref a2] w (fun r w' => ∃ ans : Int, r = some (iI ans) ∧ (-2147483648 ≤ ans ∧ ans < 2147483648) ∧ (cop z1 z2 → ans = 1) ∧ Fr w w') := by
  refine sp_intro [some (.ref a1), some (.ref a2), none, none, none, none, none, none, none] rfl (Nat.le_of_ble_eq_true rfl) pn_X8 ?_
  intro X C hRm hl hnm hQ
  obtain ⟨hRf, hRl, hRc, hRs⟩ := hRm
  refine g_wf (fun hwf => ?_)
  obtain ⟨n1, f1, e1, b1, d1⟩ := id r1
  obtain ⟨n2, f2, e2, b2, d2⟩ := id r2
  have l1 := b1.n1
  have l2 := b2.n1
  have s1 := b1.s
  have s2 := b2.s
  have m1 := b1.m
  have m2 := b2.m
  have q1 : f1 0 = 1 ∧ 2 ≤ n1 := by omega
  rw [q1.1, Int.one_mul] at m1
  have g1 : f1 0 = 1 ∧ mg f1 n1 = z1 ∧ 2 ≤ n1 := ⟨q1.1, m1.symm, q1.2⟩
  have q2 : f2 0 = 1 ∧ 2 ≤ n2 := by omega
  rw [q2.1, Int.one_mul] at m2
  have g2 : f2 0 = 1 ∧ mg f2 n2 = z2 ∧ 2 ≤ n2 := ⟨q2.1, m2.symm, q2.2⟩
  obtain ⟨g1a, g1b, g1c⟩ := g1
  obtain ⟨g2a, g2b, g2c⟩ := g2
  have t1 := loB_r (mg f1 n1) (30 * (n1 - 1))
  have t2 := loB_r (mg f2 n2) (30 * (n2 - 1))
  have t1p := loB_pos (v := mg f1 n1) (by omega) (mg_lt2 b1.d)
  have t2p := loB_pos (v := mg f2 n2) (by omega) (mg_lt2 b2.d)
  have tev : cop z1 z2 → ¬ (0 < loB (mg f1 n1) (30 * (n1 - 1)) ∧ 0 < loB (mg f2 n2) (30 * (n2 - 1))) := by
    rintro hc ⟨c1, c2⟩
    have c1 := loB_even c1
    have c2 := loB_even c2
    rw [g1b] at c1; rw [g2b] at c2
    have := hc 2 (by omega) (by omega) (by omega)
    omega
  obtain ⟨W, hW, hW1, hW2, hW3⟩ : ∃ W : Nat, (if (n1 : Int) < (n2 : Int) then (n2 : Int) else (n1 : Int)) = (W : Int) ∧ n1 ≤ W ∧ n2 ≤ W ∧ W ≤ 5 := by
    by_cases c : (n1 : Int) < (n2 : Int)
    · exact ⟨n2, by rw [if_pos c], by omega, by omega, by omega⟩
    · exact ⟨n1, by rw [if_neg c], by omega, by omega, by omega⟩
  refine g_aload_n C dX8_divisor_0 rfl ?_
  refine g_iconst C dX8_divisor_1 ?_
  refine g_callS C (c_X8_bits _ e1 ⟨l1, by omega⟩ b1.d (what := 2) (by omega)) ml_RX8_121 sm_yX8_bits in_RX8 co_yX8_bits hd_X8_bits rfl ⟨by omega, by omega⟩ rfl (Nat.le_of_ble_eq_true rfl) ⟨by omega, by omega⟩ dX8_divisor_2 (fun v2 w2 hp2 => ?_)
  obtain ⟨rfl, hw2⟩ := hp2
  subst w2
  rw [if_neg (by decide), if_neg (by decide)]
  show G E X 9 5 _ [iI (loB (mg f1 n1) (30 * (n1 - 1)))] w 0 0
  refine g_aload_n C dX8_divisor_5 rfl ?_
  refine g_iconst C dX8_divisor_6 ?_
  refine g_callS C (c_X8_bits _ e2 ⟨l2, by omega⟩ b2.d (what := 2) (by omega)) ml_RX8_121 sm_yX8_bits in_RX8 co_yX8_bits hd_X8_bits rfl ⟨by omega, by omega⟩ rfl (Nat.le_of_ble_eq_true rfl) ⟨by omega, by omega⟩ dX8_divisor_7 (fun v7 w7 hp7 => ?_)
  obtain ⟨rfl, hw7⟩ := hp7
  subst w7
  rw [if_neg (by decide), if_neg (by decide)]
  show G E X 9 10 _ [iI (loB (mg f2 n2) (30 * (n2 - 1))), iI (loB (mg f1 n1) (30 * (n1 - 1)))] w 0 0
  refine g_min C ml_RX8_175 (by omega) (by omega) (by omega) (by omega) (Nat.le_of_ble_eq_true rfl) (by omega) dX8_divisor_10 ?_
  obtain ⟨tw, htw, htr⟩ : ∃ tw : Int, (if loB (mg f2 n2) (30 * (n2 - 1)) < loB (mg f1 n1) (30 * (n1 - 1)) then loB (mg f2 n2) (30 * (n2 - 1)) else loB (mg f1 n1) (30 * (n1 - 1))) = tw ∧ (cop z1 z2 → tw = 0) := ⟨_, rfl, fun hc => by have := tev hc; split <;> omega⟩
  rw [htw]
  refine g_istore_n C dX8_divisor_13 (by decide) rfl ?_
  refine g_aload_n C dX8_divisor_14 rfl ?_
  refine g_aload_n C dX8_divisor_15 rfl ?_
  refine g_alen C e1 (Or.inl ⟨_, rfl⟩) dX8_divisor_16 ?_
  refine g_aload_n C dX8_divisor_17 rfl ?_
  refine g_alen C e2 (Or.inl ⟨_, rfl⟩) dX8_divisor_18 ?_
  refine g_max C ml_RX8_71 (by omega) (by omega) (by omega) (by omega) (Nat.le_of_ble_eq_true rfl) (by omega) dX8_divisor_19 ?_
  rw [hW]
  refine g_callS C (c_X8_wide _ (W := W) e1 hW1 (by omega)) ml_RX8_178 sm_yX8_wide in_RX8 co_yX8_wide hd_X8_wide rfl ⟨by omega, by omega⟩ rfl (Nat.le_of_ble_eq_true rfl) ⟨by omega, by omega⟩ dX8_divisor_22 (fun v22 w22 hp22 => ?_)
  obtain ⟨x1, rfl, rfl, hx1⟩ := hp22
  refine g_astore_n C dX8_divisor_25 (by decide) rfl ?_
  refine g_aload_n C dX8_divisor_26 rfl ?_
  refine g_aload_n C dX8_divisor_27 rfl ?_
  refine g_alen C wpush_s (Or.inl ⟨_, rfl⟩) dX8_divisor_28 ?_
  have e2b : (wpush w (true, eI W x1)).2 a2 = some (true, eI n2 f2) := by rw [wpush_n (Nat.ne_of_lt (hwf a2 _ e2))]; exact e2
  refine g_callS C (c_X8_wide _ (W := W) e2b hW2 (by omega)) ml_RX8_178 sm_yX8_wide in_RX8 co_yX8_wide hd_X8_wide rfl ⟨by omega, by omega⟩ rfl (Nat.le_of_ble_eq_true rfl) ⟨by omega, by omega⟩ dX8_divisor_29 (fun v29 w29 hp29 => ?_)
  obtain ⟨y1, rfl, rfl, hy1⟩ := hp29
  refine g_astore C dX8_divisor_32 (by decide) rfl ?_
  have hxe : mg x1 W = z1 := by rw [mg_eq (f := x1) (g := ext f1 n1) (fun i h1 h2 => hx1 i h2), ext_mg (by omega) hW1]; exact g1b
  have hye : mg y1 W = z2 := by rw [mg_eq (f := y1) (g := ext f2 n2) (fun i h1 h2 => hy1 i h2), ext_mg (by omega) hW2]; exact g2b
  have hxd : DG x1 W := fun i h1 h2 => by rw [hx1 i h2]; exact ext_dg b1.d W i h1 h2
  have hyd : DG y1 W := fun i h1 h2 => by rw [hy1 i h2]; exact ext_dg b2.d W i h1 h2
  refine g_widen (k' := 2) (n' := W + W) (by omega) (by omega) ?_
  refine g_loop (σ := Wd × Nat × Nat × (Nat → Int) × (Nat → Int)) (fun s => s.1.2 s.2.1 = some (true, eI W s.2.2.2.1) ∧ s.1.2 s.2.2.1 = some (true, eI W s.2.2.2.2) ∧ s.2.1 ≠ s.2.2.1 ∧ Fr w s.1 ∧ w.1 ≤ s.2.1 ∧ w.1 ≤ s.2.2.1 ∧ DG s.2.2.2.1 W ∧ DG s.2.2.2.2 W ∧ s.2.2.2.1 0 = 1 ∧ s.2.2.2.2 0 = 1 ∧ 0 < mg s.2.2.2.2 W ∧ dv (mg s.2.2.2.1 W) (mg s.2.2.2.2 W) z1 z2)
    (fun s => G E X 9 34 [some (.ref a1), some (.ref a2), some (iI tw), some (.ref s.2.1), some (.ref s.2.2.1), none, none, none, none] [] s.1 2 (W + W)) (fun s => (mg s.2.2.2.1 W + mg s.2.2.2.2 W).toNat) ?_ (wpush (wpush w (true, eI W x1)) (true, eI W y1), w.1, w.1 + 1, x1, y1)
    ⟨by show (wpush (wpush w _) _).2 w.1 = _; rw [wpush_n (by show w.1 ≠ w.1 + 1; omega)]; exact wpush_s, wpush_s, by show w.1 ≠ w.1 + 1; omega, ((Fr.rf w).push _).push _, Nat.le_refl _, Nat.le_succ _, hxd, hyd, by show x1 0 = 1; rw [hx1 0 (by omega), ext_lo (by omega)]; exact g1a, by show y1 0 = 1; rw [hy1 0 (by omega), ext_lo (by omega)]; exact g2a, by show 0 < mg y1 W; omega, by show dv (mg x1 W) (mg y1 W) z1 z2; rw [hxe, hye]; exact fun d a b => ⟨a, b⟩⟩
  rintro ⟨u, p, q, fx, fy⟩ hq ih
  obtain ⟨hp, hqq, hpq, hfr, hlp, hlq, hdx, hdy, hx0, hy0, hYp, hdv⟩ := hq
  dsimp only at hp hqq hpq hfr hlp hlq hdx hdy hx0 hy0 hYp hdv ⊢
  have hX0 := mg_nonneg hdx
  clear hxe hye hxd hyd hx1 hy1
  refine g_aload_n C dX8_divisor_34 rfl ?_
  refine g_callS C (c_X8_isNone _ hp ⟨by omega, by omega⟩ hdx) ml_RX8_89 sm_yX8_isNone in_RX8 co_yX8_isNone hd_X8_isNone rfl ⟨by omega, by omega⟩ rfl (Nat.le_of_ble_eq_true rfl) ⟨by omega, by omega⟩ dX8_divisor_35 (fun v35 w35 hp35 => ?_)
  obtain ⟨⟨y35, rfl, hy35⟩, hw35⟩ := hp35
  subst w35
  refine g_if_ne (tgt := 157) C dX8_divisor_38 (by decide) (by omega) (fun h38 => ?_) (fun h38 => ?_)
  · refine g_aload C dX8_divisor_157 rfl ?_
    refine g_callS C (c_X8_lastG _ hqq (by omega) hdy hy0 (by omega)) ml_RX8_181 sm_yX8_last in_RX8 co_yX8_last hd_X8_last rfl ⟨by omega, by omega⟩ rfl (Nat.le_of_ble_eq_true rfl) ⟨by omega, by omega⟩ dX8_divisor_159 (fun v159 w159 hp159 => ?_)
    obtain ⟨rfl, hw159⟩ := hp159
    subst w159
    refine g_l2i C dX8_divisor_162 ?_
    refine g_iload_n C dX8_divisor_163 rfl ?_
    refine g_ishl (z := (Int32.ofInt (mg fy W) <<< (Int32.ofInt tw &&& 31)).toInt) C dX8_divisor_164 (i_of _) ?_
    exact g_ireturn C hQ dX8_divisor_165 (by omega) (by omega) ⟨_, rfl, i_rng _, fun hc => by
      have hX : mg fx W = 0 := by omega
      rw [hX] at hdv
      obtain ⟨k1, k2⟩ := hdv (mg fy W) ⟨0, by omega⟩ (Int.dvd_refl _)
      rw [hc _ hYp k1 k2, htr hc]
      decide, hfr⟩
  · have hXp : 0 < mg fx W := by omega
    refine g_loop (σ := Wd × (Nat → Int)) (fun s => s.1.2 p = some (true, eI W s.2) ∧ s.1.2 q = some (true, eI W fy) ∧ Fr w s.1 ∧ DG s.2 W ∧ s.2 0 = 1 ∧ 0 < mg s.2 W ∧ mg s.2 W ≤ mg fx W ∧ dv (mg s.2 W) (mg fy W) z1 z2)
      (fun s => G E X 9 41 [some (.ref a1), some (.ref a2), some (iI tw), some (.ref p), some (.ref q), none, none, none, none] [] s.1 2 (W + W)) (fun s => (mg s.2 W).toNat) ?_ (u, fx) ⟨hp, hqq, hfr, hdx, hx0, hXp, Int.le_refl _, hdv⟩
    clear hp hqq hfr hdv hx0
    rintro ⟨u1, gx⟩ hq ih1
    obtain ⟨hp, hqq, hfr, hgx, hx0, hgp, hgl, hdv⟩ := hq
    dsimp only at hp hqq hfr hgx hx0 hgp hgl hdv ⊢
    have hpar := mg_par (f := gx) (n := W) (by omega)
    have hgx1 := hgx 1 (by omega) (by omega)
    refine g_aload_n C dX8_divisor_41 rfl ?_
    refine g_iconst C dX8_divisor_42 ?_
    refine g_ialoadN (1) C hp (by omega) (by omega) dX8_divisor_43 ?_
    refine g_iconst C dX8_divisor_44 ?_
    refine g_iremN C dX8_divisor_45 (by omega) (by omega) ?_
    refine g_if_ne (tgt := 58) C dX8_divisor_46 (by decide) (by omega) (fun h46 => ?_) (fun h46 => ?_)
    · refine g_loop (σ := Wd × (Nat → Int)) (fun s => s.1.2 p = some (true, eI W gx) ∧ s.1.2 q = some (true, eI W s.2) ∧ Fr w s.1 ∧ DG s.2 W ∧ s.2 0 = 1 ∧ 0 < mg s.2 W ∧ mg s.2 W ≤ mg fy W ∧ dv (mg gx W) (mg s.2 W) z1 z2)
        (fun s => G E X 9 58 [some (.ref a1), some (.ref a2), some (iI tw), some (.ref p), some (.ref q), none, none, none, none] [] s.1 2 (W + W)) (fun s => (mg s.2 W).toNat) ?_ (u1, fy) ⟨hp, hqq, hfr, hdy, hy0, hYp, Int.le_refl _, hdv⟩
      clear hp hqq hfr hdv hy0
      rintro ⟨u2, gy⟩ hq ih2
      obtain ⟨hp, hqq, hfr, hgy, hy0, hgyp, hgyl, hdv⟩ := hq
      dsimp only at hp hqq hfr hgy hy0 hgyp hgyl hdv ⊢
      have hpar2 := mg_par (f := gy) (n := W) (by omega)
      have hgy1 := hgy 1 (by omega) (by omega)
      refine g_aload C dX8_divisor_58 rfl ?_
      refine g_iconst C dX8_divisor_60 ?_
      refine g_ialoadN (1) C hqq (by omega) (by omega) dX8_divisor_61 ?_
      refine g_iconst C dX8_divisor_62 ?_
      refine g_iremN C dX8_divisor_63 (by omega) (by omega) ?_
      refine g_if_ne (tgt := 77) C dX8_divisor_64 (by decide) (by omega) (fun h64 => ?_) (fun h64 => ?_)
      · have J96 : ∀ (p q : Nat) (gx gy : Nat → Int), u2.2 p = some (true, eI W gx) → u2.2 q = some (true, eI W gy) → p ≠ q → w.1 ≤ p → w.1 ≤ q → DG gx W → DG gy W → gx 0 = 1 → gy 0 = 1 → 0 < mg gy W → mg gy W ≤ mg gx W → mg gx W + mg gy W ≤ mg fx W + mg fy W → dv (mg gx W) (mg gy W) z1 z2 → G E X 9 96 [some (.ref a1), some (.ref a2), some (iI tw), some (.ref p), some (.ref q), none, none, none, none] [] u2 2 (W + W) := by
          clear hp hqq hpq hlp hlq hgx hgy hx0 hy0 hgyp hdv ih1 ih2 hpar hpar2 hgx1 hgy1 hgl hgyl hgp
          intro p q gx gy hp hqq hpq hlp hlq hgx hgy hx0 hy0 hgyp hle hsum hdv
          refine g_iconst C dX8_divisor_96 ?_
          refine g_istore C dX8_divisor_97 (by decide) rfl ?_
          refine g_iconst C dX8_divisor_99 ?_
          refine g_istore C dX8_divisor_100 (by decide) rfl ?_
          suffices hh : G E X 9 102 [some (.ref a1), some (.ref a2), some (iI tw), some (.ref p), some (.ref q), none, some (iI 0), some (iI 1), none] [] (wset u2 p (true, eI W gx)) 2 (W + W) by rw [wset_id hp] at hh; exact hh
          refine g_loop (σ := Nat × Int × (Nat → Int)) (fun s => s.1 + 1 ≤ W ∧ (s.2.1 = 0 ∨ s.2.1 = 1) ∧ DG s.2.2 (s.1 + 1) ∧ (∀ i, s.1 + 1 ≤ i → s.2.2 i = gx i) ∧ s.2.2 0 = 1 ∧ nv B30 (mgf s.2.2) s.1 = nv B30 (mgf gx) s.1 - nv B30 (mgf gy) s.1 + s.2.1 * B30 ^ s.1)
            (fun s => G E X 9 102 [some (.ref a1), some (.ref a2), some (iI tw), some (.ref p), some (.ref q), none, some (iI s.2.1), some (iI ((s.1 + 1 : Nat) : Int)), none] [] (wset u2 p (true, eI W s.2.2)) 2 (W + W)) (fun s => W - s.1) ?_ (0, 0, gx) ⟨by dsimp only; omega, Or.inl rfl, fun i h1 h2 => absurd h2 (by dsimp only; omega), fun i _ => rfl, hx0, rfl⟩
          rintro ⟨j, l, h⟩ hq ih3
          obtain ⟨hk1, hl, hdh, hhi, hh0, hv⟩ := hq
          dsimp only at hk1 hl hdh hhi hh0 hv ⊢
          have hpa : (wset u2 p (true, eI W h)).2 p = some (true, eI W h) := wset_s
          have hpa2 : (wset u2 p (true, eI W h)).2 q = some (true, eI W gy) := by rw [wset_n (Ne.symm hpq)]; exact hqq
          refine g_iload C dX8_divisor_102 rfl ?_
          refine g_aload_n C dX8_divisor_104 rfl ?_
          refine g_alen C hpa (Or.inl ⟨_, rfl⟩) dX8_divisor_105 ?_
          refine g_icmp_ge (tgt := 154) C dX8_divisor_106 (by decide) (by omega) (by omega) (fun h106 => ?_) (fun h106 => ?_)
          · refine g_goto (tgt := 34) C dX8_divisor_154 (by decide) ?_
            have ej : j + 1 = W := by omega
            have en : W - 1 = j := by omega
            have e1 : mg h W = mg gx W - mg gy W + l * B30 ^ j := by
              unfold mg
              rw [en]; exact hv
            have e2 := mg_lt (f := h) (n := W) (by rw [← ej]; exact hdh)
            rw [en] at e2
            have el : l = 0 := by
              rcases hl with c | c
              · exact c
              · rw [c, Int.one_mul] at e1; omega
            rw [el, Int.zero_mul, Int.add_zero] at e1
            refine g_drop 6 (g_drop 7 ?_)
            exact ih (wset u2 p (true, eI W h), p, q, h, gy) ⟨hpa, hpa2, hpq, hfr.set hlp _, hlp, hlq, by rw [← ej]; exact hdh, hgy, hh0, hy0, hgyp, by dsimp only; rw [e1]; exact hdv.sub⟩ (by dsimp only; omega)
          · have hfk := hgx (j + 1) (by omega) (by omega)
            have hgk := hgy (j + 1) (by omega) (by omega)
            refine g_aload_n C dX8_divisor_109 rfl ?_
            refine g_iload C dX8_divisor_110 rfl ?_
            refine g_ialoadN (j + 1) C hpa (by omega) (by omega) dX8_divisor_112 ?_
            rw [hhi (j + 1) (Nat.le_refl _)]
            refine g_aload C dX8_divisor_113 rfl ?_
            refine g_iload C dX8_divisor_115 rfl ?_
            refine g_ialoadN (j + 1) C hpa2 (by omega) (by omega) dX8_divisor_117 ?_
            refine g_isub C dX8_divisor_118 ?_
            refine g_iload C dX8_divisor_119 rfl ?_
            refine g_isub C dX8_divisor_121 ?_
            refine g_istore C dX8_divisor_122 (by decide) rfl ?_
            have J134 : ∀ l2 : Int, (l2 = 0 ∧ 0 ≤ gx (j + 1) - gy (j + 1) - l ∨ l2 = 1 ∧ gx (j + 1) - gy (j + 1) - l < 0) → G E X 9 134 [some (.ref a1), some (.ref a2), some (iI tw), some (.ref p), some (.ref q), none, some (iI l), some (iI ((j + 1 : Nat) : Int)), some (iI (gx (j + 1) - gy (j + 1) - l))] [iI l2] (wset u2 p (true, eI W h)) 2 (W + W) := by
              intro l2 hl2
              refine g_istore C dX8_divisor_134 (by decide) rfl ?_
              refine g_aload_n C dX8_divisor_136 rfl ?_
              refine g_iload C dX8_divisor_137 rfl ?_
              refine g_iload C dX8_divisor_139 rfl ?_
              refine g_iload C dX8_divisor_141 rfl ?_
              refine g_bipush C dX8_divisor_143 (by decide) ?_
              refine g_ishl (z := l2 * 1073741824) C dX8_divisor_145 (i_shl30 (by omega)) ?_
              refine g_iadd C dX8_divisor_146 ?_
              refine g_iastoreN (j + 1) C hpa (by omega) (by omega) dX8_divisor_147 ?_
              rw [wset_set]
              refine g_iinc C dX8_divisor_148 rfl (by decide) rfl ?_
              refine g_goto (tgt := 102) C dX8_divisor_151 (by decide) ?_
              refine g_drop 8 ?_
              exact ih3 (j + 1, l2, iup h (j + 1) (gx (j + 1) - gy (j + 1) - l + l2 * 1073741824)) ⟨by dsimp only; omega, by dsimp only; omega, fun i h1 h2 => by
                dsimp only at h2 ⊢
                by_cases c : i = j + 1
                · rw [c, iup_s]; omega
                · rw [iup_n c]; exact hdh i h1 (by omega), fun i hi => by
                dsimp only at hi ⊢
                rw [iup_n (by omega)]; exact hhi i (by omega), by dsimp only; rw [iup_n (by omega)]; exact hh0, by
                show nv B30 (mgf (iup h (j + 1) _)) (j + 1) = _
                rw [mgf_iup]
                exact sub_step hv (by show _ = gx (j + 1) - l - gy (j + 1) + l2 * B30; rw [show B30 = 1073741824 from rfl]; omega)⟩ (by dsimp only; omega)
            refine g_iload C dX8_divisor_124 rfl ?_
            refine g_if_ge (tgt := 133) C dX8_divisor_126 (by decide) (by omega) (fun h126 => ?_) (fun h126 => ?_)
            · refine g_iconst C dX8_divisor_133 ?_
              exact J134 _ (by omega)
            · refine g_iconst C dX8_divisor_129 ?_
              refine g_goto (tgt := 134) C dX8_divisor_130 (by decide) ?_
              exact J134 _ (by omega)
        refine g_aload_n C dX8_divisor_77 rfl ?_
        refine g_astore C dX8_divisor_78 (by decide) rfl ?_
        refine g_aload_n C dX8_divisor_80 rfl ?_
        refine g_aload C dX8_divisor_81 rfl ?_
        refine g_callS C (c_X8_bySize _ hp hqq ⟨by omega, by omega⟩ ⟨by omega, by omega⟩ hgx hgy (fun h => absurd h (Nat.lt_irrefl _)) (fun h => absurd h (Nat.lt_irrefl _))) ml_RX8_63 sm_yX8_bySize in_RX8 co_yX8_bySize hd_X8_bySize rfl ⟨by omega, by omega⟩ rfl (Nat.le_of_ble_eq_true rfl) ⟨by omega, by omega⟩ dX8_divisor_83 (fun v83 w83 hp83 => ?_)
        obtain ⟨⟨d83, rfl, hdr, hd83⟩, hw83⟩ := hp83
        subst w83
        refine g_if_ge (tgt := 96) C dX8_divisor_86 (by decide) (by omega) (fun h86 => ?_) (fun h86 => ?_)
        · refine g_drop 5 ?_
          first
          | exact J96 p q gx gy hp hqq hpq hlp hlq hgx hgy hx0 hy0 hgyp (by omega) (by omega) hdv
          | exact J96 q p gy gx hqq hp (Ne.symm hpq) hlq hlp hgy hgx hy0 hx0 hgp (by omega) (by omega) hdv.swap
        · refine g_aload C dX8_divisor_89 rfl ?_
          refine g_astore_n C dX8_divisor_91 (by decide) rfl ?_
          refine g_aload C dX8_divisor_92 rfl ?_
          refine g_astore C dX8_divisor_94 (by decide) rfl ?_
          refine g_drop 5 ?_
          first
          | exact J96 p q gx gy hp hqq hpq hlp hlq hgx hgy hx0 hy0 hgyp (by omega) (by omega) hdv
          | exact J96 q p gy gx hqq hp (Ne.symm hpq) hlq hlp hgy hgx hy0 hx0 hgp (by omega) (by omega) hdv.swap
      · refine g_aload C dX8_divisor_67 rfl ?_
        refine g_iconst C dX8_divisor_69 ?_
        refine g_callS C (c_X8_divide _ hqq ⟨by omega, by omega⟩ hgy (d := 2) (by omega)) ml_RX8_95 sm_yX8_divide in_RX8 co_yX8_divide hd_X8_divide rfl ⟨by omega, by omega⟩ rfl (Nat.le_of_ble_eq_true rfl) ⟨by omega, by omega⟩ dX8_divisor_70 (fun v70 w70 hp70 => ?_)
        obtain ⟨r70, h70, rfl, rfl, hd70, h700, hr0, hr1, hr2⟩ := hp70
        refine g_pop C dX8_divisor_73 rfl ?_
        refine g_goto (tgt := 58) C dX8_divisor_74 (by decide) ?_
        refine ih2 (wset u2 q (true, eI W h70), h70) ⟨by show (wset u2 q (true, eI W h70)).2 p = _; rw [wset_n hpq]; exact hp, wset_s, hfr.set hlq _, hd70, by show h70 0 = 1; rw [h700]; exact hy0, by dsimp only; omega, by dsimp only; omega, (show dv (mg gx W) (mg h70 W) z1 z2 from hdv.half2 (by omega))⟩ (by dsimp only; omega)
    · refine g_aload_n C dX8_divisor_49 rfl ?_
      refine g_iconst C dX8_divisor_50 ?_
      refine g_callS C (c_X8_divide _ hp ⟨by omega, by omega⟩ hgx (d := 2) (by omega)) ml_RX8_95 sm_yX8_divide in_RX8 co_yX8_divide hd_X8_divide rfl ⟨by omega, by omega⟩ rfl (Nat.le_of_ble_eq_true rfl) ⟨by omega, by omega⟩ dX8_divisor_51 (fun v51 w51 hp51 => ?_)
      obtain ⟨r51, h51, rfl, rfl, hd51, h510, hr0, hr1, hr2⟩ := hp51
      refine g_pop C dX8_divisor_54 rfl ?_
      refine g_goto (tgt := 41) C dX8_divisor_55 (by decide) ?_
      refine ih1 (wset u1 p (true, eI W h51), h51) ⟨wset_s, by show (wset u1 p (true, eI W h51)).2 q = _; rw [wset_n (Ne.symm hpq)]; exact hqq, hfr.set hlp _, hd51, by show h51 0 = 1; rw [h510]; exact hx0, by dsimp only; omega, by dsimp only; omega, (show dv (mg h51 W) (mg fy W) z1 z2 from hdv.half (by omega))⟩ (by dsimp only; omega)
